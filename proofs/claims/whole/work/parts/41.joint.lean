/-! both worlds side by side -/
def sr_SJ : sr_Sh := (fun g => if g < 20 then sr_SC.1 g else sr_SM.1 g, fun g => if g < 20 then sr_SC.2.1 g else sr_SM.2.1 g, fun g => if g < 20 then sr_SC.2.2 g else sr_SM.2.2 g)
def sr_csJ : List (Nat × Nat) := sr_csC ++ sr_csM
def sr_mgC (μ' μ : sr_M) : sr_M := (fun g i j => if g < 20 then μ'.1 g i j else μ.1 g i j, fun g i j => if g < 20 then μ'.2 g i j else μ.2 g i j)
def sr_mgM (μ' μ : sr_M) : sr_M := sr_mgC μ μ'
theorem sr_csC_lt : ∀ x ∈ sr_csC, x.1 < 20 := by decide +kernel
theorem sr_csM_ge : ∀ x ∈ sr_csM, ¬ x.1 < 20 := by decide +kernel
theorem sr_cellJC {cA : Nat → ClassId} {ad : Nat → Nat → Nat} {μ : sr_M} {g i : Nat} (h : g < 20) : sr_cell sr_SJ cA ad μ g i = sr_cell sr_SC cA ad μ g i := by
  have e1 : sr_SJ.1 g = sr_SC.1 g := if_pos h
  have e2 : sr_SJ.2.1 g = sr_SC.2.1 g := if_pos h
  unfold sr_cell
  rw [e1, e2]
theorem sr_cellJM {cA : Nat → ClassId} {ad : Nat → Nat → Nat} {μ : sr_M} {g i : Nat} (h : ¬ g < 20) : sr_cell sr_SJ cA ad μ g i = sr_cell sr_SM cA ad μ g i := by
  have e1 : sr_SJ.1 g = sr_SM.1 g := if_neg h
  have e2 : sr_SJ.2.1 g = sr_SM.2.1 g := if_neg h
  unfold sr_cell
  rw [e1, e2]
theorem sr_wdJ (cA : Nat → ClassId) (ad : Nat → Nat → Nat) (μ : sr_M) : sr_wd sr_SJ cA sr_csJ ad μ = sr_wd sr_SC cA sr_csC ad μ ++ sr_wd sr_SM cA sr_csM ad μ := by
  unfold sr_wd sr_csJ
  rw [List.map_append]
  have e1 : sr_csC.map (fun x => (ad x.1 x.2, sr_cell sr_SJ cA ad μ x.1 x.2)) = sr_csC.map (fun x => (ad x.1 x.2, sr_cell sr_SC cA ad μ x.1 x.2)) := List.map_congr_left (fun x hx => by rw [sr_cellJC (sr_csC_lt x hx)])
  have e2 : sr_csM.map (fun x => (ad x.1 x.2, sr_cell sr_SJ cA ad μ x.1 x.2)) = sr_csM.map (fun x => (ad x.1 x.2, sr_cell sr_SM cA ad μ x.1 x.2)) := List.map_congr_left (fun x hx => by rw [sr_cellJM (sr_csM_ge x hx)])
  rw [e1, e2]
theorem sr_mgC_C (cA : Nat → ClassId) (ad : Nat → Nat → Nat) (μ' μ : sr_M) : sr_wd sr_SC cA sr_csC ad (sr_mgC μ' μ) = sr_wd sr_SC cA sr_csC ad μ' := by
  unfold sr_wd
  exact List.map_congr_left (fun x hx => by rw [sr_cell_congr (μ := μ') (fun d => if_pos (sr_csC_lt x hx)) (fun d => if_pos (sr_csC_lt x hx))])
theorem sr_mgC_M (cA : Nat → ClassId) (ad : Nat → Nat → Nat) (μ' μ : sr_M) : sr_wd sr_SM cA sr_csM ad (sr_mgC μ' μ) = sr_wd sr_SM cA sr_csM ad μ := by
  unfold sr_wd
  exact List.map_congr_left (fun x hx => by rw [sr_cell_congr (μ := μ) (fun d => if_neg (sr_csM_ge x hx)) (fun d => if_neg (sr_csM_ge x hx))])
theorem sr_app_apart {A : Nat → Prop} {w1 w2 : va_W} (h : va_D A (w1 ++ w2)) : va_D A w1 ∧ va_D A w2 ∧ ∀ p ∈ w1, ∀ q ∈ w2, p.1 ≠ q.1 := by
  have l1 : ∀ (k : Nat) (q : Nat × va_E), w1[k]? = some q → (w1 ++ w2)[k]? = some q := fun k q hk => by rw [List.getElem?_append_left (List.getElem?_eq_some_iff.mp hk).1]; exact hk
  have l2 : ∀ (k : Nat) (q : Nat × va_E), w2[k]? = some q → (w1 ++ w2)[w1.length + k]? = some q := fun k q hk => by rw [List.getElem?_append_right (by omega)]; rw [Nat.add_sub_cancel_left]; exact hk
  refine ⟨⟨fun i j p q hi hj e => h.1 i j p q (l1 i p hi) (l1 j q hj) e, fun k q hk => h.2 k q (l1 k q hk)⟩, ⟨fun i j p q hi hj e => by have := h.1 _ _ p q (l2 i p hi) (l2 j q hj) e; omega, fun k q hk => h.2 _ q (l2 k q hk)⟩, fun p hp q hq e => ?_⟩
  obtain ⟨i, hi⟩ := List.getElem?_of_mem hp
  obtain ⟨j, hj⟩ := List.getElem?_of_mem hq
  have := h.1 _ _ p q (l1 i p hi) (l2 j q hj) e
  have := (List.getElem?_eq_some_iff.mp hi).1
  omega
theorem sr_CtC {l : Launch} {D : va_G} {cl : List vw_C} {tys : List (ClassId × FieldType)} {cA : Nat → ClassId} {NW : List Cond} {ZS : List (String × String × String × Nat)} {KS : sr_K} {ad : Nat → Nat → Nat} {WS : List Cond} {y : MethodName} {bytes : ByteArray} {maxL : Nat} {ret : Option FieldType} {rm : Room} {f : sr_F} (h : sr_Ct l D cl tys (sr_wd sr_SC cA sr_csC ad) (sr_cy NW ZS KS ad) ad WS y bytes maxL ret rm f) : sr_Ct l D cl tys (sr_wd sr_SJ cA sr_csJ ad) (sr_cy NW ZS KS ad) ad WS y bytes maxL ret rm (fun vs μ => match f vs μ with
      | some (C, r, μ') => some (C, r, sr_mgC μ' μ)
      | none => none) := by
  refine sr_Ct_fr h (fun A A1 U H hc hA => ⟨hc.1, fun z hz => (hc.2.1 z hz).narrow hA, fun g n f hk => (hc.2.2 g n f hk).narrow hA⟩) sr_mgC (fun μ q hq => by rw [sr_wdJ]; exact List.mem_append_left _ hq) (fun μ hD => by rw [sr_wdJ] at hD; exact (sr_app_apart hD).1) (fun μ' μ hD q hq => ?_)
  rw [sr_wdJ] at hD hq
  rw [sr_wdJ]
  rcases List.mem_append.mp hq with hq | hq
  · rw [sr_mgC_C] at hq
    exact Or.inl hq
  · rw [sr_mgC_M] at hq
    exact Or.inr ⟨List.mem_append_right _ hq, fun e he => (sr_app_apart hD).2.2 _ he _ hq rfl⟩
theorem sr_CtM {l : Launch} {D : va_G} {cl : List vw_C} {tys : List (ClassId × FieldType)} {cA : Nat → ClassId} {NW : List Cond} {ZS : List (String × String × String × Nat)} {KS : sr_K} {ad : Nat → Nat → Nat} {WS : List Cond} {y : MethodName} {bytes : ByteArray} {maxL : Nat} {ret : Option FieldType} {rm : Room} {f : sr_F} (h : sr_Ct l D cl tys (sr_wd sr_SM cA sr_csM ad) (sr_cy NW ZS KS ad) ad WS y bytes maxL ret rm f) : sr_Ct l D cl tys (sr_wd sr_SJ cA sr_csJ ad) (sr_cy NW ZS KS ad) ad WS y bytes maxL ret rm (fun vs μ => match f vs μ with
      | some (C, r, μ') => some (C, r, sr_mgM μ' μ)
      | none => none) := by
  refine sr_Ct_fr h (fun A A1 U H hc hA => ⟨hc.1, fun z hz => (hc.2.1 z hz).narrow hA, fun g n f hk => (hc.2.2 g n f hk).narrow hA⟩) sr_mgM (fun μ q hq => by rw [sr_wdJ]; exact List.mem_append_right _ hq) (fun μ hD => by rw [sr_wdJ] at hD; exact (sr_app_apart hD).2.1) (fun μ' μ hD q hq => ?_)
  rw [sr_wdJ] at hD hq
  rw [sr_wdJ]
  unfold sr_mgM at hq
  rcases List.mem_append.mp hq with hq | hq
  · rw [sr_mgC_C] at hq
    exact Or.inr ⟨List.mem_append_left _ hq, fun e he => (sr_app_apart hD).2.2 _ hq _ he rfl⟩
  · rw [sr_mgC_M] at hq
    exact Or.inl hq
