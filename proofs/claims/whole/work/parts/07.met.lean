/-! A contract out of a run of the abstract machine. -/
def sr_isN : Cond → Bool
  | .fieldLinkNest _ _ _ _ _ _ => true
  | .methodLinkNest _ _ _ _ => true
  | _ => false
def sr_cy (NW : List Cond) (ZS : List (String × String × String × Nat)) (KS : sr_K) (ad : Nat → Nat → Nat) : (Nat → Prop) → State → Heap → Prop := fun A U H => (∀ w ∈ NW, va_Nw w U) ∧ (∀ z ∈ ZS, va_Z z.1 z.2.1 z.2.2.1 (.ref (ad z.2.2.2 0)) A U H) ∧ ∀ (g n : Nat) (f : Nat → Int32), KS g = some (n, f) → va_T .int (ad g 0) n (fun j => .int (f j)) A U H
theorem sr_isN_warm {w : Cond} (h : sr_isN w = true) {s U : State} (hW : s.WarmedH U.vm) (hz : va_Nw w s) : va_Nw w U := by
  unfold sr_isN at h
  split at h
  · exact va_Nw.warmF hW hz
  · exact va_Nw.warmM hW hz
  · cases h
theorem sr_isN_tab {w : Cond} (h : sr_isN w = true) : w.onTables = true := by
  unfold sr_isN at h
  split at h
  · rfl
  · rfl
  · cases h
theorem sr_cy_move {NW : List Cond} {ZS : List (String × String × String × Nat)} {KS : sr_K} {ad : Nat → Nat → Nat} {A : Nat → Prop} {s : State} (hN : ∀ w ∈ NW, sr_isN w = true) (h : sr_cy NW ZS KS ad A s s.heap) (A1 : Nat → Prop) (U : State) (H : Heap) (hA : ∀ q, A1 q → A q) (hW : s.WarmedH U.vm) (hH : ∀ q : Nat, q < s.heap.size → ¬ A q → H[q]? = s.heap[q]?) : sr_cy NW ZS KS ad A1 U H := by
  obtain ⟨h1, h2, h3⟩ := h
  exact ⟨fun w hw => sr_isN_warm (hN w hw) hW (h1 w hw), fun z hz => ((va_Z.moved hW.alike (h2 z hz)).kept hH).narrow hA, fun g n f hk => ((va_T.moved hW.alike (h3 g n f hk)).kept hH).narrow hA⟩
theorem sr_cy_blind {NW : List Cond} {ZS : List (String × String × String × Nat)} {KS : sr_K} {ad : Nat → Nat → Nat} (hN : ∀ w ∈ NW, sr_isN w = true) (A1 : Nat → Prop) (U : State) (g : JFrame) (mk : MethodId) (a : Array Value) (H : Heap) (h : sr_cy NW ZS KS ad A1 U H) : sr_cy NW ZS KS ad A1 (State.calling U g mk a) H := by
  obtain ⟨h1, h2, h3⟩ := h
  exact ⟨fun w hw => va_Nw.same (sr_isN_tab (hN w hw)) (u := U) (U := U.calling g mk a) rfl (h1 w hw), fun z hz => va_Z.moved (u := U) (U := U.calling g mk a) (Vm.Alike.refl U.vm) (h2 z hz), fun g2 n f hk => va_T.moved (u := U) (U := U.calling g mk a) (Vm.Alike.refl U.vm) (h3 g2 n f hk)⟩
def sr_sS (l : Launch) (D : va_G) (cl : List vw_C) (tys : List (ClassId × FieldType)) (wd : sr_M → va_W) (cy : (Nat → Prop) → State → Heap → Prop) (ad : Nat → Nat → Nat) (WS NW : List Cond) (own : String) (rm : Room) (k n : Nat) (f : sr_F) : Prop := ∃ (y : MethodName) (bytes : ByteArray) (maxL : Nat) (ret : Option FieldType) (rm' : Room), sr_Ct l D cl tys wd cy ad WS y bytes maxL ret rm' f ∧ (rm'.cells = 0 ∧ rm'.slots = 0 ∧ rm'.frames + 1 ≤ rm.frames ∧ 8 + (maxL + 11) + rm'.locals ≤ rm.locals) ∧ (y.cls ≠ "java/lang/invoke/MethodHandle" ∧ y.cls ≠ "java/lang/invoke/VarHandle" ∧ (parseMethodDescriptor y.desc).map (fun d => d.parameters.length) = some n) ∧ Cond.code y bytes maxL ret ∈ WS ∧ Cond.static y ∈ WS ∧ Cond.initialized y.cls ∈ WS ∧ (Cond.methodLink own k y ∈ WS ∨ ∃ host, Cond.methodLinkNest own k y host ∈ NW)
def sr_sV (l : Launch) (D : va_G) (cl : List vw_C) (tys : List (ClassId × FieldType)) (wd : sr_M → va_W) (cy : (Nat → Prop) → State → Heap → Prop) (ad : Nat → Nat → Nat) (WS NW : List Cond) (own : String) (rm : Room) (k ci n : Nat) (f : sr_F) : Prop := ∃ (y : MethodName) (bytes : ByteArray) (maxL : Nat) (ret : Option FieldType) (rm' : Room) (C : String) (T : u_T) (N : Nat), cl[ci]? = some (C, T, N) ∧ sr_Ct l D cl tys wd cy ad WS y bytes maxL ret rm' f ∧ (rm'.cells = 0 ∧ rm'.slots = 0 ∧ rm'.frames + 1 ≤ rm.frames ∧ 8 + (maxL + 11) + rm'.locals ≤ rm.locals) ∧ (y.cls ≠ "java/lang/invoke/MethodHandle" ∧ y.cls ≠ "java/lang/invoke/VarHandle" ∧ (parseMethodDescriptor y.desc).map (fun d => d.parameters.length) = some n) ∧ Cond.code y bytes maxL ret ∈ WS ∧ Cond.instanceMethod y ∈ WS ∧ Cond.selects C y y ∈ WS ∧ Cond.initialized y.cls ∈ WS ∧ (Cond.methodLink own k y ∈ WS ∨ ∃ host, Cond.methodLinkNest own k y host ∈ NW)
def sr_sF (own : String) (cl : List vw_C) (WS NW : List Cond) (k ci j : Nat) : Prop := ∃ (C : String) (T : u_T) (N : Nat), cl[ci]? = some (C, T, N) ∧ j < N ∧ (T j).1 = C ∧ (∀ w ∈ u_ws C T N, w ∈ WS) ∧ (Cond.fieldLink own k C (T j).2.1 (T j).2.2.1 ∈ WS ∨ ∃ host, Cond.fieldLinkNest own k C (T j).2.1 (T j).2.2.1 host ∈ NW)
theorem sr_goodIn {WS : List Cond} {w0 w1 : Cond} (hg : ∀ w ∈ WS, (w.onTables && w.keeps) = true ∨ ∃ ty, w = .arrayClass ty) (h1 : w1 ∈ WS) : GoodIn (w0 :: WS) (w1 :: WS) := by
  intro w hw
  rcases List.mem_cons.mp hw with rfl | h
  · exact ⟨List.mem_cons_of_mem _ h1, hg _ h1⟩
  · exact ⟨List.mem_cons_of_mem _ h, hg _ h⟩
theorem sr_ent_args {ad : Nat → Nat → Nat} : ∀ (vs : List sr_V) (k j : Nat) (v : sr_V), (sr_ent vs)[j]? = some (some v) → (k + j, sr_cv ad v) ∈ lv_args k (vs.map (sr_cv ad))
  | [], k, j, v, h => by simp [sr_ent] at h
  | .inl x :: vs, k, 0, v, h => by
    simp only [sr_ent, List.getElem?_cons_zero] at h
    cases h
    exact List.mem_cons_self
  | .inl x :: vs, k, j + 1, v, h => by
    simp only [sr_ent, List.getElem?_cons_succ] at h
    have := sr_ent_args (ad := ad) vs (k + 1) j v h
    rw [show k + 1 + j = k + (j + 1) by omega] at this
    exact List.mem_cons_of_mem _ this
  | .inr (.inr x) :: vs, k, 0, v, h => by
    simp only [sr_ent, List.getElem?_cons_zero] at h
    cases h
    exact List.mem_cons_self
  | .inr (.inr x) :: vs, k, j + 1, v, h => by
    simp only [sr_ent, List.getElem?_cons_succ] at h
    have := sr_ent_args (ad := ad) vs (k + 1) j v h
    rw [show k + 1 + j = k + (j + 1) by omega] at this
    exact List.mem_cons_of_mem _ this
  | .inr (.inl x) :: vs, k, 0, v, h => by
    simp only [sr_ent, List.getElem?_cons_zero] at h
    cases h
    exact List.mem_cons_self
  | .inr (.inl x) :: vs, k, 1, v, h => by
    simp [sr_ent] at h
  | .inr (.inl x) :: vs, k, j + 2, v, h => by
    simp only [sr_ent, List.getElem?_cons_succ] at h
    have := sr_ent_args (ad := ad) vs (k + 2) j v h
    rw [show k + 2 + j = k + (j + 2) by omega] at this
    exact List.mem_cons_of_mem _ this
theorem sr_ent_len {ad : Nat → Nat → Nat} : ∀ (vs : List sr_V), (lg_sl (vs.map (sr_cv ad))).length = (sr_ent vs).length
  | [] => rfl
  | .inl x :: vs => by
    have := sr_ent_len (ad := ad) vs
    unfold lg_sl at this ⊢
    simp only [List.map_cons, List.flatMap_cons, List.length_append, sr_ent, List.length_cons]
    rw [this]
    simp [sr_cv, Value.category]
    omega
  | .inr (.inr x) :: vs => by
    have := sr_ent_len (ad := ad) vs
    unfold lg_sl at this ⊢
    simp only [List.map_cons, List.flatMap_cons, List.length_append, sr_ent, List.length_cons]
    rw [this]
    simp [sr_cv, Value.category]
    omega
  | .inr (.inl x) :: vs => by
    have := sr_ent_len (ad := ad) vs
    unfold lg_sl at this ⊢
    simp only [List.map_cons, List.flatMap_cons, List.length_append, sr_ent, List.length_cons]
    rw [this]
    simp [sr_cv, Value.category]
    omega
theorem sr_ent_lc {ad : Nat → Nat → Nat} {vs : List sr_V} {n : Nat} : ∀ q ∈ sr_lc ad (sr_ent vs ++ List.replicate n none), q ∈ lv_args 0 (vs.map (sr_cv ad)) := by
  intro q hq
  obtain ⟨v, h1, h2⟩ := sr_lc_mem.mp hq
  by_cases hl : q.1 < (sr_ent vs).length
  · rw [List.getElem?_append_left hl] at h1
    have := sr_ent_args (ad := ad) vs 0 q.1 v h1
    rw [Nat.zero_add, ← h2] at this
    exact this
  · rw [List.getElem?_append_right (by omega)] at h1
    have := List.mem_of_getElem? h1
    rw [List.mem_replicate] at this
    cases this.2
set_option maxHeartbeats 1000000 in
theorem sr_met {l : Launch} {D : va_G} {cl : List vw_C} {tys : List (ClassId × FieldType)} {cA : Nat → ClassId} {cs : List (Nat × Nat)} {ad : Nat → Nat → Nat} {WS NW : List Cond} {ZS : List (String × String × String × Nat)} {KS : sr_K} {E : sr_E} {y : MethodName} {bytes : ByteArray} {maxL : Nat} {ret : Option FieldType} {rm : Room} {F : sr_F}
    (hy : plainName y.cls = true) (hg : ∀ w ∈ WS, (w.onTables && w.keeps) = true ∨ ∃ ty, w = .arrayClass ty) (hN : ∀ w ∈ NW, sr_isN w = true)
    (hcs : ∀ g i, ((E.1.1 g).isSome = true ∨ (E.1.2.1 g).isSome = true) → i < E.1.2.2 g → (g, i) ∈ cs) (hsep : ∀ g, (E.1.2.1 g).isSome = true → E.1.1 g = none) (hty : ∀ g k n t hh, E.1.2.1 g = some (k, n, t, hh) → ¬ k = 3 → tys[t]? = some (cA t, sr_kt k)) (hto : ∀ g n t hh, E.1.2.1 g = some (3, n, t, hh) → ∃ C, tys[t]? = some (cA t, .object C)) (hW : ∀ g ci fs, E.1.1 g = some (ci, fs) → sr_PO cl ci fs)
    (hKS : ∀ g n f, E.2.1 g = some (n, f) → KS g = some (n, f)) (hF : ∀ k ci j, E.2.2.1.1 k = some (ci, j) → sr_sF y.cls cl WS NW k ci j) (hLi : ∀ k v, E.2.2.1.2.1 k = some v → Cond.constant y.cls k v ∈ WS) (hLl : ∀ k v, E.2.2.1.2.2.1 k = some v → Cond.constantLong y.cls k v ∈ WS) (hZ : ∀ k g, E.2.2.1.2.2.2.1 k = some g → ∃ C nm d, (C, nm, d, g) ∈ ZS ∧ Cond.fieldLink y.cls k C nm d ∈ WS)
    (hCS : ∀ pc n k, E.2.2.2.1 pc = some (.invokestatic k, n) → ∀ n f, E.2.2.1.2.2.2.2 k = some (0, n, f) → sr_sS l D cl tys (sr_wd E.1 cA cs ad) (sr_cy NW ZS KS ad) ad WS NW y.cls rm k n f) (hCV : ∀ pc n k, E.2.2.2.1 pc = some (.invokevirtual k, n) → ∀ ci n f, E.2.2.1.2.2.2.2 k = some (ci + 1, n, f) → sr_sV l D cl tys (sr_wd E.1 cA cs ad) (sr_cy NW ZS KS ad) ad WS NW y.cls rm k ci n f)
    (hret : E.2.2.2.2 = ret) (hdec : ∀ pc ins n, E.2.2.2.1 pc = some (ins, n) → decode bytes pc = .ok (ins, n) ∧ n = sr_il ins n ∧ sr_tok pc ins = true)
    (hAW : ∀ vs μ C res, F vs μ = some (C, res) → C → (sr_ent vs).length ≤ maxL ∧ sr_AW E (fun r => r = res) (sr_entry maxL vs μ)) : sr_Ct l D cl tys (sr_wd E.1 cA cs ad) (sr_cy NW ZS KS ad) ad WS y bytes maxL ret rm F := by
  intro sz μ vs C9 r μ' hf hC
  obtain ⟨hlen, n, hrun⟩ := hAW vs μ C9 _ hf hC
  refine Met.ofW (cc := bytes) (maxL := maxL) (ret := ret) hy rfl ?_
  intro p e s m args below meth c s₁ B hml hv
  obtain ⟨rfl, hsz, hP, hK, hD0, hcy⟩ := hv
  have hx := B.exec
  have hb := B.bytes
  have hr := B.returns
  have hts := atoms_spec (ws := Cond.code y bytes maxL ret :: WS) B.pre
  have hown : s.vm.findClass y.cls = some m.cls := findClass_of_methodNamed B.named
  have hlk := B.notSynchronized
  subst hsz
  have hD : ∀ μ2, va_D (va_A (sr_wd E.1 cA cs ad μ) s.heap.size) (sr_wd E.1 cA cs ad μ2) := fun μ2 => sr_wd_D (hD0.self (sz := s.heap.size))
  have hin : ∀ w ∈ WS, w.before ((vs.map (sr_cv ad)).toArray) s = true := fun w h => hts w (List.mem_cons_of_mem _ h)
  have hl := lv_entry (vs.map (sr_cv ad)) (n := maxL) (by rw [sr_ent_len]; exact hlen)
  rw [lg_entry_eq]
  refine sr_J_run (WS := WS) (Ts := Cond.code y bytes maxL ret :: WS) (own := y.cls) (tys := tys) (cA := cA) (cs := cs) (cy := sr_cy NW ZS KS ad) hx hb hml hts hown hK hD (fun q h => Or.inr h) ⟨Nat.zero_le _, Nat.zero_le _⟩ (sr_cy_move hN hcy) (sr_cy_blind hN) hcs hsep hty hto hW (fun g n f h => hcy.2.2 g n f (hKS g n f h)) (fun k ci j h => ?_) (fun k v h => List.mem_cons_of_mem _ (hLi k v h)) (fun k v h => List.mem_cons_of_mem _ (hLl k v h)) (fun k g h => ?_) (fun pc n0 k hc n f hk => ?_) (fun pc n0 k hc ci n f hk => ?_) (hr.trans hret.symm) hlk hdec n (sr_entry maxL vs μ) hrun ?_ _ _ _ (sr_has hl sr_ent_lc) hP va_S.rf
  · obtain ⟨C, T, N, h1, h2, h3, h4, h5⟩ := hF k ci j h
    refine ⟨C, T, N, h1, h2, h3, fun w hw => List.mem_cons_of_mem _ (h4 w hw), ?_⟩
    rcases h5 with h5 | ⟨host, h5⟩
    · exact Or.inl (List.mem_cons_of_mem _ h5)
    · exact Or.inr ⟨host, hcy.1 _ h5⟩
  · obtain ⟨C, nm, d, h1, h2⟩ := hZ k g h
    exact ⟨C, nm, d, hcy.2.1 _ h1, List.mem_cons_of_mem _ h2⟩
  · obtain ⟨y', bytes', maxL', ret', rm', hct, ⟨r1, r2, r3, r4⟩, hds, w1, w2, w3, w4⟩ := hCS pc n0 k hc n f hk
    refine ⟨y', bytes', maxL', ret', rm', hct, ?_⟩
    rcases w4 with w4 | ⟨host, w4⟩
    · exact Or.inl ⟨callB_of n hts (sr_goodIn hg w1) rfl r1 r2 (hin _ w3) (hin _ w4) hds ⟨r3, r4⟩, hin _ w2⟩
    · exact Or.inr ⟨host, va_cnB n hts (sr_goodIn hg w1) rfl r1 r2 (hcy.1 _ w4) (hin _ w3) hds ⟨r3, r4⟩, hin _ w2, trivial⟩
  · obtain ⟨y', bytes', maxL', ret', rm', C, T, N, hc1, hct, ⟨r1, r2, r3, r4⟩, hds, w1, w2, w2b, w3, w4⟩ := hCV pc n0 k hc ci n f hk
    refine ⟨y', bytes', maxL', ret', rm', C, T, N, hc1, hct, ?_⟩
    rcases w4 with w4 | ⟨host, w4⟩
    · exact Or.inl ⟨callB_of n hts (sr_goodIn hg w1) rfl r1 r2 (hin _ w3) (hin _ w4) hds ⟨r3, r4⟩, hin _ w2, hin _ w2b⟩
    · exact Or.inr ⟨host, va_cnB n hts (sr_goodIn hg w1) rfl r1 r2 (hcy.1 _ w4) (hin _ w3) hds ⟨r3, r4⟩, hin _ w2, hin _ w2b⟩
  · show (sr_ent vs ++ List.replicate (maxL - (sr_ent vs).length) none).length = maxL
    rw [List.length_append, List.length_replicate]
    omega
