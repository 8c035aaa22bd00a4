/-! The abstract machine is sound: what it does, the machine does. -/
def sr_cv (ad : Nat → Nat → Nat) : sr_V → Value
  | .inl x => .int x
  | .inr (.inl x) => .long x
  | .inr (.inr r) => .ref (ad r.1 r.2)
def sr_lc (ad : Nat → Nat → Nat) (L : sr_L) : List (Nat × Value) := L.zipIdx.filterMap (fun q => q.1.map (fun v => (q.2, sr_cv ad v)))
theorem sr_lc_mem {ad : Nat → Nat → Nat} {L : sr_L} {q : Nat × Value} : q ∈ sr_lc ad L ↔ ∃ v, L[q.1]? = some (some v) ∧ q.2 = sr_cv ad v := by
  unfold sr_lc
  rw [List.mem_filterMap]
  constructor
  · rintro ⟨⟨o, i⟩, h1, h2⟩
    rw [List.mem_zipIdx_iff_getElem?] at h1
    cases o with
    | none => cases h2
    | some v =>
      cases h2
      exact ⟨v, h1, rfl⟩
  · rintro ⟨v, h1, h2⟩
    refine ⟨(some v, q.1), List.mem_zipIdx_iff_getElem?.mpr h1, ?_⟩
    obtain ⟨a, b⟩ := q
    cases h2
    rfl
theorem sr_kill_get {L : sr_L} {i j : Nat} {v : sr_V} (h : (sr_kill L i)[j]? = some (some v)) : L[j]? = some (some v) ∧ ¬ (j + 1 = i ∧ (∃ x, v = .inr (.inl x))) := by
  cases i with
  | zero => exact ⟨h, fun q => by omega⟩
  | succ i =>
    simp only [sr_kill] at h
    split at h
    · rename_i x hx
      by_cases hj : i = j
      · subst hj
        rw [List.getElem?_set_self (List.getElem?_eq_some_iff.mp hx).1] at h
        cases h
      · rw [List.getElem?_set_ne hj] at h
        exact ⟨h, fun q => hj (by omega)⟩
    · rename_i hx
      refine ⟨h, fun q => ?_⟩
      obtain ⟨q1, x, q2⟩ := q
      have e : j = i := by omega
      subst e
      subst q2
      exact hx x h
theorem sr_kill_len (L : sr_L) (i : Nat) : (sr_kill L i).length = L.length := by
  cases i with
  | zero => rfl
  | succ i =>
    simp only [sr_kill]
    split
    · simp
    · rfl
theorem sr_cat1 {ad : Nat → Nat → Nat} {v : sr_V} (h : sr_c1 v = true) : (sr_cv ad v).category = 1 := by
  rcases v with x | x | x
  · rfl
  · cases h
  · rfl
theorem sr_cat2 {ad : Nat → Nat → Nat} {v : sr_V} (h : (sr_cv ad v).category = 2) : ∃ x, v = .inr (.inl x) := by
  rcases v with x | x | x
  · cases h
  · exact ⟨x, rfl⟩
  · cases h
theorem sr_st1_lc {ad : Nat → Nat → Nat} {L L' : sr_L} {i : Nat} {v : sr_V} (h : sr_st1 L i v = some L') : L'.length = L.length ∧ i < L.length ∧ ∀ q ∈ sr_lc ad L', q ∈ (i, sr_cv ad v) :: (sr_lc ad L).filter (fun q => !(q.1 == i) && !(q.1 + 1 == i && q.2.category == 2)) := by
  unfold sr_st1 at h
  split at h
  · rename_i hi
    cases h
    refine ⟨by rw [List.length_set, sr_kill_len], hi, fun q hq => ?_⟩
    obtain ⟨w, h1, h2⟩ := sr_lc_mem.mp hq
    by_cases hj : i = q.1
    · rw [← hj, List.getElem?_set_self (by rw [sr_kill_len]; exact hi)] at h1
      cases h1
      obtain ⟨a, b⟩ := q
      cases h2
      cases hj
      exact List.mem_cons_self
    · rw [List.getElem?_set_ne hj] at h1
      obtain ⟨h3, h4⟩ := sr_kill_get h1
      refine List.mem_cons_of_mem _ (List.mem_filter.mpr ⟨sr_lc_mem.mpr ⟨w, h3, h2⟩, ?_⟩)
      have e1 : (q.1 == i) = false := by simpa using fun z => hj z.symm
      rw [e1]
      simp only [Bool.not_false, Bool.true_and, Bool.not_eq_true', Bool.and_eq_false_iff]
      by_cases h5 : q.1 + 1 = i
      · right
        rw [beq_eq_false_iff_ne]
        intro h6
        rw [h2] at h6
        exact h4 ⟨h5, sr_cat2 h6⟩
      · left
        simpa using h5
  · cases h
theorem sr_st2_lc {ad : Nat → Nat → Nat} {L L' : sr_L} {i : Nat} {v : sr_V} (h : sr_st2 L i v = some L') : L'.length = L.length ∧ i + 1 < L.length ∧ ∀ q ∈ sr_lc ad L', q ∈ (i, sr_cv ad v) :: (sr_lc ad L).filter (fun q => !(q.1 == i) && (!(q.1 == i + 1) && !(q.1 + 1 == i && q.2.category == 2))) := by
  unfold sr_st2 at h
  split at h
  · rename_i hi
    cases h
    refine ⟨by rw [List.length_set, List.length_set, sr_kill_len], hi, fun q hq => ?_⟩
    obtain ⟨w, h1, h2⟩ := sr_lc_mem.mp hq
    by_cases hk : i + 1 = q.1
    · rw [← hk, List.getElem?_set_self (by rw [List.length_set, sr_kill_len]; exact hi)] at h1
      cases h1
    rw [List.getElem?_set_ne hk] at h1
    by_cases hj : i = q.1
    · rw [← hj, List.getElem?_set_self (by rw [sr_kill_len]; omega)] at h1
      cases h1
      obtain ⟨a, b⟩ := q
      cases h2
      cases hj
      exact List.mem_cons_self
    · rw [List.getElem?_set_ne hj] at h1
      obtain ⟨h3, h4⟩ := sr_kill_get h1
      refine List.mem_cons_of_mem _ (List.mem_filter.mpr ⟨sr_lc_mem.mpr ⟨w, h3, h2⟩, ?_⟩)
      have e1 : (q.1 == i) = false := by simpa using fun z => hj z.symm
      have e2 : (q.1 == i + 1) = false := by simpa using fun z => hk z.symm
      rw [e1, e2]
      simp only [Bool.not_false, Bool.true_and, Bool.not_eq_true', Bool.and_eq_false_iff]
      by_cases h5 : q.1 + 1 = i
      · right
        rw [beq_eq_false_iff_ne]
        intro h6
        rw [h2] at h6
        exact h4 ⟨h5, sr_cat2 h6⟩
      · left
        simpa using h5
  · cases h
theorem sr_has {ls : Array Slot} {nL : Nat} {l l' : List (Nat × Value)} (h : lv_has ls nL l) (hs : ∀ q ∈ l', q ∈ l) : lv_has ls nL l' := ⟨h.1, h.2.1, fun q hq => h.2.2 q (hs q hq)⟩
-- a cell of the world
def sr_fv (ad : Nat → Nat → Nat) (μ : sr_M) (g i : Nat) (q : (Nat × Nat × Nat) × Nat) : Value := match q.1 with
  | (2, _, _) => .long (μ.2 g i q.2)
  | (3, h, 0) => .ref (ad h i)
  | (3, h, k + 1) => .ref (ad h k)
  | _ => .int (μ.1 g i q.2)
def sr_cell (S : sr_Sh) (cA : Nat → ClassId) (ad : Nat → Nat → Nat) (μ : sr_M) (g i : Nat) : va_E := match S.1 g with
  | some (ci, fs) => .inr (ci, fs.zipIdx.map (sr_fv ad μ g i))
  | none => match S.2.1 g with
    | some (k, n, t, h) => match k with
      | 2 => .inl (cA t, n, .inr (.inl (μ.2 g i)))
      | 3 => .inl (cA t, n, .inr (.inr (.inr (.inr (fun j => some (ad h j))))))
      | _ => .inl (cA t, n, .inl (μ.1 g i))
    | none => .inl (cA 0, 0, .inl (fun _ => 0))
def sr_wd (S : sr_Sh) (cA : Nat → ClassId) (cs : List (Nat × Nat)) (ad : Nat → Nat → Nat) (μ : sr_M) : va_W := cs.map (fun x => (ad x.1 x.2, sr_cell S cA ad μ x.1 x.2))
theorem sr_wd_at {S : sr_Sh} {cA : Nat → ClassId} {cs : List (Nat × Nat)} {ad : Nat → Nat → Nat} {μ : sr_M} {g i : Nat} (h : (g, i) ∈ cs) : ∃ q0 : Nat, cs[q0]? = some (g, i) ∧ (sr_wd S cA cs ad μ)[q0]? = some (ad g i, sr_cell S cA ad μ g i) := by
  obtain ⟨q0, hq⟩ := List.getElem?_of_mem h
  exact ⟨q0, hq, by unfold sr_wd; rw [List.getElem?_map, hq]; rfl⟩
theorem sr_wd_D {S : sr_Sh} {cA : Nat → ClassId} {cs : List (Nat × Nat)} {ad : Nat → Nat → Nat} {μ μ' : sr_M} {A : Nat → Prop} (h : va_D A (sr_wd S cA cs ad μ)) : va_D A (sr_wd S cA cs ad μ') := by
  have key : ∀ (k : Nat) (q : Nat × va_E), (sr_wd S cA cs ad μ')[k]? = some q → ∃ q', (sr_wd S cA cs ad μ)[k]? = some q' ∧ q'.1 = q.1 := by
    intro k q hk
    unfold sr_wd at hk ⊢
    rw [List.getElem?_map] at hk ⊢
    cases hc : cs[k]? with
    | none => rw [hc] at hk; cases hk
    | some x =>
      rw [hc] at hk
      cases hk
      exact ⟨_, rfl, rfl⟩
  refine ⟨fun i j x y hi hj hxy => ?_, fun k q hk => ?_⟩
  · obtain ⟨x', h1, h2⟩ := key i x hi
    obtain ⟨y', h3, h4⟩ := key j y hj
    exact h.1 i j x' y' h1 h3 (h2.trans (hxy.trans h4.symm))
  · obtain ⟨q', h1, h2⟩ := key k q hk
    rw [← h2]
    exact h.2 k q' h1
theorem sr_wd_A {S : sr_Sh} {cA : Nat → ClassId} {cs : List (Nat × Nat)} {ad : Nat → Nat → Nat} {μ μ' : sr_M} {sz q : Nat} (h : va_A (sr_wd S cA cs ad μ) sz q) : va_A (sr_wd S cA cs ad μ') sz q := by
  rcases h with ⟨k, e, h⟩ | h
  · left
    unfold sr_wd at h ⊢
    rw [List.getElem?_map] at h
    cases hc : cs[k]? with
    | none => rw [hc] at h; cases h
    | some x =>
      rw [hc] at h
      cases h
      exact ⟨k, sr_cell S cA ad μ' x.1 x.2, by rw [List.getElem?_map, hc]; rfl⟩
  · exact Or.inr h
theorem sr_wd_put {S : sr_Sh} {cA : Nat → ClassId} {cs : List (Nat × Nat)} {ad : Nat → Nat → Nat} {μ μ' : sr_M} {D : va_G} {cl : List vw_C} {g i q0 : Nat} {E : va_E} {H : Heap} (hq : cs[q0]? = some (g, i)) (hE : E = sr_cell S cA ad μ' g i) (ho : ∀ a b, ¬ (a = g ∧ b = i) → sr_cell S cA ad μ' a b = sr_cell S cA ad μ a b) (hP : va_P D cl ((sr_wd S cA cs ad μ).set q0 (ad g i, E)) H) : va_P D cl (sr_wd S cA cs ad μ') H := by
  have hl : q0 < (sr_wd S cA cs ad μ).length := by
    unfold sr_wd
    rw [List.length_map]
    exact (List.getElem?_eq_some_iff.mp hq).1
  intro k q hk
  unfold sr_wd at hk
  rw [List.getElem?_map] at hk
  cases hc : cs[k]? with
  | none => rw [hc] at hk; cases hk
  | some x =>
    rw [hc] at hk
    cases hk
    by_cases hx : x.1 = g ∧ x.2 = i
    · obtain ⟨x1, x2⟩ := x
      obtain ⟨e1, e2⟩ := hx
      cases e1
      cases e2
      have := hP q0 _ (List.getElem?_set_self hl)
      rw [hE] at this
      exact this
    · have hne : q0 ≠ k := by
        intro z
        subst z
        rw [hq] at hc
        cases hc
        exact hx ⟨rfl, rfl⟩
      have h1 : ((sr_wd S cA cs ad μ).set q0 (ad g i, E))[k]? = some (ad x.1 x.2, sr_cell S cA ad μ x.1 x.2) := by
        rw [List.getElem?_set_ne hne]
        unfold sr_wd
        rw [List.getElem?_map, hc]
        rfl
      have := hP k _ h1
      rw [← ho x.1 x.2 hx] at this
      exact this
theorem sr_sub_len : ∀ (l l' : sr_L), sr_sub l l' → l.length = l'.length
  | [], [], _ => rfl
  | none :: l, _ :: l', h => congrArg (· + 1) (sr_sub_len l l' h)
  | some v :: l, o :: l', h => congrArg (· + 1) (sr_sub_len l l' h.2)
theorem sr_sub_get : ∀ (l l' : sr_L), sr_sub l l' → ∀ (i : Nat) (v : sr_V), l[i]? = some (some v) → l'[i]? = some (some v)
  | [], [], _, i, v, h => by simp at h
  | none :: l, _ :: l', hs, 0, v, h => by simp at h
  | none :: l, _ :: l', hs, i + 1, v, h => by
    rw [List.getElem?_cons_succ] at h ⊢
    exact sr_sub_get l l' hs i v h
  | some u :: l, o :: l', hs, 0, v, h => by
    rw [List.getElem?_cons_zero] at h ⊢
    rw [hs.1]
    exact h
  | some u :: l, o :: l', hs, i + 1, v, h => by
    rw [List.getElem?_cons_succ] at h ⊢
    exact sr_sub_get l l' hs.2 i v h
