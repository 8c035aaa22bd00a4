/-! shapes of the two worlds -/
def sr_tbl {α : Type} (l : List (Option α)) (g : Nat) : Option α := match l[g]? with
  | some x => x
  | none => none
def sr_obC : List (Option (Nat × List (Nat × Nat × Nat))) := [some (0, [(3, 1, 1), (3, 2, 1), (3, 17, 1)]), some (1, [(3, 2, 1), (3, 10, 1), (3, 11, 1), (3, 14, 1), (3, 15, 1), (1, 0, 0), (1, 0, 0), (0, 0, 0), (3, 16, 1), (0, 0, 0), (0, 0, 0), (0, 0, 0), (0, 0, 0), (0, 0, 0)]), some (2, [(3, 5, 1), (0, 0, 0), (3, 7, 1), (0, 0, 0), (3, 8, 1), (3, 9, 1)]), some (3, [(0, 0, 0), (2, 0, 0), (3, 4, 0), (0, 0, 0), (0, 0, 0)]), none, none, some (4, [(0, 0, 0), (1, 0, 0), (0, 0, 0), (0, 0, 0), (0, 0, 0)]), none, none, none, some (5, [(0, 0, 0), (1, 0, 0), (1, 0, 0), (1, 0, 0), (1, 0, 0)]), some (6, [(3, 12, 1), (0, 0, 0)]), none, some (7, [(0, 0, 0), (0, 0, 0), (0, 0, 0), (0, 0, 0), (0, 0, 0), (0, 0, 0), (0, 0, 0), (0, 0, 0), (0, 0, 0), (0, 0, 0)]), none, none, none, some (8, [(3, 18, 1), (3, 18, 2), (0, 0, 0), (0, 0, 0), (0, 0, 0), (0, 0, 0)]), some (9, [(3, 19, 0), (0, 0, 0)]), none, none, none, none, none, none, none, none, none, none, none, none, none, none, none, none, none, none, none, none, none, none, none, none, none]
def sr_arC : List (Option (Nat × Nat × Nat × Nat)) := [none, none, none, none, some (0, 9, 0, 0), some (3, 16, 4, 3), none, some (3, 8, 5, 6), some (0, 4, 0, 0), some (0, 16, 0, 0), none, none, some (0, 64, 0, 0), none, some (3, 16, 6, 13), some (0, 3, 0, 0), some (0, 16, 0, 0), none, none, some (4, 12, 3, 0), none, none, none, none, none, none, none, none, none, none, none, none, none, none, none, none, none, none, none, none, none, none, none, none]
def sr_gnC : List Nat := [1, 1, 1, 16, 16, 1, 8, 1, 1, 1, 1, 1, 1, 16, 1, 1, 1, 1, 2, 2, 0, 0, 0, 0, 0, 0, 0, 0, 0, 0, 0, 0, 0, 0, 0, 0, 0, 0, 0, 0, 0, 0, 0, 0]
def sr_csC : List (Nat × Nat) := [(0, 0), (1, 0), (2, 0), (3, 0), (3, 1), (3, 2), (3, 3), (3, 4), (3, 5), (3, 6), (3, 7), (3, 8), (3, 9), (3, 10), (3, 11), (3, 12), (3, 13), (3, 14), (3, 15), (4, 0), (4, 1), (4, 2), (4, 3), (4, 4), (4, 5), (4, 6), (4, 7), (4, 8), (4, 9), (4, 10), (4, 11), (4, 12), (4, 13), (4, 14), (4, 15), (5, 0), (6, 0), (6, 1), (6, 2), (6, 3), (6, 4), (6, 5), (6, 6), (6, 7), (7, 0), (8, 0), (9, 0), (10, 0), (11, 0), (12, 0), (13, 0), (13, 1), (13, 2), (13, 3), (13, 4), (13, 5), (13, 6), (13, 7), (13, 8), (13, 9), (13, 10), (13, 11), (13, 12), (13, 13), (13, 14), (13, 15), (14, 0), (15, 0), (16, 0), (17, 0), (18, 0), (18, 1), (19, 0), (19, 1)]
def sr_SC : sr_Sh := (sr_tbl sr_obC, sr_tbl sr_arC, fun g => sr_gnC.getD g 0)
def sr_obM : List (Option (Nat × List (Nat × Nat × Nat))) := [none, none, none, none, none, none, none, none, none, none, none, none, none, none, none, none, none, none, none, none, some (10, [(0, 0, 0), (3, 21, 1), (3, 22, 1), (3, 23, 1), (3, 24, 1), (3, 25, 1), (3, 26, 1), (0, 0, 0), (3, 27, 1), (3, 28, 1), (3, 29, 1), (3, 30, 1), (3, 31, 1), (3, 32, 1), (0, 0, 0), (0, 0, 0), (0, 0, 0), (0, 0, 0), (0, 0, 0), (1, 0, 0), (1, 0, 0), (1, 0, 0), (1, 0, 0), (1, 0, 0), (1, 0, 0), (0, 0, 0), (3, 33, 1), (3, 34, 1), (3, 35, 1), (3, 36, 1), (3, 37, 1), (3, 38, 1), (3, 39, 1), (1, 0, 0), (0, 0, 0), (3, 40, 1), (3, 41, 1), (3, 42, 1), (0, 0, 0), (3, 43, 1)]), none, none, none, none, none, none, none, none, none, none, none, none, none, none, none, none, none, none, none, none, none, none, none]
def sr_arM : List (Option (Nat × Nat × Nat × Nat)) := [none, none, none, none, none, none, none, none, none, none, none, none, none, none, none, none, none, none, none, none, none, some (0, 16, 0, 0), some (2, 16, 2, 0), some (0, 144, 0, 0), some (0, 16, 0, 0), some (0, 16, 0, 0), some (0, 4, 0, 0), some (0, 8, 0, 0), some (1, 8, 1, 0), some (0, 8, 0, 0), some (0, 8, 0, 0), some (0, 24, 0, 0), some (0, 2, 0, 0), some (0, 16, 0, 0), some (0, 64, 0, 0), some (0, 16, 0, 0), some (0, 16, 0, 0), some (0, 16, 0, 0), some (0, 8, 0, 0), some (1, 8, 1, 0), some (0, 3, 0, 0), some (0, 3, 0, 0), some (0, 3, 0, 0), some (0, 64, 0, 0)]
def sr_gnM : List Nat := [0, 0, 0, 0, 0, 0, 0, 0, 0, 0, 0, 0, 0, 0, 0, 0, 0, 0, 0, 0, 1, 1, 1, 1, 1, 1, 1, 1, 1, 1, 1, 1, 1, 1, 1, 1, 1, 1, 1, 1, 1, 1, 1, 1]
def sr_csM : List (Nat × Nat) := [(20, 0), (21, 0), (22, 0), (23, 0), (24, 0), (25, 0), (26, 0), (27, 0), (28, 0), (29, 0), (30, 0), (31, 0), (32, 0), (33, 0), (34, 0), (35, 0), (36, 0), (37, 0), (38, 0), (39, 0), (40, 0), (41, 0), (42, 0), (43, 0)]
def sr_SM : sr_Sh := (sr_tbl sr_obM, sr_tbl sr_arM, fun g => sr_gnM.getD g 0)
def sr_tys (cA : Nat → ClassId) : List (ClassId × FieldType) := [(cA 0, .int), (cA 1, .boolean), (cA 2, .long), (cA 3, .char), (cA 4, .object "SuiteRunner$TestMethod"), (cA 5, .object "SuiteRunner$Configuration"), (cA 6, .object "SuiteRunner$Progress")]
theorem sr_tbl_lt {α : Type} {l : List (Option α)} {g : Nat} {x : α} (h : sr_tbl l g = some x) : g < l.length := by
  unfold sr_tbl at h
  split at h
  · rename_i hx
    exact (List.getElem?_eq_some_iff.mp hx).1
  · cases h
theorem sr_tbl_s {α : Type} {l : List (Option α)} {g : Nat} (h : (sr_tbl l g).isSome = true) : g < l.length := by
  cases hx : sr_tbl l g with
  | none => rw [hx] at h; cases h
  | some x => exact sr_tbl_lt hx
theorem sr_PO_of {cl : List vw_C} {ci : Nat} {fs : List (Nat × Nat × Nat)} {C : String} {T : u_T} {N : Nat} (ty : Nat → FieldType) (hc : cl[ci]? = some (C, T, N)) (hty : ∀ k, k < N → parseFieldDescriptor (T k).2.2.1 = some (ty k)) (hnm : ∀ a, a < N → ∀ b, b < N → a ≠ b → (T a).2.1 ≠ (T b).2.1) (h : ∀ x ∈ fs.zipIdx, x.1.1 < 3 → (T x.2).2.2.2 = false ∧ ty x.2 = sr_kt x.1.1) : sr_PO cl ci fs := by
  refine ⟨C, T, N, ty, hc, hty, hnm, fun j kd hh t hj hk => ?_⟩
  exact h ((kd, hh, t), j) (List.mem_zipIdx_iff_getElem?.mpr hj) hk
theorem sr_hcsC : ∀ g i, ((sr_SC.1 g).isSome = true ∨ (sr_SC.2.1 g).isSome = true) → i < sr_SC.2.2 g → (g, i) ∈ sr_csC := by
  intro g i h hi
  have hg : g < 44 := by
    rcases h with h | h
    · exact sr_tbl_s h
    · exact sr_tbl_s h
  exact (by decide +kernel : ∀ g, g < 44 → ∀ i, i < sr_SC.2.2 g → (g, i) ∈ sr_csC) g hg i hi
theorem sr_hsepC : ∀ g, (sr_SC.2.1 g).isSome = true → sr_SC.1 g = none := by
  intro g h
  exact (by decide +kernel : ∀ g, g < 44 → (sr_SC.2.1 g).isSome = true → sr_SC.1 g = none) g (sr_tbl_s h) h
theorem sr_htyC (cA : Nat → ClassId) : ∀ g k n t hh, sr_SC.2.1 g = some (k, n, t, hh) → ¬ k = 3 → (sr_tys cA)[t]? = some (cA t, sr_kt k) := by
  intro g k n t hh h hk
  have h1 := (by decide +kernel : ∀ g, g < 44 → ∀ x, sr_SC.2.1 g = some x → x.1 = 0 ∧ x.2.2.1 = 0 ∨ x.1 = 1 ∧ x.2.2.1 = 1 ∨ x.1 = 2 ∧ x.2.2.1 = 2 ∨ x.1 = 4 ∧ x.2.2.1 = 3 ∨ x.1 = 3 ∧ 4 ≤ x.2.2.1 ∧ x.2.2.1 < 7) g (sr_tbl_lt h) _ h
  dsimp only at h1
  rcases h1 with ⟨rfl, rfl⟩ | ⟨rfl, rfl⟩ | ⟨rfl, rfl⟩ | ⟨rfl, rfl⟩ | ⟨rfl, _⟩
  · rfl
  · rfl
  · rfl
  · rfl
  · exact absurd rfl hk
theorem sr_htoC (cA : Nat → ClassId) : ∀ g n t hh, sr_SC.2.1 g = some (3, n, t, hh) → ∃ C, (sr_tys cA)[t]? = some (cA t, .object C) := by
  intro g n t hh h
  have h1 := (by decide +kernel : ∀ g, g < 44 → ∀ x, sr_SC.2.1 g = some x → x.1 = 3 → x.2.2.1 = 4 ∨ x.2.2.1 = 5 ∨ x.2.2.1 = 6) g (sr_tbl_lt h) _ h rfl
  dsimp only at h1
  rcases h1 with rfl | rfl | rfl
  · exact ⟨_, rfl⟩
  · exact ⟨_, rfl⟩
  · exact ⟨_, rfl⟩
theorem sr_hWC : ∀ g ci fs, sr_SC.1 g = some (ci, fs) → sr_PO sr_cl ci fs := by
  intro g ci fs h
  have hg : g < 44 := sr_tbl_lt h
  have key : g = 0 ∨ g = 1 ∨ g = 2 ∨ g = 3 ∨ g = 6 ∨ g = 10 ∨ g = 11 ∨ g = 13 ∨ g = 17 ∨ g = 18 := (by decide +kernel : ∀ g, g < 44 → (sr_SC.1 g).isSome = true → g = 0 ∨ g = 1 ∨ g = 2 ∨ g = 3 ∨ g = 6 ∨ g = 10 ∨ g = 11 ∨ g = 13 ∨ g = 17 ∨ g = 18) g hg (by rw [h]; rfl)
  rcases key with rfl | rfl | rfl | rfl | rfl | rfl | rfl | rfl | rfl | rfl
  · obtain ⟨rfl, rfl⟩ := Prod.mk.inj (Option.some.inj h)
    exact sr_PO_of sr_t0 rfl sr_t0_ok sr_n0 (by decide +kernel)
  · obtain ⟨rfl, rfl⟩ := Prod.mk.inj (Option.some.inj h)
    exact sr_PO_of sr_t1 rfl sr_t1_ok sr_n1 (by decide +kernel)
  · obtain ⟨rfl, rfl⟩ := Prod.mk.inj (Option.some.inj h)
    exact sr_PO_of sr_t2 rfl sr_t2_ok sr_n2 (by decide +kernel)
  · obtain ⟨rfl, rfl⟩ := Prod.mk.inj (Option.some.inj h)
    exact sr_PO_of sr_t3 rfl sr_t3_ok sr_n3 (by decide +kernel)
  · obtain ⟨rfl, rfl⟩ := Prod.mk.inj (Option.some.inj h)
    exact sr_PO_of sr_t4 rfl sr_t4_ok sr_n4 (by decide +kernel)
  · obtain ⟨rfl, rfl⟩ := Prod.mk.inj (Option.some.inj h)
    exact sr_PO_of sr_t5 rfl sr_t5_ok sr_n5 (by decide +kernel)
  · obtain ⟨rfl, rfl⟩ := Prod.mk.inj (Option.some.inj h)
    exact sr_PO_of sr_t6 rfl sr_t6_ok sr_n6 (by decide +kernel)
  · obtain ⟨rfl, rfl⟩ := Prod.mk.inj (Option.some.inj h)
    exact sr_PO_of sr_t7 rfl sr_t7_ok sr_n7 (by decide +kernel)
  · obtain ⟨rfl, rfl⟩ := Prod.mk.inj (Option.some.inj h)
    exact sr_PO_of sr_t8 rfl sr_t8_ok sr_n8 (by decide +kernel)
  · obtain ⟨rfl, rfl⟩ := Prod.mk.inj (Option.some.inj h)
    exact sr_PO_of sr_t9 rfl sr_t9_ok sr_n9 (by decide +kernel)
theorem sr_hcsM : ∀ g i, ((sr_SM.1 g).isSome = true ∨ (sr_SM.2.1 g).isSome = true) → i < sr_SM.2.2 g → (g, i) ∈ sr_csM := by
  intro g i h hi
  have hg : g < 44 := by
    rcases h with h | h
    · exact sr_tbl_s h
    · exact sr_tbl_s h
  exact (by decide +kernel : ∀ g, g < 44 → ∀ i, i < sr_SM.2.2 g → (g, i) ∈ sr_csM) g hg i hi
theorem sr_hsepM : ∀ g, (sr_SM.2.1 g).isSome = true → sr_SM.1 g = none := by
  intro g h
  exact (by decide +kernel : ∀ g, g < 44 → (sr_SM.2.1 g).isSome = true → sr_SM.1 g = none) g (sr_tbl_s h) h
theorem sr_htyM (cA : Nat → ClassId) : ∀ g k n t hh, sr_SM.2.1 g = some (k, n, t, hh) → ¬ k = 3 → (sr_tys cA)[t]? = some (cA t, sr_kt k) := by
  intro g k n t hh h hk
  have h1 := (by decide +kernel : ∀ g, g < 44 → ∀ x, sr_SM.2.1 g = some x → x.1 = 0 ∧ x.2.2.1 = 0 ∨ x.1 = 1 ∧ x.2.2.1 = 1 ∨ x.1 = 2 ∧ x.2.2.1 = 2 ∨ x.1 = 4 ∧ x.2.2.1 = 3 ∨ x.1 = 3 ∧ 4 ≤ x.2.2.1 ∧ x.2.2.1 < 7) g (sr_tbl_lt h) _ h
  dsimp only at h1
  rcases h1 with ⟨rfl, rfl⟩ | ⟨rfl, rfl⟩ | ⟨rfl, rfl⟩ | ⟨rfl, rfl⟩ | ⟨rfl, _⟩
  · rfl
  · rfl
  · rfl
  · rfl
  · exact absurd rfl hk
theorem sr_htoM (cA : Nat → ClassId) : ∀ g n t hh, sr_SM.2.1 g = some (3, n, t, hh) → ∃ C, (sr_tys cA)[t]? = some (cA t, .object C) := by
  intro g n t hh h
  have h1 := (by decide +kernel : ∀ g, g < 44 → ∀ x, sr_SM.2.1 g = some x → x.1 = 3 → x.2.2.1 = 4 ∨ x.2.2.1 = 5 ∨ x.2.2.1 = 6) g (sr_tbl_lt h) _ h rfl
  dsimp only at h1
  rcases h1 with rfl | rfl | rfl
  · exact ⟨_, rfl⟩
  · exact ⟨_, rfl⟩
  · exact ⟨_, rfl⟩
theorem sr_hWM : ∀ g ci fs, sr_SM.1 g = some (ci, fs) → sr_PO sr_cl ci fs := by
  intro g ci fs h
  have hg : g < 44 := sr_tbl_lt h
  have key : g = 20 := (by decide +kernel : ∀ g, g < 44 → (sr_SM.1 g).isSome = true → g = 20) g hg (by rw [h]; rfl)
  rcases key with rfl
  · obtain ⟨rfl, rfl⟩ := Prod.mk.inj (Option.some.inj h)
    exact sr_PO_of sr_t10 rfl sr_t10_ok sr_n10 (by decide +kernel)
