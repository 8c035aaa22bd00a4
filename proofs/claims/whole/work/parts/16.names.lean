/-! pictures and runs: names, patterns, selection -/
theorem sr_at {E : sr_E} {K : sr_R → Prop} {pc pc' : Nat} {r : sr_L × List sr_V × sr_M} (h : pc = pc') (w : sr_AW E K (pc', r)) : sr_AW E K (pc, r) := by
  rw [h]
  exact w
theorem sr_lp_all {α β : Type} {g : Nat → α → β ⊕ α} (P : β → Prop) (d : β) (hd : P d) (h : ∀ k a b, g k a = .inl b → P b) : ∀ {n k : Nat} {a : α}, P ((sr_lp g n k a).getD d)
  | 0, _, _ => hd
  | n + 1, k, a => by
    unfold sr_lp
    cases hg : g k a with
    | inl b => exact h k a b hg
    | inr a' => exact sr_lp_all P d hd h
theorem sr_ein {x : Int32} {N k : Nat} (q : sr_cnt x N) (hk : k ≤ x.toNatClampNeg) (h : ¬ x ≤ nI k) (hN : N < 2 ^ 31 := by decide) : sr_in (nI k) N := by
  have h1 : k ≠ x.toNatClampNeg := fun e => h (by rw [e]; exact sr_cnt_le q)
  have h2 := q.2
  exact sr_inN N (by omega) hN
theorem sr_ein1 {x : Int32} {N k : Nat} (q : sr_cnt x N) (hk : k ≤ x.toNatClampNeg) (h0 : ¬ x ≤ nI k) (h : ¬ x ≤ nI k + 1) (hN : N < 2 ^ 31 := by decide) : sr_in (nI k + 1) N := by
  have h1 : k ≠ x.toNatClampNeg := fun e => h0 (by rw [e]; exact sr_cnt_le q)
  have h2 := q.2
  have h3 : k + 1 ≠ x.toNatClampNeg := fun e => h (by rw [← nI_succ, e]; exact sr_cnt_le q)
  rw [← nI_succ]
  exact sr_inN N (by omega) hN
theorem sr_pred_in {x : Int32} {N : Nat} (q : sr_cnt x N) (h : ¬ x ≤ 0) (hN : N < 2 ^ 31 := by decide) : sr_in (x - 1) N := by
  have h2 := q.2
  have h1 : x.toNatClampNeg ≠ 0 := fun e => h (by rw [q.1, e]; exact Int32.le_refl _)
  have e : x - 1 = nI (x.toNatClampNeg - 1) := by
    have h3 : x = nI (x.toNatClampNeg - 1 + 1) := by
      rw [Nat.sub_add_cancel (by omega)]
      exact q.1
    conv => lhs; rw [h3]
    exact nI_pred _
  rw [e]
  exact sr_inN N (by omega) hN
def g_TM_lengthOf (nm : Int64) : Nat → Unit → Int32 ⊕ Unit := fun k a => if 8 ≤ (nI k) then (.inl (nI k)) else (if (v_TM_letterAt nm (nI k)) = 0 then (.inl (nI k)) else (.inr ()))
def v_TM_lengthOf (nm : Int64) : Int32 := (sr_lp (g_TM_lengthOf nm) (8 + 1) 0 ()).getD (0 : Int32)
def p_TM_lengthOf : sr_F := fun vs μ => match vs with
  | [.inr (.inl nm)] => some (True, some (.inl (v_TM_lengthOf nm)), μ)
  | _ => none
def e_TM_lengthOf : sr_E := (sr_SC, sr_KS, (fun _ => none, fun _ => none, fun _ => none, fun _ => none, fun k => ([(33, 0, 2, p_TM_letterAt)] : List (Nat × Nat × Nat × sr_F)).lookup k), sr_cd cd_TM_lengthOf, some .int)
set_option maxRecDepth 10000 in
theorem a_TM_lengthOf (μ : sr_M) (nm : Int64) : sr_AW e_TM_lengthOf (fun r => r = (some (.inl (v_TM_lengthOf nm)), μ)) (sr_entry 3 [.inr (.inl nm)] μ) := by
  refine sr_many 2 (t := (2, [some (.inr (.inl nm)), none, some (.inl 0)], [], μ)) rfl ⟨trivial, trivial, trivial⟩ ?_
  have hI : ∀ k a a', (fun k _ => k ≤ 8) k a → (g_TM_lengthOf nm) k a = .inr a' → (fun k _ => k ≤ 8) (k + 1) a' := (fun k a a' h e => by have hk : k ≠ 8 := (fun ek => by subst ek; unfold g_TM_lengthOf at e; rw [if_pos (show (8 : Int32) ≤ nI 8 by decide)] at e; (repeat' split at e) <;> cases e); exact Nat.lt_of_le_of_ne h hk)
  obtain ⟨b, hb⟩ : ∃ b, sr_lp (g_TM_lengthOf nm) (8 + 1) 0 () = some b := sr_lp_some (g_TM_lengthOf nm) 8 (fun k _ => k ≤ 8) hI (fun a _ => by unfold g_TM_lengthOf; rw [if_pos (show (8 : Int32) ≤ nI 8 by decide)]; (repeat' split) <;> exact ⟨_, rfl⟩) 8 0 () (by omega) (Nat.zero_le _)
  have e : ((some (.inl (v_TM_lengthOf nm)), μ) : sr_R) = (fun b => (some (.inl b), μ)) b := by
    unfold v_TM_lengthOf
    rw [hb]
    rfl
  rw [e]
  refine sr_loop (fun b => (some (.inl b), μ)) (fun k a => (2, [some (.inr (.inl nm)), none, some (.inl (nI k))], [], μ)) (g_TM_lengthOf nm) (fun k _ => k ≤ 8) hI (fun K k a hIk hr w => ?_) (8 + 1) 0 () b (Nat.zero_le _) hb
  refine sr_many 3 (t := (bif decide (8 ≤ (nI k)) then 22 else 8, [some (.inr (.inl nm)), none, some (.inl (nI k))], [], μ)) rfl ⟨trivial, trivial, trivial, trivial⟩ ?_
  refine sr_brd (fun h1 => ?_) (fun h1 => ?_)
  · refine sr_many 1 (t := (23, [some (.inr (.inl nm)), none, some (.inl (nI k))], [.inl (nI k)], μ)) rfl ⟨trivial, trivial⟩ ?_
    exact sr_ret rfl rfl rfl trivial (hr (nI k) (by simp only [g_TM_lengthOf, if_pos h1]))
  · refine sr_many 4 (t := (bif decide ((v_TM_letterAt nm (nI k)) = 0) then 22 else 16, [some (.inr (.inl nm)), none, some (.inl (nI k))], [], μ)) rfl ⟨trivial, trivial, trivial, trivial, trivial⟩ ?_
    refine sr_brd (fun h2 => ?_) (fun h2 => ?_)
    · refine sr_many 1 (t := (23, [some (.inr (.inl nm)), none, some (.inl (nI k))], [.inl (nI k)], μ)) rfl ⟨trivial, trivial⟩ ?_
      exact sr_ret rfl rfl rfl trivial (hr (nI k) (by simp only [g_TM_lengthOf, if_neg h1, if_pos h2]))
    · refine sr_many 2 (t := (2, [some (.inr (.inl nm)), none, some (.inl ((nI k) + 1))], [], μ)) rfl ⟨trivial, trivial, trivial⟩ ?_
      have w2 := w () (by simp only [g_TM_lengthOf, if_neg h1, if_neg h2])
      try simp only [nI_succ] at w2
      exact w2
def g_TM_compareNames (nm : Int64) (om : Int64) : Nat → Unit → Int32 ⊕ Unit := fun k a => if 8 ≤ (nI k) then (.inl 0) else (if ((v_TM_letterAt nm (nI k)) - (v_TM_letterAt om (nI k))) = 0 then (.inr ()) else (.inl ((v_TM_letterAt nm (nI k)) - (v_TM_letterAt om (nI k)))))
def v_TM_compareNames (nm : Int64) (om : Int64) : Int32 := (sr_lp (g_TM_compareNames nm om) (8 + 1) 0 ()).getD (0 : Int32)
def p_TM_compareNames : sr_F := fun vs μ => match vs with
  | [.inr (.inl nm), .inr (.inl om)] => some (True, some (.inl (v_TM_compareNames nm om)), μ)
  | _ => none
def e_TM_compareNames : sr_E := (sr_SC, sr_KS, (fun _ => none, fun _ => none, fun _ => none, fun _ => none, fun k => ([(33, 0, 2, p_TM_letterAt)] : List (Nat × Nat × Nat × sr_F)).lookup k), sr_cd cd_TM_compareNames, some .int)
set_option maxRecDepth 10000 in
theorem a_TM_compareNames (μ : sr_M) (nm : Int64) (om : Int64) : sr_AW e_TM_compareNames (fun r => r = (some (.inl (v_TM_compareNames nm om)), μ)) (sr_entry 6 [.inr (.inl nm), .inr (.inl om)] μ) := by
  refine sr_many 2 (t := (3, [some (.inr (.inl nm)), none, some (.inr (.inl om)), none, some (.inl 0), none], [], μ)) rfl ⟨trivial, trivial, trivial⟩ ?_
  have hI : ∀ k a a', (fun k _ => k ≤ 8) k a → (g_TM_compareNames nm om) k a = .inr a' → (fun k _ => k ≤ 8) (k + 1) a' := (fun k a a' h e => by have hk : k ≠ 8 := (fun ek => by subst ek; unfold g_TM_compareNames at e; rw [if_pos (show (8 : Int32) ≤ nI 8 by decide)] at e; (repeat' split at e) <;> cases e); exact Nat.lt_of_le_of_ne h hk)
  obtain ⟨b, hb⟩ : ∃ b, sr_lp (g_TM_compareNames nm om) (8 + 1) 0 () = some b := sr_lp_some (g_TM_compareNames nm om) 8 (fun k _ => k ≤ 8) hI (fun a _ => by unfold g_TM_compareNames; rw [if_pos (show (8 : Int32) ≤ nI 8 by decide)]; (repeat' split) <;> exact ⟨_, rfl⟩) 8 0 () (by omega) (Nat.zero_le _)
  have e : ((some (.inl (v_TM_compareNames nm om)), μ) : sr_R) = (fun b => (some (.inl b), μ)) b := by
    unfold v_TM_compareNames
    rw [hb]
    rfl
  rw [e]
  refine sr_loop (fun b => (some (.inl b), μ)) (fun k a => (3, [some (.inr (.inl nm)), none, some (.inr (.inl om)), none, some (.inl (nI k)), none], [], μ)) (g_TM_compareNames nm om) (fun k _ => k ≤ 8) hI (fun K k a hIk hr w => ?_) (8 + 1) 0 () b (Nat.zero_le _) hb
  refine sr_many 3 (t := (bif decide (8 ≤ (nI k)) then 39 else 10, [some (.inr (.inl nm)), none, some (.inr (.inl om)), none, some (.inl (nI k)), none], [], μ)) rfl ⟨trivial, trivial, trivial, trivial⟩ ?_
  refine sr_brd (fun h1 => ?_) (fun h1 => ?_)
  · refine sr_many 1 (t := (40, [some (.inr (.inl nm)), none, some (.inr (.inl om)), none, some (.inl (nI k)), none], [.inl 0], μ)) rfl ⟨trivial, trivial⟩ ?_
    exact sr_ret rfl rfl rfl trivial (hr 0 (by simp only [g_TM_compareNames, if_pos h1]))
  · refine sr_many 10 (t := (bif decide (((v_TM_letterAt nm (nI k)) - (v_TM_letterAt om (nI k))) = 0) then 33 else 30, [some (.inr (.inl nm)), none, some (.inr (.inl om)), none, some (.inl (nI k)), some (.inl ((v_TM_letterAt nm (nI k)) - (v_TM_letterAt om (nI k))))], [], μ)) rfl ⟨trivial, trivial, trivial, trivial, trivial, trivial, trivial, trivial, trivial, trivial, trivial⟩ ?_
    refine sr_brd (fun h2 => ?_) (fun h2 => ?_)
    · refine sr_many 2 (t := (3, [some (.inr (.inl nm)), none, some (.inr (.inl om)), none, some (.inl ((nI k) + 1)), some (.inl ((v_TM_letterAt nm (nI k)) - (v_TM_letterAt om (nI k))))], [], μ)) rfl ⟨trivial, trivial, trivial⟩ ?_
      refine sr_forget [some (.inr (.inl nm)), none, some (.inr (.inl om)), none, some (.inl ((nI k) + 1)), none] (by simp [sr_sub]) ?_
      have w2 := w () (by simp only [g_TM_compareNames, if_neg h1, if_pos h2])
      try simp only [nI_succ] at w2
      exact w2
    · refine sr_many 1 (t := (32, [some (.inr (.inl nm)), none, some (.inr (.inl om)), none, some (.inl (nI k)), some (.inl ((v_TM_letterAt nm (nI k)) - (v_TM_letterAt om (nI k))))], [.inl ((v_TM_letterAt nm (nI k)) - (v_TM_letterAt om (nI k)))], μ)) rfl ⟨trivial, trivial⟩ ?_
      exact sr_ret rfl rfl rfl trivial (hr ((v_TM_letterAt nm (nI k)) - (v_TM_letterAt om (nI k))) (by simp only [g_TM_compareNames, if_neg h1, if_neg h2]))
theorem sr_len_cnt (nm : Int64) : sr_cnt (v_TM_lengthOf nm) 8 := by
  have key : ∀ (n k : Nat), n + k = 9 → ∃ j : Nat, j ≤ 8 ∧ (sr_lp (g_TM_lengthOf nm) n k ()).getD (0 : Int32) = nI j := by
    intro n
    induction n with
    | zero => intro k _; exact ⟨0, by decide, rfl⟩
    | succ n ih =>
      intro k hk
      unfold sr_lp
      cases hg : g_TM_lengthOf nm k () with
      | inr a => exact ih (k + 1) (by omega)
      | inl b =>
        refine ⟨k, by omega, ?_⟩
        unfold g_TM_lengthOf at hg
        split at hg
        · cases hg; rfl
        · split at hg
          · cases hg; rfl
          · cases hg
  obtain ⟨j, h1, h2⟩ := key 9 0 rfl
  have h3 : v_TM_lengthOf nm = nI j := h2
  unfold sr_cnt
  rw [h3, nI_clamp (by omega)]
  exact ⟨rfl, h1⟩
def g_TM_isName (nm : Int64) : Nat → Unit → Int32 ⊕ Unit := fun k a => if (v_TM_lengthOf nm) ≤ (nI k) then (if (v_TM_lengthOf nm) ≤ 0 then (.inl 0) else (if ¬ (lg_cmp (((Int64.toUInt64 nm) >>> ((Int32.toInt64 ((5 : Int32) * (v_TM_lengthOf nm))).toUInt64 &&& Int64.toUInt64 63)).toInt64) 0) = 0 then (.inl 0) else (.inl 1))) else (if (v_TM_letterAt nm (nI k)) ≤ 26 then (.inr ()) else (.inl 0))
def v_TM_isName (nm : Int64) : Int32 := (sr_lp (g_TM_isName nm) ((v_TM_lengthOf nm).toNatClampNeg + 1) 0 ()).getD (0 : Int32)
def p_TM_isName : sr_F := fun vs μ => match vs with
  | [.inr (.inl nm)] => some (True, some (.inl (v_TM_isName nm)), μ)
  | _ => none
def e_TM_isName : sr_E := (sr_SC, sr_KS, (fun _ => none, fun _ => none, fun _ => none, fun _ => none, fun k => ([(33, 0, 2, p_TM_letterAt), (37, 0, 1, p_TM_lengthOf)] : List (Nat × Nat × Nat × sr_F)).lookup k), sr_cd cd_TM_isName, some .boolean)
theorem b_TM_isName (nm : Int64) : v_TM_isName nm = 0 ∨ v_TM_isName nm = 1 := by
  unfold v_TM_isName
  exact sr_lp_all (g := g_TM_isName nm) (fun b => b = 0 ∨ b = 1) _ (Or.inl rfl) (fun k a b h => by unfold g_TM_isName at h; (repeat' split at h) <;> cases h <;> first | exact Or.inl rfl | exact Or.inr rfl)
set_option maxRecDepth 10000 in
theorem a_TM_isName (μ : sr_M) (nm : Int64) : sr_AW e_TM_isName (fun r => r = (some (.inl (v_TM_isName nm)), μ)) (sr_entry 4 [.inr (.inl nm)] μ) := by
  refine sr_many 5 (t := (7, [some (.inr (.inl nm)), none, some (.inl (v_TM_lengthOf nm)), some (.inl 0)], [], μ)) rfl ⟨trivial, trivial, trivial, trivial, trivial, trivial⟩ ?_
  have hI : ∀ k a a', (fun k _ => k ≤ (v_TM_lengthOf nm).toNatClampNeg) k a → (g_TM_isName nm) k a = .inr a' → (fun k _ => k ≤ (v_TM_lengthOf nm).toNatClampNeg) (k + 1) a' := (fun k a a' h e => by have hk : k ≠ (v_TM_lengthOf nm).toNatClampNeg := (fun ek => by rw [ek] at e; unfold g_TM_isName at e; rw [if_pos (sr_cnt_le (sr_len_cnt nm))] at e; (repeat' split at e) <;> cases e); exact Nat.lt_of_le_of_ne h hk)
  obtain ⟨b, hb⟩ : ∃ b, sr_lp (g_TM_isName nm) ((v_TM_lengthOf nm).toNatClampNeg + 1) 0 () = some b := sr_lp_some (g_TM_isName nm) ((v_TM_lengthOf nm).toNatClampNeg) (fun k _ => k ≤ (v_TM_lengthOf nm).toNatClampNeg) hI (fun a _ => by unfold g_TM_isName; rw [if_pos (sr_cnt_le (sr_len_cnt nm))]; (repeat' split) <;> exact ⟨_, rfl⟩) ((v_TM_lengthOf nm).toNatClampNeg) 0 () (by omega) (Nat.zero_le _)
  have e : ((some (.inl (v_TM_isName nm)), μ) : sr_R) = (fun b => (some (.inl b), μ)) b := by
    unfold v_TM_isName
    rw [hb]
    rfl
  rw [e]
  refine sr_loop (fun b => (some (.inl b), μ)) (fun k a => (7, [some (.inr (.inl nm)), none, some (.inl (v_TM_lengthOf nm)), some (.inl (nI k))], [], μ)) (g_TM_isName nm) (fun k _ => k ≤ (v_TM_lengthOf nm).toNatClampNeg) hI (fun K k a hIk hr w => ?_) ((v_TM_lengthOf nm).toNatClampNeg + 1) 0 () b (Nat.zero_le _) hb
  refine sr_many 3 (t := (bif decide ((v_TM_lengthOf nm) ≤ (nI k)) then 30 else 12, [some (.inr (.inl nm)), none, some (.inl (v_TM_lengthOf nm)), some (.inl (nI k))], [], μ)) rfl ⟨trivial, trivial, trivial, trivial⟩ ?_
  refine sr_brd (fun h1 => ?_) (fun h1 => ?_)
  · refine sr_many 2 (t := (bif decide ((v_TM_lengthOf nm) ≤ 0) then 48 else 34, [some (.inr (.inl nm)), none, some (.inl (v_TM_lengthOf nm)), some (.inl (nI k))], [], μ)) rfl ⟨trivial, trivial, trivial⟩ ?_
    refine sr_brd (fun h2 => ?_) (fun h2 => ?_)
    · refine sr_many 1 (t := (49, [some (.inr (.inl nm)), none, some (.inl (v_TM_lengthOf nm)), some (.inl (nI k))], [.inl 0], μ)) rfl ⟨trivial, trivial⟩ ?_
      exact sr_ret rfl rfl rfl (Or.inl rfl) (hr 0 (by simp only [g_TM_isName, if_pos h1, if_pos h2]))
    · refine sr_many 8 (t := (bif decide (¬ (lg_cmp (((Int64.toUInt64 nm) >>> ((Int32.toInt64 ((5 : Int32) * (v_TM_lengthOf nm))).toUInt64 &&& Int64.toUInt64 63)).toInt64) 0) = 0) then 48 else 44, [some (.inr (.inl nm)), none, some (.inl (v_TM_lengthOf nm)), some (.inl (nI k))], [], μ)) rfl ⟨trivial, trivial, trivial, trivial, trivial, trivial, trivial, trivial, trivial⟩ ?_
      refine sr_brd (fun h3 => ?_) (fun h3 => ?_)
      · refine sr_many 1 (t := (49, [some (.inr (.inl nm)), none, some (.inl (v_TM_lengthOf nm)), some (.inl (nI k))], [.inl 0], μ)) rfl ⟨trivial, trivial⟩ ?_
        exact sr_ret rfl rfl rfl (Or.inl rfl) (hr 0 (by simp only [g_TM_isName, if_pos h1, if_neg h2, if_pos h3]))
      · refine sr_many 2 (t := (49, [some (.inr (.inl nm)), none, some (.inl (v_TM_lengthOf nm)), some (.inl (nI k))], [.inl 1], μ)) rfl ⟨trivial, trivial, trivial⟩ ?_
        exact sr_ret rfl rfl rfl (Or.inr rfl) (hr 1 (by simp only [g_TM_isName, if_pos h1, if_neg h2, if_neg h3]))
  · refine sr_many 5 (t := (bif decide ((v_TM_letterAt nm (nI k)) ≤ 26) then 24 else 22, [some (.inr (.inl nm)), none, some (.inl (v_TM_lengthOf nm)), some (.inl (nI k))], [], μ)) rfl ⟨trivial, trivial, trivial, trivial, trivial, trivial⟩ ?_
    refine sr_brd (fun h2 => ?_) (fun h2 => ?_)
    · refine sr_many 2 (t := (7, [some (.inr (.inl nm)), none, some (.inl (v_TM_lengthOf nm)), some (.inl ((nI k) + 1))], [], μ)) rfl ⟨trivial, trivial, trivial⟩ ?_
      have w2 := w () (by simp only [g_TM_isName, if_neg h1, if_pos h2])
      try simp only [nI_succ] at w2
      exact w2
    · refine sr_many 1 (t := (23, [some (.inr (.inl nm)), none, some (.inl (v_TM_lengthOf nm)), some (.inl (nI k))], [.inl 0], μ)) rfl ⟨trivial, trivial⟩ ?_
      exact sr_ret rfl rfl rfl (Or.inl rfl) (hr 0 (by simp only [g_TM_isName, if_neg h1, if_neg h2]))
def v_TM_comesBefore (μ : sr_M) (i : Nat) (j : Nat) : Int32 := if ((μ.1 4 i 0) - (μ.1 4 j 0)) = 0 then (if 0 ≤ (v_TM_compareNames (μ.2 3 i 1) (μ.2 3 j 1)) then 0 else 1) else (if 0 ≤ ((μ.1 4 i 0) - (μ.1 4 j 0)) then 0 else 1)
def q_TM_comesBefore (μ : sr_M) (i : Nat) (j : Nat) : Prop := i < 16 ∧ j < 16
def p_TM_comesBefore : sr_F := fun vs μ => match vs with
  | [.inr (.inr (3, i)), .inr (.inr (3, j))] => some (q_TM_comesBefore μ i j, some (.inl (v_TM_comesBefore μ i j)), μ)
  | _ => none
def e_TM_comesBefore : sr_E := (sr_SC, sr_KS, (fun k => ([(20, 3, 2), (41, 3, 1)] : List (Nat × Nat × Nat)).lookup k, fun _ => none, fun _ => none, fun _ => none, fun k => ([(45, 0, 2, p_TM_compareNames)] : List (Nat × Nat × Nat × sr_F)).lookup k), sr_cd cd_TM_comesBefore, some .boolean)
theorem b_TM_comesBefore (μ : sr_M) (i : Nat) (j : Nat) : v_TM_comesBefore μ i j = 0 ∨ v_TM_comesBefore μ i j = 1 := by
  unfold v_TM_comesBefore
  repeat' split
  all_goals first | exact Or.inl rfl | exact Or.inr rfl | exact Or.inl rfl
set_option maxRecDepth 10000 in
theorem a_TM_comesBefore (μ : sr_M) (i : Nat) (j : Nat) (hq : q_TM_comesBefore μ i j) : sr_AW e_TM_comesBefore (fun r => r = (some (.inl (v_TM_comesBefore μ i j)), μ)) (sr_entry 3 [.inr (.inr (3, i)), .inr (.inr (3, j))] μ) := by
  have hq0 := hq
  obtain ⟨q1, q2⟩ : i < 16 ∧ j < 16 := hq
  refine sr_many 12 (t := (bif decide (((μ.1 4 i 0) - (μ.1 4 j 0)) = 0) then 30 else 18, [some (.inr (.inr (3, i))), some (.inr (.inr (3, j))), some (.inl ((μ.1 4 i 0) - (μ.1 4 j 0)))], [], μ)) rfl ⟨trivial, (show i < 16 by assumption), trivial, ⟨(show i < 16 by assumption), (show sr_in 0 9 by decide)⟩, trivial, (show j < 16 by assumption), trivial, ⟨(show j < 16 by assumption), (show sr_in 0 9 by decide)⟩, trivial, trivial, trivial, trivial, trivial⟩ ?_
  refine sr_brd (fun h1 => ?_) (fun h1 => ?_)
  · refine sr_many 6 (t := (bif decide (0 ≤ (v_TM_compareNames (μ.2 3 i 1) (μ.2 3 j 1))) then 48 else 44, [some (.inr (.inr (3, i))), some (.inr (.inr (3, j))), some (.inl ((μ.1 4 i 0) - (μ.1 4 j 0)))], [], μ)) rfl ⟨trivial, (show i < 16 by assumption), trivial, (show j < 16 by assumption), trivial, trivial, trivial⟩ ?_
    refine sr_brd (fun h2 => ?_) (fun h2 => ?_)
    · refine sr_many 1 (t := (49, [some (.inr (.inr (3, i))), some (.inr (.inr (3, j))), some (.inl ((μ.1 4 i 0) - (μ.1 4 j 0)))], [.inl 0], μ)) rfl ⟨trivial, trivial⟩ ?_
      exact sr_ret rfl rfl rfl (Or.inl rfl) (by simp only [v_TM_comesBefore, if_pos h1, if_pos h2])
    · refine sr_many 2 (t := (49, [some (.inr (.inr (3, i))), some (.inr (.inr (3, j))), some (.inl ((μ.1 4 i 0) - (μ.1 4 j 0)))], [.inl 1], μ)) rfl ⟨trivial, trivial, trivial⟩ ?_
      exact sr_ret rfl rfl rfl (Or.inr rfl) (by simp only [v_TM_comesBefore, if_pos h1, if_neg h2])
  · refine sr_many 2 (t := (bif decide (0 ≤ ((μ.1 4 i 0) - (μ.1 4 j 0))) then 26 else 22, [some (.inr (.inr (3, i))), some (.inr (.inr (3, j))), some (.inl ((μ.1 4 i 0) - (μ.1 4 j 0)))], [], μ)) rfl ⟨trivial, trivial, trivial⟩ ?_
    refine sr_brd (fun h2 => ?_) (fun h2 => ?_)
    · refine sr_many 2 (t := (49, [some (.inr (.inr (3, i))), some (.inr (.inr (3, j))), some (.inl ((μ.1 4 i 0) - (μ.1 4 j 0)))], [.inl 0], μ)) rfl ⟨trivial, trivial, trivial⟩ ?_
      exact sr_ret rfl rfl rfl (Or.inl rfl) (by simp only [v_TM_comesBefore, if_neg h1, if_pos h2])
    · refine sr_many 2 (t := (49, [some (.inr (.inr (3, i))), some (.inr (.inr (3, j))), some (.inl ((μ.1 4 i 0) - (μ.1 4 j 0)))], [.inl 1], μ)) rfl ⟨trivial, trivial, trivial⟩ ?_
      exact sr_ret rfl rfl rfl (Or.inr rfl) (by simp only [v_TM_comesBefore, if_neg h1, if_neg h2])
def v_TM_resultOf (μ : sr_M) (i : Nat) (j : Int32) : Int32 := if ¬ (((μ.1 4 i 8) >>> (((3 : Int32) * (j - j / (10 : Int32) * (10 : Int32))) &&& 31)) &&& (7 : Int32)) = 5 then (if (((μ.1 4 i 8) >>> (((3 : Int32) * (j - j / (10 : Int32) * (10 : Int32))) &&& 31)) &&& (7 : Int32)) = 0 then (if ¬ (((μ.1 4 i 8) >>> (((3 : Int32) * (j - j / (10 : Int32) * (10 : Int32))) &&& 31)) &&& (7 : Int32)) = ((μ.1 4 i 6) + (1 : Int32)) then (if ¬ (μ.1 4 i 6) = 0 then 2 else 1) else 1) else (if (((μ.1 4 i 8) >>> (((3 : Int32) * (j - j / (10 : Int32) * (10 : Int32))) &&& 31)) &&& (7 : Int32)) ≤ 5 then (if ¬ (((μ.1 4 i 8) >>> (((3 : Int32) * (j - j / (10 : Int32) * (10 : Int32))) &&& 31)) &&& (7 : Int32)) = ((μ.1 4 i 6) + (1 : Int32)) then 2 else (if ¬ (μ.1 4 i 6) = 0 then 1 else 2)) else (if ¬ (((μ.1 4 i 8) >>> (((3 : Int32) * (j - j / (10 : Int32) * (10 : Int32))) &&& 31)) &&& (7 : Int32)) = ((μ.1 4 i 6) + (1 : Int32)) then (if ¬ (μ.1 4 i 6) = 0 then 2 else 1) else 1))) else 3
def q_TM_resultOf (μ : sr_M) (i : Nat) (j : Int32) : Prop := i < 16
def p_TM_resultOf : sr_F := fun vs μ => match vs with
  | [.inr (.inr (3, i)), .inl j] => some (q_TM_resultOf μ i j, some (.inl (v_TM_resultOf μ i j)), μ)
  | _ => none
def e_TM_resultOf : sr_E := (sr_SC, sr_KS, (fun k => ([(20, 3, 2)] : List (Nat × Nat × Nat)).lookup k, fun _ => none, fun _ => none, fun _ => none, fun _ => none), sr_cd cd_TM_resultOf, some .int)
set_option maxRecDepth 10000 in
theorem a_TM_resultOf (μ : sr_M) (i : Nat) (j : Int32) (hq : q_TM_resultOf μ i j) : sr_AW e_TM_resultOf (fun r => r = (some (.inl (v_TM_resultOf μ i j)), μ)) (sr_entry 6 [.inr (.inr (3, i)), .inl j] μ) := by
  have q1 : i < 16 := hq
  refine sr_many 16 (t := (bif decide (¬ (((μ.1 4 i 8) >>> (((3 : Int32) * (j - j / (10 : Int32) * (10 : Int32))) &&& 31)) &&& (7 : Int32)) = 5) then 25 else 23, [some (.inr (.inr (3, i))), some (.inl j), some (.inl (((μ.1 4 i 8) >>> (((3 : Int32) * (j - j / (10 : Int32) * (10 : Int32))) &&& 31)) &&& (7 : Int32))), none, none, none], [], μ)) rfl ⟨trivial, (show i < 16 by assumption), trivial, ⟨(show i < 16 by assumption), (show sr_in 8 9 by decide)⟩, trivial, trivial, trivial, (show ¬ (10 : Int32) = 0 by decide), trivial, trivial, trivial, trivial, trivial, trivial, trivial, trivial, trivial⟩ ?_
  refine sr_brd (fun h1 => ?_) (fun h1 => ?_)
  · refine sr_many 7 (t := (bif decide ((((μ.1 4 i 8) >>> (((3 : Int32) * (j - j / (10 : Int32) * (10 : Int32))) &&& 31)) &&& (7 : Int32)) = 0) then 42 else 37, [some (.inr (.inr (3, i))), some (.inl j), some (.inl (((μ.1 4 i 8) >>> (((3 : Int32) * (j - j / (10 : Int32) * (10 : Int32))) &&& 31)) &&& (7 : Int32))), some (.inl (μ.1 4 i 6)), none, none], [], μ)) rfl ⟨trivial, (show i < 16 by assumption), trivial, ⟨(show i < 16 by assumption), (show sr_in 6 9 by decide)⟩, trivial, trivial, trivial, trivial⟩ ?_
    refine sr_brd (fun h2 => ?_) (fun h2 => ?_)
    · refine sr_many 8 (t := (bif decide (¬ (((μ.1 4 i 8) >>> (((3 : Int32) * (j - j / (10 : Int32) * (10 : Int32))) &&& 31)) &&& (7 : Int32)) = ((μ.1 4 i 6) + (1 : Int32))) then 60 else 56, [some (.inr (.inr (3, i))), some (.inl j), some (.inl (((μ.1 4 i 8) >>> (((3 : Int32) * (j - j / (10 : Int32) * (10 : Int32))) &&& 31)) &&& (7 : Int32))), some (.inl (μ.1 4 i 6)), some (.inl 1), none], [], μ)) rfl ⟨trivial, trivial, trivial, trivial, trivial, trivial, trivial, trivial, trivial⟩ ?_
      refine sr_brd (fun h3 => ?_) (fun h3 => ?_)
      · refine sr_many 4 (t := (bif decide (¬ (μ.1 4 i 6) = 0) then 75 else 67, [some (.inr (.inr (3, i))), some (.inl j), some (.inl (((μ.1 4 i 8) >>> (((3 : Int32) * (j - j / (10 : Int32) * (10 : Int32))) &&& 31)) &&& (7 : Int32))), some (.inl (μ.1 4 i 6)), some (.inl 1), some (.inl 0)], [], μ)) rfl ⟨trivial, trivial, trivial, trivial, trivial⟩ ?_
        refine sr_brd (fun h4 => ?_) (fun h4 => ?_)
        · refine sr_many 3 (t := (85, [some (.inr (.inr (3, i))), some (.inl j), some (.inl (((μ.1 4 i 8) >>> (((3 : Int32) * (j - j / (10 : Int32) * (10 : Int32))) &&& 31)) &&& (7 : Int32))), some (.inl (μ.1 4 i 6)), some (.inl 1), some (.inl 0)], [.inl 2], μ)) rfl ⟨trivial, trivial, trivial, trivial⟩ ?_
          exact sr_ret rfl rfl rfl trivial (by simp only [v_TM_resultOf, if_pos h1, if_pos h2, if_pos h3, if_pos h4])
        · refine sr_many 5 (t := (85, [some (.inr (.inr (3, i))), some (.inl j), some (.inl (((μ.1 4 i 8) >>> (((3 : Int32) * (j - j / (10 : Int32) * (10 : Int32))) &&& 31)) &&& (7 : Int32))), some (.inl (μ.1 4 i 6)), some (.inl 1), some (.inl 0)], [.inl 1], μ)) rfl ⟨trivial, trivial, trivial, trivial, trivial, trivial⟩ ?_
          exact sr_ret rfl rfl rfl trivial (by simp only [v_TM_resultOf, if_pos h1, if_pos h2, if_pos h3, if_neg h4])
      · refine sr_many 5 (t := (bif decide (¬ (μ.1 4 i 6) = 0) then 75 else 67, [some (.inr (.inr (3, i))), some (.inl j), some (.inl (((μ.1 4 i 8) >>> (((3 : Int32) * (j - j / (10 : Int32) * (10 : Int32))) &&& 31)) &&& (7 : Int32))), some (.inl (μ.1 4 i 6)), some (.inl 1), some (.inl 1)], [], μ)) rfl ⟨trivial, trivial, trivial, trivial, trivial, trivial⟩ ?_
        refine sr_brd (fun h4 => ?_) (fun h4 => ?_)
        · refine sr_many 4 (t := (85, [some (.inr (.inr (3, i))), some (.inl j), some (.inl (((μ.1 4 i 8) >>> (((3 : Int32) * (j - j / (10 : Int32) * (10 : Int32))) &&& 31)) &&& (7 : Int32))), some (.inl (μ.1 4 i 6)), some (.inl 1), some (.inl 1)], [.inl 1], μ)) rfl ⟨trivial, trivial, trivial, trivial, trivial⟩ ?_
          exact sr_ret rfl rfl rfl trivial (by simp only [v_TM_resultOf, if_pos h1, if_pos h2, if_neg h3, if_pos h4])
        · refine sr_many 5 (t := (85, [some (.inr (.inr (3, i))), some (.inl j), some (.inl (((μ.1 4 i 8) >>> (((3 : Int32) * (j - j / (10 : Int32) * (10 : Int32))) &&& 31)) &&& (7 : Int32))), some (.inl (μ.1 4 i 6)), some (.inl 1), some (.inl 1)], [.inl 1], μ)) rfl ⟨trivial, trivial, trivial, trivial, trivial, trivial⟩ ?_
          exact sr_ret rfl rfl rfl trivial (by simp only [v_TM_resultOf, if_pos h1, if_pos h2, if_neg h3, if_neg h4])
    · refine sr_many 3 (t := (bif decide ((((μ.1 4 i 8) >>> (((3 : Int32) * (j - j / (10 : Int32) * (10 : Int32))) &&& 31)) &&& (7 : Int32)) ≤ 5) then 46 else 42, [some (.inr (.inr (3, i))), some (.inl j), some (.inl (((μ.1 4 i 8) >>> (((3 : Int32) * (j - j / (10 : Int32) * (10 : Int32))) &&& 31)) &&& (7 : Int32))), some (.inl (μ.1 4 i 6)), none, none], [], μ)) rfl ⟨trivial, trivial, trivial, trivial⟩ ?_
      refine sr_brd (fun h3 => ?_) (fun h3 => ?_)
      · refine sr_many 7 (t := (bif decide (¬ (((μ.1 4 i 8) >>> (((3 : Int32) * (j - j / (10 : Int32) * (10 : Int32))) &&& 31)) &&& (7 : Int32)) = ((μ.1 4 i 6) + (1 : Int32))) then 60 else 56, [some (.inr (.inr (3, i))), some (.inl j), some (.inl (((μ.1 4 i 8) >>> (((3 : Int32) * (j - j / (10 : Int32) * (10 : Int32))) &&& 31)) &&& (7 : Int32))), some (.inl (μ.1 4 i 6)), some (.inl 0), none], [], μ)) rfl ⟨trivial, trivial, trivial, trivial, trivial, trivial, trivial, trivial⟩ ?_
        refine sr_brd (fun h4 => ?_) (fun h4 => ?_)
        · refine sr_many 4 (t := (bif decide (¬ (μ.1 4 i 6) = 0) then 75 else 67, [some (.inr (.inr (3, i))), some (.inl j), some (.inl (((μ.1 4 i 8) >>> (((3 : Int32) * (j - j / (10 : Int32) * (10 : Int32))) &&& 31)) &&& (7 : Int32))), some (.inl (μ.1 4 i 6)), some (.inl 0), some (.inl 0)], [], μ)) rfl ⟨trivial, trivial, trivial, trivial, trivial⟩ ?_
          refine sr_brd (fun h5 => ?_) (fun h5 => ?_)
          · refine sr_many 3 (t := (85, [some (.inr (.inr (3, i))), some (.inl j), some (.inl (((μ.1 4 i 8) >>> (((3 : Int32) * (j - j / (10 : Int32) * (10 : Int32))) &&& 31)) &&& (7 : Int32))), some (.inl (μ.1 4 i 6)), some (.inl 0), some (.inl 0)], [.inl 2], μ)) rfl ⟨trivial, trivial, trivial, trivial⟩ ?_
            exact sr_ret rfl rfl rfl trivial (by simp only [v_TM_resultOf, if_pos h1, if_neg h2, if_pos h3, if_pos h4, if_pos h5])
          · refine sr_many 3 (t := (85, [some (.inr (.inr (3, i))), some (.inl j), some (.inl (((μ.1 4 i 8) >>> (((3 : Int32) * (j - j / (10 : Int32) * (10 : Int32))) &&& 31)) &&& (7 : Int32))), some (.inl (μ.1 4 i 6)), some (.inl 0), some (.inl 0)], [.inl 2], μ)) rfl ⟨trivial, trivial, trivial, trivial⟩ ?_
            exact sr_ret rfl rfl rfl trivial (by simp only [v_TM_resultOf, if_pos h1, if_neg h2, if_pos h3, if_pos h4, if_neg h5])
        · refine sr_many 5 (t := (bif decide (¬ (μ.1 4 i 6) = 0) then 75 else 67, [some (.inr (.inr (3, i))), some (.inl j), some (.inl (((μ.1 4 i 8) >>> (((3 : Int32) * (j - j / (10 : Int32) * (10 : Int32))) &&& 31)) &&& (7 : Int32))), some (.inl (μ.1 4 i 6)), some (.inl 0), some (.inl 1)], [], μ)) rfl ⟨trivial, trivial, trivial, trivial, trivial, trivial⟩ ?_
          refine sr_brd (fun h5 => ?_) (fun h5 => ?_)
          · refine sr_many 4 (t := (85, [some (.inr (.inr (3, i))), some (.inl j), some (.inl (((μ.1 4 i 8) >>> (((3 : Int32) * (j - j / (10 : Int32) * (10 : Int32))) &&& 31)) &&& (7 : Int32))), some (.inl (μ.1 4 i 6)), some (.inl 0), some (.inl 1)], [.inl 1], μ)) rfl ⟨trivial, trivial, trivial, trivial, trivial⟩ ?_
            exact sr_ret rfl rfl rfl trivial (by simp only [v_TM_resultOf, if_pos h1, if_neg h2, if_pos h3, if_neg h4, if_pos h5])
          · refine sr_many 3 (t := (85, [some (.inr (.inr (3, i))), some (.inl j), some (.inl (((μ.1 4 i 8) >>> (((3 : Int32) * (j - j / (10 : Int32) * (10 : Int32))) &&& 31)) &&& (7 : Int32))), some (.inl (μ.1 4 i 6)), some (.inl 0), some (.inl 1)], [.inl 2], μ)) rfl ⟨trivial, trivial, trivial, trivial⟩ ?_
            exact sr_ret rfl rfl rfl trivial (by simp only [v_TM_resultOf, if_pos h1, if_neg h2, if_pos h3, if_neg h4, if_neg h5])
      · refine sr_many 8 (t := (bif decide (¬ (((μ.1 4 i 8) >>> (((3 : Int32) * (j - j / (10 : Int32) * (10 : Int32))) &&& 31)) &&& (7 : Int32)) = ((μ.1 4 i 6) + (1 : Int32))) then 60 else 56, [some (.inr (.inr (3, i))), some (.inl j), some (.inl (((μ.1 4 i 8) >>> (((3 : Int32) * (j - j / (10 : Int32) * (10 : Int32))) &&& 31)) &&& (7 : Int32))), some (.inl (μ.1 4 i 6)), some (.inl 1), none], [], μ)) rfl ⟨trivial, trivial, trivial, trivial, trivial, trivial, trivial, trivial, trivial⟩ ?_
        refine sr_brd (fun h4 => ?_) (fun h4 => ?_)
        · refine sr_many 4 (t := (bif decide (¬ (μ.1 4 i 6) = 0) then 75 else 67, [some (.inr (.inr (3, i))), some (.inl j), some (.inl (((μ.1 4 i 8) >>> (((3 : Int32) * (j - j / (10 : Int32) * (10 : Int32))) &&& 31)) &&& (7 : Int32))), some (.inl (μ.1 4 i 6)), some (.inl 1), some (.inl 0)], [], μ)) rfl ⟨trivial, trivial, trivial, trivial, trivial⟩ ?_
          refine sr_brd (fun h5 => ?_) (fun h5 => ?_)
          · refine sr_many 3 (t := (85, [some (.inr (.inr (3, i))), some (.inl j), some (.inl (((μ.1 4 i 8) >>> (((3 : Int32) * (j - j / (10 : Int32) * (10 : Int32))) &&& 31)) &&& (7 : Int32))), some (.inl (μ.1 4 i 6)), some (.inl 1), some (.inl 0)], [.inl 2], μ)) rfl ⟨trivial, trivial, trivial, trivial⟩ ?_
            exact sr_ret rfl rfl rfl trivial (by simp only [v_TM_resultOf, if_pos h1, if_neg h2, if_neg h3, if_pos h4, if_pos h5])
          · refine sr_many 5 (t := (85, [some (.inr (.inr (3, i))), some (.inl j), some (.inl (((μ.1 4 i 8) >>> (((3 : Int32) * (j - j / (10 : Int32) * (10 : Int32))) &&& 31)) &&& (7 : Int32))), some (.inl (μ.1 4 i 6)), some (.inl 1), some (.inl 0)], [.inl 1], μ)) rfl ⟨trivial, trivial, trivial, trivial, trivial, trivial⟩ ?_
            exact sr_ret rfl rfl rfl trivial (by simp only [v_TM_resultOf, if_pos h1, if_neg h2, if_neg h3, if_pos h4, if_neg h5])
        · refine sr_many 5 (t := (bif decide (¬ (μ.1 4 i 6) = 0) then 75 else 67, [some (.inr (.inr (3, i))), some (.inl j), some (.inl (((μ.1 4 i 8) >>> (((3 : Int32) * (j - j / (10 : Int32) * (10 : Int32))) &&& 31)) &&& (7 : Int32))), some (.inl (μ.1 4 i 6)), some (.inl 1), some (.inl 1)], [], μ)) rfl ⟨trivial, trivial, trivial, trivial, trivial, trivial⟩ ?_
          refine sr_brd (fun h5 => ?_) (fun h5 => ?_)
          · refine sr_many 4 (t := (85, [some (.inr (.inr (3, i))), some (.inl j), some (.inl (((μ.1 4 i 8) >>> (((3 : Int32) * (j - j / (10 : Int32) * (10 : Int32))) &&& 31)) &&& (7 : Int32))), some (.inl (μ.1 4 i 6)), some (.inl 1), some (.inl 1)], [.inl 1], μ)) rfl ⟨trivial, trivial, trivial, trivial, trivial⟩ ?_
            exact sr_ret rfl rfl rfl trivial (by simp only [v_TM_resultOf, if_pos h1, if_neg h2, if_neg h3, if_neg h4, if_pos h5])
          · refine sr_many 5 (t := (85, [some (.inr (.inr (3, i))), some (.inl j), some (.inl (((μ.1 4 i 8) >>> (((3 : Int32) * (j - j / (10 : Int32) * (10 : Int32))) &&& 31)) &&& (7 : Int32))), some (.inl (μ.1 4 i 6)), some (.inl 1), some (.inl 1)], [.inl 1], μ)) rfl ⟨trivial, trivial, trivial, trivial, trivial, trivial⟩ ?_
            exact sr_ret rfl rfl rfl trivial (by simp only [v_TM_resultOf, if_pos h1, if_neg h2, if_neg h3, if_neg h4, if_neg h5])
  · refine sr_many 1 (t := (24, [some (.inr (.inr (3, i))), some (.inl j), some (.inl (((μ.1 4 i 8) >>> (((3 : Int32) * (j - j / (10 : Int32) * (10 : Int32))) &&& 31)) &&& (7 : Int32))), none, none, none], [.inl 3], μ)) rfl ⟨trivial, trivial⟩ ?_
    exact sr_ret rfl rfl rfl trivial (by simp only [v_TM_resultOf, if_neg h1])
def v_PT_fits (μ : sr_M) (i : Nat) (c : Int32) : Int32 := if ¬ c = 42 then (if c < 97 then (if c = 46 then 1 else (if ¬ c = 124 then 0 else 1)) else (if c ≤ 122 then 1 else (if c = 46 then 1 else (if ¬ c = 124 then 0 else 1)))) else (if (μ.1 18 i 1) ≤ 0 then 0 else (if (μ.1 19 i (((μ.1 18 i 1) - (1 : Int32)).toNatClampNeg)) = 124 then 0 else (if (μ.1 19 i (((μ.1 18 i 1) - (1 : Int32)).toNatClampNeg)) = 42 then 0 else 1)))
def q_PT_fits (μ : sr_M) (i : Nat) (c : Int32) : Prop := i < 2 ∧ sr_cnt (μ.1 18 i 1) 12
def p_PT_fits : sr_F := fun vs μ => match vs with
  | [.inr (.inr (18, i)), .inl c] => some (q_PT_fits μ i c, some (.inl (v_PT_fits μ i c)), μ)
  | _ => none
def e_PT_fits : sr_E := (sr_SC, sr_KS, (fun k => ([(9, 9, 0), (13, 9, 1)] : List (Nat × Nat × Nat)).lookup k, fun _ => none, fun _ => none, fun _ => none, fun _ => none), sr_cd cd_PT_fits, some .boolean)
theorem b_PT_fits (μ : sr_M) (i : Nat) (c : Int32) : v_PT_fits μ i c = 0 ∨ v_PT_fits μ i c = 1 := by
  unfold v_PT_fits
  repeat' split
  all_goals first | exact Or.inl rfl | exact Or.inr rfl | exact Or.inl rfl
set_option maxRecDepth 10000 in
theorem a_PT_fits (μ : sr_M) (i : Nat) (c : Int32) (hq : q_PT_fits μ i c) : sr_AW e_PT_fits (fun r => r = (some (.inl (v_PT_fits μ i c)), μ)) (sr_entry 2 [.inr (.inr (18, i)), .inl c] μ) := by
  have hq0 := hq
  obtain ⟨q1, q2⟩ : i < 2 ∧ sr_cnt (μ.1 18 i 1) 12 := hq
  refine sr_many 3 (t := (bif decide (¬ c = 42) then 51 else 6, [some (.inr (.inr (18, i))), some (.inl c)], [], μ)) rfl ⟨trivial, trivial, trivial, trivial⟩ ?_
  refine sr_brd (fun h1 => ?_) (fun h1 => ?_)
  · refine sr_many 3 (t := (bif decide (c < 97) then 63 else 57, [some (.inr (.inr (18, i))), some (.inl c)], [], μ)) rfl ⟨trivial, trivial, trivial, trivial⟩ ?_
    refine sr_brd (fun h2 => ?_) (fun h2 => ?_)
    · refine sr_many 3 (t := (bif decide (c = 46) then 75 else 69, [some (.inr (.inr (18, i))), some (.inl c)], [], μ)) rfl ⟨trivial, trivial, trivial, trivial⟩ ?_
      refine sr_brd (fun h3 => ?_) (fun h3 => ?_)
      · refine sr_many 2 (t := (80, [some (.inr (.inr (18, i))), some (.inl c)], [.inl 1], μ)) rfl ⟨trivial, trivial, trivial⟩ ?_
        exact sr_ret rfl rfl rfl (Or.inr rfl) (by simp only [v_PT_fits, if_pos h1, if_pos h2, if_pos h3])
      · refine sr_many 3 (t := (bif decide (¬ c = 124) then 79 else 75, [some (.inr (.inr (18, i))), some (.inl c)], [], μ)) rfl ⟨trivial, trivial, trivial, trivial⟩ ?_
        refine sr_brd (fun h4 => ?_) (fun h4 => ?_)
        · refine sr_many 1 (t := (80, [some (.inr (.inr (18, i))), some (.inl c)], [.inl 0], μ)) rfl ⟨trivial, trivial⟩ ?_
          exact sr_ret rfl rfl rfl (Or.inl rfl) (by simp only [v_PT_fits, if_pos h1, if_pos h2, if_neg h3, if_pos h4])
        · refine sr_many 2 (t := (80, [some (.inr (.inr (18, i))), some (.inl c)], [.inl 1], μ)) rfl ⟨trivial, trivial, trivial⟩ ?_
          exact sr_ret rfl rfl rfl (Or.inr rfl) (by simp only [v_PT_fits, if_pos h1, if_pos h2, if_neg h3, if_neg h4])
    · refine sr_many 3 (t := (bif decide (c ≤ 122) then 75 else 63, [some (.inr (.inr (18, i))), some (.inl c)], [], μ)) rfl ⟨trivial, trivial, trivial, trivial⟩ ?_
      refine sr_brd (fun h3 => ?_) (fun h3 => ?_)
      · refine sr_many 2 (t := (80, [some (.inr (.inr (18, i))), some (.inl c)], [.inl 1], μ)) rfl ⟨trivial, trivial, trivial⟩ ?_
        exact sr_ret rfl rfl rfl (Or.inr rfl) (by simp only [v_PT_fits, if_pos h1, if_neg h2, if_pos h3])
      · refine sr_many 3 (t := (bif decide (c = 46) then 75 else 69, [some (.inr (.inr (18, i))), some (.inl c)], [], μ)) rfl ⟨trivial, trivial, trivial, trivial⟩ ?_
        refine sr_brd (fun h4 => ?_) (fun h4 => ?_)
        · refine sr_many 2 (t := (80, [some (.inr (.inr (18, i))), some (.inl c)], [.inl 1], μ)) rfl ⟨trivial, trivial, trivial⟩ ?_
          exact sr_ret rfl rfl rfl (Or.inr rfl) (by simp only [v_PT_fits, if_pos h1, if_neg h2, if_neg h3, if_pos h4])
        · refine sr_many 3 (t := (bif decide (¬ c = 124) then 79 else 75, [some (.inr (.inr (18, i))), some (.inl c)], [], μ)) rfl ⟨trivial, trivial, trivial, trivial⟩ ?_
          refine sr_brd (fun h5 => ?_) (fun h5 => ?_)
          · refine sr_many 1 (t := (80, [some (.inr (.inr (18, i))), some (.inl c)], [.inl 0], μ)) rfl ⟨trivial, trivial⟩ ?_
            exact sr_ret rfl rfl rfl (Or.inl rfl) (by simp only [v_PT_fits, if_pos h1, if_neg h2, if_neg h3, if_neg h4, if_pos h5])
          · refine sr_many 2 (t := (80, [some (.inr (.inr (18, i))), some (.inl c)], [.inl 1], μ)) rfl ⟨trivial, trivial, trivial⟩ ?_
            exact sr_ret rfl rfl rfl (Or.inr rfl) (by simp only [v_PT_fits, if_pos h1, if_neg h2, if_neg h3, if_neg h4, if_neg h5])
  · refine sr_many 3 (t := (bif decide ((μ.1 18 i 1) ≤ 0) then 49 else 13, [some (.inr (.inr (18, i))), some (.inl c)], [], μ)) rfl ⟨trivial, (show i < 2 by first | assumption | exact sr_pred_in q2 h2), trivial, trivial⟩ ?_
    refine sr_brd (fun h2 => ?_) (fun h2 => ?_)
    · refine sr_many 1 (t := (50, [some (.inr (.inr (18, i))), some (.inl c)], [.inl 0], μ)) rfl ⟨trivial, trivial⟩ ?_
      exact sr_ret rfl rfl rfl (Or.inl rfl) (by simp only [v_PT_fits, if_neg h1, if_pos h2])
    · refine sr_many 9 (t := (bif decide ((μ.1 19 i (((μ.1 18 i 1) - (1 : Int32)).toNatClampNeg)) = 124) then 49 else 29, [some (.inr (.inr (18, i))), some (.inl c)], [], μ)) rfl ⟨trivial, (show i < 2 by first | assumption | exact sr_pred_in q2 h2), trivial, (show i < 2 by first | assumption | exact sr_pred_in q2 h2), trivial, trivial, ⟨(show i < 2 by first | assumption | exact sr_pred_in q2 h2), (show sr_in ((μ.1 18 i 1) - (1 : Int32)) 12 by first | assumption | exact sr_pred_in q2 h2)⟩, trivial, trivial, trivial⟩ ?_
      refine sr_brd (fun h3 => ?_) (fun h3 => ?_)
      · refine sr_many 1 (t := (50, [some (.inr (.inr (18, i))), some (.inl c)], [.inl 0], μ)) rfl ⟨trivial, trivial⟩ ?_
        exact sr_ret rfl rfl rfl (Or.inl rfl) (by simp only [v_PT_fits, if_neg h1, if_neg h2, if_pos h3])
      · refine sr_many 9 (t := (bif decide ((μ.1 19 i (((μ.1 18 i 1) - (1 : Int32)).toNatClampNeg)) = 42) then 49 else 45, [some (.inr (.inr (18, i))), some (.inl c)], [], μ)) rfl ⟨trivial, (show i < 2 by first | assumption | exact sr_pred_in q2 h2), trivial, (show i < 2 by first | assumption | exact sr_pred_in q2 h2), trivial, trivial, ⟨(show i < 2 by first | assumption | exact sr_pred_in q2 h2), (show sr_in ((μ.1 18 i 1) - (1 : Int32)) 12 by first | assumption | exact sr_pred_in q2 h2)⟩, trivial, trivial, trivial⟩ ?_
        refine sr_brd (fun h4 => ?_) (fun h4 => ?_)
        · refine sr_many 1 (t := (50, [some (.inr (.inr (18, i))), some (.inl c)], [.inl 0], μ)) rfl ⟨trivial, trivial⟩ ?_
          exact sr_ret rfl rfl rfl (Or.inl rfl) (by simp only [v_PT_fits, if_neg h1, if_neg h2, if_neg h3, if_pos h4])
        · refine sr_many 2 (t := (50, [some (.inr (.inr (18, i))), some (.inl c)], [.inl 1], μ)) rfl ⟨trivial, trivial, trivial⟩ ?_
          exact sr_ret rfl rfl rfl (Or.inr rfl) (by simp only [v_PT_fits, if_neg h1, if_neg h2, if_neg h3, if_neg h4])
def v_PT_append (μ : sr_M) (i : Nat) (c : Int32) : Int32 := if (μ.1 18 i 1) = 12 then 0 else (if ¬ (v_PT_fits μ i c) = 0 then 1 else 0)
def m_PT_append (μ : sr_M) (i : Nat) (c : Int32) : sr_M := if (μ.1 18 i 1) = 12 then μ else (if ¬ (v_PT_fits μ i c) = 0 then (sr_seti (sr_seti μ 19 i ((μ.1 18 i 1).toNatClampNeg) (vp_nar .char c)) 18 i 1 ((μ.1 18 i 1) + (1 : Int32))) else μ)
def q_PT_append (μ : sr_M) (i : Nat) (c : Int32) : Prop := i < 2 ∧ sr_cnt (μ.1 18 i 1) 12
def p_PT_append : sr_F := fun vs μ => match vs with
  | [.inr (.inr (18, i)), .inl c] => some (q_PT_append μ i c, some (.inl (v_PT_append μ i c)), m_PT_append μ i c)
  | _ => none
def e_PT_append : sr_E := (sr_SC, sr_KS, (fun k => ([(9, 9, 0), (13, 9, 1)] : List (Nat × Nat × Nat)).lookup k, fun _ => none, fun _ => none, fun _ => none, fun k => ([(17, 10, 1, p_PT_fits)] : List (Nat × Nat × Nat × sr_F)).lookup k), sr_cd cd_PT_append, some .boolean)
theorem b_PT_append (μ : sr_M) (i : Nat) (c : Int32) : v_PT_append μ i c = 0 ∨ v_PT_append μ i c = 1 := by
  unfold v_PT_append
  repeat' split
  all_goals first | exact Or.inl rfl | exact Or.inr rfl | exact Or.inl rfl
set_option maxRecDepth 10000 in
theorem a_PT_append (μ : sr_M) (i : Nat) (c : Int32) (hq : q_PT_append μ i c) : sr_AW e_PT_append (fun r => r = (some (.inl (v_PT_append μ i c)), m_PT_append μ i c)) (sr_entry 2 [.inr (.inr (18, i)), .inl c] μ) := by
  have hq0 := hq
  obtain ⟨q1, q2⟩ : i < 2 ∧ sr_cnt (μ.1 18 i 1) 12 := hq
  refine sr_many 4 (t := (bif decide ((μ.1 18 i 1) = 12) then 17 else 9, [some (.inr (.inr (18, i))), some (.inl c)], [], μ)) rfl ⟨trivial, (show i < 2 by first | assumption | exact sr_cnt_in q2 h1), trivial, trivial, trivial⟩ ?_
  refine sr_brd (fun h1 => ?_) (fun h1 => ?_)
  · refine sr_many 1 (t := (18, [some (.inr (.inr (18, i))), some (.inl c)], [.inl 0], μ)) rfl ⟨trivial, trivial⟩ ?_
    exact sr_ret rfl rfl rfl (Or.inl rfl) (by simp only [v_PT_append, m_PT_append, if_pos h1])
  · refine sr_many 4 (t := (bif decide (¬ (v_PT_fits μ i c) = 0) then 19 else 17, [some (.inr (.inr (18, i))), some (.inl c)], [], μ)) rfl ⟨trivial, trivial, ⟨(show i < 2 by first | assumption | exact sr_cnt_in q2 h1), ⟨(show i < 2 by first | assumption | exact sr_cnt_in q2 h1), (show sr_cnt (μ.1 18 i 1) 12 by first | assumption | exact sr_cnt_in q2 h1)⟩⟩, trivial, trivial⟩ ?_
    refine sr_brd (fun h2 => ?_) (fun h2 => ?_)
    · refine sr_many 13 (t := (40, [some (.inr (.inr (18, i))), some (.inl c)], [.inl 1], (sr_seti (sr_seti μ 19 i ((μ.1 18 i 1).toNatClampNeg) (vp_nar .char c)) 18 i 1 ((μ.1 18 i 1) + (1 : Int32))))) rfl ⟨trivial, (show i < 2 by first | assumption | exact sr_cnt_in q2 h1), trivial, (show i < 2 by first | assumption | exact sr_cnt_in q2 h1), trivial, ⟨(show i < 2 by first | assumption | exact sr_cnt_in q2 h1), (show sr_in (μ.1 18 i 1) 12 by first | assumption | exact sr_cnt_in q2 h1)⟩, trivial, trivial, (show i < 2 by first | assumption | exact sr_cnt_in q2 h1), trivial, trivial, (show i < 2 by first | assumption | exact sr_cnt_in q2 h1), trivial, trivial⟩ ?_
      exact sr_ret rfl rfl rfl (Or.inr rfl) (by simp only [v_PT_append, m_PT_append, if_neg h1, if_pos h2])
    · refine sr_many 1 (t := (18, [some (.inr (.inr (18, i))), some (.inl c)], [.inl 0], μ)) rfl ⟨trivial, trivial⟩ ?_
      exact sr_ret rfl rfl rfl (Or.inl rfl) (by simp only [v_PT_append, m_PT_append, if_neg h1, if_neg h2])
def f_PT_afterPiece (rc : Int32) (c : Int32) (sd : Int32) (nm : Int64) (nl : Int32)  : Nat → Int32 → Int32 := fun k a => if c = 46 then (if sd = 0 then (if (v_SR_holds rc (nI k)) = 0 then a else (a ||| ((1 : Int32) <<< (((nI k) + (1 : Int32)) &&& 31)))) else (if (v_SR_holds a (nI k)) = 0 then a else (a ||| ((1 : Int32) <<< (((nI k) + (1 : Int32)) &&& 31))))) else (if ¬ (v_TM_letterAt nm (nI k)) = ((c - (97 : Int32)) + (1 : Int32)) then a else (if sd = 0 then (if (v_SR_holds rc (nI k)) = 0 then a else (a ||| ((1 : Int32) <<< (((nI k) + (1 : Int32)) &&& 31)))) else (if (v_SR_holds a (nI k)) = 0 then a else (a ||| ((1 : Int32) <<< (((nI k) + (1 : Int32)) &&& 31))))))
def v_PT_afterPiece (rc : Int32) (c : Int32) (sd : Int32) (nm : Int64) (nl : Int32) : Int32 := if sd = 0 then (sr_it (f_PT_afterPiece rc c sd nm nl) 0 nl.toNatClampNeg) else (sr_it (f_PT_afterPiece rc c sd nm nl) rc nl.toNatClampNeg)
def q_PT_afterPiece (rc : Int32) (c : Int32) (sd : Int32) (nm : Int64) (nl : Int32) : Prop := sr_cnt nl 8
def p_PT_afterPiece : sr_F := fun vs μ => match vs with
  | [.inl rc, .inl c, .inl sd, .inr (.inl nm), .inl nl] => some (q_PT_afterPiece rc c sd nm nl, some (.inl (v_PT_afterPiece rc c sd nm nl)), μ)
  | _ => none
def e_PT_afterPiece : sr_E := (sr_SC, sr_KS, (fun _ => none, fun _ => none, fun _ => none, fun _ => none, fun k => ([(27, 0, 2, p_SR_holds), (37, 0, 2, p_TM_letterAt)] : List (Nat × Nat × Nat × sr_F)).lookup k), sr_cd cd_PT_afterPiece, some .int)
set_option maxRecDepth 10000 in
theorem a_PT_afterPiece (μ : sr_M) (rc : Int32) (c : Int32) (sd : Int32) (nm : Int64) (nl : Int32) (hq : q_PT_afterPiece rc c sd nm nl) : sr_AW e_PT_afterPiece (fun r => r = (some (.inl (v_PT_afterPiece rc c sd nm nl)), μ)) (sr_entry 9 [.inl rc, .inl c, .inl sd, .inr (.inl nm), .inl nl] μ) := by
  have q1 : sr_cnt nl 8 := hq
  refine sr_many 2 (t := (bif decide (sd = 0) then 8 else 4, [some (.inl rc), some (.inl c), some (.inl sd), some (.inr (.inl nm)), none, some (.inl nl), none, none, none], [], μ)) rfl ⟨trivial, trivial, trivial⟩ ?_
  refine sr_brd (fun h1 => ?_) (fun h1 => ?_)
  · refine sr_many 4 (t := (14, [some (.inl rc), some (.inl c), some (.inl sd), some (.inr (.inl nm)), none, some (.inl nl), some (.inl 0), some (.inl 0), none], [], μ)) rfl ⟨trivial, trivial, trivial, trivial, trivial⟩ ?_
    refine sr_forT (α := Int32) (fun k a => (14, [some (.inl rc), some (.inl c), some (.inl sd), some (.inr (.inl nm)), none, some (.inl nl), some (.inl a), some (.inl (nI k)), none], [], μ)) (f_PT_afterPiece rc c sd nm nl) 0 nl.toNatClampNeg (fun k hk a w => ?_) ?_
    · have hbk : k < 8 := sr_cnt_lt q1 hk
      have hck : (nI k).toNatClampNeg = k := sr_clN 8 hbk (by decide)
      have hink : sr_in (nI k) 8 := sr_inN 8 hbk (by decide)
      have hcbk : (nI k).toNatClampNeg < 8 := by rw [hck]; exact hbk
      refine sr_many 3 (t := (bif decide (nl ≤ (nI k)) then 89 else 21, [some (.inl rc), some (.inl c), some (.inl sd), some (.inr (.inl nm)), none, some (.inl nl), some (.inl a), some (.inl (nI k)), none], [], μ)) rfl ⟨trivial, trivial, trivial, trivial⟩ ?_
      refine sr_brd (fun h => absurd h (by exact sr_cnt_nlt q1 (by decide) hk)) (fun _ => ?_)
      refine sr_many 3 (t := (bif decide (c = 46) then 42 else 27, [some (.inl rc), some (.inl c), some (.inl sd), some (.inr (.inl nm)), none, some (.inl nl), some (.inl a), some (.inl (nI k)), none], [], μ)) rfl ⟨trivial, trivial, trivial, trivial⟩ ?_
      refine sr_brd (fun h1 => ?_) (fun h1 => ?_)
      · refine sr_many 7 (t := (bif decide (sd = 0) then 63 else 58, [some (.inl rc), some (.inl c), some (.inl sd), some (.inr (.inl nm)), none, some (.inl nl), some (.inl a), some (.inl (nI k)), some (.inl 1)], [], μ)) rfl ⟨trivial, trivial, trivial, trivial, trivial, trivial, trivial, trivial⟩ ?_
        refine sr_brd (fun h2 => ?_) (fun h2 => ?_)
        · refine sr_many 4 (t := (bif decide ((v_SR_holds rc (nI k)) = 0) then 83 else 72, [some (.inl rc), some (.inl c), some (.inl sd), some (.inr (.inl nm)), none, some (.inl nl), some (.inl a), some (.inl (nI k)), some (.inl 1)], [], μ)) rfl ⟨trivial, trivial, trivial, trivial, trivial⟩ ?_
          refine sr_brd (fun h3 => ?_) (fun h3 => ?_)
          · refine sr_many 2 (t := (14, [some (.inl rc), some (.inl c), some (.inl sd), some (.inr (.inl nm)), none, some (.inl nl), some (.inl a), some (.inl ((nI k) + 1)), some (.inl 1)], [], μ)) rfl ⟨trivial, trivial, trivial⟩ ?_
            try simp only [hck] at h1 h2 h3
            try simp only [hck]
            refine sr_forget [some (.inl rc), some (.inl c), some (.inl sd), some (.inr (.inl nm)), none, some (.inl nl), some (.inl a), some (.inl ((nI k) + 1)), none] (by simp [sr_sub]) ?_
            simp only [f_PT_afterPiece, if_pos h1, if_pos h2, if_pos h3, nI_succ] at w
            exact w
          · refine sr_many 10 (t := (14, [some (.inl rc), some (.inl c), some (.inl sd), some (.inr (.inl nm)), none, some (.inl nl), some (.inl (a ||| ((1 : Int32) <<< (((nI k) + (1 : Int32)) &&& 31)))), some (.inl ((nI k) + 1)), some (.inl 1)], [], μ)) rfl ⟨trivial, trivial, trivial, trivial, trivial, trivial, trivial, trivial, trivial, trivial, trivial⟩ ?_
            try simp only [hck] at h1 h2 h3
            try simp only [hck]
            refine sr_forget [some (.inl rc), some (.inl c), some (.inl sd), some (.inr (.inl nm)), none, some (.inl nl), some (.inl (a ||| ((1 : Int32) <<< (((nI k) + (1 : Int32)) &&& 31)))), some (.inl ((nI k) + 1)), none] (by simp [sr_sub]) ?_
            simp only [f_PT_afterPiece, if_pos h1, if_pos h2, if_neg h3, nI_succ] at w
            exact w
        · refine sr_many 5 (t := (bif decide ((v_SR_holds a (nI k)) = 0) then 83 else 72, [some (.inl rc), some (.inl c), some (.inl sd), some (.inr (.inl nm)), none, some (.inl nl), some (.inl a), some (.inl (nI k)), some (.inl 1)], [], μ)) rfl ⟨trivial, trivial, trivial, trivial, trivial, trivial⟩ ?_
          refine sr_brd (fun h3 => ?_) (fun h3 => ?_)
          · refine sr_many 2 (t := (14, [some (.inl rc), some (.inl c), some (.inl sd), some (.inr (.inl nm)), none, some (.inl nl), some (.inl a), some (.inl ((nI k) + 1)), some (.inl 1)], [], μ)) rfl ⟨trivial, trivial, trivial⟩ ?_
            try simp only [hck] at h1 h2 h3
            try simp only [hck]
            refine sr_forget [some (.inl rc), some (.inl c), some (.inl sd), some (.inr (.inl nm)), none, some (.inl nl), some (.inl a), some (.inl ((nI k) + 1)), none] (by simp [sr_sub]) ?_
            simp only [f_PT_afterPiece, if_pos h1, if_neg h2, if_pos h3, nI_succ] at w
            exact w
          · refine sr_many 10 (t := (14, [some (.inl rc), some (.inl c), some (.inl sd), some (.inr (.inl nm)), none, some (.inl nl), some (.inl (a ||| ((1 : Int32) <<< (((nI k) + (1 : Int32)) &&& 31)))), some (.inl ((nI k) + 1)), some (.inl 1)], [], μ)) rfl ⟨trivial, trivial, trivial, trivial, trivial, trivial, trivial, trivial, trivial, trivial, trivial⟩ ?_
            try simp only [hck] at h1 h2 h3
            try simp only [hck]
            refine sr_forget [some (.inl rc), some (.inl c), some (.inl sd), some (.inr (.inl nm)), none, some (.inl nl), some (.inl (a ||| ((1 : Int32) <<< (((nI k) + (1 : Int32)) &&& 31)))), some (.inl ((nI k) + 1)), none] (by simp [sr_sub]) ?_
            simp only [f_PT_afterPiece, if_pos h1, if_neg h2, if_neg h3, nI_succ] at w
            exact w
      · refine sr_many 9 (t := (bif decide (¬ (v_TM_letterAt nm (nI k)) = ((c - (97 : Int32)) + (1 : Int32))) then 46 else 42, [some (.inl rc), some (.inl c), some (.inl sd), some (.inr (.inl nm)), none, some (.inl nl), some (.inl a), some (.inl (nI k)), none], [], μ)) rfl ⟨trivial, trivial, trivial, trivial, trivial, trivial, trivial, trivial, trivial, trivial⟩ ?_
        refine sr_brd (fun h2 => ?_) (fun h2 => ?_)
        · refine sr_many 6 (t := (14, [some (.inl rc), some (.inl c), some (.inl sd), some (.inr (.inl nm)), none, some (.inl nl), some (.inl a), some (.inl ((nI k) + 1)), some (.inl 0)], [], μ)) rfl ⟨trivial, trivial, trivial, trivial, trivial, trivial, trivial⟩ ?_
          try simp only [hck] at h1 h2
          try simp only [hck]
          refine sr_forget [some (.inl rc), some (.inl c), some (.inl sd), some (.inr (.inl nm)), none, some (.inl nl), some (.inl a), some (.inl ((nI k) + 1)), none] (by simp [sr_sub]) ?_
          simp only [f_PT_afterPiece, if_neg h1, if_pos h2, nI_succ] at w
          exact w
        · refine sr_many 7 (t := (bif decide (sd = 0) then 63 else 58, [some (.inl rc), some (.inl c), some (.inl sd), some (.inr (.inl nm)), none, some (.inl nl), some (.inl a), some (.inl (nI k)), some (.inl 1)], [], μ)) rfl ⟨trivial, trivial, trivial, trivial, trivial, trivial, trivial, trivial⟩ ?_
          refine sr_brd (fun h3 => ?_) (fun h3 => ?_)
          · refine sr_many 4 (t := (bif decide ((v_SR_holds rc (nI k)) = 0) then 83 else 72, [some (.inl rc), some (.inl c), some (.inl sd), some (.inr (.inl nm)), none, some (.inl nl), some (.inl a), some (.inl (nI k)), some (.inl 1)], [], μ)) rfl ⟨trivial, trivial, trivial, trivial, trivial⟩ ?_
            refine sr_brd (fun h4 => ?_) (fun h4 => ?_)
            · refine sr_many 2 (t := (14, [some (.inl rc), some (.inl c), some (.inl sd), some (.inr (.inl nm)), none, some (.inl nl), some (.inl a), some (.inl ((nI k) + 1)), some (.inl 1)], [], μ)) rfl ⟨trivial, trivial, trivial⟩ ?_
              try simp only [hck] at h1 h2 h3 h4
              try simp only [hck]
              refine sr_forget [some (.inl rc), some (.inl c), some (.inl sd), some (.inr (.inl nm)), none, some (.inl nl), some (.inl a), some (.inl ((nI k) + 1)), none] (by simp [sr_sub]) ?_
              simp only [f_PT_afterPiece, if_neg h1, if_neg h2, if_pos h3, if_pos h4, nI_succ] at w
              exact w
            · refine sr_many 10 (t := (14, [some (.inl rc), some (.inl c), some (.inl sd), some (.inr (.inl nm)), none, some (.inl nl), some (.inl (a ||| ((1 : Int32) <<< (((nI k) + (1 : Int32)) &&& 31)))), some (.inl ((nI k) + 1)), some (.inl 1)], [], μ)) rfl ⟨trivial, trivial, trivial, trivial, trivial, trivial, trivial, trivial, trivial, trivial, trivial⟩ ?_
              try simp only [hck] at h1 h2 h3 h4
              try simp only [hck]
              refine sr_forget [some (.inl rc), some (.inl c), some (.inl sd), some (.inr (.inl nm)), none, some (.inl nl), some (.inl (a ||| ((1 : Int32) <<< (((nI k) + (1 : Int32)) &&& 31)))), some (.inl ((nI k) + 1)), none] (by simp [sr_sub]) ?_
              simp only [f_PT_afterPiece, if_neg h1, if_neg h2, if_pos h3, if_neg h4, nI_succ] at w
              exact w
          · refine sr_many 5 (t := (bif decide ((v_SR_holds a (nI k)) = 0) then 83 else 72, [some (.inl rc), some (.inl c), some (.inl sd), some (.inr (.inl nm)), none, some (.inl nl), some (.inl a), some (.inl (nI k)), some (.inl 1)], [], μ)) rfl ⟨trivial, trivial, trivial, trivial, trivial, trivial⟩ ?_
            refine sr_brd (fun h4 => ?_) (fun h4 => ?_)
            · refine sr_many 2 (t := (14, [some (.inl rc), some (.inl c), some (.inl sd), some (.inr (.inl nm)), none, some (.inl nl), some (.inl a), some (.inl ((nI k) + 1)), some (.inl 1)], [], μ)) rfl ⟨trivial, trivial, trivial⟩ ?_
              try simp only [hck] at h1 h2 h3 h4
              try simp only [hck]
              refine sr_forget [some (.inl rc), some (.inl c), some (.inl sd), some (.inr (.inl nm)), none, some (.inl nl), some (.inl a), some (.inl ((nI k) + 1)), none] (by simp [sr_sub]) ?_
              simp only [f_PT_afterPiece, if_neg h1, if_neg h2, if_neg h3, if_pos h4, nI_succ] at w
              exact w
            · refine sr_many 10 (t := (14, [some (.inl rc), some (.inl c), some (.inl sd), some (.inr (.inl nm)), none, some (.inl nl), some (.inl (a ||| ((1 : Int32) <<< (((nI k) + (1 : Int32)) &&& 31)))), some (.inl ((nI k) + 1)), some (.inl 1)], [], μ)) rfl ⟨trivial, trivial, trivial, trivial, trivial, trivial, trivial, trivial, trivial, trivial, trivial⟩ ?_
              try simp only [hck] at h1 h2 h3 h4
              try simp only [hck]
              refine sr_forget [some (.inl rc), some (.inl c), some (.inl sd), some (.inr (.inl nm)), none, some (.inl nl), some (.inl (a ||| ((1 : Int32) <<< (((nI k) + (1 : Int32)) &&& 31)))), some (.inl ((nI k) + 1)), none] (by simp [sr_sub]) ?_
              simp only [f_PT_afterPiece, if_neg h1, if_neg h2, if_neg h3, if_neg h4, nI_succ] at w
              exact w
    · skip
      refine sr_many 3 (t := (bif decide (nl ≤ (nI nl.toNatClampNeg)) then 89 else 21, [some (.inl rc), some (.inl c), some (.inl sd), some (.inr (.inl nm)), none, some (.inl nl), some (.inl (sr_it (f_PT_afterPiece rc c sd nm nl) 0 nl.toNatClampNeg)), some (.inl (nI nl.toNatClampNeg)), none], [], μ)) rfl ⟨trivial, trivial, trivial, trivial⟩ ?_
      refine sr_brd (fun _ => ?_) (fun h => absurd (by exact sr_cnt_le q1) h)
      refine sr_many 1 (t := (91, [some (.inl rc), some (.inl c), some (.inl sd), some (.inr (.inl nm)), none, some (.inl nl), some (.inl (sr_it (f_PT_afterPiece rc c sd nm nl) 0 nl.toNatClampNeg)), some (.inl (nI nl.toNatClampNeg)), none], [.inl (sr_it (f_PT_afterPiece rc c sd nm nl) 0 nl.toNatClampNeg)], μ)) rfl ⟨trivial, trivial⟩ ?_
      exact sr_ret rfl rfl rfl trivial (by simp only [v_PT_afterPiece, if_pos h1])
  · refine sr_many 5 (t := (14, [some (.inl rc), some (.inl c), some (.inl sd), some (.inr (.inl nm)), none, some (.inl nl), some (.inl rc), some (.inl 0), none], [], μ)) rfl ⟨trivial, trivial, trivial, trivial, trivial, trivial⟩ ?_
    refine sr_forT (α := Int32) (fun k a => (14, [some (.inl rc), some (.inl c), some (.inl sd), some (.inr (.inl nm)), none, some (.inl nl), some (.inl a), some (.inl (nI k)), none], [], μ)) (f_PT_afterPiece rc c sd nm nl) rc nl.toNatClampNeg (fun k hk a w => ?_) ?_
    · have hbk : k < 8 := sr_cnt_lt q1 hk
      have hck : (nI k).toNatClampNeg = k := sr_clN 8 hbk (by decide)
      have hink : sr_in (nI k) 8 := sr_inN 8 hbk (by decide)
      have hcbk : (nI k).toNatClampNeg < 8 := by rw [hck]; exact hbk
      refine sr_many 3 (t := (bif decide (nl ≤ (nI k)) then 89 else 21, [some (.inl rc), some (.inl c), some (.inl sd), some (.inr (.inl nm)), none, some (.inl nl), some (.inl a), some (.inl (nI k)), none], [], μ)) rfl ⟨trivial, trivial, trivial, trivial⟩ ?_
      refine sr_brd (fun h => absurd h (by exact sr_cnt_nlt q1 (by decide) hk)) (fun _ => ?_)
      refine sr_many 3 (t := (bif decide (c = 46) then 42 else 27, [some (.inl rc), some (.inl c), some (.inl sd), some (.inr (.inl nm)), none, some (.inl nl), some (.inl a), some (.inl (nI k)), none], [], μ)) rfl ⟨trivial, trivial, trivial, trivial⟩ ?_
      refine sr_brd (fun h1 => ?_) (fun h1 => ?_)
      · refine sr_many 7 (t := (bif decide (sd = 0) then 63 else 58, [some (.inl rc), some (.inl c), some (.inl sd), some (.inr (.inl nm)), none, some (.inl nl), some (.inl a), some (.inl (nI k)), some (.inl 1)], [], μ)) rfl ⟨trivial, trivial, trivial, trivial, trivial, trivial, trivial, trivial⟩ ?_
        refine sr_brd (fun h2 => ?_) (fun h2 => ?_)
        · refine sr_many 4 (t := (bif decide ((v_SR_holds rc (nI k)) = 0) then 83 else 72, [some (.inl rc), some (.inl c), some (.inl sd), some (.inr (.inl nm)), none, some (.inl nl), some (.inl a), some (.inl (nI k)), some (.inl 1)], [], μ)) rfl ⟨trivial, trivial, trivial, trivial, trivial⟩ ?_
          refine sr_brd (fun h3 => ?_) (fun h3 => ?_)
          · refine sr_many 2 (t := (14, [some (.inl rc), some (.inl c), some (.inl sd), some (.inr (.inl nm)), none, some (.inl nl), some (.inl a), some (.inl ((nI k) + 1)), some (.inl 1)], [], μ)) rfl ⟨trivial, trivial, trivial⟩ ?_
            try simp only [hck] at h1 h2 h3
            try simp only [hck]
            refine sr_forget [some (.inl rc), some (.inl c), some (.inl sd), some (.inr (.inl nm)), none, some (.inl nl), some (.inl a), some (.inl ((nI k) + 1)), none] (by simp [sr_sub]) ?_
            simp only [f_PT_afterPiece, if_pos h1, if_pos h2, if_pos h3, nI_succ] at w
            exact w
          · refine sr_many 10 (t := (14, [some (.inl rc), some (.inl c), some (.inl sd), some (.inr (.inl nm)), none, some (.inl nl), some (.inl (a ||| ((1 : Int32) <<< (((nI k) + (1 : Int32)) &&& 31)))), some (.inl ((nI k) + 1)), some (.inl 1)], [], μ)) rfl ⟨trivial, trivial, trivial, trivial, trivial, trivial, trivial, trivial, trivial, trivial, trivial⟩ ?_
            try simp only [hck] at h1 h2 h3
            try simp only [hck]
            refine sr_forget [some (.inl rc), some (.inl c), some (.inl sd), some (.inr (.inl nm)), none, some (.inl nl), some (.inl (a ||| ((1 : Int32) <<< (((nI k) + (1 : Int32)) &&& 31)))), some (.inl ((nI k) + 1)), none] (by simp [sr_sub]) ?_
            simp only [f_PT_afterPiece, if_pos h1, if_pos h2, if_neg h3, nI_succ] at w
            exact w
        · refine sr_many 5 (t := (bif decide ((v_SR_holds a (nI k)) = 0) then 83 else 72, [some (.inl rc), some (.inl c), some (.inl sd), some (.inr (.inl nm)), none, some (.inl nl), some (.inl a), some (.inl (nI k)), some (.inl 1)], [], μ)) rfl ⟨trivial, trivial, trivial, trivial, trivial, trivial⟩ ?_
          refine sr_brd (fun h3 => ?_) (fun h3 => ?_)
          · refine sr_many 2 (t := (14, [some (.inl rc), some (.inl c), some (.inl sd), some (.inr (.inl nm)), none, some (.inl nl), some (.inl a), some (.inl ((nI k) + 1)), some (.inl 1)], [], μ)) rfl ⟨trivial, trivial, trivial⟩ ?_
            try simp only [hck] at h1 h2 h3
            try simp only [hck]
            refine sr_forget [some (.inl rc), some (.inl c), some (.inl sd), some (.inr (.inl nm)), none, some (.inl nl), some (.inl a), some (.inl ((nI k) + 1)), none] (by simp [sr_sub]) ?_
            simp only [f_PT_afterPiece, if_pos h1, if_neg h2, if_pos h3, nI_succ] at w
            exact w
          · refine sr_many 10 (t := (14, [some (.inl rc), some (.inl c), some (.inl sd), some (.inr (.inl nm)), none, some (.inl nl), some (.inl (a ||| ((1 : Int32) <<< (((nI k) + (1 : Int32)) &&& 31)))), some (.inl ((nI k) + 1)), some (.inl 1)], [], μ)) rfl ⟨trivial, trivial, trivial, trivial, trivial, trivial, trivial, trivial, trivial, trivial, trivial⟩ ?_
            try simp only [hck] at h1 h2 h3
            try simp only [hck]
            refine sr_forget [some (.inl rc), some (.inl c), some (.inl sd), some (.inr (.inl nm)), none, some (.inl nl), some (.inl (a ||| ((1 : Int32) <<< (((nI k) + (1 : Int32)) &&& 31)))), some (.inl ((nI k) + 1)), none] (by simp [sr_sub]) ?_
            simp only [f_PT_afterPiece, if_pos h1, if_neg h2, if_neg h3, nI_succ] at w
            exact w
      · refine sr_many 9 (t := (bif decide (¬ (v_TM_letterAt nm (nI k)) = ((c - (97 : Int32)) + (1 : Int32))) then 46 else 42, [some (.inl rc), some (.inl c), some (.inl sd), some (.inr (.inl nm)), none, some (.inl nl), some (.inl a), some (.inl (nI k)), none], [], μ)) rfl ⟨trivial, trivial, trivial, trivial, trivial, trivial, trivial, trivial, trivial, trivial⟩ ?_
        refine sr_brd (fun h2 => ?_) (fun h2 => ?_)
        · refine sr_many 6 (t := (14, [some (.inl rc), some (.inl c), some (.inl sd), some (.inr (.inl nm)), none, some (.inl nl), some (.inl a), some (.inl ((nI k) + 1)), some (.inl 0)], [], μ)) rfl ⟨trivial, trivial, trivial, trivial, trivial, trivial, trivial⟩ ?_
          try simp only [hck] at h1 h2
          try simp only [hck]
          refine sr_forget [some (.inl rc), some (.inl c), some (.inl sd), some (.inr (.inl nm)), none, some (.inl nl), some (.inl a), some (.inl ((nI k) + 1)), none] (by simp [sr_sub]) ?_
          simp only [f_PT_afterPiece, if_neg h1, if_pos h2, nI_succ] at w
          exact w
        · refine sr_many 7 (t := (bif decide (sd = 0) then 63 else 58, [some (.inl rc), some (.inl c), some (.inl sd), some (.inr (.inl nm)), none, some (.inl nl), some (.inl a), some (.inl (nI k)), some (.inl 1)], [], μ)) rfl ⟨trivial, trivial, trivial, trivial, trivial, trivial, trivial, trivial⟩ ?_
          refine sr_brd (fun h3 => ?_) (fun h3 => ?_)
          · refine sr_many 4 (t := (bif decide ((v_SR_holds rc (nI k)) = 0) then 83 else 72, [some (.inl rc), some (.inl c), some (.inl sd), some (.inr (.inl nm)), none, some (.inl nl), some (.inl a), some (.inl (nI k)), some (.inl 1)], [], μ)) rfl ⟨trivial, trivial, trivial, trivial, trivial⟩ ?_
            refine sr_brd (fun h4 => ?_) (fun h4 => ?_)
            · refine sr_many 2 (t := (14, [some (.inl rc), some (.inl c), some (.inl sd), some (.inr (.inl nm)), none, some (.inl nl), some (.inl a), some (.inl ((nI k) + 1)), some (.inl 1)], [], μ)) rfl ⟨trivial, trivial, trivial⟩ ?_
              try simp only [hck] at h1 h2 h3 h4
              try simp only [hck]
              refine sr_forget [some (.inl rc), some (.inl c), some (.inl sd), some (.inr (.inl nm)), none, some (.inl nl), some (.inl a), some (.inl ((nI k) + 1)), none] (by simp [sr_sub]) ?_
              simp only [f_PT_afterPiece, if_neg h1, if_neg h2, if_pos h3, if_pos h4, nI_succ] at w
              exact w
            · refine sr_many 10 (t := (14, [some (.inl rc), some (.inl c), some (.inl sd), some (.inr (.inl nm)), none, some (.inl nl), some (.inl (a ||| ((1 : Int32) <<< (((nI k) + (1 : Int32)) &&& 31)))), some (.inl ((nI k) + 1)), some (.inl 1)], [], μ)) rfl ⟨trivial, trivial, trivial, trivial, trivial, trivial, trivial, trivial, trivial, trivial, trivial⟩ ?_
              try simp only [hck] at h1 h2 h3 h4
              try simp only [hck]
              refine sr_forget [some (.inl rc), some (.inl c), some (.inl sd), some (.inr (.inl nm)), none, some (.inl nl), some (.inl (a ||| ((1 : Int32) <<< (((nI k) + (1 : Int32)) &&& 31)))), some (.inl ((nI k) + 1)), none] (by simp [sr_sub]) ?_
              simp only [f_PT_afterPiece, if_neg h1, if_neg h2, if_pos h3, if_neg h4, nI_succ] at w
              exact w
          · refine sr_many 5 (t := (bif decide ((v_SR_holds a (nI k)) = 0) then 83 else 72, [some (.inl rc), some (.inl c), some (.inl sd), some (.inr (.inl nm)), none, some (.inl nl), some (.inl a), some (.inl (nI k)), some (.inl 1)], [], μ)) rfl ⟨trivial, trivial, trivial, trivial, trivial, trivial⟩ ?_
            refine sr_brd (fun h4 => ?_) (fun h4 => ?_)
            · refine sr_many 2 (t := (14, [some (.inl rc), some (.inl c), some (.inl sd), some (.inr (.inl nm)), none, some (.inl nl), some (.inl a), some (.inl ((nI k) + 1)), some (.inl 1)], [], μ)) rfl ⟨trivial, trivial, trivial⟩ ?_
              try simp only [hck] at h1 h2 h3 h4
              try simp only [hck]
              refine sr_forget [some (.inl rc), some (.inl c), some (.inl sd), some (.inr (.inl nm)), none, some (.inl nl), some (.inl a), some (.inl ((nI k) + 1)), none] (by simp [sr_sub]) ?_
              simp only [f_PT_afterPiece, if_neg h1, if_neg h2, if_neg h3, if_pos h4, nI_succ] at w
              exact w
            · refine sr_many 10 (t := (14, [some (.inl rc), some (.inl c), some (.inl sd), some (.inr (.inl nm)), none, some (.inl nl), some (.inl (a ||| ((1 : Int32) <<< (((nI k) + (1 : Int32)) &&& 31)))), some (.inl ((nI k) + 1)), some (.inl 1)], [], μ)) rfl ⟨trivial, trivial, trivial, trivial, trivial, trivial, trivial, trivial, trivial, trivial, trivial⟩ ?_
              try simp only [hck] at h1 h2 h3 h4
              try simp only [hck]
              refine sr_forget [some (.inl rc), some (.inl c), some (.inl sd), some (.inr (.inl nm)), none, some (.inl nl), some (.inl (a ||| ((1 : Int32) <<< (((nI k) + (1 : Int32)) &&& 31)))), some (.inl ((nI k) + 1)), none] (by simp [sr_sub]) ?_
              simp only [f_PT_afterPiece, if_neg h1, if_neg h2, if_neg h3, if_neg h4, nI_succ] at w
              exact w
    · skip
      refine sr_many 3 (t := (bif decide (nl ≤ (nI nl.toNatClampNeg)) then 89 else 21, [some (.inl rc), some (.inl c), some (.inl sd), some (.inr (.inl nm)), none, some (.inl nl), some (.inl (sr_it (f_PT_afterPiece rc c sd nm nl) rc nl.toNatClampNeg)), some (.inl (nI nl.toNatClampNeg)), none], [], μ)) rfl ⟨trivial, trivial, trivial, trivial⟩ ?_
      refine sr_brd (fun _ => ?_) (fun h => absurd (by exact sr_cnt_le q1) h)
      refine sr_many 1 (t := (91, [some (.inl rc), some (.inl c), some (.inl sd), some (.inr (.inl nm)), none, some (.inl nl), some (.inl (sr_it (f_PT_afterPiece rc c sd nm nl) rc nl.toNatClampNeg)), some (.inl (nI nl.toNatClampNeg)), none], [.inl (sr_it (f_PT_afterPiece rc c sd nm nl) rc nl.toNatClampNeg)], μ)) rfl ⟨trivial, trivial⟩ ?_
      exact sr_ret rfl rfl rfl trivial (by simp only [v_PT_afterPiece, if_neg h1])
def g_PT_matches (μ : sr_M) (i : Nat) (nm : Int64) : Nat → Int32 → Int32 ⊕ Int32 := fun k a => if (μ.1 18 i 1) ≤ (nI k) then (.inl (v_SR_holds a (v_TM_lengthOf nm))) else (if ¬ (μ.1 19 i ((nI k).toNatClampNeg)) = 124 then (if (μ.1 19 i ((nI k).toNatClampNeg)) = 42 then (.inr a) else (if (μ.1 18 i 1) ≤ ((nI k) + (1 : Int32)) then (.inr (v_PT_afterPiece a (μ.1 19 i ((nI k).toNatClampNeg)) 0 nm (v_TM_lengthOf nm))) else (if ¬ (μ.1 19 i (((nI k) + (1 : Int32)).toNatClampNeg)) = 42 then (.inr (v_PT_afterPiece a (μ.1 19 i ((nI k).toNatClampNeg)) 0 nm (v_TM_lengthOf nm))) else (.inr (v_PT_afterPiece a (μ.1 19 i ((nI k).toNatClampNeg)) 1 nm (v_TM_lengthOf nm)))))) else (if (v_SR_holds a (v_TM_lengthOf nm)) = 0 then (.inr 1) else (.inl 1)))
def v_PT_matches (μ : sr_M) (i : Nat) (nm : Int64) : Int32 := (sr_lp (g_PT_matches μ i nm) ((μ.1 18 i 1).toNatClampNeg + 1) 0 1).getD (0 : Int32)
def q_PT_matches (μ : sr_M) (i : Nat) (nm : Int64) : Prop := i < 2 ∧ sr_cnt (μ.1 18 i 1) 12
def p_PT_matches : sr_F := fun vs μ => match vs with
  | [.inr (.inr (18, i)), .inr (.inl nm)] => some (q_PT_matches μ i nm, some (.inl (v_PT_matches μ i nm)), μ)
  | _ => none
def e_PT_matches : sr_E := (sr_SC, sr_KS, (fun k => ([(9, 9, 0), (13, 9, 1)] : List (Nat × Nat × Nat)).lookup k, fun _ => none, fun _ => none, fun _ => none, fun k => ([(21, 0, 1, p_TM_lengthOf), (27, 0, 2, p_SR_holds), (33, 0, 5, p_PT_afterPiece)] : List (Nat × Nat × Nat × sr_F)).lookup k), sr_cd cd_PT_matches, some .boolean)
theorem b_PT_matches (μ : sr_M) (i : Nat) (nm : Int64) : v_PT_matches μ i nm = 0 ∨ v_PT_matches μ i nm = 1 := by
  unfold v_PT_matches
  exact sr_lp_all (g := g_PT_matches μ i nm) (fun b => b = 0 ∨ b = 1) _ (Or.inl rfl) (fun k a b h => by unfold g_PT_matches at h; (repeat' split at h) <;> cases h <;> first | exact Or.inl rfl | exact Or.inr rfl | exact b_SR_holds _ _)
set_option maxRecDepth 10000 in
theorem a_PT_matches (μ : sr_M) (i : Nat) (nm : Int64) (hq : q_PT_matches μ i nm) : sr_AW e_PT_matches (fun r => r = (some (.inl (v_PT_matches μ i nm)), μ)) (sr_entry 8 [.inr (.inr (18, i)), .inr (.inl nm)] μ) := by
  have hq0 := hq
  obtain ⟨q1, q2⟩ : i < 2 ∧ sr_cnt (μ.1 18 i 1) 12 := hq
  have q3 := sr_len_cnt nm
  refine sr_many 7 (t := (11, [some (.inr (.inr (18, i))), some (.inr (.inl nm)), none, some (.inl (v_TM_lengthOf nm)), some (.inl 1), some (.inl 0), none, none], [], μ)) rfl ⟨trivial, trivial, trivial, trivial, trivial, trivial, trivial, trivial⟩ ?_
  have hI : ∀ k a a', (fun k _ => k ≤ (μ.1 18 i 1).toNatClampNeg) k a → (g_PT_matches μ i nm) k a = .inr a' → (fun k _ => k ≤ (μ.1 18 i 1).toNatClampNeg) (k + 1) a' := (fun k a a' h e => by have hk : k ≠ (μ.1 18 i 1).toNatClampNeg := (fun ek => by rw [ek] at e; unfold g_PT_matches at e; rw [if_pos (sr_cnt_le q2)] at e; (repeat' split at e) <;> cases e); exact Nat.lt_of_le_of_ne h hk)
  obtain ⟨b, hb⟩ : ∃ b, sr_lp (g_PT_matches μ i nm) ((μ.1 18 i 1).toNatClampNeg + 1) 0 1 = some b := sr_lp_some (g_PT_matches μ i nm) ((μ.1 18 i 1).toNatClampNeg) (fun k _ => k ≤ (μ.1 18 i 1).toNatClampNeg) hI (fun a _ => by unfold g_PT_matches; rw [if_pos (sr_cnt_le q2)]; (repeat' split) <;> exact ⟨_, rfl⟩) ((μ.1 18 i 1).toNatClampNeg) 0 1 (by omega) (Nat.zero_le _)
  have e : ((some (.inl (v_PT_matches μ i nm)), μ) : sr_R) = (fun b => (some (.inl b), μ)) b := by
    unfold v_PT_matches
    rw [hb]
    rfl
  rw [e]
  refine sr_loop (fun b => (some (.inl b), μ)) (fun k a => (11, [some (.inr (.inr (18, i))), some (.inr (.inl nm)), none, some (.inl (v_TM_lengthOf nm)), some (.inl a), some (.inl (nI k)), none, none], [], μ)) (g_PT_matches μ i nm) (fun k _ => k ≤ (μ.1 18 i 1).toNatClampNeg) hI (fun K k a hIk hr w => ?_) ((μ.1 18 i 1).toNatClampNeg + 1) 0 1 b (Nat.zero_le _) hb
  refine sr_many 4 (t := (bif decide ((μ.1 18 i 1) ≤ (nI k)) then 111 else 20, [some (.inr (.inr (18, i))), some (.inr (.inl nm)), none, some (.inl (v_TM_lengthOf nm)), some (.inl a), some (.inl (nI k)), none, none], [], μ)) rfl ⟨trivial, trivial, (show i < 2 by first | assumption | exact sr_ein q2 hIk h1 | exact sr_ein1 q2 hIk h1 h4 | exact sr_ein1 q2 hIk h1 h3), trivial, trivial⟩ ?_
  refine sr_brd (fun h1 => ?_) (fun h1 => ?_)
  · refine sr_many 3 (t := (117, [some (.inr (.inr (18, i))), some (.inr (.inl nm)), none, some (.inl (v_TM_lengthOf nm)), some (.inl a), some (.inl (nI k)), none, none], [.inl (v_SR_holds a (v_TM_lengthOf nm))], μ)) rfl ⟨trivial, trivial, trivial, trivial⟩ ?_
    exact sr_ret rfl rfl rfl (b_SR_holds _ _) (hr (v_SR_holds a (v_TM_lengthOf nm)) (by simp only [g_PT_matches, if_pos h1]))
  · refine sr_many 8 (t := (bif decide (¬ (μ.1 19 i ((nI k).toNatClampNeg)) = 124) then 53 else 36, [some (.inr (.inr (18, i))), some (.inr (.inl nm)), none, some (.inl (v_TM_lengthOf nm)), some (.inl a), some (.inl (nI k)), some (.inl (μ.1 19 i ((nI k).toNatClampNeg))), none], [], μ)) rfl ⟨trivial, (show i < 2 by first | assumption | exact sr_ein q2 hIk h1 | exact sr_ein1 q2 hIk h1 h4 | exact sr_ein1 q2 hIk h1 h3), trivial, ⟨(show i < 2 by first | assumption | exact sr_ein q2 hIk h1 | exact sr_ein1 q2 hIk h1 h4 | exact sr_ein1 q2 hIk h1 h3), (show sr_in (nI k) 12 by first | assumption | exact sr_ein q2 hIk h1 | exact sr_ein1 q2 hIk h1 h4 | exact sr_ein1 q2 hIk h1 h3)⟩, trivial, trivial, trivial, trivial, trivial⟩ ?_
    refine sr_brd (fun h2 => ?_) (fun h2 => ?_)
    · refine sr_many 3 (t := (bif decide ((μ.1 19 i ((nI k).toNatClampNeg)) = 42) then 105 else 60, [some (.inr (.inr (18, i))), some (.inr (.inl nm)), none, some (.inl (v_TM_lengthOf nm)), some (.inl a), some (.inl (nI k)), some (.inl (μ.1 19 i ((nI k).toNatClampNeg))), none], [], μ)) rfl ⟨trivial, trivial, trivial, trivial⟩ ?_
      refine sr_brd (fun h3 => ?_) (fun h3 => ?_)
      · refine sr_many 2 (t := (11, [some (.inr (.inr (18, i))), some (.inr (.inl nm)), none, some (.inl (v_TM_lengthOf nm)), some (.inl a), some (.inl ((nI k) + 1)), some (.inl (μ.1 19 i ((nI k).toNatClampNeg))), none], [], μ)) rfl ⟨trivial, trivial, trivial⟩ ?_
        refine sr_forget [some (.inr (.inr (18, i))), some (.inr (.inl nm)), none, some (.inl (v_TM_lengthOf nm)), some (.inl a), some (.inl ((nI k) + 1)), none, none] (by simp [sr_sub]) ?_
        have w2 := w a (by simp only [g_PT_matches, if_neg h1, if_pos h2, if_pos h3])
        try simp only [nI_succ] at w2
        exact w2
      · refine sr_many 6 (t := (bif decide ((μ.1 18 i 1) ≤ ((nI k) + (1 : Int32))) then 89 else 71, [some (.inr (.inr (18, i))), some (.inr (.inl nm)), none, some (.inl (v_TM_lengthOf nm)), some (.inl a), some (.inl (nI k)), some (.inl (μ.1 19 i ((nI k).toNatClampNeg))), none], [], μ)) rfl ⟨trivial, trivial, trivial, trivial, (show i < 2 by first | assumption | exact sr_ein q2 hIk h1 | exact sr_ein1 q2 hIk h1 h4 | exact sr_ein1 q2 hIk h1 h3), trivial, trivial⟩ ?_
        refine sr_brd (fun h4 => ?_) (fun h4 => ?_)
        · refine sr_many 11 (t := (11, [some (.inr (.inr (18, i))), some (.inr (.inl nm)), none, some (.inl (v_TM_lengthOf nm)), some (.inl (v_PT_afterPiece a (μ.1 19 i ((nI k).toNatClampNeg)) 0 nm (v_TM_lengthOf nm))), some (.inl ((nI k) + 1)), some (.inl (μ.1 19 i ((nI k).toNatClampNeg))), some (.inl 0)], [], μ)) rfl ⟨trivial, trivial, trivial, trivial, trivial, trivial, trivial, (show sr_cnt (v_TM_lengthOf nm) 8 by first | assumption | exact sr_ein q2 hIk h1 | exact sr_ein1 q2 hIk h1 h4 | exact sr_ein1 q2 hIk h1 h3), trivial, trivial, trivial, trivial⟩ ?_
          refine sr_forget [some (.inr (.inr (18, i))), some (.inr (.inl nm)), none, some (.inl (v_TM_lengthOf nm)), some (.inl (v_PT_afterPiece a (μ.1 19 i ((nI k).toNatClampNeg)) 0 nm (v_TM_lengthOf nm))), some (.inl ((nI k) + 1)), none, none] (by simp [sr_sub]) ?_
          have w2 := w (v_PT_afterPiece a (μ.1 19 i ((nI k).toNatClampNeg)) 0 nm (v_TM_lengthOf nm)) (by simp only [g_PT_matches, if_neg h1, if_pos h2, if_neg h3, if_pos h4])
          try simp only [nI_succ] at w2
          exact w2
        · refine sr_many 8 (t := (bif decide (¬ (μ.1 19 i (((nI k) + (1 : Int32)).toNatClampNeg)) = 42) then 89 else 85, [some (.inr (.inr (18, i))), some (.inr (.inl nm)), none, some (.inl (v_TM_lengthOf nm)), some (.inl a), some (.inl (nI k)), some (.inl (μ.1 19 i ((nI k).toNatClampNeg))), none], [], μ)) rfl ⟨trivial, (show i < 2 by first | assumption | exact sr_ein q2 hIk h1 | exact sr_ein1 q2 hIk h1 h4 | exact sr_ein1 q2 hIk h1 h3), trivial, trivial, trivial, ⟨(show i < 2 by first | assumption | exact sr_ein q2 hIk h1 | exact sr_ein1 q2 hIk h1 h4 | exact sr_ein1 q2 hIk h1 h3), (show sr_in ((nI k) + (1 : Int32)) 12 by first | assumption | exact sr_ein q2 hIk h1 | exact sr_ein1 q2 hIk h1 h4 | exact sr_ein1 q2 hIk h1 h3)⟩, trivial, trivial, trivial⟩ ?_
          refine sr_brd (fun h5 => ?_) (fun h5 => ?_)
          · refine sr_many 11 (t := (11, [some (.inr (.inr (18, i))), some (.inr (.inl nm)), none, some (.inl (v_TM_lengthOf nm)), some (.inl (v_PT_afterPiece a (μ.1 19 i ((nI k).toNatClampNeg)) 0 nm (v_TM_lengthOf nm))), some (.inl ((nI k) + 1)), some (.inl (μ.1 19 i ((nI k).toNatClampNeg))), some (.inl 0)], [], μ)) rfl ⟨trivial, trivial, trivial, trivial, trivial, trivial, trivial, (show sr_cnt (v_TM_lengthOf nm) 8 by first | assumption | exact sr_ein q2 hIk h1 | exact sr_ein1 q2 hIk h1 h4 | exact sr_ein1 q2 hIk h1 h3), trivial, trivial, trivial, trivial⟩ ?_
            refine sr_forget [some (.inr (.inr (18, i))), some (.inr (.inl nm)), none, some (.inl (v_TM_lengthOf nm)), some (.inl (v_PT_afterPiece a (μ.1 19 i ((nI k).toNatClampNeg)) 0 nm (v_TM_lengthOf nm))), some (.inl ((nI k) + 1)), none, none] (by simp [sr_sub]) ?_
            have w2 := w (v_PT_afterPiece a (μ.1 19 i ((nI k).toNatClampNeg)) 0 nm (v_TM_lengthOf nm)) (by simp only [g_PT_matches, if_neg h1, if_pos h2, if_neg h3, if_neg h4, if_pos h5])
            try simp only [nI_succ] at w2
            exact w2
          · refine sr_many 12 (t := (11, [some (.inr (.inr (18, i))), some (.inr (.inl nm)), none, some (.inl (v_TM_lengthOf nm)), some (.inl (v_PT_afterPiece a (μ.1 19 i ((nI k).toNatClampNeg)) 1 nm (v_TM_lengthOf nm))), some (.inl ((nI k) + 1)), some (.inl (μ.1 19 i ((nI k).toNatClampNeg))), some (.inl 1)], [], μ)) rfl ⟨trivial, trivial, trivial, trivial, trivial, trivial, trivial, trivial, (show sr_cnt (v_TM_lengthOf nm) 8 by first | assumption | exact sr_ein q2 hIk h1 | exact sr_ein1 q2 hIk h1 h4 | exact sr_ein1 q2 hIk h1 h3), trivial, trivial, trivial, trivial⟩ ?_
            refine sr_forget [some (.inr (.inr (18, i))), some (.inr (.inl nm)), none, some (.inl (v_TM_lengthOf nm)), some (.inl (v_PT_afterPiece a (μ.1 19 i ((nI k).toNatClampNeg)) 1 nm (v_TM_lengthOf nm))), some (.inl ((nI k) + 1)), none, none] (by simp [sr_sub]) ?_
            have w2 := w (v_PT_afterPiece a (μ.1 19 i ((nI k).toNatClampNeg)) 1 nm (v_TM_lengthOf nm)) (by simp only [g_PT_matches, if_neg h1, if_pos h2, if_neg h3, if_neg h4, if_neg h5])
            try simp only [nI_succ] at w2
            exact w2
    · refine sr_many 4 (t := (bif decide ((v_SR_holds a (v_TM_lengthOf nm)) = 0) then 47 else 45, [some (.inr (.inr (18, i))), some (.inr (.inl nm)), none, some (.inl (v_TM_lengthOf nm)), some (.inl a), some (.inl (nI k)), some (.inl (μ.1 19 i ((nI k).toNatClampNeg))), none], [], μ)) rfl ⟨trivial, trivial, trivial, trivial, trivial⟩ ?_
      refine sr_brd (fun h3 => ?_) (fun h3 => ?_)
      · refine sr_many 5 (t := (11, [some (.inr (.inr (18, i))), some (.inr (.inl nm)), none, some (.inl (v_TM_lengthOf nm)), some (.inl 1), some (.inl ((nI k) + 1)), some (.inl (μ.1 19 i ((nI k).toNatClampNeg))), none], [], μ)) rfl ⟨trivial, trivial, trivial, trivial, trivial, trivial⟩ ?_
        refine sr_forget [some (.inr (.inr (18, i))), some (.inr (.inl nm)), none, some (.inl (v_TM_lengthOf nm)), some (.inl 1), some (.inl ((nI k) + 1)), none, none] (by simp [sr_sub]) ?_
        have w2 := w 1 (by simp only [g_PT_matches, if_neg h1, if_neg h2, if_pos h3])
        try simp only [nI_succ] at w2
        exact w2
      · refine sr_many 1 (t := (46, [some (.inr (.inr (18, i))), some (.inr (.inl nm)), none, some (.inl (v_TM_lengthOf nm)), some (.inl a), some (.inl (nI k)), some (.inl (μ.1 19 i ((nI k).toNatClampNeg))), none], [.inl 1], μ)) rfl ⟨trivial, trivial⟩ ?_
        exact sr_ret rfl rfl rfl (Or.inr rfl) (hr 1 (by simp only [g_PT_matches, if_neg h1, if_neg h2, if_neg h3]))
