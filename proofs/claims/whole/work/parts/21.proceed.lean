/-! pictures and runs: a method's invocations -/
-- due and begun stay
def sr_fd (μ ν : sr_M) : Prop := ∀ i, ν.1 13 i 3 = μ.1 13 i 3 ∧ ν.1 13 i 4 = μ.1 13 i 4
theorem sr_fd.rf (μ : sr_M) : sr_fd μ μ := fun _ => ⟨rfl, rfl⟩
theorem sr_fd.trans {μ ν ρ : sr_M} (h1 : sr_fd μ ν) (h2 : sr_fd ν ρ) : sr_fd μ ρ := fun i => ⟨(h2 i).1.trans (h1 i).1, (h2 i).2.trans (h1 i).2⟩
theorem sr_fd.seti {μ ν : sr_M} {g i j : Nat} {x : Int32} (h : sr_fd μ ν) (hn : ¬ (13 = g ∧ (3 = j ∨ 4 = j))) : sr_fd μ (sr_seti ν g i j x) := by
  intro a
  refine ⟨?_, ?_⟩
  · show (if 13 = g ∧ a = i ∧ 3 = j then x else ν.1 13 a 3) = _
    rw [if_neg (fun q => hn ⟨q.1, Or.inl q.2.2⟩)]
    exact (h a).1
  · show (if 13 = g ∧ a = i ∧ 4 = j then x else ν.1 13 a 4) = _
    rw [if_neg (fun q => hn ⟨q.1, Or.inr q.2.2⟩)]
    exact (h a).2
theorem fd_LG_add (μ : sr_M) (a b c d : Int32) : sr_fd μ (m_LG_add μ a b c d) := by
  unfold m_LG_add
  exact ((sr_fd.rf μ).seti (fun q => absurd q.1 (by decide))).seti (by decide)
theorem fd_CF_failsNow (μ : sr_M) (i : Nat) : sr_fd μ (m_CF_failsNow μ i) := by
  unfold m_CF_failsNow
  (repeat' split) <;> exact (sr_fd.rf μ).seti (by decide)
theorem fd_RN_runConfigurations (μ : sr_M) (lev bef cls : Int32) : sr_fd μ (m_RN_runConfigurations μ lev bef cls) := by
  unfold m_RN_runConfigurations
  refine sr_it_inv (sr_fd μ) (fun k b hb => ?_) (sr_fd.rf μ) _
  unfold f_RN_runConfigurations
  (repeat' split)
  · exact hb
  all_goals first
    | exact ((hb.trans (fd_CF_failsNow _ _)).trans (fd_LG_add _ _ _ _ _))
    | exact (((hb.trans (fd_CF_failsNow _ _)).seti (by decide)).trans (fd_LG_add _ _ _ _ _))
theorem fd_PR_count (μ : sr_M) (i : Nat) (res : Int32) : sr_fd μ (m_PR_count μ i res) := by
  unfold m_PR_count
  (repeat' split) <;> exact (sr_fd.rf μ).seti (fun q => absurd q.2 (by decide))
theorem fd_PR_enter (μ : sr_M) (i : Nat) (dur : Int32) : sr_fd μ (m_PR_enter μ i dur) := by
  unfold m_PR_enter
  exact ((sr_fd.rf μ).seti (fun q => absurd q.2 (by decide))).seti (fun q => absurd q.2 (by decide))
theorem sr_cnt_iff {x : Int32} {N k : Nat} (q : sr_cnt x N) (hN : N < 2 ^ 31) (hk : k < 2 ^ 31) : x ≤ nI k ↔ x.toNatClampNeg ≤ k := by
  have h := q.2
  have e := nI_leI (a := x.toNatClampNeg) (b := k) (by omega) hk
  rw [← q.1] at e
  exact e
theorem fd_RN_giveTurn (μ : sr_M) (lev : Int32) (cls : Int32) : sr_fd μ (m_RN_giveTurn μ lev cls) := by
  unfold m_RN_giveTurn
  repeat' split
  · exact (sr_fd.rf μ)
  · exact (((sr_fd.rf μ).seti (fun q => absurd q.1 (by decide))).trans (fd_RN_runConfigurations _ _ _ _))
theorem fd_RN_endInvocation (μ : sr_M) (m : Int32) (res : Int32) : sr_fd μ (m_RN_endInvocation μ m res) := by
  unfold m_RN_endInvocation
  exact (((sr_fd.rf μ).trans (fd_PR_count _ _ _)).trans (fd_LG_add _ _ _ _ _))
theorem fd_RN_endEntered (μ : sr_M) (m : Int32) : sr_fd μ (m_RN_endEntered μ m) := by
  unfold m_RN_endEntered
  exact (((sr_fd.rf μ).trans (fd_RN_endInvocation _ _ _)).trans (fd_RN_runConfigurations _ _ _ _))
theorem fd_RN_endMethod (μ : sr_M) (m : Int32) (st : Int32) : sr_fd μ (m_RN_endMethod μ m st) := by
  unfold m_RN_endMethod
  repeat' split
  · exact (((((sr_fd.rf μ).seti (fun q => absurd q.2 (by decide))).seti (fun q => absurd q.2 (by decide))).seti (fun q => absurd q.1 (by decide))).trans (fd_LG_add _ _ _ _ _))
  · exact (((((sr_fd.rf μ).seti (fun q => absurd q.2 (by decide))).seti (fun q => absurd q.2 (by decide))).seti (fun q => absurd q.1 (by decide))).trans (fd_LG_add _ _ _ _ _))
  · exact ((((((sr_fd.rf μ).seti (fun q => absurd q.2 (by decide))).seti (fun q => absurd q.2 (by decide))).seti (fun q => absurd q.1 (by decide))).trans (fd_LG_add _ _ _ _ _)).trans (fd_RN_runConfigurations _ _ _ _))
  · exact ((((((sr_fd.rf μ).seti (fun q => absurd q.2 (by decide))).seti (fun q => absurd q.2 (by decide))).seti (fun q => absurd q.1 (by decide))).seti (fun q => absurd q.1 (by decide))).trans (fd_LG_add _ _ _ _ _))
  · exact ((((((sr_fd.rf μ).seti (fun q => absurd q.2 (by decide))).seti (fun q => absurd q.2 (by decide))).seti (fun q => absurd q.1 (by decide))).seti (fun q => absurd q.1 (by decide))).trans (fd_LG_add _ _ _ _ _))
  · exact (((((((sr_fd.rf μ).seti (fun q => absurd q.2 (by decide))).seti (fun q => absurd q.2 (by decide))).seti (fun q => absurd q.1 (by decide))).seti (fun q => absurd q.1 (by decide))).trans (fd_LG_add _ _ _ _ _)).trans (fd_RN_runConfigurations _ _ _ _))
theorem fd_RN_enterLatest (μ : sr_M) (m : Int32) : sr_fd μ (m_RN_enterLatest μ m) := by
  unfold m_RN_enterLatest
  repeat' split
  · exact ((sr_fd.rf μ).trans (fd_RN_endInvocation _ _ _))
  · exact ((((sr_fd.rf μ).trans (fd_RN_runConfigurations _ _ _ _)).trans (fd_PR_enter _ _ _)).trans (fd_LG_add _ _ _ _ _))
  · exact (((sr_fd.rf μ).trans (fd_RN_runConfigurations _ _ _ _)).trans (fd_RN_endInvocation _ _ _))
def i_RN_proceed (μ : sr_M) (m : Int32) (k : Nat) (a : sr_M) : Prop := k ≤ ((μ.1 13 m.toNatClampNeg 3).toNatClampNeg - (μ.1 13 m.toNatClampNeg 4).toNatClampNeg) ∧ sr_fr μ a (9 * k) ∧ a.1 13 m.toNatClampNeg 3 = (μ.1 13 m.toNatClampNeg 3) ∧ a.1 13 m.toNatClampNeg 4 = nI ((μ.1 13 m.toNatClampNeg 4).toNatClampNeg + k) ∧ ∀ i, ¬ i = m.toNatClampNeg → a.1 13 i 3 = μ.1 13 i 3 ∧ a.1 13 i 4 = μ.1 13 i 4
theorem sr_lp_inv {α β : Type} {g : Nat → α → β ⊕ α} (I : Nat → α → Prop) (hI : ∀ k a a', I k a → g k a = .inr a' → I (k + 1) a') (P : β → Prop) (hb : ∀ k a b, I k a → g k a = .inl b → P b) : ∀ (n k : Nat) (a : α) (b : β), I k a → sr_lp g n k a = some b → P b
  | 0, _, _, _, _, h => by cases h
  | n + 1, k, a, b, hi, h => by
    unfold sr_lp at h
    cases hg : g k a with
    | inl b' =>
      rw [hg] at h
      cases h
      exact hb k a b hi hg
    | inr a' =>
      rw [hg] at h
      exact sr_lp_inv I hI P hb n (k + 1) a' b (hI k a a' hi hg) h
def g_RN_proceed (μ : sr_M) (m : Int32) : Nat → sr_M → (Int32 × sr_M) ⊕ sr_M := fun k a => if (a.1 13 m.toNatClampNeg 3) ≤ (a.1 13 m.toNatClampNeg 4) then (.inl (0, (m_RN_endMethod a m (v_PR_verdict a m.toNatClampNeg (a.1 4 m.toNatClampNeg 7))))) else (if (v_RN_enterLatest (sr_seti a 13 m.toNatClampNeg 4 ((a.1 13 m.toNatClampNeg 4) + (1 : Int32))) m) = 0 then (.inr (m_RN_enterLatest (sr_seti a 13 m.toNatClampNeg 4 ((a.1 13 m.toNatClampNeg 4) + (1 : Int32))) m)) else (.inl (1, (m_RN_enterLatest (sr_seti a 13 m.toNatClampNeg 4 ((a.1 13 m.toNatClampNeg 4) + (1 : Int32))) m))))
def v_RN_proceed (μ : sr_M) (m : Int32) : Int32 := ((sr_lp (g_RN_proceed μ m) (((μ.1 13 m.toNatClampNeg 3).toNatClampNeg - (μ.1 13 m.toNatClampNeg 4).toNatClampNeg) + 1) 0 μ).getD ((0 : Int32), μ)).1
def m_RN_proceed (μ : sr_M) (m : Int32) : sr_M := ((sr_lp (g_RN_proceed μ m) (((μ.1 13 m.toNatClampNeg 3).toNatClampNeg - (μ.1 13 m.toNatClampNeg 4).toNatClampNeg) + 1) 0 μ).getD ((0 : Int32), μ)).2
def q_RN_proceed (μ : sr_M) (m : Int32) : Prop := sr_in m 16 ∧ sr_cnt (μ.1 11 0 1) 2000097000 ∧ sr_cnt (μ.1 2 0 3) 8 ∧ sr_cnt (μ.1 2 0 1) 16 ∧ sr_cnt (μ.1 13 m.toNatClampNeg 3) 16 ∧ sr_cnt (μ.1 13 m.toNatClampNeg 4) 16
def p_RN_proceed : sr_F := fun vs μ => match vs with
  | [.inr (.inr (1, 0)), .inl m] => some (q_RN_proceed μ m, some (.inl (v_RN_proceed μ m)), m_RN_proceed μ m)
  | _ => none
def e_RN_proceed : sr_E := (sr_SC, sr_KS, (fun k => ([(12, 1, 0), (34, 1, 3), (136, 2, 0), (155, 3, 2), (175, 7, 3), (181, 7, 4)] : List (Nat × Nat × Nat)).lookup k, fun _ => none, fun _ => none, fun _ => none, fun k => ([(158, 2, 2, p_RN_endMethod), (184, 2, 1, p_RN_enterLatest), (187, 8, 1, p_PR_verdict)] : List (Nat × Nat × Nat × sr_F)).lookup k), sr_cd cd_RN_proceed, some .boolean)
theorem b_RN_proceed (μ : sr_M) (m : Int32) : v_RN_proceed μ m = 0 ∨ v_RN_proceed μ m = 1 := by
  unfold v_RN_proceed
  exact sr_lp_all (g := g_RN_proceed μ m) (fun b => b.1 = 0 ∨ b.1 = 1) _ (Or.inl rfl) (fun k a b h => by unfold g_RN_proceed at h; (repeat' split at h) <;> cases h <;> first | exact Or.inl rfl | exact Or.inr rfl)
theorem j_RN_proceed (μ : sr_M) (m : Int32) (hq : q_RN_proceed μ m) : ∀ k a a', i_RN_proceed μ m k a → g_RN_proceed μ m k a = .inr a' → i_RN_proceed μ m (k + 1) a' := by
  obtain ⟨q1, q2, q3, q4, q5, q6⟩ : sr_in m 16 ∧ sr_cnt (μ.1 11 0 1) 2000097000 ∧ sr_cnt (μ.1 2 0 3) 8 ∧ sr_cnt (μ.1 2 0 1) 16 ∧ sr_cnt (μ.1 13 m.toNatClampNeg 3) 16 ∧ sr_cnt (μ.1 13 m.toNatClampNeg 4) 16 := hq
  intro k a a' h e
  obtain ⟨h1, h2, h3, h4, h6⟩ := h
  unfold g_RN_proceed at e
  split at e
  · cases e
  · rename_i hn
    split at e
    · cases e
      rw [h3, h4, sr_cnt_iff q5 (by decide) (by have := q6.2; have := q5.2; omega)] at hn
      have h5 := h2.seti (i := m.toNatClampNeg) (j := 4) (x := a.1 13 m.toNatClampNeg 4 + 1) (g := 13) rfl (fun q => absurd q.1 (by decide))
      refine ⟨by omega, (h5.trans (fr_RN_enterLatest _ _ (h5.cnt q3))).mono (by omega), ?_, ?_, ?_⟩
      · rw [(fd_RN_enterLatest _ _ _).1]
        show (if 13 = 13 ∧ m.toNatClampNeg = m.toNatClampNeg ∧ 3 = 4 then _ else a.1 13 m.toNatClampNeg 3) = _
        rw [if_neg (fun q => absurd q.2.2 (by decide))]
        exact h3
      · rw [(fd_RN_enterLatest _ _ _).2, sr_seti_self, h4, ← nI_succ]
        rfl
      · intro i hi
        rw [(fd_RN_enterLatest _ _ _).1, (fd_RN_enterLatest _ _ _).2]
        refine ⟨?_, ?_⟩
        · show (if 13 = 13 ∧ i = m.toNatClampNeg ∧ 3 = 4 then _ else a.1 13 i 3) = _
          rw [if_neg (fun q => hi q.2.1)]
          exact (h6 i hi).1
        · show (if 13 = 13 ∧ i = m.toNatClampNeg ∧ 4 = 4 then _ else a.1 13 i 4) = _
          rw [if_neg (fun q => hi q.2.1)]
          exact (h6 i hi).2
    · cases e
theorem z_RN_proceed (μ : sr_M) (m : Int32) (hq : q_RN_proceed μ m) : i_RN_proceed μ m 0 μ := by
  obtain ⟨q1, q2, q3, q4, q5, q6⟩ : sr_in m 16 ∧ sr_cnt (μ.1 11 0 1) 2000097000 ∧ sr_cnt (μ.1 2 0 3) 8 ∧ sr_cnt (μ.1 2 0 1) 16 ∧ sr_cnt (μ.1 13 m.toNatClampNeg 3) 16 ∧ sr_cnt (μ.1 13 m.toNatClampNeg 4) 16 := hq
  exact ⟨Nat.zero_le _, sr_fr.rf μ, rfl, q6.1, fun _ _ => ⟨rfl, rfl⟩⟩
theorem t_RN_proceed (μ : sr_M) (m : Int32) (hq : q_RN_proceed μ m) : ∃ b, sr_lp (g_RN_proceed μ m) (((μ.1 13 m.toNatClampNeg 3).toNatClampNeg - (μ.1 13 m.toNatClampNeg 4).toNatClampNeg) + 1) 0 μ = some b := by
  have hz := z_RN_proceed μ m hq
  have hj := j_RN_proceed μ m hq
  obtain ⟨q1, q2, q3, q4, q5, q6⟩ : sr_in m 16 ∧ sr_cnt (μ.1 11 0 1) 2000097000 ∧ sr_cnt (μ.1 2 0 3) 8 ∧ sr_cnt (μ.1 2 0 1) 16 ∧ sr_cnt (μ.1 13 m.toNatClampNeg 3) 16 ∧ sr_cnt (μ.1 13 m.toNatClampNeg 4) 16 := hq
  exact sr_lp_some (g_RN_proceed μ m) ((μ.1 13 m.toNatClampNeg 3).toNatClampNeg - (μ.1 13 m.toNatClampNeg 4).toNatClampNeg) (i_RN_proceed μ m) hj (fun a h => by
      obtain ⟨h1, h2, h3, h4, h6⟩ := h
      unfold g_RN_proceed
      rw [if_pos (by
        rw [h3, h4, sr_cnt_iff q5 (by decide) (by have := q6.2; have := q5.2; omega)]
        omega)]
      exact ⟨_, rfl⟩) ((μ.1 13 m.toNatClampNeg 3).toNatClampNeg - (μ.1 13 m.toNatClampNeg 4).toNatClampNeg) 0 μ (by omega) hz
theorem o_RN_proceed (μ : sr_M) (m : Int32) (hq : q_RN_proceed μ m) : sr_fr μ (m_RN_proceed μ m) 160 ∧ ∀ i, (m_RN_proceed μ m).1 13 i 3 = μ.1 13 i 3 ∧ sr_cnt ((m_RN_proceed μ m).1 13 m.toNatClampNeg 4) 16 ∧ (¬ i = m.toNatClampNeg → (m_RN_proceed μ m).1 13 i 4 = μ.1 13 i 4) := by
  obtain ⟨b, hb⟩ := t_RN_proceed μ m hq
  have hz := z_RN_proceed μ m hq
  have hj := j_RN_proceed μ m hq
  obtain ⟨q1, q2, q3, q4, q5, q6⟩ : sr_in m 16 ∧ sr_cnt (μ.1 11 0 1) 2000097000 ∧ sr_cnt (μ.1 2 0 3) 8 ∧ sr_cnt (μ.1 2 0 1) 16 ∧ sr_cnt (μ.1 13 m.toNatClampNeg 3) 16 ∧ sr_cnt (μ.1 13 m.toNatClampNeg 4) 16 := hq
  have e : m_RN_proceed μ m = b.2 := by
    unfold m_RN_proceed
    rw [hb]
    rfl
  rw [e]
  refine sr_lp_inv (i_RN_proceed μ m) hj (fun b => sr_fr μ b.2 160 ∧ ∀ i, b.2.1 13 i 3 = μ.1 13 i 3 ∧ sr_cnt (b.2.1 13 m.toNatClampNeg 4) 16 ∧ (¬ i = m.toNatClampNeg → b.2.1 13 i 4 = μ.1 13 i 4)) (fun k a b h e => ?_) _ _ _ _ hz hb
  obtain ⟨h1, h2, h3, h4, h6⟩ := h
  have hk : k ≤ 16 := by have := q5.2; omega
  have hd3 : ∀ i, a.1 13 i 3 = μ.1 13 i 3 := fun i => by
    by_cases hi : i = m.toNatClampNeg
    · rw [hi]; exact h3
    · exact (h6 i hi).1
  unfold g_RN_proceed at e
  split at e
  · cases e
    rename_i hn
    refine ⟨(h2.trans (fr_RN_endMethod _ _ _ (h2.cnt q3))).mono (by omega), fun i => ⟨?_, ?_, fun hi => ?_⟩⟩
    · show (m_RN_endMethod a m _).1 13 i 3 = _
      rw [(fd_RN_endMethod _ _ _ _).1]
      exact hd3 i
    · show sr_cnt ((m_RN_endMethod a m _).1 13 m.toNatClampNeg 4) 16
      rw [(fd_RN_endMethod _ _ _ _).2, h4]
      unfold sr_cnt
      have := q5.2
      have := q6.2
      rw [nI_clamp (by omega)]
      exact ⟨rfl, by omega⟩
    · show (m_RN_endMethod a m _).1 13 i 4 = _
      rw [(fd_RN_endMethod _ _ _ _).2]
      exact (h6 i hi).2
  · rename_i hn
    rw [h3, h4, sr_cnt_iff q5 (by decide) (by have := q6.2; have := q5.2; omega)] at hn
    have h5 := h2.seti (i := m.toNatClampNeg) (j := 4) (x := a.1 13 m.toNatClampNeg 4 + 1) (g := 13) rfl (fun q => absurd q.1 (by decide))
    split at e
    · cases e
    · cases e
      refine ⟨(h5.trans (fr_RN_enterLatest _ _ (h5.cnt q3))).mono (by omega), fun i => ⟨?_, ?_, fun hi => ?_⟩⟩
      · show (m_RN_enterLatest _ m).1 13 i 3 = _
        rw [(fd_RN_enterLatest _ _ _).1]
        show (if 13 = 13 ∧ i = m.toNatClampNeg ∧ 3 = 4 then _ else a.1 13 i 3) = _
        rw [if_neg (fun q => absurd q.2.2 (by decide))]
        exact hd3 i
      · show sr_cnt ((m_RN_enterLatest _ m).1 13 m.toNatClampNeg 4) 16
        rw [(fd_RN_enterLatest _ _ _).2, sr_seti_self, h4, ← nI_succ]
        unfold sr_cnt
        have := q5.2
        have := q6.2
        rw [nI_clamp (by omega)]
        exact ⟨rfl, by omega⟩
      · show (m_RN_enterLatest _ m).1 13 i 4 = _
        rw [(fd_RN_enterLatest _ _ _).2]
        show (if 13 = 13 ∧ i = m.toNatClampNeg ∧ 4 = 4 then _ else a.1 13 i 4) = _
        rw [if_neg (fun q => hi q.2.1)]
        exact (h6 i hi).2
set_option maxRecDepth 10000 in
theorem a_RN_proceed (μ : sr_M) (m : Int32) (hq : q_RN_proceed μ m) : sr_AW e_RN_proceed (fun r => r = (some (.inl (v_RN_proceed μ m)), m_RN_proceed μ m)) (sr_entry 3 [.inr (.inr (1, 0)), .inl m] μ) := by
  have hq0 := hq
  obtain ⟨q1, q2, q3, q4, q5, q6⟩ : sr_in m 16 ∧ sr_cnt (μ.1 11 0 1) 2000097000 ∧ sr_cnt (μ.1 2 0 3) 8 ∧ sr_cnt (μ.1 2 0 1) 16 ∧ sr_cnt (μ.1 13 m.toNatClampNeg 3) 16 ∧ sr_cnt (μ.1 13 m.toNatClampNeg 4) 16 := hq
  have qm := sr_in_lt q1
  refine sr_many 5 (t := (7, [some (.inr (.inr (1, 0))), some (.inl m), some (.inr (.inr (13, m.toNatClampNeg)))], [], μ)) rfl ⟨trivial, (show 0 < 1 by decide), trivial, ⟨(show 0 < 1 by decide), (show sr_in m 16 by assumption)⟩, trivial, trivial⟩ ?_
  have hI : ∀ k a a', (fun k a => i_RN_proceed μ m k a) k a → (g_RN_proceed μ m) k a = .inr a' → (fun k a => i_RN_proceed μ m k a) (k + 1) a' := (j_RN_proceed μ m hq0)
  obtain ⟨b, hb⟩ : ∃ b, sr_lp (g_RN_proceed μ m) (((μ.1 13 m.toNatClampNeg 3).toNatClampNeg - (μ.1 13 m.toNatClampNeg 4).toNatClampNeg) + 1) 0 μ = some b := t_RN_proceed μ m hq0
  have e : ((some (.inl (v_RN_proceed μ m)), m_RN_proceed μ m) : sr_R) = (fun b => (some (.inl b.1), b.2)) b := by
    unfold v_RN_proceed m_RN_proceed
    rw [hb]
    rfl
  rw [e]
  refine sr_loop (fun b => (some (.inl b.1), b.2)) (fun k a => (7, [some (.inr (.inr (1, 0))), some (.inl m), some (.inr (.inr (13, m.toNatClampNeg)))], [], a)) (g_RN_proceed μ m) (fun k a => i_RN_proceed μ m k a) hI (fun K k a hIk hr w => ?_) (((μ.1 13 m.toNatClampNeg 3).toNatClampNeg - (μ.1 13 m.toNatClampNeg 4).toNatClampNeg) + 1) 0 μ b (z_RN_proceed μ m hq0) hb
  obtain ⟨hk0, hfa, hd3, hd4, hd6⟩ := hIk
  have hk9 : k ≤ 16 := Nat.le_trans hk0 (Nat.le_trans (Nat.sub_le _ _) q5.2)
  refine sr_many 5 (t := (bif decide ((a.1 13 m.toNatClampNeg 3) ≤ (a.1 13 m.toNatClampNeg 4)) then 38 else 18, [some (.inr (.inr (1, 0))), some (.inl m), some (.inr (.inr (13, m.toNatClampNeg)))], [], a)) rfl ⟨trivial, (show m.toNatClampNeg < 16 by assumption), trivial, (show m.toNatClampNeg < 16 by assumption), trivial, trivial⟩ ?_
  refine sr_brd (fun h1 => ?_) (fun h1 => ?_)
  · refine sr_many 14 (t := (63, [some (.inr (.inr (1, 0))), some (.inl m), some (.inr (.inr (13, m.toNatClampNeg)))], [.inl 0], (m_RN_endMethod a m (v_PR_verdict a m.toNatClampNeg (a.1 4 m.toNatClampNeg 7))))) rfl ⟨trivial, trivial, trivial, trivial, (show 0 < 1 by decide), (show 0 < 1 by decide), trivial, ⟨(show 0 < 1 by decide), (show sr_in m 16 by assumption)⟩, (show m.toNatClampNeg < 16 by assumption), trivial, ⟨(show m.toNatClampNeg < 16 by assumption), (show sr_in 7 9 by decide)⟩, ⟨(show m.toNatClampNeg < 16 by assumption), (show m.toNatClampNeg < 16 by assumption)⟩, ⟨(show 0 < 1 by decide), ⟨(show sr_in m 16 by assumption), ((hfa.lg q2 (by omega)).mono (by omega)), (hfa.cnt q3), (hfa.cnt q4)⟩⟩, trivial, trivial⟩ ?_
    exact sr_ret rfl rfl rfl (Or.inl rfl) (hr (0, (m_RN_endMethod a m (v_PR_verdict a m.toNatClampNeg (a.1 4 m.toNatClampNeg 7)))) (by simp only [g_RN_proceed, if_pos h1]))
  · refine sr_many 10 (t := (bif decide ((v_RN_enterLatest (sr_seti a 13 m.toNatClampNeg 4 ((a.1 13 m.toNatClampNeg 4) + (1 : Int32))) m) = 0) then 7 else 36, [some (.inr (.inr (1, 0))), some (.inl m), some (.inr (.inr (13, m.toNatClampNeg)))], [], (m_RN_enterLatest (sr_seti a 13 m.toNatClampNeg 4 ((a.1 13 m.toNatClampNeg 4) + (1 : Int32))) m))) rfl ⟨trivial, trivial, (show m.toNatClampNeg < 16 by assumption), trivial, trivial, (show m.toNatClampNeg < 16 by assumption), trivial, trivial, ⟨(show 0 < 1 by decide), ⟨(show sr_in m 16 by assumption), (((hfa.seti rfl (fun q => absurd q.1 (by decide))).lg q2 (by omega)).mono (by omega)), ((hfa.seti rfl (fun q => absurd q.1 (by decide))).cnt q3)⟩⟩, trivial, trivial⟩ ?_
    refine sr_brd (fun h2 => ?_) (fun h2 => ?_)
    · have w2 := w (m_RN_enterLatest (sr_seti a 13 m.toNatClampNeg 4 ((a.1 13 m.toNatClampNeg 4) + (1 : Int32))) m) (by simp only [g_RN_proceed, if_neg h1, if_pos h2])
      try simp only [nI_succ] at w2
      exact w2
    · refine sr_many 1 (t := (37, [some (.inr (.inr (1, 0))), some (.inl m), some (.inr (.inr (13, m.toNatClampNeg)))], [.inl 1], (m_RN_enterLatest (sr_seti a 13 m.toNatClampNeg 4 ((a.1 13 m.toNatClampNeg 4) + (1 : Int32))) m))) rfl ⟨trivial, trivial⟩ ?_
      exact sr_ret rfl rfl rfl (Or.inr rfl) (hr (1, (m_RN_enterLatest (sr_seti a 13 m.toNatClampNeg 4 ((a.1 13 m.toNatClampNeg 4) + (1 : Int32))) m)) (by simp only [g_RN_proceed, if_neg h1, if_neg h2]))
