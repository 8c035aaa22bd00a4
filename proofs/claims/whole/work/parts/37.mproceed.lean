/-! the reference: proceed -/
-- the workers' rows stay
def sr_mh (μ ν : sr_M) : Prop := ∀ g i j, (40 ≤ g ∧ g ≤ 42) → ν.1 g i j = μ.1 g i j
theorem sr_mh.rf (μ : sr_M) : sr_mh μ μ := fun _ _ _ _ => rfl
theorem sr_mh.trans {μ ν ρ : sr_M} (h1 : sr_mh μ ν) (h2 : sr_mh ν ρ) : sr_mh μ ρ := fun g i j h => (h2 g i j h).trans (h1 g i j h)
theorem sr_mh.seti {μ ν : sr_M} {g i j : Nat} {x : Int32} (h : sr_mh μ ν) (hg : ¬ (40 ≤ g ∧ g ≤ 42)) : sr_mh μ (sr_seti ν g i j x) := by
  intro a b e ha
  show (if a = g ∧ b = i ∧ e = j then x else ν.1 a b e) = _
  rw [if_neg (fun q => hg (by rw [← q.1]; exact ha))]
  exact h a b e ha
theorem mh_MO_note (μ : sr_M) (a b c : Int32) : sr_mh μ (m_MO_note μ a b c) := by
  unfold m_MO_note
  exact ((sr_mh.rf μ).seti (by decide)).seti (by decide)
theorem mh_MO_configure (μ : sr_M) (lev bef cls : Int32) : sr_mh μ (m_MO_configure μ lev bef cls) := by
  unfold m_MO_configure
  refine sr_it_inv (sr_mh μ) (fun k b hb => ?_) (sr_mh.rf μ) _
  unfold f_MO_configure
  (repeat' split) <;> first | exact hb | exact ((hb.seti (by decide)).seti (by decide)).trans (mh_MO_note _ _ _ _)
theorem sr_4m {m : Int32} (h : sr_in m 16) : sr_in ((4 : Int32) * m) 64 := by
  obtain ⟨k, hk, rfl⟩ := vp_in_of h (by decide)
  show sr_in (nI 4 * nI k) 64
  rw [pk_mul]
  exact sr_inN 64 (by omega) (by decide)

theorem mh_MO_finish (μ : sr_M) (m : Int32) (how : Int32) : sr_mh μ (m_MO_finish μ m how) := by
  unfold m_MO_finish
  repeat' split
  · exact ((((sr_mh.rf μ).seti (by decide)).seti (by decide)).trans (mh_MO_note _ _ _ _))
  · exact ((((sr_mh.rf μ).seti (by decide)).seti (by decide)).trans (mh_MO_note _ _ _ _))
  · exact (((((sr_mh.rf μ).seti (by decide)).seti (by decide)).trans (mh_MO_note _ _ _ _)).trans (mh_MO_configure _ _ _ _))
def i_MO_proceed (μ : sr_M) (wo : Int32) (k : Nat) (a : Int32 × sr_M) : Prop := k ≤ ((v_MO_due μ (μ.1 40 0 wo.toNatClampNeg)).toNatClampNeg - (μ.1 42 0 wo.toNatClampNeg).toNatClampNeg + 1) ∧ sr_mf μ a.2 ∧ a.2.1 40 0 wo.toNatClampNeg = (μ.1 40 0 wo.toNatClampNeg) ∧ (a.1 = 0 → a.2.1 42 0 wo.toNatClampNeg = nI ((μ.1 42 0 wo.toNatClampNeg).toNatClampNeg + k)) ∧ (∀ v, ¬ v = wo.toNatClampNeg → a.2.1 40 0 v = μ.1 40 0 v ∧ a.2.1 42 0 v = μ.1 42 0 v) ∧ (¬ a.1 = 0 → sr_cnt (a.2.1 42 0 wo.toNatClampNeg) 15)
def g_MO_proceed (μ : sr_M) (wo : Int32) : Nat → (Int32 × sr_M) → sr_M ⊕ (Int32 × sr_M) := fun k a => if (v_MO_due μ (μ.1 40 0 wo.toNatClampNeg)) ≤ (a.2.1 42 0 wo.toNatClampNeg) then (if a.1 = 0 then (if (a.2.1 34 0 ((((4 : Int32) * (μ.1 40 0 wo.toNatClampNeg)) + (1 : Int32)).toNatClampNeg)) ≤ 0 then (if (v_MO_due μ (μ.1 40 0 wo.toNatClampNeg)) ≤ 0 then (.inl (m_MO_finish (sr_seti a.2 40 0 wo.toNatClampNeg (-1)) (μ.1 40 0 wo.toNatClampNeg) 3)) else (if ¬ ((a.2.1 34 0 (((4 : Int32) * (μ.1 40 0 wo.toNatClampNeg)).toNatClampNeg)) + (a.2.1 34 0 ((((4 : Int32) * (μ.1 40 0 wo.toNatClampNeg)) + (1 : Int32)).toNatClampNeg))) = 0 then (.inl (m_MO_finish (sr_seti a.2 40 0 wo.toNatClampNeg (-1)) (μ.1 40 0 wo.toNatClampNeg) 3)) else (.inl (m_MO_finish (sr_seti a.2 40 0 wo.toNatClampNeg (-1)) (μ.1 40 0 wo.toNatClampNeg) 5)))) else (if ((v_MO_is (sr_seti a.2 40 0 wo.toNatClampNeg (-1)) (μ.1 40 0 wo.toNatClampNeg) 7) * ((a.2.1 34 0 (((4 : Int32) * (μ.1 40 0 wo.toNatClampNeg)).toNatClampNeg)) + (a.2.1 34 0 ((((4 : Int32) * (μ.1 40 0 wo.toNatClampNeg)) + (1 : Int32)).toNatClampNeg)))) ≤ ((100 : Int32) * (a.2.1 34 0 (((4 : Int32) * (μ.1 40 0 wo.toNatClampNeg)).toNatClampNeg))) then (if (v_MO_due μ (μ.1 40 0 wo.toNatClampNeg)) ≤ 0 then (.inl (m_MO_finish (sr_seti a.2 40 0 wo.toNatClampNeg (-1)) (μ.1 40 0 wo.toNatClampNeg) 3)) else (if ¬ ((a.2.1 34 0 (((4 : Int32) * (μ.1 40 0 wo.toNatClampNeg)).toNatClampNeg)) + (a.2.1 34 0 ((((4 : Int32) * (μ.1 40 0 wo.toNatClampNeg)) + (1 : Int32)).toNatClampNeg))) = 0 then (.inl (m_MO_finish (sr_seti a.2 40 0 wo.toNatClampNeg (-1)) (μ.1 40 0 wo.toNatClampNeg) 3)) else (.inl (m_MO_finish (sr_seti a.2 40 0 wo.toNatClampNeg (-1)) (μ.1 40 0 wo.toNatClampNeg) 5)))) else (if (v_MO_due μ (μ.1 40 0 wo.toNatClampNeg)) ≤ 0 then (.inl (m_MO_finish (sr_seti a.2 40 0 wo.toNatClampNeg (-1)) (μ.1 40 0 wo.toNatClampNeg) 4)) else (if ¬ ((a.2.1 34 0 (((4 : Int32) * (μ.1 40 0 wo.toNatClampNeg)).toNatClampNeg)) + (a.2.1 34 0 ((((4 : Int32) * (μ.1 40 0 wo.toNatClampNeg)) + (1 : Int32)).toNatClampNeg))) = 0 then (.inl (m_MO_finish (sr_seti a.2 40 0 wo.toNatClampNeg (-1)) (μ.1 40 0 wo.toNatClampNeg) 4)) else (.inl (m_MO_finish (sr_seti a.2 40 0 wo.toNatClampNeg (-1)) (μ.1 40 0 wo.toNatClampNeg) 5)))))) else (.inl a.2)) else (if ¬ a.1 = 0 then (.inl a.2) else (if ¬ (v_MO_blocked a.2 (μ.1 40 0 wo.toNatClampNeg)) = 0 then (.inr (a.1, (m_MO_close a.2 wo 3))) else (if ¬ (v_MO_blocked (m_MO_configure a.2 2 1 (a.2.1 21 0 ((μ.1 40 0 wo.toNatClampNeg).toNatClampNeg))) (μ.1 40 0 wo.toNatClampNeg)) = 0 then (.inr (0, (m_MO_close (m_MO_configure a.2 2 1 (a.2.1 21 0 ((μ.1 40 0 wo.toNatClampNeg).toNatClampNeg))) wo 3))) else (.inr (1, (m_MO_note (sr_seti (sr_seti (m_MO_configure a.2 2 1 (a.2.1 21 0 ((μ.1 40 0 wo.toNatClampNeg).toNatClampNeg))) 34 0 ((((4 : Int32) * (μ.1 40 0 wo.toNatClampNeg)) + (3 : Int32)).toNatClampNeg) (((m_MO_configure a.2 2 1 (a.2.1 21 0 ((μ.1 40 0 wo.toNatClampNeg).toNatClampNeg))).1 34 0 ((((4 : Int32) * (μ.1 40 0 wo.toNatClampNeg)) + (3 : Int32)).toNatClampNeg)) + (1 : Int32))) 41 0 wo.toNatClampNeg (v_MO_is (sr_seti (m_MO_configure a.2 2 1 (a.2.1 21 0 ((μ.1 40 0 wo.toNatClampNeg).toNatClampNeg))) 34 0 ((((4 : Int32) * (μ.1 40 0 wo.toNatClampNeg)) + (3 : Int32)).toNatClampNeg) (((m_MO_configure a.2 2 1 (a.2.1 21 0 ((μ.1 40 0 wo.toNatClampNeg).toNatClampNeg))).1 34 0 ((((4 : Int32) * (μ.1 40 0 wo.toNatClampNeg)) + (3 : Int32)).toNatClampNeg)) + (1 : Int32))) (μ.1 40 0 wo.toNatClampNeg) 5)) 1 (μ.1 40 0 wo.toNatClampNeg) ((m_MO_configure a.2 2 1 (a.2.1 21 0 ((μ.1 40 0 wo.toNatClampNeg).toNatClampNeg))).1 42 0 wo.toNatClampNeg)))))))
def m_MO_proceed (μ : sr_M) (wo : Int32) : sr_M := (sr_lp (g_MO_proceed μ wo) (((v_MO_due μ (μ.1 40 0 wo.toNatClampNeg)).toNatClampNeg - (μ.1 42 0 wo.toNatClampNeg).toNatClampNeg + 1) + 1) 0 (0, μ)).getD μ
def q_MO_proceed (μ : sr_M) (wo : Int32) : Prop := sr_in wo 3 ∧ sr_in (μ.1 40 0 wo.toNatClampNeg) 16 ∧ sr_cnt (μ.1 20 0 0) 16 ∧ sr_cnt (μ.1 20 0 7) 8 ∧ (v_MO_is μ (μ.1 40 0 wo.toNatClampNeg) 4 < 0 ∨ sr_in (v_MO_is μ (μ.1 40 0 wo.toNatClampNeg) 4) 4) ∧ sr_cnt (v_MO_due μ (μ.1 40 0 wo.toNatClampNeg)) 16 ∧ sr_cnt (μ.1 42 0 wo.toNatClampNeg) 16
def p_MO_proceed : sr_F := fun vs μ => match vs with
  | [.inr (.inr (20, 0)), .inl wo] => some (q_MO_proceed μ wo, none, m_MO_proceed μ wo)
  | _ => none
def e_MO_proceed : sr_E := (sr_SM, sr_KS, (fun k => ([(7, 10, 1), (62, 10, 27), (80, 10, 35), (83, 10, 36), (86, 10, 37)] : List (Nat × Nat × Nat)).lookup k, fun _ => none, fun _ => none, fun _ => none, fun k => ([(149, 11, 2, p_MO_is), (176, 11, 3, p_MO_note), (205, 11, 3, p_MO_configure), (209, 11, 2, p_MO_finish), (213, 11, 1, p_MO_blocked), (220, 11, 1, p_MO_due), (224, 11, 2, p_MO_close)] : List (Nat × Nat × Nat × sr_F)).lookup k), sr_cd cd_MO_proceed, none)
theorem h_MO_close (μ : sr_M) (wo res : Int32) : (m_MO_close μ wo res).1 40 0 wo.toNatClampNeg = μ.1 40 0 wo.toNatClampNeg ∧ (m_MO_close μ wo res).1 42 0 wo.toNatClampNeg = μ.1 42 0 wo.toNatClampNeg + 1 ∧ ∀ v, ¬ v = wo.toNatClampNeg → (m_MO_close μ wo res).1 40 0 v = μ.1 40 0 v ∧ (m_MO_close μ wo res).1 42 0 v = μ.1 42 0 v := by
  unfold m_MO_close
  refine ⟨?_, ?_, fun v hv => ⟨rfl, ?_⟩⟩
  · rfl
  · rw [sr_seti_self]
    rfl
  · show (if 42 = 42 ∧ 0 = 0 ∧ v = wo.toNatClampNeg then _ else _) = _
    rw [if_neg (fun q => hv q.2.2)]
    rfl
theorem j_MO_proceed (μ : sr_M) (wo : Int32) (hq : q_MO_proceed μ wo) : ∀ k a a', i_MO_proceed μ wo k a → g_MO_proceed μ wo k a = .inr a' → i_MO_proceed μ wo (k + 1) a' := by
  obtain ⟨q1, q2, q3, q4, q5, q6, q7⟩ : sr_in wo 3 ∧ sr_in (μ.1 40 0 wo.toNatClampNeg) 16 ∧ sr_cnt (μ.1 20 0 0) 16 ∧ sr_cnt (μ.1 20 0 7) 8 ∧ (v_MO_is μ (μ.1 40 0 wo.toNatClampNeg) 4 < 0 ∨ sr_in (v_MO_is μ (μ.1 40 0 wo.toNatClampNeg) 4) 4) ∧ sr_cnt (v_MO_due μ (μ.1 40 0 wo.toNatClampNeg)) 16 ∧ sr_cnt (μ.1 42 0 wo.toNatClampNeg) 16 := hq
  intro k a a' h e
  obtain ⟨h1, h2, h3, h4, h5, h6⟩ := h
  unfold g_MO_proceed at e
  split at e
  · (repeat' split at e) <;> cases e
  · rename_i hn
    split at e
    · (repeat' split at e) <;> cases e
    · rename_i hz
      have h0 : a.1 = 0 := Decidable.not_not.mp hz
      have hi := h4 h0
      rw [hi, sr_cnt_iff q6 (by decide) (by have := q7.2; have := q6.2; omega)] at hn
      (repeat' split at e) <;> cases e
      · exact ⟨by omega, h2.trans (mf_MO_close _ _ _), (h_MO_close _ _ _).1.trans h3, fun _ => by
          show (m_MO_close _ wo 3).1 42 0 _ = _
          rw [(h_MO_close _ _ _).2.1, hi, ← nI_succ]
          rfl, fun v hv => ⟨((h_MO_close _ _ _).2.2 v hv).1.trans (h5 v hv).1, ((h_MO_close _ _ _).2.2 v hv).2.trans (h5 v hv).2⟩, fun e => absurd h0 e⟩
      · exact ⟨by omega, (h2.trans (mf_MO_configure _ _ _ _)).trans (mf_MO_close _ _ _), ((h_MO_close _ _ _).1.trans (mh_MO_configure _ _ _ _ 40 0 _ (by decide))).trans h3, fun _ => by
          show (m_MO_close _ wo 3).1 42 0 _ = _
          rw [(h_MO_close _ _ _).2.1, mh_MO_configure _ _ _ _ 42 0 _ (by decide), hi, ← nI_succ]
          rfl, fun v hv => ⟨(((h_MO_close _ _ _).2.2 v hv).1.trans (mh_MO_configure _ _ _ _ 40 0 _ (by decide))).trans (h5 v hv).1, (((h_MO_close _ _ _).2.2 v hv).2.trans (mh_MO_configure _ _ _ _ 42 0 _ (by decide))).trans (h5 v hv).2⟩, fun e => absurd rfl e⟩
      · exact ⟨by omega, (((h2.trans (mf_MO_configure _ _ _ _)).arr).arr).trans (mf_MO_note _ _ _ _), ((mh_MO_note _ _ _ _ 40 0 _ (by decide)).trans (mh_MO_configure _ _ _ _ 40 0 _ (by decide))).trans h3, fun e => absurd (show (1 : Int32) = 0 from e) (by decide), fun v hv => ⟨((mh_MO_note _ _ _ _ 40 0 _ (by decide)).trans (mh_MO_configure _ _ _ _ 40 0 _ (by decide))).trans (h5 v hv).1, ((mh_MO_note _ _ _ _ 42 0 _ (by decide)).trans (mh_MO_configure _ _ _ _ 42 0 _ (by decide))).trans (h5 v hv).2⟩, fun _ => by
          show sr_cnt ((m_MO_note _ _ _ _).1 42 0 _) 15
          rw [mh_MO_note _ _ _ _ 42 0 _ (by decide)]
          show sr_cnt ((m_MO_configure _ _ _ _).1 42 0 _) 15
          rw [mh_MO_configure _ _ _ _ 42 0 _ (by decide), hi]
          have := q6.2
          unfold sr_cnt
          rw [nI_clamp (by omega)]
          exact ⟨rfl, by omega⟩⟩
theorem t_MO_proceed (μ : sr_M) (wo : Int32) (hq : q_MO_proceed μ wo) : ∃ b, sr_lp (g_MO_proceed μ wo) (((v_MO_due μ (μ.1 40 0 wo.toNatClampNeg)).toNatClampNeg - (μ.1 42 0 wo.toNatClampNeg).toNatClampNeg + 1) + 1) 0 (0, μ) = some b := by
  have hj := j_MO_proceed μ wo hq
  obtain ⟨q1, q2, q3, q4, q5, q6, q7⟩ : sr_in wo 3 ∧ sr_in (μ.1 40 0 wo.toNatClampNeg) 16 ∧ sr_cnt (μ.1 20 0 0) 16 ∧ sr_cnt (μ.1 20 0 7) 8 ∧ (v_MO_is μ (μ.1 40 0 wo.toNatClampNeg) 4 < 0 ∨ sr_in (v_MO_is μ (μ.1 40 0 wo.toNatClampNeg) 4) 4) ∧ sr_cnt (v_MO_due μ (μ.1 40 0 wo.toNatClampNeg)) 16 ∧ sr_cnt (μ.1 42 0 wo.toNatClampNeg) 16 := hq
  refine sr_lp_some (g_MO_proceed μ wo) ((v_MO_due μ (μ.1 40 0 wo.toNatClampNeg)).toNatClampNeg - (μ.1 42 0 wo.toNatClampNeg).toNatClampNeg + 1) (i_MO_proceed μ wo) hj (fun a h => ?_) ((v_MO_due μ (μ.1 40 0 wo.toNatClampNeg)).toNatClampNeg - (μ.1 42 0 wo.toNatClampNeg).toNatClampNeg + 1) 0 (0, μ) (by omega) ⟨Nat.zero_le _, sr_mf.rf μ, rfl, fun _ => q7.1, fun _ _ => ⟨rfl, rfl⟩, fun e => absurd rfl e⟩
  obtain ⟨h1, h2, h3, h4, h5, h6⟩ := h
  unfold g_MO_proceed
  by_cases h0 : a.1 = 0
  · rw [if_pos (by
      rw [h4 h0, sr_cnt_iff q6 (by decide) (by have := q7.2; have := q6.2; omega)]
      omega)]
    (repeat' split) <;> exact ⟨_, rfl⟩
  · split
    · (repeat' split) <;> exact ⟨_, rfl⟩
    · first | exact ⟨_, rfl⟩ | (rw [if_pos h0]; exact ⟨_, rfl⟩)
theorem o_MO_proceed (μ : sr_M) (wo : Int32) (hq : q_MO_proceed μ wo) : sr_mf μ (m_MO_proceed μ wo) ∧ (∀ v, ¬ v = wo.toNatClampNeg → (m_MO_proceed μ wo).1 40 0 v = μ.1 40 0 v ∧ (m_MO_proceed μ wo).1 42 0 v = μ.1 42 0 v) ∧ ((m_MO_proceed μ wo).1 40 0 wo.toNatClampNeg = -1 ∨ ((m_MO_proceed μ wo).1 40 0 wo.toNatClampNeg = (μ.1 40 0 wo.toNatClampNeg) ∧ sr_cnt ((m_MO_proceed μ wo).1 42 0 wo.toNatClampNeg) 15)) := by
  obtain ⟨b, hb⟩ := t_MO_proceed μ wo hq
  have hj := j_MO_proceed μ wo hq
  obtain ⟨q1, q2, q3, q4, q5, q6, q7⟩ : sr_in wo 3 ∧ sr_in (μ.1 40 0 wo.toNatClampNeg) 16 ∧ sr_cnt (μ.1 20 0 0) 16 ∧ sr_cnt (μ.1 20 0 7) 8 ∧ (v_MO_is μ (μ.1 40 0 wo.toNatClampNeg) 4 < 0 ∨ sr_in (v_MO_is μ (μ.1 40 0 wo.toNatClampNeg) 4) 4) ∧ sr_cnt (v_MO_due μ (μ.1 40 0 wo.toNatClampNeg)) 16 ∧ sr_cnt (μ.1 42 0 wo.toNatClampNeg) 16 := hq
  have e : m_MO_proceed μ wo = b := by
    unfold m_MO_proceed
    rw [hb]
    rfl
  rw [e]
  refine sr_lp_inv (i_MO_proceed μ wo) hj (fun b => sr_mf μ b ∧ (∀ v, ¬ v = wo.toNatClampNeg → b.1 40 0 v = μ.1 40 0 v ∧ b.1 42 0 v = μ.1 42 0 v) ∧ (b.1 40 0 wo.toNatClampNeg = -1 ∨ (b.1 40 0 wo.toNatClampNeg = (μ.1 40 0 wo.toNatClampNeg) ∧ sr_cnt (b.1 42 0 wo.toNatClampNeg) 15))) (fun k a b h e => ?_) _ _ _ _ ⟨Nat.zero_le _, sr_mf.rf μ, rfl, fun _ => q7.1, fun _ _ => ⟨rfl, rfl⟩, fun e => absurd rfl e⟩ hb
  obtain ⟨h1, h2, h3, h4, h5, h6⟩ := h
  have fin : ∀ x, sr_mf μ (m_MO_finish (sr_seti a.2 40 0 wo.toNatClampNeg (-1)) (μ.1 40 0 wo.toNatClampNeg) x) ∧ (∀ v, ¬ v = wo.toNatClampNeg → (m_MO_finish (sr_seti a.2 40 0 wo.toNatClampNeg (-1)) (μ.1 40 0 wo.toNatClampNeg) x).1 40 0 v = μ.1 40 0 v ∧ (m_MO_finish (sr_seti a.2 40 0 wo.toNatClampNeg (-1)) (μ.1 40 0 wo.toNatClampNeg) x).1 42 0 v = μ.1 42 0 v) ∧ (m_MO_finish (sr_seti a.2 40 0 wo.toNatClampNeg (-1)) (μ.1 40 0 wo.toNatClampNeg) x).1 40 0 wo.toNatClampNeg = -1 := by
    intro x
    refine ⟨h2.arr.trans (mf_MO_finish _ _ _), fun v hv => ⟨?_, ?_⟩, ?_⟩
    · rw [mh_MO_finish _ _ _ 40 0 v (by decide)]
      show (if 40 = 40 ∧ 0 = 0 ∧ v = wo.toNatClampNeg then _ else a.2.1 40 0 v) = _
      rw [if_neg (fun q => hv q.2.2)]
      exact (h5 v hv).1
    · rw [mh_MO_finish _ _ _ 42 0 v (by decide)]
      exact (h5 v hv).2
    · rw [mh_MO_finish _ _ _ 40 0 _ (by decide), sr_seti_self]
  unfold g_MO_proceed at e
  (repeat' split at e) <;> cases e
  all_goals first
    | exact ⟨(fin _).1, (fin _).2.1, Or.inl (fin _).2.2⟩
    | exact ⟨h2, h5, Or.inr ⟨h3, h6 (by assumption)⟩⟩
set_option maxRecDepth 10000 in
theorem a_MO_proceed (μ : sr_M) (wo : Int32) (hq : q_MO_proceed μ wo) : sr_AW e_MO_proceed (fun r => r = (none, m_MO_proceed μ wo)) (sr_entry 8 [.inr (.inr (20, 0)), .inl wo] μ) := by
  have hq0 := hq
  obtain ⟨q1, q2, q3, q4, q5, q6, q7⟩ : sr_in wo 3 ∧ sr_in (μ.1 40 0 wo.toNatClampNeg) 16 ∧ sr_cnt (μ.1 20 0 0) 16 ∧ sr_cnt (μ.1 20 0 7) 8 ∧ (v_MO_is μ (μ.1 40 0 wo.toNatClampNeg) 4 < 0 ∨ sr_in (v_MO_is μ (μ.1 40 0 wo.toNatClampNeg) 4) 4) ∧ sr_cnt (v_MO_due μ (μ.1 40 0 wo.toNatClampNeg)) 16 ∧ sr_cnt (μ.1 42 0 wo.toNatClampNeg) 16 := hq
  have qw := sr_in_lt q1
  have qm := sr_in_lt q2
  refine sr_many 11 (t := (16, [some (.inr (.inr (20, 0))), some (.inl wo), some (.inl (μ.1 40 0 wo.toNatClampNeg)), some (.inl 0), some (.inl (v_MO_due μ (μ.1 40 0 wo.toNatClampNeg))), none, none, none], [], μ)) rfl ⟨trivial, (show 0 < 1 by decide), trivial, ⟨(show 0 < 1 by decide), (show sr_in wo 3 from q1)⟩, trivial, trivial, trivial, trivial, trivial, ⟨(show 0 < 1 by decide), ⟨(show sr_in (μ.1 40 0 wo.toNatClampNeg) 16 from q2), (show v_MO_is μ (μ.1 40 0 wo.toNatClampNeg) 4 < 0 ∨ sr_in (v_MO_is μ (μ.1 40 0 wo.toNatClampNeg) 4) 4 by assumption)⟩⟩, trivial, trivial⟩ ?_
  have hI : ∀ k a a', (fun k a => i_MO_proceed μ wo k a) k a → (g_MO_proceed μ wo) k a = .inr a' → (fun k a => i_MO_proceed μ wo k a) (k + 1) a' := (j_MO_proceed μ wo hq0)
  obtain ⟨b, hb⟩ : ∃ b, sr_lp (g_MO_proceed μ wo) (((v_MO_due μ (μ.1 40 0 wo.toNatClampNeg)).toNatClampNeg - (μ.1 42 0 wo.toNatClampNeg).toNatClampNeg + 1) + 1) 0 (0, μ) = some b := t_MO_proceed μ wo hq0
  have e : ((none, m_MO_proceed μ wo) : sr_R) = (fun b => (none, b)) b := by
    unfold m_MO_proceed
    rw [hb]
    rfl
  rw [e]
  refine sr_loop (fun b => (none, b)) (fun k a => (16, [some (.inr (.inr (20, 0))), some (.inl wo), some (.inl (μ.1 40 0 wo.toNatClampNeg)), some (.inl a.1), some (.inl (v_MO_due μ (μ.1 40 0 wo.toNatClampNeg))), none, none, none], [], a.2)) (g_MO_proceed μ wo) (fun k a => i_MO_proceed μ wo k a) hI (fun K k a hIk hr w => ?_) (((v_MO_due μ (μ.1 40 0 wo.toNatClampNeg)).toNatClampNeg - (μ.1 42 0 wo.toNatClampNeg).toNatClampNeg + 1) + 1) 0 (0, μ) b ⟨Nat.zero_le _, sr_mf.rf μ, rfl, fun _ => q7.1, fun _ _ => ⟨rfl, rfl⟩, fun e => absurd rfl e⟩ hb
  obtain ⟨hk0, hmf, hhas, hinv, hoth, hent⟩ := hIk
  have hhas2 : sr_in (a.2.1 40 0 wo.toNatClampNeg) 16 := by rw [hhas]; exact q2
  refine sr_many 6 (t := (bif decide ((v_MO_due μ (μ.1 40 0 wo.toNatClampNeg)) ≤ (a.2.1 42 0 wo.toNatClampNeg)) then 119 else 27, [some (.inr (.inr (20, 0))), some (.inl wo), some (.inl (μ.1 40 0 wo.toNatClampNeg)), some (.inl a.1), some (.inl (v_MO_due μ (μ.1 40 0 wo.toNatClampNeg))), none, none, none], [], a.2)) rfl ⟨trivial, (show 0 < 1 by decide), trivial, ⟨(show 0 < 1 by decide), (show sr_in wo 3 from q1)⟩, trivial, trivial, trivial⟩ ?_
  refine sr_brd (fun h1 => ?_) (fun h1 => ?_)
  · refine sr_many 2 (t := (bif decide (a.1 = 0) then 124 else 123, [some (.inr (.inr (20, 0))), some (.inl wo), some (.inl (μ.1 40 0 wo.toNatClampNeg)), some (.inl a.1), some (.inl (v_MO_due μ (μ.1 40 0 wo.toNatClampNeg))), none, none, none], [], a.2)) rfl ⟨trivial, trivial, trivial⟩ ?_
    refine sr_brd (fun h2 => ?_) (fun h2 => ?_)
    · refine sr_many 23 (t := (bif decide ((a.2.1 34 0 ((((4 : Int32) * (μ.1 40 0 wo.toNatClampNeg)) + (1 : Int32)).toNatClampNeg)) ≤ 0) then 183 else 158, [some (.inr (.inr (20, 0))), some (.inl wo), some (.inl (μ.1 40 0 wo.toNatClampNeg)), some (.inl a.1), some (.inl (v_MO_due μ (μ.1 40 0 wo.toNatClampNeg))), some (.inl (a.2.1 34 0 (((4 : Int32) * (μ.1 40 0 wo.toNatClampNeg)).toNatClampNeg))), some (.inl (a.2.1 34 0 ((((4 : Int32) * (μ.1 40 0 wo.toNatClampNeg)) + (1 : Int32)).toNatClampNeg))), none], [], (sr_seti a.2 40 0 wo.toNatClampNeg (-1)))) rfl ⟨trivial, (show 0 < 1 by decide), trivial, trivial, ⟨(show 0 < 1 by decide), (show sr_in wo 3 from q1)⟩, trivial, (show 0 < 1 by decide), trivial, trivial, trivial, ⟨(show 0 < 1 by decide), (show sr_in ((4 : Int32) * (μ.1 40 0 wo.toNatClampNeg)) 64 from sr_4m q2)⟩, trivial, trivial, (show 0 < 1 by decide), trivial, trivial, trivial, trivial, trivial, ⟨(show 0 < 1 by decide), (show sr_in (((4 : Int32) * (μ.1 40 0 wo.toNatClampNeg)) + (1 : Int32)) 64 from sr_is4 q2 1 (by decide))⟩, trivial, trivial, trivial, trivial⟩ ?_
      refine sr_brd (fun h3 => ?_) (fun h3 => ?_)
      · refine sr_many 6 (t := (bif decide ((v_MO_due μ (μ.1 40 0 wo.toNatClampNeg)) ≤ 0) then 205 else 193, [some (.inr (.inr (20, 0))), some (.inl wo), some (.inl (μ.1 40 0 wo.toNatClampNeg)), some (.inl a.1), some (.inl (v_MO_due μ (μ.1 40 0 wo.toNatClampNeg))), some (.inl (a.2.1 34 0 (((4 : Int32) * (μ.1 40 0 wo.toNatClampNeg)).toNatClampNeg))), some (.inl (a.2.1 34 0 ((((4 : Int32) * (μ.1 40 0 wo.toNatClampNeg)) + (1 : Int32)).toNatClampNeg))), some (.inl 0)], [.inl (μ.1 40 0 wo.toNatClampNeg), .inr (.inr (20, 0))], (sr_seti a.2 40 0 wo.toNatClampNeg (-1)))) rfl ⟨trivial, trivial, trivial, trivial, trivial, trivial, trivial⟩ ?_
        refine sr_brd (fun h4 => ?_) (fun h4 => ?_)
        · refine sr_many 4 (t := (218, [some (.inr (.inr (20, 0))), some (.inl wo), some (.inl (μ.1 40 0 wo.toNatClampNeg)), some (.inl a.1), some (.inl (v_MO_due μ (μ.1 40 0 wo.toNatClampNeg))), some (.inl (a.2.1 34 0 (((4 : Int32) * (μ.1 40 0 wo.toNatClampNeg)).toNatClampNeg))), some (.inl (a.2.1 34 0 ((((4 : Int32) * (μ.1 40 0 wo.toNatClampNeg)) + (1 : Int32)).toNatClampNeg))), some (.inl 0)], [], (m_MO_finish (sr_seti a.2 40 0 wo.toNatClampNeg (-1)) (μ.1 40 0 wo.toNatClampNeg) 3))) rfl ⟨trivial, trivial, trivial, ⟨(show 0 < 1 by decide), ⟨(show sr_in (μ.1 40 0 wo.toNatClampNeg) 16 from q2), ((hmf.arr).cnt q3), ((hmf.arr).cnt q4)⟩⟩, trivial⟩ ?_
          exact sr_ret rfl rfl rfl trivial (hr (m_MO_finish (sr_seti a.2 40 0 wo.toNatClampNeg (-1)) (μ.1 40 0 wo.toNatClampNeg) 3) (by simp only [g_MO_proceed, if_pos h1, if_pos h2, if_pos h3, if_pos h4]))
        · refine sr_many 4 (t := (bif decide (¬ ((a.2.1 34 0 (((4 : Int32) * (μ.1 40 0 wo.toNatClampNeg)).toNatClampNeg)) + (a.2.1 34 0 ((((4 : Int32) * (μ.1 40 0 wo.toNatClampNeg)) + (1 : Int32)).toNatClampNeg))) = 0) then 205 else 201, [some (.inr (.inr (20, 0))), some (.inl wo), some (.inl (μ.1 40 0 wo.toNatClampNeg)), some (.inl a.1), some (.inl (v_MO_due μ (μ.1 40 0 wo.toNatClampNeg))), some (.inl (a.2.1 34 0 (((4 : Int32) * (μ.1 40 0 wo.toNatClampNeg)).toNatClampNeg))), some (.inl (a.2.1 34 0 ((((4 : Int32) * (μ.1 40 0 wo.toNatClampNeg)) + (1 : Int32)).toNatClampNeg))), some (.inl 0)], [.inl (μ.1 40 0 wo.toNatClampNeg), .inr (.inr (20, 0))], (sr_seti a.2 40 0 wo.toNatClampNeg (-1)))) rfl ⟨trivial, trivial, trivial, trivial, trivial⟩ ?_
          refine sr_brd (fun h5 => ?_) (fun h5 => ?_)
          · refine sr_many 4 (t := (218, [some (.inr (.inr (20, 0))), some (.inl wo), some (.inl (μ.1 40 0 wo.toNatClampNeg)), some (.inl a.1), some (.inl (v_MO_due μ (μ.1 40 0 wo.toNatClampNeg))), some (.inl (a.2.1 34 0 (((4 : Int32) * (μ.1 40 0 wo.toNatClampNeg)).toNatClampNeg))), some (.inl (a.2.1 34 0 ((((4 : Int32) * (μ.1 40 0 wo.toNatClampNeg)) + (1 : Int32)).toNatClampNeg))), some (.inl 0)], [], (m_MO_finish (sr_seti a.2 40 0 wo.toNatClampNeg (-1)) (μ.1 40 0 wo.toNatClampNeg) 3))) rfl ⟨trivial, trivial, trivial, ⟨(show 0 < 1 by decide), ⟨(show sr_in (μ.1 40 0 wo.toNatClampNeg) 16 from q2), ((hmf.arr).cnt q3), ((hmf.arr).cnt q4)⟩⟩, trivial⟩ ?_
            exact sr_ret rfl rfl rfl trivial (hr (m_MO_finish (sr_seti a.2 40 0 wo.toNatClampNeg (-1)) (μ.1 40 0 wo.toNatClampNeg) 3) (by simp only [g_MO_proceed, if_pos h1, if_pos h2, if_pos h3, if_neg h4, if_pos h5]))
          · refine sr_many 3 (t := (218, [some (.inr (.inr (20, 0))), some (.inl wo), some (.inl (μ.1 40 0 wo.toNatClampNeg)), some (.inl a.1), some (.inl (v_MO_due μ (μ.1 40 0 wo.toNatClampNeg))), some (.inl (a.2.1 34 0 (((4 : Int32) * (μ.1 40 0 wo.toNatClampNeg)).toNatClampNeg))), some (.inl (a.2.1 34 0 ((((4 : Int32) * (μ.1 40 0 wo.toNatClampNeg)) + (1 : Int32)).toNatClampNeg))), some (.inl 0)], [], (m_MO_finish (sr_seti a.2 40 0 wo.toNatClampNeg (-1)) (μ.1 40 0 wo.toNatClampNeg) 5))) rfl ⟨trivial, trivial, ⟨(show 0 < 1 by decide), ⟨(show sr_in (μ.1 40 0 wo.toNatClampNeg) 16 from q2), ((hmf.arr).cnt q3), ((hmf.arr).cnt q4)⟩⟩, trivial⟩ ?_
            exact sr_ret rfl rfl rfl trivial (hr (m_MO_finish (sr_seti a.2 40 0 wo.toNatClampNeg (-1)) (μ.1 40 0 wo.toNatClampNeg) 5) (by simp only [g_MO_proceed, if_pos h1, if_pos h2, if_pos h3, if_neg h4, if_neg h5]))
      · refine sr_many 12 (t := (bif decide (((v_MO_is (sr_seti a.2 40 0 wo.toNatClampNeg (-1)) (μ.1 40 0 wo.toNatClampNeg) 7) * ((a.2.1 34 0 (((4 : Int32) * (μ.1 40 0 wo.toNatClampNeg)).toNatClampNeg)) + (a.2.1 34 0 ((((4 : Int32) * (μ.1 40 0 wo.toNatClampNeg)) + (1 : Int32)).toNatClampNeg)))) ≤ ((100 : Int32) * (a.2.1 34 0 (((4 : Int32) * (μ.1 40 0 wo.toNatClampNeg)).toNatClampNeg)))) then 183 else 179, [some (.inr (.inr (20, 0))), some (.inl wo), some (.inl (μ.1 40 0 wo.toNatClampNeg)), some (.inl a.1), some (.inl (v_MO_due μ (μ.1 40 0 wo.toNatClampNeg))), some (.inl (a.2.1 34 0 (((4 : Int32) * (μ.1 40 0 wo.toNatClampNeg)).toNatClampNeg))), some (.inl (a.2.1 34 0 ((((4 : Int32) * (μ.1 40 0 wo.toNatClampNeg)) + (1 : Int32)).toNatClampNeg))), none], [], (sr_seti a.2 40 0 wo.toNatClampNeg (-1)))) rfl ⟨trivial, trivial, trivial, trivial, trivial, trivial, ⟨(show 0 < 1 by decide), (show sr_in ((9 : Int32) * (μ.1 40 0 wo.toNatClampNeg) + (7 : Int32)) 144 from sr_is9 q2 7 (by decide))⟩, trivial, trivial, trivial, trivial, trivial, trivial⟩ ?_
        refine sr_brd (fun h4 => ?_) (fun h4 => ?_)
        · refine sr_many 6 (t := (bif decide ((v_MO_due μ (μ.1 40 0 wo.toNatClampNeg)) ≤ 0) then 205 else 193, [some (.inr (.inr (20, 0))), some (.inl wo), some (.inl (μ.1 40 0 wo.toNatClampNeg)), some (.inl a.1), some (.inl (v_MO_due μ (μ.1 40 0 wo.toNatClampNeg))), some (.inl (a.2.1 34 0 (((4 : Int32) * (μ.1 40 0 wo.toNatClampNeg)).toNatClampNeg))), some (.inl (a.2.1 34 0 ((((4 : Int32) * (μ.1 40 0 wo.toNatClampNeg)) + (1 : Int32)).toNatClampNeg))), some (.inl 0)], [.inl (μ.1 40 0 wo.toNatClampNeg), .inr (.inr (20, 0))], (sr_seti a.2 40 0 wo.toNatClampNeg (-1)))) rfl ⟨trivial, trivial, trivial, trivial, trivial, trivial, trivial⟩ ?_
          refine sr_brd (fun h5 => ?_) (fun h5 => ?_)
          · refine sr_many 4 (t := (218, [some (.inr (.inr (20, 0))), some (.inl wo), some (.inl (μ.1 40 0 wo.toNatClampNeg)), some (.inl a.1), some (.inl (v_MO_due μ (μ.1 40 0 wo.toNatClampNeg))), some (.inl (a.2.1 34 0 (((4 : Int32) * (μ.1 40 0 wo.toNatClampNeg)).toNatClampNeg))), some (.inl (a.2.1 34 0 ((((4 : Int32) * (μ.1 40 0 wo.toNatClampNeg)) + (1 : Int32)).toNatClampNeg))), some (.inl 0)], [], (m_MO_finish (sr_seti a.2 40 0 wo.toNatClampNeg (-1)) (μ.1 40 0 wo.toNatClampNeg) 3))) rfl ⟨trivial, trivial, trivial, ⟨(show 0 < 1 by decide), ⟨(show sr_in (μ.1 40 0 wo.toNatClampNeg) 16 from q2), ((hmf.arr).cnt q3), ((hmf.arr).cnt q4)⟩⟩, trivial⟩ ?_
            exact sr_ret rfl rfl rfl trivial (hr (m_MO_finish (sr_seti a.2 40 0 wo.toNatClampNeg (-1)) (μ.1 40 0 wo.toNatClampNeg) 3) (by simp only [g_MO_proceed, if_pos h1, if_pos h2, if_neg h3, if_pos h4, if_pos h5]))
          · refine sr_many 4 (t := (bif decide (¬ ((a.2.1 34 0 (((4 : Int32) * (μ.1 40 0 wo.toNatClampNeg)).toNatClampNeg)) + (a.2.1 34 0 ((((4 : Int32) * (μ.1 40 0 wo.toNatClampNeg)) + (1 : Int32)).toNatClampNeg))) = 0) then 205 else 201, [some (.inr (.inr (20, 0))), some (.inl wo), some (.inl (μ.1 40 0 wo.toNatClampNeg)), some (.inl a.1), some (.inl (v_MO_due μ (μ.1 40 0 wo.toNatClampNeg))), some (.inl (a.2.1 34 0 (((4 : Int32) * (μ.1 40 0 wo.toNatClampNeg)).toNatClampNeg))), some (.inl (a.2.1 34 0 ((((4 : Int32) * (μ.1 40 0 wo.toNatClampNeg)) + (1 : Int32)).toNatClampNeg))), some (.inl 0)], [.inl (μ.1 40 0 wo.toNatClampNeg), .inr (.inr (20, 0))], (sr_seti a.2 40 0 wo.toNatClampNeg (-1)))) rfl ⟨trivial, trivial, trivial, trivial, trivial⟩ ?_
            refine sr_brd (fun h6 => ?_) (fun h6 => ?_)
            · refine sr_many 4 (t := (218, [some (.inr (.inr (20, 0))), some (.inl wo), some (.inl (μ.1 40 0 wo.toNatClampNeg)), some (.inl a.1), some (.inl (v_MO_due μ (μ.1 40 0 wo.toNatClampNeg))), some (.inl (a.2.1 34 0 (((4 : Int32) * (μ.1 40 0 wo.toNatClampNeg)).toNatClampNeg))), some (.inl (a.2.1 34 0 ((((4 : Int32) * (μ.1 40 0 wo.toNatClampNeg)) + (1 : Int32)).toNatClampNeg))), some (.inl 0)], [], (m_MO_finish (sr_seti a.2 40 0 wo.toNatClampNeg (-1)) (μ.1 40 0 wo.toNatClampNeg) 3))) rfl ⟨trivial, trivial, trivial, ⟨(show 0 < 1 by decide), ⟨(show sr_in (μ.1 40 0 wo.toNatClampNeg) 16 from q2), ((hmf.arr).cnt q3), ((hmf.arr).cnt q4)⟩⟩, trivial⟩ ?_
              exact sr_ret rfl rfl rfl trivial (hr (m_MO_finish (sr_seti a.2 40 0 wo.toNatClampNeg (-1)) (μ.1 40 0 wo.toNatClampNeg) 3) (by simp only [g_MO_proceed, if_pos h1, if_pos h2, if_neg h3, if_pos h4, if_neg h5, if_pos h6]))
            · refine sr_many 3 (t := (218, [some (.inr (.inr (20, 0))), some (.inl wo), some (.inl (μ.1 40 0 wo.toNatClampNeg)), some (.inl a.1), some (.inl (v_MO_due μ (μ.1 40 0 wo.toNatClampNeg))), some (.inl (a.2.1 34 0 (((4 : Int32) * (μ.1 40 0 wo.toNatClampNeg)).toNatClampNeg))), some (.inl (a.2.1 34 0 ((((4 : Int32) * (μ.1 40 0 wo.toNatClampNeg)) + (1 : Int32)).toNatClampNeg))), some (.inl 0)], [], (m_MO_finish (sr_seti a.2 40 0 wo.toNatClampNeg (-1)) (μ.1 40 0 wo.toNatClampNeg) 5))) rfl ⟨trivial, trivial, ⟨(show 0 < 1 by decide), ⟨(show sr_in (μ.1 40 0 wo.toNatClampNeg) 16 from q2), ((hmf.arr).cnt q3), ((hmf.arr).cnt q4)⟩⟩, trivial⟩ ?_
              exact sr_ret rfl rfl rfl trivial (hr (m_MO_finish (sr_seti a.2 40 0 wo.toNatClampNeg (-1)) (μ.1 40 0 wo.toNatClampNeg) 5) (by simp only [g_MO_proceed, if_pos h1, if_pos h2, if_neg h3, if_pos h4, if_neg h5, if_neg h6]))
        · refine sr_many 7 (t := (bif decide ((v_MO_due μ (μ.1 40 0 wo.toNatClampNeg)) ≤ 0) then 205 else 193, [some (.inr (.inr (20, 0))), some (.inl wo), some (.inl (μ.1 40 0 wo.toNatClampNeg)), some (.inl a.1), some (.inl (v_MO_due μ (μ.1 40 0 wo.toNatClampNeg))), some (.inl (a.2.1 34 0 (((4 : Int32) * (μ.1 40 0 wo.toNatClampNeg)).toNatClampNeg))), some (.inl (a.2.1 34 0 ((((4 : Int32) * (μ.1 40 0 wo.toNatClampNeg)) + (1 : Int32)).toNatClampNeg))), some (.inl 1)], [.inl (μ.1 40 0 wo.toNatClampNeg), .inr (.inr (20, 0))], (sr_seti a.2 40 0 wo.toNatClampNeg (-1)))) rfl ⟨trivial, trivial, trivial, trivial, trivial, trivial, trivial, trivial⟩ ?_
          refine sr_brd (fun h5 => ?_) (fun h5 => ?_)
          · refine sr_many 5 (t := (218, [some (.inr (.inr (20, 0))), some (.inl wo), some (.inl (μ.1 40 0 wo.toNatClampNeg)), some (.inl a.1), some (.inl (v_MO_due μ (μ.1 40 0 wo.toNatClampNeg))), some (.inl (a.2.1 34 0 (((4 : Int32) * (μ.1 40 0 wo.toNatClampNeg)).toNatClampNeg))), some (.inl (a.2.1 34 0 ((((4 : Int32) * (μ.1 40 0 wo.toNatClampNeg)) + (1 : Int32)).toNatClampNeg))), some (.inl 1)], [], (m_MO_finish (sr_seti a.2 40 0 wo.toNatClampNeg (-1)) (μ.1 40 0 wo.toNatClampNeg) 4))) rfl ⟨trivial, trivial, trivial, trivial, ⟨(show 0 < 1 by decide), ⟨(show sr_in (μ.1 40 0 wo.toNatClampNeg) 16 from q2), ((hmf.arr).cnt q3), ((hmf.arr).cnt q4)⟩⟩, trivial⟩ ?_
            exact sr_ret rfl rfl rfl trivial (hr (m_MO_finish (sr_seti a.2 40 0 wo.toNatClampNeg (-1)) (μ.1 40 0 wo.toNatClampNeg) 4) (by simp only [g_MO_proceed, if_pos h1, if_pos h2, if_neg h3, if_neg h4, if_pos h5]))
          · refine sr_many 4 (t := (bif decide (¬ ((a.2.1 34 0 (((4 : Int32) * (μ.1 40 0 wo.toNatClampNeg)).toNatClampNeg)) + (a.2.1 34 0 ((((4 : Int32) * (μ.1 40 0 wo.toNatClampNeg)) + (1 : Int32)).toNatClampNeg))) = 0) then 205 else 201, [some (.inr (.inr (20, 0))), some (.inl wo), some (.inl (μ.1 40 0 wo.toNatClampNeg)), some (.inl a.1), some (.inl (v_MO_due μ (μ.1 40 0 wo.toNatClampNeg))), some (.inl (a.2.1 34 0 (((4 : Int32) * (μ.1 40 0 wo.toNatClampNeg)).toNatClampNeg))), some (.inl (a.2.1 34 0 ((((4 : Int32) * (μ.1 40 0 wo.toNatClampNeg)) + (1 : Int32)).toNatClampNeg))), some (.inl 1)], [.inl (μ.1 40 0 wo.toNatClampNeg), .inr (.inr (20, 0))], (sr_seti a.2 40 0 wo.toNatClampNeg (-1)))) rfl ⟨trivial, trivial, trivial, trivial, trivial⟩ ?_
            refine sr_brd (fun h6 => ?_) (fun h6 => ?_)
            · refine sr_many 5 (t := (218, [some (.inr (.inr (20, 0))), some (.inl wo), some (.inl (μ.1 40 0 wo.toNatClampNeg)), some (.inl a.1), some (.inl (v_MO_due μ (μ.1 40 0 wo.toNatClampNeg))), some (.inl (a.2.1 34 0 (((4 : Int32) * (μ.1 40 0 wo.toNatClampNeg)).toNatClampNeg))), some (.inl (a.2.1 34 0 ((((4 : Int32) * (μ.1 40 0 wo.toNatClampNeg)) + (1 : Int32)).toNatClampNeg))), some (.inl 1)], [], (m_MO_finish (sr_seti a.2 40 0 wo.toNatClampNeg (-1)) (μ.1 40 0 wo.toNatClampNeg) 4))) rfl ⟨trivial, trivial, trivial, trivial, ⟨(show 0 < 1 by decide), ⟨(show sr_in (μ.1 40 0 wo.toNatClampNeg) 16 from q2), ((hmf.arr).cnt q3), ((hmf.arr).cnt q4)⟩⟩, trivial⟩ ?_
              exact sr_ret rfl rfl rfl trivial (hr (m_MO_finish (sr_seti a.2 40 0 wo.toNatClampNeg (-1)) (μ.1 40 0 wo.toNatClampNeg) 4) (by simp only [g_MO_proceed, if_pos h1, if_pos h2, if_neg h3, if_neg h4, if_neg h5, if_pos h6]))
            · refine sr_many 3 (t := (218, [some (.inr (.inr (20, 0))), some (.inl wo), some (.inl (μ.1 40 0 wo.toNatClampNeg)), some (.inl a.1), some (.inl (v_MO_due μ (μ.1 40 0 wo.toNatClampNeg))), some (.inl (a.2.1 34 0 (((4 : Int32) * (μ.1 40 0 wo.toNatClampNeg)).toNatClampNeg))), some (.inl (a.2.1 34 0 ((((4 : Int32) * (μ.1 40 0 wo.toNatClampNeg)) + (1 : Int32)).toNatClampNeg))), some (.inl 1)], [], (m_MO_finish (sr_seti a.2 40 0 wo.toNatClampNeg (-1)) (μ.1 40 0 wo.toNatClampNeg) 5))) rfl ⟨trivial, trivial, ⟨(show 0 < 1 by decide), ⟨(show sr_in (μ.1 40 0 wo.toNatClampNeg) 16 from q2), ((hmf.arr).cnt q3), ((hmf.arr).cnt q4)⟩⟩, trivial⟩ ?_
              exact sr_ret rfl rfl rfl trivial (hr (m_MO_finish (sr_seti a.2 40 0 wo.toNatClampNeg (-1)) (μ.1 40 0 wo.toNatClampNeg) 5) (by simp only [g_MO_proceed, if_pos h1, if_pos h2, if_neg h3, if_neg h4, if_neg h5, if_neg h6]))
    · exact sr_ret rfl rfl rfl trivial (hr a.2 (by simp only [g_MO_proceed, if_pos h1, if_neg h2]))
  · refine sr_many 2 (t := (bif decide (¬ a.1 = 0) then 119 else 31, [some (.inr (.inr (20, 0))), some (.inl wo), some (.inl (μ.1 40 0 wo.toNatClampNeg)), some (.inl a.1), some (.inl (v_MO_due μ (μ.1 40 0 wo.toNatClampNeg))), none, none, none], [], a.2)) rfl ⟨trivial, trivial, trivial⟩ ?_
    refine sr_brd (fun h2 => ?_) (fun h2 => ?_)
    · refine sr_many 2 (t := (bif decide (a.1 = 0) then 124 else 123, [some (.inr (.inr (20, 0))), some (.inl wo), some (.inl (μ.1 40 0 wo.toNatClampNeg)), some (.inl a.1), some (.inl (v_MO_due μ (μ.1 40 0 wo.toNatClampNeg))), none, none, none], [], a.2)) rfl ⟨trivial, trivial, trivial⟩ ?_
      refine sr_brd (fun h => absurd h h2) (fun _ => ?_)
      exact sr_ret rfl rfl rfl trivial (hr a.2 (by simp only [g_MO_proceed, if_neg h1, if_pos h2]))
    · refine sr_many 4 (t := (bif decide (¬ (v_MO_blocked a.2 (μ.1 40 0 wo.toNatClampNeg)) = 0) then 65 else 39, [some (.inr (.inr (20, 0))), some (.inl wo), some (.inl (μ.1 40 0 wo.toNatClampNeg)), some (.inl a.1), some (.inl (v_MO_due μ (μ.1 40 0 wo.toNatClampNeg))), none, none, none], [], a.2)) rfl ⟨trivial, trivial, ⟨(show 0 < 1 by decide), ⟨(show sr_in (μ.1 40 0 wo.toNatClampNeg) 16 from q2), (hmf.cnt q4)⟩⟩, trivial, trivial⟩ ?_
      refine sr_brd (fun h3 => ?_) (fun h3 => ?_)
      · refine sr_many 2 (t := (bif decide (a.1 = 0) then 110 else 69, [some (.inr (.inr (20, 0))), some (.inl wo), some (.inl (μ.1 40 0 wo.toNatClampNeg)), some (.inl a.1), some (.inl (v_MO_due μ (μ.1 40 0 wo.toNatClampNeg))), none, none, none], [], a.2)) rfl ⟨trivial, trivial, trivial⟩ ?_
        refine sr_brd (fun _ => ?_) (fun h => absurd h h2)
        refine sr_many 5 (t := (16, [some (.inr (.inr (20, 0))), some (.inl wo), some (.inl (μ.1 40 0 wo.toNatClampNeg)), some (.inl a.1), some (.inl (v_MO_due μ (μ.1 40 0 wo.toNatClampNeg))), none, none, none], [], (m_MO_close a.2 wo 3))) rfl ⟨trivial, trivial, trivial, ⟨(show 0 < 1 by decide), ⟨(show sr_in wo 3 from q1), (show sr_in (a.2.1 40 0 wo.toNatClampNeg) 16 by rw [(sr_mh.rf a.2) 40 0 _ (by decide)]; exact hhas2), (show sr_in (3 : Int32) 4 by decide), (show ¬ (3 : Int32) = 0 by decide)⟩⟩, trivial, trivial⟩ ?_
        have w2 := w (a.1, (m_MO_close a.2 wo 3)) (by simp only [g_MO_proceed, if_neg h1, if_neg h2, if_pos h3])
        try simp only [nI_succ] at w2
        exact w2
      · refine sr_many 12 (t := (bif decide (¬ (v_MO_blocked (m_MO_configure a.2 2 1 (a.2.1 21 0 ((μ.1 40 0 wo.toNatClampNeg).toNatClampNeg))) (μ.1 40 0 wo.toNatClampNeg)) = 0) then 63 else 59, [some (.inr (.inr (20, 0))), some (.inl wo), some (.inl (μ.1 40 0 wo.toNatClampNeg)), some (.inl a.1), some (.inl (v_MO_due μ (μ.1 40 0 wo.toNatClampNeg))), none, none, none], [], (m_MO_configure a.2 2 1 (a.2.1 21 0 ((μ.1 40 0 wo.toNatClampNeg).toNatClampNeg))))) rfl ⟨trivial, trivial, trivial, trivial, (show 0 < 1 by decide), trivial, ⟨(show 0 < 1 by decide), (show sr_in (μ.1 40 0 wo.toNatClampNeg) 16 from q2)⟩, ⟨(show 0 < 1 by decide), (hmf.cnt q4)⟩, trivial, trivial, ⟨(show 0 < 1 by decide), ⟨(show sr_in (μ.1 40 0 wo.toNatClampNeg) 16 from q2), ((hmf.trans (mf_MO_configure _ _ _ _)).cnt q4)⟩⟩, trivial, trivial⟩ ?_
        refine sr_brd (fun h4 => ?_) (fun h4 => ?_)
        · refine sr_many 9 (t := (16, [some (.inr (.inr (20, 0))), some (.inl wo), some (.inl (μ.1 40 0 wo.toNatClampNeg)), some (.inl 0), some (.inl (v_MO_due μ (μ.1 40 0 wo.toNatClampNeg))), none, none, none], [], (m_MO_close (m_MO_configure a.2 2 1 (a.2.1 21 0 ((μ.1 40 0 wo.toNatClampNeg).toNatClampNeg))) wo 3))) rfl ⟨trivial, trivial, trivial, trivial, trivial, trivial, trivial, ⟨(show 0 < 1 by decide), ⟨(show sr_in wo 3 from q1), (show sr_in ((m_MO_configure a.2 2 1 (a.2.1 21 0 ((μ.1 40 0 wo.toNatClampNeg).toNatClampNeg))).1 40 0 wo.toNatClampNeg) 16 by rw [((sr_mh.rf a.2).trans (mh_MO_configure _ _ _ _)) 40 0 _ (by decide)]; exact hhas2), (show sr_in (3 : Int32) 4 by decide), (show ¬ (3 : Int32) = 0 by decide)⟩⟩, trivial, trivial⟩ ?_
          have w2 := w (0, (m_MO_close (m_MO_configure a.2 2 1 (a.2.1 21 0 ((μ.1 40 0 wo.toNatClampNeg).toNatClampNeg))) wo 3)) (by simp only [g_MO_proceed, if_neg h1, if_neg h2, if_neg h3, if_pos h4])
          try simp only [nI_succ] at w2
          exact w2
        · refine sr_many 34 (t := (16, [some (.inr (.inr (20, 0))), some (.inl wo), some (.inl (μ.1 40 0 wo.toNatClampNeg)), some (.inl 1), some (.inl (v_MO_due μ (μ.1 40 0 wo.toNatClampNeg))), none, none, none], [], (m_MO_note (sr_seti (sr_seti (m_MO_configure a.2 2 1 (a.2.1 21 0 ((μ.1 40 0 wo.toNatClampNeg).toNatClampNeg))) 34 0 ((((4 : Int32) * (μ.1 40 0 wo.toNatClampNeg)) + (3 : Int32)).toNatClampNeg) (((m_MO_configure a.2 2 1 (a.2.1 21 0 ((μ.1 40 0 wo.toNatClampNeg).toNatClampNeg))).1 34 0 ((((4 : Int32) * (μ.1 40 0 wo.toNatClampNeg)) + (3 : Int32)).toNatClampNeg)) + (1 : Int32))) 41 0 wo.toNatClampNeg (v_MO_is (sr_seti (m_MO_configure a.2 2 1 (a.2.1 21 0 ((μ.1 40 0 wo.toNatClampNeg).toNatClampNeg))) 34 0 ((((4 : Int32) * (μ.1 40 0 wo.toNatClampNeg)) + (3 : Int32)).toNatClampNeg) (((m_MO_configure a.2 2 1 (a.2.1 21 0 ((μ.1 40 0 wo.toNatClampNeg).toNatClampNeg))).1 34 0 ((((4 : Int32) * (μ.1 40 0 wo.toNatClampNeg)) + (3 : Int32)).toNatClampNeg)) + (1 : Int32))) (μ.1 40 0 wo.toNatClampNeg) 5)) 1 (μ.1 40 0 wo.toNatClampNeg) ((m_MO_configure a.2 2 1 (a.2.1 21 0 ((μ.1 40 0 wo.toNatClampNeg).toNatClampNeg))).1 42 0 wo.toNatClampNeg)))) rfl ⟨trivial, trivial, trivial, trivial, trivial, trivial, (show 0 < 1 by decide), trivial, trivial, trivial, trivial, trivial, trivial, ⟨(show 0 < 1 by decide), (show sr_in (((4 : Int32) * (μ.1 40 0 wo.toNatClampNeg)) + (3 : Int32)) 64 from sr_is4 q2 3 (by decide))⟩, trivial, trivial, ⟨(show 0 < 1 by decide), (show sr_in (((4 : Int32) * (μ.1 40 0 wo.toNatClampNeg)) + (3 : Int32)) 64 from sr_is4 q2 3 (by decide))⟩, trivial, (show 0 < 1 by decide), trivial, trivial, trivial, trivial, ⟨(show 0 < 1 by decide), (show sr_in ((9 : Int32) * (μ.1 40 0 wo.toNatClampNeg) + (5 : Int32)) 144 from sr_is9 q2 5 (by decide))⟩, ⟨(show 0 < 1 by decide), (show sr_in wo 3 from q1)⟩, trivial, trivial, trivial, trivial, (show 0 < 1 by decide), trivial, ⟨(show 0 < 1 by decide), (show sr_in wo 3 from q1)⟩, ⟨(show 0 < 1 by decide), trivial⟩, trivial, trivial⟩ ?_
          have w2 := w (1, (m_MO_note (sr_seti (sr_seti (m_MO_configure a.2 2 1 (a.2.1 21 0 ((μ.1 40 0 wo.toNatClampNeg).toNatClampNeg))) 34 0 ((((4 : Int32) * (μ.1 40 0 wo.toNatClampNeg)) + (3 : Int32)).toNatClampNeg) (((m_MO_configure a.2 2 1 (a.2.1 21 0 ((μ.1 40 0 wo.toNatClampNeg).toNatClampNeg))).1 34 0 ((((4 : Int32) * (μ.1 40 0 wo.toNatClampNeg)) + (3 : Int32)).toNatClampNeg)) + (1 : Int32))) 41 0 wo.toNatClampNeg (v_MO_is (sr_seti (m_MO_configure a.2 2 1 (a.2.1 21 0 ((μ.1 40 0 wo.toNatClampNeg).toNatClampNeg))) 34 0 ((((4 : Int32) * (μ.1 40 0 wo.toNatClampNeg)) + (3 : Int32)).toNatClampNeg) (((m_MO_configure a.2 2 1 (a.2.1 21 0 ((μ.1 40 0 wo.toNatClampNeg).toNatClampNeg))).1 34 0 ((((4 : Int32) * (μ.1 40 0 wo.toNatClampNeg)) + (3 : Int32)).toNatClampNeg)) + (1 : Int32))) (μ.1 40 0 wo.toNatClampNeg) 5)) 1 (μ.1 40 0 wo.toNatClampNeg) ((m_MO_configure a.2 2 1 (a.2.1 21 0 ((μ.1 40 0 wo.toNatClampNeg).toNatClampNeg))).1 42 0 wo.toNatClampNeg))) (by simp only [g_MO_proceed, if_neg h1, if_neg h2, if_neg h3, if_neg h4])
          try simp only [nI_succ] at w2
          exact w2
