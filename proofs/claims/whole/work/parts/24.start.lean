/-! pictures and runs: begin, start, tick -/
theorem kp_CT_forgetRuns (μ : sr_M) : (∀ g i j, ¬ g = 6 → (m_CT_forgetRuns μ).1 g i j = μ.1 g i j) ∧ (m_CT_forgetRuns μ).2 = μ.2 := by
  unfold m_CT_forgetRuns
  refine sr_it_inv (fun b : sr_M => (∀ g i j, ¬ g = 6 → b.1 g i j = μ.1 g i j) ∧ b.2 = μ.2) (fun k b hb => ?_) ⟨fun _ _ _ _ => rfl, rfl⟩ _
  unfold f_CT_forgetRuns
  refine ⟨fun g i j hg => ?_, hb.2⟩
  simp only [sr_seti]
  rw [if_neg (fun q => hg q.1)]
  exact hb.1 g i j hg
theorem sr_tn {n : Int32} (h1 : ¬ n < 0) (h2 : n ≤ 100) : sr_cnt n 100 := by
  obtain ⟨j, hj, rfl⟩ := nI_of2 (M := 100) (n := 100) rfl h1 h2
  unfold sr_cnt
  rw [nI_clamp (by omega)]
  exact ⟨rfl, hj⟩
def f_RN_begin (μ : sr_M) (ms : Int32)  : Nat → sr_M → sr_M := fun k a => if (v_SR_holds (a.1 1 0 10) (nI k)) = 0 then (sr_seti (m_PR_reset a (k) 0) 16 0 (k) (v_CT_needsWithin (m_PR_reset a (k) 0) (nI k) ((m_PR_reset a (k) 0).1 1 0 10))) else (sr_seti (m_PR_reset a (k) 1) 16 0 (k) (v_CT_needsWithin (m_PR_reset a (k) 1) (nI k) ((m_PR_reset a (k) 1).1 1 0 10)))
def m_RN_begin (μ : sr_M) (ms : Int32) : sr_M := (sr_it (f_RN_begin μ ms) (m_CT_forgetRuns (m_LG_clear (sr_seti (sr_seti (sr_seti (sr_seti (sr_seti (sr_seti (sr_seti μ 1 0 5 1) 1 0 9 0) 1 0 10 ms) 1 0 11 0) 1 0 7 0) 1 0 12 0) 1 0 13 0))) 16)
def q_RN_begin (μ : sr_M) (ms : Int32) : Prop := sr_cnt (μ.1 2 0 3) 8 ∧ sr_cnt (μ.1 2 0 1) 16
def p_RN_begin : sr_F := fun vs μ => match vs with
  | [.inr (.inr (1, 0)), .inl ms] => some (q_RN_begin μ ms, none, m_RN_begin μ ms)
  | _ => none
def e_RN_begin : sr_E := (sr_SC, sr_KS, (fun k => ([(12, 1, 0), (28, 1, 2), (34, 1, 3), (42, 1, 8), (46, 1, 5), (50, 1, 9), (54, 1, 10), (57, 1, 11), (60, 1, 7), (63, 1, 12), (66, 1, 13)] : List (Nat × Nat × Nat)).lookup k, fun _ => none, fun _ => none, fun _ => none, fun k => ([(69, 7, 0, p_LG_clear), (72, 3, 0, p_CT_forgetRuns), (75, 0, 2, p_SR_holds), (79, 8, 1, p_PR_reset), (83, 3, 2, p_CT_needsWithin)] : List (Nat × Nat × Nat × sr_F)).lookup k), sr_cd cd_RN_begin, none)
set_option maxRecDepth 10000 in
theorem a_RN_begin (μ : sr_M) (ms : Int32) (hq : q_RN_begin μ ms) : sr_AW e_RN_begin (fun r => r = (none, m_RN_begin μ ms)) (sr_entry 3 [.inr (.inr (1, 0)), .inl ms] μ) := by
  have hq0 := hq
  obtain ⟨q1, q2⟩ : sr_cnt (μ.1 2 0 3) 8 ∧ sr_cnt (μ.1 2 0 1) 16 := hq
  refine sr_many 29 (t := (51, [some (.inr (.inr (1, 0))), some (.inl ms), some (.inl 0)], [], (m_CT_forgetRuns (m_LG_clear (sr_seti (sr_seti (sr_seti (sr_seti (sr_seti (sr_seti (sr_seti μ 1 0 5 1) 1 0 9 0) 1 0 10 ms) 1 0 11 0) 1 0 7 0) 1 0 12 0) 1 0 13 0))))) rfl ⟨trivial, trivial, ⟨(show 0 < 1 by decide), (Or.inr rfl)⟩, trivial, trivial, (show 0 < 1 by decide), trivial, trivial, (show 0 < 1 by decide), trivial, trivial, (show 0 < 1 by decide), trivial, trivial, (show 0 < 1 by decide), trivial, trivial, (show 0 < 1 by decide), trivial, trivial, (show 0 < 1 by decide), trivial, (show 0 < 1 by decide), ⟨(show 0 < 1 by decide), trivial⟩, trivial, (show 0 < 1 by decide), ⟨(show 0 < 1 by decide), (show sr_cnt ((m_LG_clear (sr_seti (sr_seti (sr_seti (sr_seti (sr_seti (sr_seti (sr_seti μ 1 0 5 1) 1 0 9 0) 1 0 10 ms) 1 0 11 0) 1 0 7 0) 1 0 12 0) 1 0 13 0)).1 2 0 3) 8 by first | assumption | exact q1)⟩, trivial, trivial, trivial⟩ ?_
  refine sr_forI (α := sr_M) (fun k a => (51, [some (.inr (.inr (1, 0))), some (.inl ms), some (.inl (nI k))], [], a)) (f_RN_begin μ ms) (fun k a => a.1 2 0 1 = μ.1 2 0 1 ∧ True) (m_CT_forgetRuns (m_LG_clear (sr_seti (sr_seti (sr_seti (sr_seti (sr_seti (sr_seti (sr_seti μ 1 0 5 1) 1 0 9 0) 1 0 10 ms) 1 0 11 0) 1 0 7 0) 1 0 12 0) 1 0 13 0))) 16 ⟨by rw [(kp_CT_forgetRuns _).1 2 0 1 (by decide)]; rfl, trivial⟩ (fun k hk a h => by unfold f_RN_begin; (repeat' split) <;> exact ⟨h.1, trivial⟩) (fun k hk a hIk w => ?_) (fun hIk => ?_)
  · have hbk : k < 16 := hk
    have hck : (nI k).toNatClampNeg = k := sr_clN 16 hbk (by decide)
    have hink : sr_in (nI k) 16 := sr_inN 16 hbk (by decide)
    have hcbk : (nI k).toNatClampNeg < 16 := by rw [hck]; exact hbk
    have qa : sr_cnt (a.1 2 0 1) 16 := by rw [hIk.1]; exact q2
    refine sr_many 3 (t := (bif decide (16 ≤ (nI k)) then 106 else 57, [some (.inr (.inr (1, 0))), some (.inl ms), some (.inl (nI k))], [], a)) rfl ⟨trivial, trivial, trivial, trivial⟩ ?_
    refine sr_brd (fun h => absurd h (show ¬ (16 : Int32) ≤ nI k from nI_ge hk (by decide))) (fun _ => ?_)
    refine sr_many 9 (t := (bif decide ((v_SR_holds (a.1 1 0 10) (nI k)) = 0) then 78 else 74, [some (.inr (.inr (1, 0))), some (.inl ms), some (.inl (nI k))], [.inr (.inr (13, (nI k).toNatClampNeg))], a)) rfl ⟨trivial, (show 0 < 1 by decide), trivial, ⟨(show 0 < 1 by decide), (show sr_in (nI k) 16 by first | assumption | exact q1)⟩, trivial, (show 0 < 1 by decide), trivial, trivial, trivial, trivial⟩ ?_
    refine sr_brd (fun h1 => ?_) (fun h1 => ?_)
    · refine sr_many 14 (t := (51, [some (.inr (.inr (1, 0))), some (.inl ms), some (.inl ((nI k) + 1))], [], (sr_seti (m_PR_reset a ((nI k).toNatClampNeg) 0) 16 0 ((nI k).toNatClampNeg) (v_CT_needsWithin (m_PR_reset a ((nI k).toNatClampNeg) 0) (nI k) ((m_PR_reset a ((nI k).toNatClampNeg) 0).1 1 0 10))))) rfl ⟨trivial, ⟨(show (nI k).toNatClampNeg < 16 by first | assumption | exact q1), (show ((nI k).toNatClampNeg) < 16 by first | assumption | exact q1)⟩, trivial, (show 0 < 1 by decide), trivial, trivial, (show 0 < 1 by decide), trivial, trivial, (show 0 < 1 by decide), ⟨(show 0 < 1 by decide), ⟨(show sr_cnt ((m_PR_reset a ((nI k).toNatClampNeg) 0).1 2 0 1) 16 by first | assumption | exact q1), (show sr_in (nI k) 16 by first | assumption | exact q1)⟩⟩, ⟨(show 0 < 1 by decide), (show sr_in (nI k) 16 by first | assumption | exact q1)⟩, trivial, trivial, trivial⟩ ?_
      try simp only [hck] at h1
      try simp only [hck]
      simp only [f_RN_begin, if_pos h1, nI_succ] at w
      exact w
    · refine sr_many 15 (t := (51, [some (.inr (.inr (1, 0))), some (.inl ms), some (.inl ((nI k) + 1))], [], (sr_seti (m_PR_reset a ((nI k).toNatClampNeg) 1) 16 0 ((nI k).toNatClampNeg) (v_CT_needsWithin (m_PR_reset a ((nI k).toNatClampNeg) 1) (nI k) ((m_PR_reset a ((nI k).toNatClampNeg) 1).1 1 0 10))))) rfl ⟨trivial, trivial, ⟨(show (nI k).toNatClampNeg < 16 by first | assumption | exact q1), (show ((nI k).toNatClampNeg) < 16 by first | assumption | exact q1)⟩, trivial, (show 0 < 1 by decide), trivial, trivial, (show 0 < 1 by decide), trivial, trivial, (show 0 < 1 by decide), ⟨(show 0 < 1 by decide), ⟨(show sr_cnt ((m_PR_reset a ((nI k).toNatClampNeg) 1).1 2 0 1) 16 by first | assumption | exact q1), (show sr_in (nI k) 16 by first | assumption | exact q1)⟩⟩, ⟨(show 0 < 1 by decide), (show sr_in (nI k) 16 by first | assumption | exact q1)⟩, trivial, trivial, trivial⟩ ?_
      try simp only [hck] at h1
      try simp only [hck]
      simp only [f_RN_begin, if_neg h1, nI_succ] at w
      exact w
  · skip
    refine sr_many 3 (t := (bif decide (16 ≤ (nI 16)) then 106 else 57, [some (.inr (.inr (1, 0))), some (.inl ms), some (.inl (nI 16))], [], (sr_it (f_RN_begin μ ms) (m_CT_forgetRuns (m_LG_clear (sr_seti (sr_seti (sr_seti (sr_seti (sr_seti (sr_seti (sr_seti μ 1 0 5 1) 1 0 9 0) 1 0 10 ms) 1 0 11 0) 1 0 7 0) 1 0 12 0) 1 0 13 0))) 16))) rfl ⟨trivial, trivial, trivial, trivial⟩ ?_
    refine sr_brd (fun _ => ?_) (fun h => absurd (show (16 : Int32) ≤ nI 16 by decide) h)
    exact sr_ret rfl rfl rfl trivial rfl
def v_SR_start (μ : sr_M)  : Int32 := if ¬ (μ.1 1 0 5) = 0 then (-1) else (if ¬ (v_SR_chosenNow μ) = 0 then (if ¬ (μ.1 10 0 4) = 0 then (if (v_CT_circleWithin μ (v_SR_chosenNow μ)) = 0 then 0 else 2) else (if (v_CT_hasDanglingNeed μ (v_SR_chosenNow μ)) = 0 then (if (v_CT_circleWithin μ (v_SR_chosenNow μ)) = 0 then 0 else 2) else 1)) else (-1))
def m_SR_start (μ : sr_M)  : sr_M := if ¬ (μ.1 1 0 5) = 0 then μ else (if ¬ (v_SR_chosenNow μ) = 0 then (if ¬ (μ.1 10 0 4) = 0 then (if (v_CT_circleWithin μ (v_SR_chosenNow μ)) = 0 then (m_RN_begin (m_CT_circleWithin μ (v_SR_chosenNow μ)) (v_SR_chosenNow μ)) else (m_CT_circleWithin μ (v_SR_chosenNow μ))) else (if (v_CT_hasDanglingNeed μ (v_SR_chosenNow μ)) = 0 then (if (v_CT_circleWithin μ (v_SR_chosenNow μ)) = 0 then (m_RN_begin (m_CT_circleWithin μ (v_SR_chosenNow μ)) (v_SR_chosenNow μ)) else (m_CT_circleWithin μ (v_SR_chosenNow μ))) else μ)) else μ)
def q_SR_start (μ : sr_M)  : Prop := sr_cnt (μ.1 2 0 1) 16 ∧ sr_cnt (μ.1 18 0 1) 12 ∧ sr_cnt (μ.1 18 1 1) 12 ∧ sr_cnt (μ.1 2 0 3) 8
def p_SR_start : sr_F := fun vs μ => match vs with
  | [.inr (.inr (0, 0))] => some (q_SR_start μ , some (.inl (v_SR_start μ )), m_SR_start μ )
  | _ => none
def e_SR_start : sr_E := (sr_SC, sr_KS, (fun k => ([(10, 0, 0), (20, 0, 1), (28, 1, 5), (97, 1, 1), (115, 5, 4)] : List (Nat × Nat × Nat)).lookup k, fun _ => none, fun _ => none, fun _ => none, fun k => ([(118, 1, 0, p_SR_chosenNow), (122, 3, 1, p_CT_hasDanglingNeed), (125, 3, 1, p_CT_circleWithin), (129, 2, 1, p_RN_begin)] : List (Nat × Nat × Nat × sr_F)).lookup k), sr_cd cd_SR_start, some .int)
set_option maxRecDepth 10000 in
theorem a_SR_start (μ : sr_M)  (hq : q_SR_start μ ) : sr_AW e_SR_start (fun r => r = (some (.inl (v_SR_start μ )), m_SR_start μ )) (sr_entry 2 [.inr (.inr (0, 0))] μ) := by
  have hq0 := hq
  obtain ⟨q1, q2, q3, q4⟩ : sr_cnt (μ.1 2 0 1) 16 ∧ sr_cnt (μ.1 18 0 1) 12 ∧ sr_cnt (μ.1 18 1 1) 12 ∧ sr_cnt (μ.1 2 0 3) 8 := hq
  have hk : ∀ ch, sr_cnt ((m_CT_circleWithin μ ch).1 2 0 1) 16 := fun ch => by unfold m_CT_circleWithin; rw [(kp_CT_findReach μ ch).1 2 0 1 (by decide)]; exact q1
  have hk3 : ∀ ch, sr_cnt ((m_CT_circleWithin μ ch).1 2 0 3) 8 := fun ch => by unfold m_CT_circleWithin; rw [(kp_CT_findReach μ ch).1 2 0 3 (by decide)]; exact q4
  refine sr_many 7 (t := (bif decide (¬ (μ.1 1 0 5) = 0) then 19 else 15, [some (.inr (.inr (0, 0))), some (.inl (v_SR_chosenNow μ))], [], μ)) rfl ⟨trivial, ⟨(show 0 < 1 by decide), ⟨(show sr_cnt (μ.1 2 0 1) 16 by first | assumption | exact hk _ | exact hk3 _), (show sr_cnt (μ.1 18 0 1) 12 by first | assumption | exact hk _ | exact hk3 _), (show sr_cnt (μ.1 18 1 1) 12 by first | assumption | exact hk _ | exact hk3 _)⟩⟩, trivial, trivial, (show 0 < 1 by decide), (show 0 < 1 by decide), trivial, trivial⟩ ?_
  refine sr_brd (fun h1 => ?_) (fun h1 => ?_)
  · refine sr_many 1 (t := (20, [some (.inr (.inr (0, 0))), some (.inl (v_SR_chosenNow μ))], [.inl (-1)], μ)) rfl ⟨trivial, trivial⟩ ?_
    exact sr_ret rfl rfl rfl trivial (by simp only [v_SR_start, m_SR_start, if_pos h1])
  · refine sr_many 2 (t := (bif decide (¬ (v_SR_chosenNow μ) = 0) then 21 else 19, [some (.inr (.inr (0, 0))), some (.inl (v_SR_chosenNow μ))], [], μ)) rfl ⟨trivial, trivial, trivial⟩ ?_
    refine sr_brd (fun h2 => ?_) (fun h2 => ?_)
    · refine sr_many 5 (t := (bif decide (¬ (μ.1 10 0 4) = 0) then 47 else 34, [some (.inr (.inr (0, 0))), some (.inl (v_SR_chosenNow μ))], [], μ)) rfl ⟨trivial, (show 0 < 1 by decide), (show 0 < 1 by decide), (show 0 < 1 by decide), trivial, trivial⟩ ?_
      refine sr_brd (fun h3 => ?_) (fun h3 => ?_)
      · refine sr_many 5 (t := (bif decide ((v_CT_circleWithin μ (v_SR_chosenNow μ)) = 0) then 60 else 58, [some (.inr (.inr (0, 0))), some (.inl (v_SR_chosenNow μ))], [], (m_CT_circleWithin μ (v_SR_chosenNow μ)))) rfl ⟨trivial, (show 0 < 1 by decide), trivial, ⟨(show 0 < 1 by decide), (show sr_cnt (μ.1 2 0 1) 16 by first | assumption | exact hk _ | exact hk3 _)⟩, trivial, trivial⟩ ?_
        refine sr_brd (fun h4 => ?_) (fun h4 => ?_)
        · refine sr_many 5 (t := (69, [some (.inr (.inr (0, 0))), some (.inl (v_SR_chosenNow μ))], [.inl 0], (m_RN_begin (m_CT_circleWithin μ (v_SR_chosenNow μ)) (v_SR_chosenNow μ)))) rfl ⟨trivial, (show 0 < 1 by decide), trivial, ⟨(show 0 < 1 by decide), ⟨(show sr_cnt ((m_CT_circleWithin μ (v_SR_chosenNow μ)).1 2 0 3) 8 by first | assumption | exact hk _ | exact hk3 _), (show sr_cnt ((m_CT_circleWithin μ (v_SR_chosenNow μ)).1 2 0 1) 16 by first | assumption | exact hk _ | exact hk3 _)⟩⟩, trivial, trivial⟩ ?_
          exact sr_ret rfl rfl rfl trivial (by simp only [v_SR_start, m_SR_start, if_neg h1, if_pos h2, if_pos h3, if_pos h4])
        · refine sr_many 1 (t := (59, [some (.inr (.inr (0, 0))), some (.inl (v_SR_chosenNow μ))], [.inl 2], (m_CT_circleWithin μ (v_SR_chosenNow μ)))) rfl ⟨trivial, trivial⟩ ?_
          exact sr_ret rfl rfl rfl trivial (by simp only [v_SR_start, m_SR_start, if_neg h1, if_pos h2, if_pos h3, if_neg h4])
      · refine sr_many 5 (t := (bif decide ((v_CT_hasDanglingNeed μ (v_SR_chosenNow μ)) = 0) then 47 else 45, [some (.inr (.inr (0, 0))), some (.inl (v_SR_chosenNow μ))], [], μ)) rfl ⟨trivial, (show 0 < 1 by decide), trivial, ⟨(show 0 < 1 by decide), (show sr_cnt (μ.1 2 0 1) 16 by first | assumption | exact hk _ | exact hk3 _)⟩, trivial, trivial⟩ ?_
        refine sr_brd (fun h4 => ?_) (fun h4 => ?_)
        · refine sr_many 5 (t := (bif decide ((v_CT_circleWithin μ (v_SR_chosenNow μ)) = 0) then 60 else 58, [some (.inr (.inr (0, 0))), some (.inl (v_SR_chosenNow μ))], [], (m_CT_circleWithin μ (v_SR_chosenNow μ)))) rfl ⟨trivial, (show 0 < 1 by decide), trivial, ⟨(show 0 < 1 by decide), (show sr_cnt (μ.1 2 0 1) 16 by first | assumption | exact hk _ | exact hk3 _)⟩, trivial, trivial⟩ ?_
          refine sr_brd (fun h5 => ?_) (fun h5 => ?_)
          · refine sr_many 5 (t := (69, [some (.inr (.inr (0, 0))), some (.inl (v_SR_chosenNow μ))], [.inl 0], (m_RN_begin (m_CT_circleWithin μ (v_SR_chosenNow μ)) (v_SR_chosenNow μ)))) rfl ⟨trivial, (show 0 < 1 by decide), trivial, ⟨(show 0 < 1 by decide), ⟨(show sr_cnt ((m_CT_circleWithin μ (v_SR_chosenNow μ)).1 2 0 3) 8 by first | assumption | exact hk _ | exact hk3 _), (show sr_cnt ((m_CT_circleWithin μ (v_SR_chosenNow μ)).1 2 0 1) 16 by first | assumption | exact hk _ | exact hk3 _)⟩⟩, trivial, trivial⟩ ?_
            exact sr_ret rfl rfl rfl trivial (by simp only [v_SR_start, m_SR_start, if_neg h1, if_pos h2, if_neg h3, if_pos h4, if_pos h5])
          · refine sr_many 1 (t := (59, [some (.inr (.inr (0, 0))), some (.inl (v_SR_chosenNow μ))], [.inl 2], (m_CT_circleWithin μ (v_SR_chosenNow μ)))) rfl ⟨trivial, trivial⟩ ?_
            exact sr_ret rfl rfl rfl trivial (by simp only [v_SR_start, m_SR_start, if_neg h1, if_pos h2, if_neg h3, if_pos h4, if_neg h5])
        · refine sr_many 1 (t := (46, [some (.inr (.inr (0, 0))), some (.inl (v_SR_chosenNow μ))], [.inl 1], μ)) rfl ⟨trivial, trivial⟩ ?_
          exact sr_ret rfl rfl rfl trivial (by simp only [v_SR_start, m_SR_start, if_neg h1, if_pos h2, if_neg h3, if_neg h4])
    · refine sr_many 1 (t := (20, [some (.inr (.inr (0, 0))), some (.inl (v_SR_chosenNow μ))], [.inl (-1)], μ)) rfl ⟨trivial, trivial⟩ ?_
      exact sr_ret rfl rfl rfl trivial (by simp only [v_SR_start, m_SR_start, if_neg h1, if_neg h2])
def g_SR_tick (μ : sr_M) (n : Int32) : Nat → sr_M → (Int32 × sr_M) ⊕ sr_M := fun k a => if n ≤ (nI k) then (.inl (nI k, a)) else (if (a.1 1 0 5) = 0 then (.inl (nI k, a)) else (.inr (m_RN_step a)))
def v_SR_tick (μ : sr_M) (n : Int32) : Int32 := if n < 0 then (-1) else (if n ≤ 100 then (((sr_lp (g_SR_tick μ n) (n.toNatClampNeg + 1) 0 μ).getD ((0 : Int32), μ)).1) else (-1))
def m_SR_tick (μ : sr_M) (n : Int32) : sr_M := if n < 0 then μ else (if n ≤ 100 then (((sr_lp (g_SR_tick μ n) (n.toNatClampNeg + 1) 0 μ).getD ((0 : Int32), μ)).2) else μ)
def q_SR_tick (μ : sr_M) (n : Int32) : Prop := sr_cnt (μ.1 11 0 1) 1999120000 ∧ sr_cnt (μ.1 2 0 3) 8 ∧ sr_cnt (μ.1 2 0 1) 16 ∧ sr_cnt (μ.1 10 0 0) 3 ∧ sr_rv μ
def p_SR_tick : sr_F := fun vs μ => match vs with
  | [.inr (.inr (0, 0)), .inl n] => some (q_SR_tick μ n, some (.inl (v_SR_tick μ n)), m_SR_tick μ n)
  | _ => none
def e_SR_tick : sr_E := (sr_SC, sr_KS, (fun k => ([(10, 0, 0), (28, 1, 5)] : List (Nat × Nat × Nat)).lookup k, fun _ => none, fun _ => none, fun _ => none, fun k => ([(133, 2, 0, p_RN_step)] : List (Nat × Nat × Nat × sr_F)).lookup k), sr_cd cd_SR_tick, some .int)
set_option maxRecDepth 10000 in
theorem a_SR_tick (μ : sr_M) (n : Int32) (hq : q_SR_tick μ n) : sr_AW e_SR_tick (fun r => r = (some (.inl (v_SR_tick μ n)), m_SR_tick μ n)) (sr_entry 3 [.inr (.inr (0, 0)), .inl n] μ) := by
  have hq0 := hq
  obtain ⟨q1, q2, q3, q4, q5⟩ : sr_cnt (μ.1 11 0 1) 1999120000 ∧ sr_cnt (μ.1 2 0 3) 8 ∧ sr_cnt (μ.1 2 0 1) 16 ∧ sr_cnt (μ.1 10 0 0) 3 ∧ sr_rv μ := hq
  refine sr_many 2 (t := (bif decide (n < 0) then 10 else 4, [some (.inr (.inr (0, 0))), some (.inl n), none], [], μ)) rfl ⟨trivial, trivial, trivial⟩ ?_
  refine sr_brd (fun h1 => ?_) (fun h1 => ?_)
  · refine sr_many 1 (t := (11, [some (.inr (.inr (0, 0))), some (.inl n), none], [.inl (-1)], μ)) rfl ⟨trivial, trivial⟩ ?_
    exact sr_ret rfl rfl rfl trivial (by simp only [v_SR_tick, m_SR_tick, if_pos h1])
  · refine sr_many 3 (t := (bif decide (n ≤ 100) then 12 else 10, [some (.inr (.inr (0, 0))), some (.inl n), none], [], μ)) rfl ⟨trivial, trivial, trivial, trivial⟩ ?_
    refine sr_brd (fun h2 => ?_) (fun h2 => ?_)
    · refine sr_many 2 (t := (14, [some (.inr (.inr (0, 0))), some (.inl n), some (.inl 0)], [], μ)) rfl ⟨trivial, trivial, trivial⟩ ?_
      have qn := sr_tn h1 h2
      have hI : ∀ k a a', (fun k a => k ≤ n.toNatClampNeg ∧ sr_ss μ a (9500 * k)) k a → (g_SR_tick μ n) k a = .inr a' → (fun k a => k ≤ n.toNatClampNeg ∧ sr_ss μ a (9500 * k)) (k + 1) a' := (fun k a a' h e => by
      obtain ⟨hk0, hs⟩ := h
      have hn := qn.2
      have hk : k ≠ n.toNatClampNeg := fun ek => by
        rw [ek] at e
        unfold g_SR_tick at e
        rw [if_pos (sr_cnt_le qn)] at e
        cases e
      unfold g_SR_tick at e
      (repeat' split at e) <;> cases e
      exact ⟨by omega, (hs.trans (o_RN_step a (⟨(hs.2.2.1 _ q1 (by omega)).mono (by omega), hs.cnt q2, hs.cnt q3, hs.cnt q4, hs.2.2.2⟩ : q_RN_step a))).mono (by omega)⟩)
      obtain ⟨b, hb⟩ : ∃ b, sr_lp (g_SR_tick μ n) (n.toNatClampNeg + 1) 0 μ = some b := sr_lp_some (g_SR_tick μ n) n.toNatClampNeg (fun k a => k ≤ n.toNatClampNeg ∧ sr_ss μ a (9500 * k)) hI (fun a _ => by unfold g_SR_tick; rw [if_pos (sr_cnt_le qn)]; exact ⟨_, rfl⟩) n.toNatClampNeg 0 μ (by omega) ⟨Nat.zero_le _, sr_ss.rf q5⟩
      have e : ((some (.inl (v_SR_tick μ n)), m_SR_tick μ n) : sr_R) = (fun b => (some (.inl b.1), b.2)) b := by
        simp only [v_SR_tick, m_SR_tick, if_neg h1, if_pos h2]
        rw [hb]
        rfl
      rw [e]
      refine sr_loop (fun b => (some (.inl b.1), b.2)) (fun k a => (14, [some (.inr (.inr (0, 0))), some (.inl n), some (.inl (nI k))], [], a)) (g_SR_tick μ n) (fun k a => k ≤ n.toNatClampNeg ∧ sr_ss μ a (9500 * k)) hI (fun K k a hIk hr w => ?_) (n.toNatClampNeg + 1) 0 μ b ⟨Nat.zero_le _, sr_ss.rf q5⟩ hb
      obtain ⟨hk0, hs⟩ := hIk
      have hn := qn.2
      obtain ⟨u1, u2, u3, u4, u5⟩ := (⟨(hs.2.2.1 _ q1 (by omega)).mono (by omega), hs.cnt q2, hs.cnt q3, hs.cnt q4, hs.2.2.2⟩ : q_RN_step a)
      refine sr_many 3 (t := (bif decide (n ≤ (nI k)) then 42 else 19, [some (.inr (.inr (0, 0))), some (.inl n), some (.inl (nI k))], [], a)) rfl ⟨trivial, trivial, trivial, trivial⟩ ?_
      refine sr_brd (fun h1 => ?_) (fun h1 => ?_)
      · refine sr_many 1 (t := (43, [some (.inr (.inr (0, 0))), some (.inl n), some (.inl (nI k))], [.inl (nI k)], a)) rfl ⟨trivial, trivial⟩ ?_
        exact sr_ret rfl rfl rfl trivial (hr (nI k, a) (by simp only [g_SR_tick, if_pos h1]))
      · refine sr_many 4 (t := (bif decide ((a.1 1 0 5) = 0) then 42 else 29, [some (.inr (.inr (0, 0))), some (.inl n), some (.inl (nI k))], [], a)) rfl ⟨trivial, (show 0 < 1 by decide), (show 0 < 1 by decide), trivial, trivial⟩ ?_
        refine sr_brd (fun h2 => ?_) (fun h2 => ?_)
        · refine sr_many 1 (t := (43, [some (.inr (.inr (0, 0))), some (.inl n), some (.inl (nI k))], [.inl (nI k)], a)) rfl ⟨trivial, trivial⟩ ?_
          exact sr_ret rfl rfl rfl trivial (hr (nI k, a) (by simp only [g_SR_tick, if_neg h1, if_pos h2]))
        · refine sr_many 5 (t := (14, [some (.inr (.inr (0, 0))), some (.inl n), some (.inl ((nI k) + 1))], [], (m_RN_step a))) rfl ⟨trivial, (show 0 < 1 by decide), ⟨(show 0 < 1 by decide), ⟨(show sr_cnt (a.1 11 0 1) 2000070000 by first | assumption), (show sr_cnt (a.1 2 0 3) 8 by first | assumption), (show sr_cnt (a.1 2 0 1) 16 by first | assumption), (show sr_cnt (a.1 10 0 0) 3 by first | assumption), (show sr_rv a by first | assumption)⟩⟩, trivial, trivial, trivial⟩ ?_
          have w2 := w (m_RN_step a) (by simp only [g_SR_tick, if_neg h1, if_neg h2])
          try simp only [nI_succ] at w2
          exact w2
    · refine sr_many 1 (t := (11, [some (.inr (.inr (0, 0))), some (.inl n), none], [.inl (-1)], μ)) rfl ⟨trivial, trivial⟩ ?_
      exact sr_ret rfl rfl rfl trivial (by simp only [v_SR_tick, m_SR_tick, if_neg h1, if_neg h2])
