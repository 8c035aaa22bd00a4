/-! pictures and runs: advance, serve, step -/
def m_RN_advance (μ : sr_M) (w : Int32) : sr_M := if ¬ (μ.1 15 0 w.toNatClampNeg) = (-1) then (if ¬ ((sr_seti μ 13 ((μ.1 15 0 w.toNatClampNeg).toNatClampNeg) 5 ((μ.1 13 ((μ.1 15 0 w.toNatClampNeg).toNatClampNeg) 5) - (1 : Int32))).1 13 ((μ.1 15 0 w.toNatClampNeg).toNatClampNeg) 5) = 0 then (sr_seti μ 13 ((μ.1 15 0 w.toNatClampNeg).toNatClampNeg) 5 ((μ.1 13 ((μ.1 15 0 w.toNatClampNeg).toNatClampNeg) 5) - (1 : Int32))) else (if (v_RN_proceed (m_RN_endEntered (sr_seti μ 13 ((μ.1 15 0 w.toNatClampNeg).toNatClampNeg) 5 ((μ.1 13 ((μ.1 15 0 w.toNatClampNeg).toNatClampNeg) 5) - (1 : Int32))) (μ.1 15 0 w.toNatClampNeg)) (μ.1 15 0 w.toNatClampNeg)) = 0 then (sr_seti (m_RN_proceed (m_RN_endEntered (sr_seti μ 13 ((μ.1 15 0 w.toNatClampNeg).toNatClampNeg) 5 ((μ.1 13 ((μ.1 15 0 w.toNatClampNeg).toNatClampNeg) 5) - (1 : Int32))) (μ.1 15 0 w.toNatClampNeg)) (μ.1 15 0 w.toNatClampNeg)) 15 0 w.toNatClampNeg (-1)) else (sr_seti (m_RN_proceed (m_RN_endEntered (sr_seti μ 13 ((μ.1 15 0 w.toNatClampNeg).toNatClampNeg) 5 ((μ.1 13 ((μ.1 15 0 w.toNatClampNeg).toNatClampNeg) 5) - (1 : Int32))) (μ.1 15 0 w.toNatClampNeg)) (μ.1 15 0 w.toNatClampNeg)) 15 0 w.toNatClampNeg (μ.1 15 0 w.toNatClampNeg)))) else μ
def q_RN_advance (μ : sr_M) (w : Int32) : Prop := sr_in w 3 ∧ sr_cnt (μ.1 11 0 1) 2000090000 ∧ sr_cnt (μ.1 2 0 3) 8 ∧ sr_cnt (μ.1 2 0 1) 16 ∧ sr_rv μ
def p_RN_advance : sr_F := fun vs μ => match vs with
  | [.inr (.inr (1, 0)), .inl w] => some (q_RN_advance μ w, none, m_RN_advance μ w)
  | _ => none
def e_RN_advance : sr_E := (sr_SC, sr_KS, (fun k => ([(34, 1, 3), (38, 1, 4), (99, 7, 5)] : List (Nat × Nat × Nat)).lookup k, fun _ => none, fun _ => none, fun _ => none, fun k => ([(102, 2, 1, p_RN_endEntered), (105, 2, 1, p_RN_proceed)] : List (Nat × Nat × Nat × sr_F)).lookup k), sr_cd cd_RN_advance, none)
set_option maxRecDepth 10000 in
theorem a_RN_advance (μ : sr_M) (w : Int32) (hq : q_RN_advance μ w) : sr_AW e_RN_advance (fun r => r = (none, m_RN_advance μ w)) (sr_entry 3 [.inr (.inr (1, 0)), .inl w] μ) := by
  have hq0 := hq
  obtain ⟨q1, q2, q3, q4, q5⟩ : sr_in w 3 ∧ sr_cnt (μ.1 11 0 1) 2000090000 ∧ sr_cnt (μ.1 2 0 3) 8 ∧ sr_cnt (μ.1 2 0 1) 16 ∧ sr_rv μ := hq
  have qw := sr_in_lt q1
  have hm : ¬ (μ.1 15 0 w.toNatClampNeg) = -1 → sr_in (μ.1 15 0 w.toNatClampNeg) 16 := fun h => (q5.1 _ qw).resolve_left h
  have hr : ∀ x m, sr_rv (m_RN_endEntered (sr_seti μ 13 (μ.1 15 0 w.toNatClampNeg).toNatClampNeg 5 x) m) := fun x m => rv_fd q5 (((sr_fr.rf μ).seti rfl (fun q => absurd q.1 (by decide))).trans (fr_RN_endEntered _ _ (((sr_fr.rf μ).seti rfl (fun q => absurd q.1 (by decide))).cnt q3))) (((sr_fd.rf μ).seti (fun q => absurd q.2 (by decide))).trans (fd_RN_endEntered _ _))
  refine sr_many 8 (t := (bif decide (¬ (μ.1 15 0 w.toNatClampNeg) = (-1)) then 13 else 12, [some (.inr (.inr (1, 0))), some (.inl w), some (.inl (μ.1 15 0 w.toNatClampNeg))], [], μ)) rfl ⟨trivial, (show 0 < 1 by decide), trivial, ⟨(show 0 < 1 by decide), (show sr_in w 3 by first | assumption | exact hm h1 | exact sr_in_lt (hm h1) | exact ((hr _ _).2.1 _ (sr_in_lt (hm h1))).1 | exact ((hr _ _).2.1 _ (sr_in_lt (hm h1))).2)⟩, trivial, trivial, trivial, trivial, trivial⟩ ?_
  refine sr_brd (fun h1 => ?_) (fun h1 => ?_)
  · refine sr_many 15 (t := (bif decide (¬ ((sr_seti μ 13 ((μ.1 15 0 w.toNatClampNeg).toNatClampNeg) 5 ((μ.1 13 ((μ.1 15 0 w.toNatClampNeg).toNatClampNeg) 5) - (1 : Int32))).1 13 ((μ.1 15 0 w.toNatClampNeg).toNatClampNeg) 5) = 0) then 64 else 40, [some (.inr (.inr (1, 0))), some (.inl w), some (.inl (μ.1 15 0 w.toNatClampNeg))], [], (sr_seti μ 13 ((μ.1 15 0 w.toNatClampNeg).toNatClampNeg) 5 ((μ.1 13 ((μ.1 15 0 w.toNatClampNeg).toNatClampNeg) 5) - (1 : Int32))))) rfl ⟨trivial, (show 0 < 1 by decide), trivial, ⟨(show 0 < 1 by decide), (show sr_in (μ.1 15 0 w.toNatClampNeg) 16 by first | assumption | exact hm h1 | exact sr_in_lt (hm h1) | exact ((hr _ _).2.1 _ (sr_in_lt (hm h1))).1 | exact ((hr _ _).2.1 _ (sr_in_lt (hm h1))).2)⟩, trivial, (show (μ.1 15 0 w.toNatClampNeg).toNatClampNeg < 16 by first | assumption | exact hm h1 | exact sr_in_lt (hm h1) | exact ((hr _ _).2.1 _ (sr_in_lt (hm h1))).1 | exact ((hr _ _).2.1 _ (sr_in_lt (hm h1))).2), trivial, trivial, (show (μ.1 15 0 w.toNatClampNeg).toNatClampNeg < 16 by first | assumption | exact hm h1 | exact sr_in_lt (hm h1) | exact ((hr _ _).2.1 _ (sr_in_lt (hm h1))).1 | exact ((hr _ _).2.1 _ (sr_in_lt (hm h1))).2), trivial, (show 0 < 1 by decide), trivial, ⟨(show 0 < 1 by decide), (show sr_in (μ.1 15 0 w.toNatClampNeg) 16 by first | assumption | exact hm h1 | exact sr_in_lt (hm h1) | exact ((hr _ _).2.1 _ (sr_in_lt (hm h1))).1 | exact ((hr _ _).2.1 _ (sr_in_lt (hm h1))).2)⟩, (show (μ.1 15 0 w.toNatClampNeg).toNatClampNeg < 16 by first | assumption | exact hm h1 | exact sr_in_lt (hm h1) | exact ((hr _ _).2.1 _ (sr_in_lt (hm h1))).1 | exact ((hr _ _).2.1 _ (sr_in_lt (hm h1))).2), trivial, trivial⟩ ?_
    refine sr_brd (fun h2 => ?_) (fun h2 => ?_)
    · exact sr_ret rfl rfl rfl trivial (by simp only [m_RN_advance, if_pos h1, if_pos h2])
    · refine sr_many 10 (t := (bif decide ((v_RN_proceed (m_RN_endEntered (sr_seti μ 13 ((μ.1 15 0 w.toNatClampNeg).toNatClampNeg) 5 ((μ.1 13 ((μ.1 15 0 w.toNatClampNeg).toNatClampNeg) 5) - (1 : Int32))) (μ.1 15 0 w.toNatClampNeg)) (μ.1 15 0 w.toNatClampNeg)) = 0) then 62 else 58, [some (.inr (.inr (1, 0))), some (.inl w), some (.inl (μ.1 15 0 w.toNatClampNeg))], [.inl w, .inr (.inr (15, 0))], (m_RN_proceed (m_RN_endEntered (sr_seti μ 13 ((μ.1 15 0 w.toNatClampNeg).toNatClampNeg) 5 ((μ.1 13 ((μ.1 15 0 w.toNatClampNeg).toNatClampNeg) 5) - (1 : Int32))) (μ.1 15 0 w.toNatClampNeg)) (μ.1 15 0 w.toNatClampNeg)))) rfl ⟨trivial, trivial, ⟨(show 0 < 1 by decide), ⟨(show sr_in (μ.1 15 0 w.toNatClampNeg) 16 by first | assumption | exact hm h1 | exact sr_in_lt (hm h1) | exact ((hr _ _).2.1 _ (sr_in_lt (hm h1))).1 | exact ((hr _ _).2.1 _ (sr_in_lt (hm h1))).2), ((((sr_fr.rf μ).seti rfl (fun q => absurd q.1 (by decide))).lg q2 (by omega)).mono (by omega)), (((sr_fr.rf μ).seti rfl (fun q => absurd q.1 (by decide))).cnt q3)⟩⟩, trivial, (show 0 < 1 by decide), trivial, trivial, trivial, ⟨(show 0 < 1 by decide), ⟨(show sr_in (μ.1 15 0 w.toNatClampNeg) 16 by first | assumption | exact hm h1 | exact sr_in_lt (hm h1) | exact ((hr _ _).2.1 _ (sr_in_lt (hm h1))).1 | exact ((hr _ _).2.1 _ (sr_in_lt (hm h1))).2), (((((sr_fr.rf μ).seti rfl (fun q => absurd q.1 (by decide))).trans (fr_RN_endEntered _ _ (((sr_fr.rf μ).seti rfl (fun q => absurd q.1 (by decide))).cnt q3))).lg q2 (by omega)).mono (by omega)), ((((sr_fr.rf μ).seti rfl (fun q => absurd q.1 (by decide))).trans (fr_RN_endEntered _ _ (((sr_fr.rf μ).seti rfl (fun q => absurd q.1 (by decide))).cnt q3))).cnt q3), ((((sr_fr.rf μ).seti rfl (fun q => absurd q.1 (by decide))).trans (fr_RN_endEntered _ _ (((sr_fr.rf μ).seti rfl (fun q => absurd q.1 (by decide))).cnt q3))).cnt q4), (show sr_cnt ((m_RN_endEntered (sr_seti μ 13 ((μ.1 15 0 w.toNatClampNeg).toNatClampNeg) 5 ((μ.1 13 ((μ.1 15 0 w.toNatClampNeg).toNatClampNeg) 5) - (1 : Int32))) (μ.1 15 0 w.toNatClampNeg)).1 13 (μ.1 15 0 w.toNatClampNeg).toNatClampNeg 3) 16 by first | assumption | exact hm h1 | exact sr_in_lt (hm h1) | exact ((hr _ _).2.1 _ (sr_in_lt (hm h1))).1 | exact ((hr _ _).2.1 _ (sr_in_lt (hm h1))).2), (show sr_cnt ((m_RN_endEntered (sr_seti μ 13 ((μ.1 15 0 w.toNatClampNeg).toNatClampNeg) 5 ((μ.1 13 ((μ.1 15 0 w.toNatClampNeg).toNatClampNeg) 5) - (1 : Int32))) (μ.1 15 0 w.toNatClampNeg)).1 13 (μ.1 15 0 w.toNatClampNeg).toNatClampNeg 4) 16 by first | assumption | exact hm h1 | exact sr_in_lt (hm h1) | exact ((hr _ _).2.1 _ (sr_in_lt (hm h1))).1 | exact ((hr _ _).2.1 _ (sr_in_lt (hm h1))).2)⟩⟩, trivial, trivial⟩ ?_
      refine sr_brd (fun h3 => ?_) (fun h3 => ?_)
      · refine sr_many 2 (t := (64, [some (.inr (.inr (1, 0))), some (.inl w), some (.inl (μ.1 15 0 w.toNatClampNeg))], [], (sr_seti (m_RN_proceed (m_RN_endEntered (sr_seti μ 13 ((μ.1 15 0 w.toNatClampNeg).toNatClampNeg) 5 ((μ.1 13 ((μ.1 15 0 w.toNatClampNeg).toNatClampNeg) 5) - (1 : Int32))) (μ.1 15 0 w.toNatClampNeg)) (μ.1 15 0 w.toNatClampNeg)) 15 0 w.toNatClampNeg (-1)))) rfl ⟨trivial, ⟨(show 0 < 1 by decide), (show sr_in w 3 by first | assumption | exact hm h1 | exact sr_in_lt (hm h1) | exact ((hr _ _).2.1 _ (sr_in_lt (hm h1))).1 | exact ((hr _ _).2.1 _ (sr_in_lt (hm h1))).2)⟩, trivial⟩ ?_
        exact sr_ret rfl rfl rfl trivial (by simp only [m_RN_advance, if_pos h1, if_neg h2, if_pos h3])
      · refine sr_many 3 (t := (64, [some (.inr (.inr (1, 0))), some (.inl w), some (.inl (μ.1 15 0 w.toNatClampNeg))], [], (sr_seti (m_RN_proceed (m_RN_endEntered (sr_seti μ 13 ((μ.1 15 0 w.toNatClampNeg).toNatClampNeg) 5 ((μ.1 13 ((μ.1 15 0 w.toNatClampNeg).toNatClampNeg) 5) - (1 : Int32))) (μ.1 15 0 w.toNatClampNeg)) (μ.1 15 0 w.toNatClampNeg)) 15 0 w.toNatClampNeg (μ.1 15 0 w.toNatClampNeg)))) rfl ⟨trivial, trivial, ⟨(show 0 < 1 by decide), (show sr_in w 3 by first | assumption | exact hm h1 | exact sr_in_lt (hm h1) | exact ((hr _ _).2.1 _ (sr_in_lt (hm h1))).1 | exact ((hr _ _).2.1 _ (sr_in_lt (hm h1))).2)⟩, trivial⟩ ?_
        exact sr_ret rfl rfl rfl trivial (by simp only [m_RN_advance, if_pos h1, if_neg h2, if_neg h3])
  · exact sr_ret rfl rfl rfl trivial (by simp only [m_RN_advance, if_neg h1])
theorem o_RN_advance (μ : sr_M) (w : Int32) (hq : q_RN_advance μ w) : sr_ss μ (m_RN_advance μ w) 170 := by
  obtain ⟨q1, q2, q3, q4, q5⟩ : sr_in w 3 ∧ sr_cnt (μ.1 11 0 1) 2000090000 ∧ sr_cnt (μ.1 2 0 3) 8 ∧ sr_cnt (μ.1 2 0 1) 16 ∧ sr_rv μ := hq
  have qw := sr_in_lt q1
  have hm : ¬ (μ.1 15 0 w.toNatClampNeg) = -1 → sr_in (μ.1 15 0 w.toNatClampNeg) 16 := fun h => (q5.1 _ qw).resolve_left h
  have f1 : ∀ x, sr_fr μ (sr_seti μ 13 (μ.1 15 0 w.toNatClampNeg).toNatClampNeg 5 x) 0 := fun x => (sr_fr.rf μ).seti rfl (fun q => absurd q.1 (by decide))
  have g1 : ∀ x, sr_fd μ (sr_seti μ 13 (μ.1 15 0 w.toNatClampNeg).toNatClampNeg 5 x) := fun x => (sr_fd.rf μ).seti (fun q => absurd q.2 (by decide))
  have f2 : ∀ x m, sr_fr μ (m_RN_endEntered (sr_seti μ 13 (μ.1 15 0 w.toNatClampNeg).toNatClampNeg 5 x) m) (0 + 9) := fun x m => (f1 x).trans (fr_RN_endEntered _ _ ((f1 x).cnt q3))
  have hr : ∀ x m, sr_rv (m_RN_endEntered (sr_seti μ 13 (μ.1 15 0 w.toNatClampNeg).toNatClampNeg 5 x) m) := fun x m => rv_fd q5 (f2 x m) ((g1 x).trans (fd_RN_endEntered _ _))
  have key : ∀ x, ¬ (μ.1 15 0 w.toNatClampNeg) = -1 → sr_ss μ (m_RN_proceed (m_RN_endEntered (sr_seti μ 13 (μ.1 15 0 w.toNatClampNeg).toNatClampNeg 5 x) (μ.1 15 0 w.toNatClampNeg)) (μ.1 15 0 w.toNatClampNeg)) 169 := by
    intro x h
    have hp : q_RN_proceed (m_RN_endEntered (sr_seti μ 13 (μ.1 15 0 w.toNatClampNeg).toNatClampNeg 5 x) (μ.1 15 0 w.toNatClampNeg)) (μ.1 15 0 w.toNatClampNeg) := ⟨hm h, ((f2 x _).lg q2 (by decide)).mono (by decide), (f2 x _).cnt q3, (f2 x _).cnt q4, ((hr x _).2.1 _ (sr_in_lt (hm h))).1, ((hr x _).2.1 _ (sr_in_lt (hm h))).2⟩
    exact (((sr_ss.rf q5).fr (f2 x _) (hr x _)).fr (o_RN_proceed _ _ hp).1 (rv_RN_proceed _ _ (hr x _) hp)).mono (by decide)
  unfold m_RN_advance
  split
  · rename_i h
    split
    · exact ((sr_ss.rf q5).fr (f1 _) (rv_fd q5 (f1 _) (g1 _))).mono (by decide)
    · split
      · exact ((key _ h).hand (Or.inl rfl)).mono (by decide)
      · exact ((key _ h).hand (Or.inr (hm h))).mono (by decide)
  · exact (sr_ss.rf q5).mono (by decide)
def i_RN_serve (μ : sr_M) (k : Nat) (a : sr_M) : Prop := k ≤ 16 ∧ sr_ss μ a (185 * k)
def g_RN_serve (μ : sr_M) (wo : Int32) : Nat → sr_M → sr_M ⊕ sr_M := fun k a => if 16 ≤ (nI k) then (.inl a) else (if ¬ (a.1 15 0 wo.toNatClampNeg) = (-1) then (.inl a) else (if ¬ (v_RN_firstToTake a) = (-1) then (if (v_RN_take a (v_RN_firstToTake a)) = 0 then (.inr (m_RN_take a (v_RN_firstToTake a))) else (if (v_RN_proceed (m_RN_take a (v_RN_firstToTake a)) (v_RN_firstToTake a)) = 0 then (.inr (m_RN_proceed (m_RN_take a (v_RN_firstToTake a)) (v_RN_firstToTake a))) else (.inr (sr_seti (m_RN_proceed (m_RN_take a (v_RN_firstToTake a)) (v_RN_firstToTake a)) 15 0 wo.toNatClampNeg (v_RN_firstToTake a))))) else (.inl a)))
def m_RN_serve (μ : sr_M) (wo : Int32) : sr_M := (sr_lp (g_RN_serve μ wo) (16 + 1) 0 μ).getD μ
def q_RN_serve (μ : sr_M) (wo : Int32) : Prop := sr_in wo 3 ∧ sr_cnt (μ.1 11 0 1) 2000080000 ∧ sr_cnt (μ.1 2 0 3) 8 ∧ sr_cnt (μ.1 2 0 1) 16 ∧ sr_rv μ ∧ sr_cnt (μ.1 10 0 0) 3
def p_RN_serve : sr_F := fun vs μ => match vs with
  | [.inr (.inr (1, 0)), .inl wo] => some (q_RN_serve μ wo, none, m_RN_serve μ wo)
  | _ => none
def e_RN_serve : sr_E := (sr_SC, sr_KS, (fun k => ([(38, 1, 4)] : List (Nat × Nat × Nat)).lookup k, fun _ => none, fun _ => none, fun _ => none, fun k => ([(105, 2, 1, p_RN_proceed), (109, 2, 0, p_RN_firstToTake), (113, 2, 1, p_RN_take)] : List (Nat × Nat × Nat × sr_F)).lookup k), sr_cd cd_RN_serve, none)
theorem k_RN_serve (a : sr_M) (k : Nat) (hk : k ≤ 16) (hrv : sr_rv a) (qa2 : sr_cnt (a.1 11 0 1) (2000080000 + 185 * k)) (qa3 : sr_cnt (a.1 2 0 3) 8) (qa4 : sr_cnt (a.1 2 0 1) 16) (h : ¬ (v_RN_firstToTake a) = -1) : sr_ss a (m_RN_take a (v_RN_firstToTake a)) 25 ∧ sr_ss a (m_RN_proceed (m_RN_take a (v_RN_firstToTake a)) (v_RN_firstToTake a)) 185 := by
  have hm2 : sr_in (v_RN_firstToTake a) 16 := (w_RN_firstToTake a qa4).resolve_left h
  have hr := rv_RN_take a _ hrv hm2 qa3
  have ft := fr_RN_take a (v_RN_firstToTake a) qa3
  have hp : q_RN_proceed (m_RN_take a (v_RN_firstToTake a)) (v_RN_firstToTake a) := ⟨hm2, (ft.lg qa2 (by omega)).mono (by omega), ft.cnt qa3, ft.cnt qa4, (hr.2.1 _ (sr_in_lt hm2)).1, (hr.2.1 _ (sr_in_lt hm2)).2⟩
  have h1 := ((sr_ss.rf hrv).fr ft hr).mono (e := 25) (by decide)
  exact ⟨h1, (h1.fr (o_RN_proceed _ _ hp).1 (rv_RN_proceed _ _ hr hp)).mono (by decide)⟩
theorem j_RN_serve (μ : sr_M) (wo : Int32) (hq : q_RN_serve μ wo) : ∀ k a a', i_RN_serve μ k a → g_RN_serve μ wo k a = .inr a' → i_RN_serve μ (k + 1) a' := by
  obtain ⟨q1, q2, q3, q4, q5, q6⟩ : sr_in wo 3 ∧ sr_cnt (μ.1 11 0 1) 2000080000 ∧ sr_cnt (μ.1 2 0 3) 8 ∧ sr_cnt (μ.1 2 0 1) 16 ∧ sr_rv μ ∧ sr_cnt (μ.1 10 0 0) 3 := hq
  intro k a a' hI e
  obtain ⟨hk0, hsa⟩ := hI
  have hrv := hsa.2.2.2
  have qa2 : sr_cnt (a.1 11 0 1) (2000080000 + 185 * k) := hsa.2.2.1 _ q2 (by omega)
  have qa3 : sr_cnt (a.1 2 0 3) 8 := hsa.cnt q3
  have qa4 : sr_cnt (a.1 2 0 1) 16 := hsa.cnt q4
  have hk : k ≠ 16 := fun ek => by
    subst ek
    unfold g_RN_serve at e
    rw [if_pos (show (16 : Int32) ≤ nI 16 by decide)] at e
    cases e
  unfold g_RN_serve at e
  (repeat' split at e) <;> cases e
  all_goals
    first
      | exact ⟨by omega, (hsa.trans (k_RN_serve a k hk0 hrv qa2 qa3 qa4 (by assumption)).1).mono (by omega)⟩
      | exact ⟨by omega, (hsa.trans (k_RN_serve a k hk0 hrv qa2 qa3 qa4 (by assumption)).2).mono (by omega)⟩
      | exact ⟨by omega, ((hsa.trans (k_RN_serve a k hk0 hrv qa2 qa3 qa4 (by assumption)).2).hand (w_RN_firstToTake a qa4)).mono (by omega)⟩
theorem t_RN_serve (μ : sr_M) (wo : Int32) (hq : q_RN_serve μ wo) : ∃ b, sr_lp (g_RN_serve μ wo) (16 + 1) 0 μ = some b := by
  have hj := j_RN_serve μ wo hq
  obtain ⟨q1, q2, q3, q4, q5, q6⟩ : sr_in wo 3 ∧ sr_cnt (μ.1 11 0 1) 2000080000 ∧ sr_cnt (μ.1 2 0 3) 8 ∧ sr_cnt (μ.1 2 0 1) 16 ∧ sr_rv μ ∧ sr_cnt (μ.1 10 0 0) 3 := hq
  exact sr_lp_some (g_RN_serve μ wo) 16 (i_RN_serve μ) hj (fun a _ => by
    unfold g_RN_serve
    rw [if_pos (show (16 : Int32) ≤ nI 16 by decide)]
    exact ⟨_, rfl⟩) 16 0 μ (by omega) ⟨Nat.zero_le _, sr_ss.rf q5⟩
theorem o_RN_serve (μ : sr_M) (wo : Int32) (hq : q_RN_serve μ wo) : sr_ss μ (m_RN_serve μ wo) 2960 := by
  obtain ⟨b, hb⟩ := t_RN_serve μ wo hq
  have hj := j_RN_serve μ wo hq
  obtain ⟨q1, q2, q3, q4, q5, q6⟩ : sr_in wo 3 ∧ sr_cnt (μ.1 11 0 1) 2000080000 ∧ sr_cnt (μ.1 2 0 3) 8 ∧ sr_cnt (μ.1 2 0 1) 16 ∧ sr_rv μ ∧ sr_cnt (μ.1 10 0 0) 3 := hq
  have e : m_RN_serve μ wo = b := by
    unfold m_RN_serve
    rw [hb]
    rfl
  rw [e]
  refine sr_lp_inv (i_RN_serve μ) hj (fun b => sr_ss μ b 2960) (fun k a b h e => ?_) _ _ _ _ ⟨Nat.zero_le _, sr_ss.rf q5⟩ hb
  obtain ⟨hk0, hsa⟩ := h
  unfold g_RN_serve at e
  (repeat' split at e) <;> cases e <;> exact hsa.mono (by omega)
set_option maxRecDepth 10000 in
theorem a_RN_serve (μ : sr_M) (wo : Int32) (hq : q_RN_serve μ wo) : sr_AW e_RN_serve (fun r => r = (none, m_RN_serve μ wo)) (sr_entry 4 [.inr (.inr (1, 0)), .inl wo] μ) := by
  have hq0 := hq
  obtain ⟨q1, q2, q3, q4, q5, q6⟩ : sr_in wo 3 ∧ sr_cnt (μ.1 11 0 1) 2000080000 ∧ sr_cnt (μ.1 2 0 3) 8 ∧ sr_cnt (μ.1 2 0 1) 16 ∧ sr_rv μ ∧ sr_cnt (μ.1 10 0 0) 3 := hq
  have qw := sr_in_lt q1
  refine sr_many 2 (t := (2, [some (.inr (.inr (1, 0))), some (.inl wo), some (.inl 0), none], [], μ)) rfl ⟨trivial, trivial, trivial⟩ ?_
  have hI : ∀ k a a', (fun k a => i_RN_serve μ k a) k a → (g_RN_serve μ wo) k a = .inr a' → (fun k a => i_RN_serve μ k a) (k + 1) a' := (j_RN_serve μ wo hq0)
  obtain ⟨b, hb⟩ : ∃ b, sr_lp (g_RN_serve μ wo) (16 + 1) 0 μ = some b := t_RN_serve μ wo hq0
  have e : ((none, m_RN_serve μ wo) : sr_R) = (fun b => (none, b)) b := by
    unfold m_RN_serve
    rw [hb]
    rfl
  rw [e]
  refine sr_loop (fun b => (none, b)) (fun k a => (2, [some (.inr (.inr (1, 0))), some (.inl wo), some (.inl (nI k)), none], [], a)) (g_RN_serve μ wo) (fun k a => i_RN_serve μ k a) hI (fun K k a hIk hr w => ?_) (16 + 1) 0 μ b ⟨Nat.zero_le _, sr_ss.rf q5⟩ hb
  obtain ⟨hk0, hsa⟩ := hIk
  have hrv := hsa.2.2.2
  have qa2 : sr_cnt (a.1 11 0 1) (2000080000 + 185 * k) := hsa.2.2.1 _ q2 (by omega)
  have qa3 : sr_cnt (a.1 2 0 3) 8 := hsa.cnt q3
  have qa4 : sr_cnt (a.1 2 0 1) 16 := hsa.cnt q4
  have qa6 : sr_cnt (a.1 10 0 0) 3 := hsa.cnt q6
  have qa7 := hrv.1
  have hm := w_RN_firstToTake a qa4
  have hm2 : ¬ (v_RN_firstToTake a) = -1 → sr_in (v_RN_firstToTake a) 16 := fun h => hm.resolve_left h
  have hrt : ¬ (v_RN_firstToTake a) = -1 → sr_rv (m_RN_take a (v_RN_firstToTake a)) := fun h => rv_RN_take a _ hrv (hm2 h) qa3
  refine sr_many 3 (t := (bif decide (16 ≤ (nI k)) then 58 else 8, [some (.inr (.inr (1, 0))), some (.inl wo), some (.inl (nI k)), none], [], a)) rfl ⟨trivial, trivial, trivial, trivial⟩ ?_
  refine sr_brd (fun h1 => ?_) (fun h1 => ?_)
  · exact sr_ret rfl rfl rfl trivial (hr a (by simp only [g_RN_serve, if_pos h1]))
  · refine sr_many 6 (t := (bif decide (¬ (a.1 15 0 wo.toNatClampNeg) = (-1)) then 58 else 18, [some (.inr (.inr (1, 0))), some (.inl wo), some (.inl (nI k)), none], [], a)) rfl ⟨trivial, (show 0 < 1 by decide), trivial, ⟨(show 0 < 1 by decide), (show sr_in wo 3 by first | assumption | exact hm2 h3 | exact sr_in_lt (hm2 h3) | exact ((hrt h3).2.1 _ (sr_in_lt (hm2 h3))).1 | exact ((hrt h3).2.1 _ (sr_in_lt (hm2 h3))).2)⟩, trivial, trivial, trivial⟩ ?_
    refine sr_brd (fun h2 => ?_) (fun h2 => ?_)
    · exact sr_ret rfl rfl rfl trivial (hr a (by simp only [g_RN_serve, if_neg h1, if_pos h2]))
    · refine sr_many 6 (t := (bif decide (¬ (v_RN_firstToTake a) = (-1)) then 29 else 28, [some (.inr (.inr (1, 0))), some (.inl wo), some (.inl (nI k)), some (.inl (v_RN_firstToTake a))], [], a)) rfl ⟨trivial, ⟨(show 0 < 1 by decide), ⟨((sr_fr.rf a).cnt qa4), ((sr_fr.rf a).cnt qa6), (show ∀ w, w < 3 → a.1 15 0 w = -1 ∨ sr_in (a.1 15 0 w) 16 by first | assumption | exact hm2 h3 | exact sr_in_lt (hm2 h3) | exact ((hrt h3).2.1 _ (sr_in_lt (hm2 h3))).1 | exact ((hrt h3).2.1 _ (sr_in_lt (hm2 h3))).2)⟩⟩, trivial, trivial, trivial, trivial, trivial⟩ ?_
      refine sr_brd (fun h3 => ?_) (fun h3 => ?_)
      · refine sr_many 4 (t := (bif decide ((v_RN_take a (v_RN_firstToTake a)) = 0) then 52 else 37, [some (.inr (.inr (1, 0))), some (.inl wo), some (.inl (nI k)), some (.inl (v_RN_firstToTake a))], [], (m_RN_take a (v_RN_firstToTake a)))) rfl ⟨trivial, trivial, ⟨(show 0 < 1 by decide), ⟨(show sr_in (v_RN_firstToTake a) 16 by first | assumption | exact hm2 h3 | exact sr_in_lt (hm2 h3) | exact ((hrt h3).2.1 _ (sr_in_lt (hm2 h3))).1 | exact ((hrt h3).2.1 _ (sr_in_lt (hm2 h3))).2), (((sr_fr.rf a).lg qa2 (by omega)).mono (by omega)), ((sr_fr.rf a).cnt qa3), ((sr_fr.rf a).cnt qa4)⟩⟩, trivial, trivial⟩ ?_
        refine sr_brd (fun h4 => ?_) (fun h4 => ?_)
        · refine sr_many 2 (t := (2, [some (.inr (.inr (1, 0))), some (.inl wo), some (.inl ((nI k) + 1)), some (.inl (v_RN_firstToTake a))], [], (m_RN_take a (v_RN_firstToTake a)))) rfl ⟨trivial, trivial, trivial⟩ ?_
          refine sr_forget [some (.inr (.inr (1, 0))), some (.inl wo), some (.inl ((nI k) + 1)), none] (by simp [sr_sub]) ?_
          have w2 := w (m_RN_take a (v_RN_firstToTake a)) (by simp only [g_RN_serve, if_neg h1, if_neg h2, if_pos h3, if_pos h4])
          try simp only [nI_succ] at w2
          exact w2
        · refine sr_many 4 (t := (bif decide ((v_RN_proceed (m_RN_take a (v_RN_firstToTake a)) (v_RN_firstToTake a)) = 0) then 52 else 45, [some (.inr (.inr (1, 0))), some (.inl wo), some (.inl (nI k)), some (.inl (v_RN_firstToTake a))], [], (m_RN_proceed (m_RN_take a (v_RN_firstToTake a)) (v_RN_firstToTake a)))) rfl ⟨trivial, trivial, ⟨(show 0 < 1 by decide), ⟨(show sr_in (v_RN_firstToTake a) 16 by first | assumption | exact hm2 h3 | exact sr_in_lt (hm2 h3) | exact ((hrt h3).2.1 _ (sr_in_lt (hm2 h3))).1 | exact ((hrt h3).2.1 _ (sr_in_lt (hm2 h3))).2), ((((sr_fr.rf a).trans (fr_RN_take _ _ ((sr_fr.rf a).cnt qa3))).lg qa2 (by omega)).mono (by omega)), (((sr_fr.rf a).trans (fr_RN_take _ _ ((sr_fr.rf a).cnt qa3))).cnt qa3), (((sr_fr.rf a).trans (fr_RN_take _ _ ((sr_fr.rf a).cnt qa3))).cnt qa4), (show sr_cnt ((m_RN_take a (v_RN_firstToTake a)).1 13 (v_RN_firstToTake a).toNatClampNeg 3) 16 by first | assumption | exact hm2 h3 | exact sr_in_lt (hm2 h3) | exact ((hrt h3).2.1 _ (sr_in_lt (hm2 h3))).1 | exact ((hrt h3).2.1 _ (sr_in_lt (hm2 h3))).2), (show sr_cnt ((m_RN_take a (v_RN_firstToTake a)).1 13 (v_RN_firstToTake a).toNatClampNeg 4) 16 by first | assumption | exact hm2 h3 | exact sr_in_lt (hm2 h3) | exact ((hrt h3).2.1 _ (sr_in_lt (hm2 h3))).1 | exact ((hrt h3).2.1 _ (sr_in_lt (hm2 h3))).2)⟩⟩, trivial, trivial⟩ ?_
          refine sr_brd (fun h5 => ?_) (fun h5 => ?_)
          · refine sr_many 2 (t := (2, [some (.inr (.inr (1, 0))), some (.inl wo), some (.inl ((nI k) + 1)), some (.inl (v_RN_firstToTake a))], [], (m_RN_proceed (m_RN_take a (v_RN_firstToTake a)) (v_RN_firstToTake a)))) rfl ⟨trivial, trivial, trivial⟩ ?_
            refine sr_forget [some (.inr (.inr (1, 0))), some (.inl wo), some (.inl ((nI k) + 1)), none] (by simp [sr_sub]) ?_
            have w2 := w (m_RN_proceed (m_RN_take a (v_RN_firstToTake a)) (v_RN_firstToTake a)) (by simp only [g_RN_serve, if_neg h1, if_neg h2, if_pos h3, if_neg h4, if_pos h5])
            try simp only [nI_succ] at w2
            exact w2
          · refine sr_many 7 (t := (2, [some (.inr (.inr (1, 0))), some (.inl wo), some (.inl ((nI k) + 1)), some (.inl (v_RN_firstToTake a))], [], (sr_seti (m_RN_proceed (m_RN_take a (v_RN_firstToTake a)) (v_RN_firstToTake a)) 15 0 wo.toNatClampNeg (v_RN_firstToTake a)))) rfl ⟨trivial, (show 0 < 1 by decide), trivial, trivial, ⟨(show 0 < 1 by decide), (show sr_in wo 3 by first | assumption | exact hm2 h3 | exact sr_in_lt (hm2 h3) | exact ((hrt h3).2.1 _ (sr_in_lt (hm2 h3))).1 | exact ((hrt h3).2.1 _ (sr_in_lt (hm2 h3))).2)⟩, trivial, trivial, trivial⟩ ?_
            refine sr_forget [some (.inr (.inr (1, 0))), some (.inl wo), some (.inl ((nI k) + 1)), none] (by simp [sr_sub]) ?_
            have w2 := w (sr_seti (m_RN_proceed (m_RN_take a (v_RN_firstToTake a)) (v_RN_firstToTake a)) 15 0 wo.toNatClampNeg (v_RN_firstToTake a)) (by simp only [g_RN_serve, if_neg h1, if_neg h2, if_pos h3, if_neg h4, if_neg h5])
            try simp only [nI_succ] at w2
            exact w2
      · exact sr_ret rfl rfl rfl trivial (hr a (by simp only [g_RN_serve, if_neg h1, if_neg h2, if_neg h3]))
def f_RN_step_12 (μ : sr_M)   : Nat → sr_M → sr_M := fun k a => (m_RN_advance a (nI k))
def f_RN_step_36 (μ : sr_M)   : Nat → sr_M → sr_M := fun k a => (m_RN_serve a (nI k))
def m_RN_step (μ : sr_M)  : sr_M := if ¬ ((sr_it (f_RN_step_36 μ) (sr_it (f_RN_step_12 μ) (sr_seti μ 1 0 9 ((μ.1 1 0 9) + (1 : Int32))) ((μ.1 10 0 0).toNatClampNeg)) ((μ.1 10 0 0).toNatClampNeg)).1 1 0 11) = ((sr_it (f_RN_step_36 μ) (sr_it (f_RN_step_12 μ) (sr_seti μ 1 0 9 ((μ.1 1 0 9) + (1 : Int32))) ((μ.1 10 0 0).toNatClampNeg)) ((μ.1 10 0 0).toNatClampNeg)).1 1 0 10) then (sr_it (f_RN_step_36 μ) (sr_it (f_RN_step_12 μ) (sr_seti μ 1 0 9 ((μ.1 1 0 9) + (1 : Int32))) ((μ.1 10 0 0).toNatClampNeg)) ((μ.1 10 0 0).toNatClampNeg)) else (m_RN_finish (sr_it (f_RN_step_36 μ) (sr_it (f_RN_step_12 μ) (sr_seti μ 1 0 9 ((μ.1 1 0 9) + (1 : Int32))) ((μ.1 10 0 0).toNatClampNeg)) ((μ.1 10 0 0).toNatClampNeg)))
def q_RN_step (μ : sr_M)  : Prop := sr_cnt (μ.1 11 0 1) 2000070000 ∧ sr_cnt (μ.1 2 0 3) 8 ∧ sr_cnt (μ.1 2 0 1) 16 ∧ sr_cnt (μ.1 10 0 0) 3 ∧ sr_rv μ
def p_RN_step : sr_F := fun vs μ => match vs with
  | [.inr (.inr (1, 0))] => some (q_RN_step μ , none, m_RN_step μ )
  | _ => none
def e_RN_step : sr_E := (sr_SC, sr_KS, (fun k => ([(21, 1, 1), (50, 1, 9), (54, 1, 10), (57, 1, 11), (87, 5, 0)] : List (Nat × Nat × Nat)).lookup k, fun _ => none, fun _ => none, fun _ => none, fun k => ([(90, 2, 1, p_RN_advance), (93, 2, 1, p_RN_serve), (96, 2, 0, p_RN_finish)] : List (Nat × Nat × Nat × sr_F)).lookup k), sr_cd cd_RN_step, none)
set_option maxRecDepth 10000 in
theorem a_RN_step (μ : sr_M)  (hq : q_RN_step μ ) : sr_AW e_RN_step (fun r => r = (none, m_RN_step μ )) (sr_entry 2 [.inr (.inr (1, 0))] μ) := by
  have hq0 := hq
  obtain ⟨q1, q2, q3, q4, q5⟩ : sr_cnt (μ.1 11 0 1) 2000070000 ∧ sr_cnt (μ.1 2 0 3) 8 ∧ sr_cnt (μ.1 2 0 1) 16 ∧ sr_cnt (μ.1 10 0 0) 3 ∧ sr_rv μ := hq
  have hz : sr_ss μ (sr_seti μ 1 0 9 (μ.1 1 0 9 + 1)) (170 * 0) := (sr_ss.rf q5).fr ((sr_fr.rf μ).seti rfl (by decide)) (rv_fd q5 ((sr_fr.rf μ).seti rfl (by decide)) ((sr_fd.rf μ).seti (by decide)))
  refine sr_many 8 (t := (12, [some (.inr (.inr (1, 0))), some (.inl 0)], [], (sr_seti μ 1 0 9 ((μ.1 1 0 9) + (1 : Int32))))) rfl ⟨trivial, trivial, (show 0 < 1 by decide), trivial, trivial, (show 0 < 1 by decide), trivial, trivial, trivial⟩ ?_
  refine sr_forI (α := sr_M) (fun k a => (12, [some (.inr (.inr (1, 0))), some (.inl (nI k))], [], a)) (f_RN_step_12 μ) (fun k a => sr_ss μ a (170 * k)) (sr_seti μ 1 0 9 ((μ.1 1 0 9) + (1 : Int32))) ((μ.1 10 0 0).toNatClampNeg) hz (fun k hk a h => by have hk3 : k < 3 := sr_cnt_lt q4 hk; unfold f_RN_step_12; exact (h.trans (o_RN_advance a (nI k) ⟨sr_inN 3 hk3 (by decide), (h.2.2.1 _ q1 (by omega)).mono (by omega), h.cnt q2, h.cnt q3, h.2.2.2⟩)).mono (by omega)) (fun k hk a hIk w => ?_) (fun hIk => ?_)
  · have hbk : k < 3 := sr_cnt_lt q4 hk
    have hck : (nI k).toNatClampNeg = k := sr_clN 3 hbk (by decide)
    have hink : sr_in (nI k) 3 := sr_inN 3 hbk (by decide)
    have hcbk : (nI k).toNatClampNeg < 3 := by rw [hck]; exact hbk
    have hk3 : k < 3 := hbk
    have p2 : sr_cnt (a.1 11 0 1) 2000090000 := (hIk.2.2.1 _ q1 (by omega)).mono (by omega)
    have p3 : sr_cnt (a.1 2 0 3) 8 := hIk.cnt q2
    have p4 : sr_cnt (a.1 2 0 1) 16 := hIk.cnt q3
    have p6 : sr_cnt (a.1 10 0 0) 3 := hIk.cnt q4
    have p5 := hIk.2.2.2
    refine sr_many 5 (t := (bif decide ((a.1 10 0 0) ≤ (nI k)) then 34 else 23, [some (.inr (.inr (1, 0))), some (.inl (nI k))], [], a)) rfl ⟨trivial, trivial, (show 0 < 1 by decide), (show 0 < 1 by decide), trivial, trivial⟩ ?_
    refine sr_brd (fun h => absurd h (by rw [hIk.1 10 0 0 rfl (by decide)]; exact sr_cnt_nlt q4 (by decide) hk)) (fun _ => ?_)
    refine sr_many 5 (t := (12, [some (.inr (.inr (1, 0))), some (.inl ((nI k) + 1))], [], (m_RN_advance a (nI k)))) rfl ⟨trivial, trivial, ⟨(show 0 < 1 by decide), ⟨(show sr_in (nI k) 3 by assumption), (show sr_cnt (a.1 11 0 1) 2000090000 by assumption), (show sr_cnt (a.1 2 0 3) 8 by assumption), (show sr_cnt (a.1 2 0 1) 16 by assumption), (show sr_rv a by assumption)⟩⟩, trivial, trivial, trivial⟩ ?_
    try simp only [hck]
    simp only [f_RN_step_12, nI_succ] at w
    exact w
  · skip
    refine sr_many 5 (t := (bif decide (((sr_it (f_RN_step_12 μ) (sr_seti μ 1 0 9 ((μ.1 1 0 9) + (1 : Int32))) ((μ.1 10 0 0).toNatClampNeg)).1 10 0 0) ≤ (nI ((μ.1 10 0 0).toNatClampNeg))) then 34 else 23, [some (.inr (.inr (1, 0))), some (.inl (nI ((μ.1 10 0 0).toNatClampNeg)))], [], (sr_it (f_RN_step_12 μ) (sr_seti μ 1 0 9 ((μ.1 1 0 9) + (1 : Int32))) ((μ.1 10 0 0).toNatClampNeg)))) rfl ⟨trivial, trivial, (show 0 < 1 by decide), (show 0 < 1 by decide), trivial, trivial⟩ ?_
    refine sr_brd (fun _ => ?_) (fun h => absurd (by rw [hIk.1 10 0 0 rfl (by decide)]; exact sr_cnt_le q4) h)
    refine sr_many 2 (t := (36, [some (.inr (.inr (1, 0))), some (.inl 0)], [], (sr_it (f_RN_step_12 μ) (sr_seti μ 1 0 9 ((μ.1 1 0 9) + (1 : Int32))) ((μ.1 10 0 0).toNatClampNeg)))) rfl ⟨trivial, trivial, trivial⟩ ?_
    refine sr_forI (α := sr_M) (fun k a => (36, [some (.inr (.inr (1, 0))), some (.inl (nI k))], [], a)) (f_RN_step_36 μ) (fun k a => sr_ss μ a (510 + 2960 * k)) (sr_it (f_RN_step_12 μ) (sr_seti μ 1 0 9 ((μ.1 1 0 9) + (1 : Int32))) ((μ.1 10 0 0).toNatClampNeg)) ((μ.1 10 0 0).toNatClampNeg) (hIk.mono (by have := q4.2; omega)) (fun k hk a h => by have hk3 : k < 3 := sr_cnt_lt q4 hk; unfold f_RN_step_36; exact (h.trans (o_RN_serve a (nI k) ⟨sr_inN 3 hk3 (by decide), (h.2.2.1 _ q1 (by omega)).mono (by omega), h.cnt q2, h.cnt q3, h.2.2.2, h.cnt q4⟩)).mono (by omega)) (fun k hk a hIk w => ?_) (fun hIk => ?_)
    · have hbk : k < 3 := sr_cnt_lt q4 hk
      have hck : (nI k).toNatClampNeg = k := sr_clN 3 hbk (by decide)
      have hink : sr_in (nI k) 3 := sr_inN 3 hbk (by decide)
      have hcbk : (nI k).toNatClampNeg < 3 := by rw [hck]; exact hbk
      have hk3 : k < 3 := hbk
      have p2 : sr_cnt (a.1 11 0 1) 2000080000 := (hIk.2.2.1 _ q1 (by omega)).mono (by omega)
      have p3 : sr_cnt (a.1 2 0 3) 8 := hIk.cnt q2
      have p4 : sr_cnt (a.1 2 0 1) 16 := hIk.cnt q3
      have p6 : sr_cnt (a.1 10 0 0) 3 := hIk.cnt q4
      have p5 := hIk.2.2.2
      refine sr_many 5 (t := (bif decide ((a.1 10 0 0) ≤ (nI k)) then 58 else 47, [some (.inr (.inr (1, 0))), some (.inl (nI k))], [], a)) rfl ⟨trivial, trivial, (show 0 < 1 by decide), (show 0 < 1 by decide), trivial, trivial⟩ ?_
      refine sr_brd (fun h => absurd h (by rw [hIk.1 10 0 0 rfl (by decide)]; exact sr_cnt_nlt q4 (by decide) hk)) (fun _ => ?_)
      refine sr_many 5 (t := (36, [some (.inr (.inr (1, 0))), some (.inl ((nI k) + 1))], [], (m_RN_serve a (nI k)))) rfl ⟨trivial, trivial, ⟨(show 0 < 1 by decide), ⟨(show sr_in (nI k) 3 by assumption), (show sr_cnt (a.1 11 0 1) 2000080000 by assumption), (show sr_cnt (a.1 2 0 3) 8 by assumption), (show sr_cnt (a.1 2 0 1) 16 by assumption), (show sr_rv a by assumption), (show sr_cnt (a.1 10 0 0) 3 by assumption)⟩⟩, trivial, trivial, trivial⟩ ?_
      try simp only [hck]
      simp only [f_RN_step_36, nI_succ] at w
      exact w
    · skip
      have x1 : sr_cnt ((sr_it (f_RN_step_36 μ) (sr_it (f_RN_step_12 μ) (sr_seti μ 1 0 9 ((μ.1 1 0 9) + (1 : Int32))) ((μ.1 10 0 0).toNatClampNeg)) ((μ.1 10 0 0).toNatClampNeg)).1 11 0 1) 2000099000 := (hIk.2.2.1 _ q1 (by have := q4.2; omega)).mono (by have := q4.2; omega)
      have x2 : sr_cnt ((sr_it (f_RN_step_36 μ) (sr_it (f_RN_step_12 μ) (sr_seti μ 1 0 9 ((μ.1 1 0 9) + (1 : Int32))) ((μ.1 10 0 0).toNatClampNeg)) ((μ.1 10 0 0).toNatClampNeg)).1 2 0 3) 8 := hIk.cnt q2
      refine sr_many 5 (t := (bif decide (((sr_it (f_RN_step_36 μ) (sr_it (f_RN_step_12 μ) (sr_seti μ 1 0 9 ((μ.1 1 0 9) + (1 : Int32))) ((μ.1 10 0 0).toNatClampNeg)) ((μ.1 10 0 0).toNatClampNeg)).1 10 0 0) ≤ (nI ((μ.1 10 0 0).toNatClampNeg))) then 58 else 47, [some (.inr (.inr (1, 0))), some (.inl (nI ((μ.1 10 0 0).toNatClampNeg)))], [], (sr_it (f_RN_step_36 μ) (sr_it (f_RN_step_12 μ) (sr_seti μ 1 0 9 ((μ.1 1 0 9) + (1 : Int32))) ((μ.1 10 0 0).toNatClampNeg)) ((μ.1 10 0 0).toNatClampNeg)))) rfl ⟨trivial, trivial, (show 0 < 1 by decide), (show 0 < 1 by decide), trivial, trivial⟩ ?_
      refine sr_brd (fun _ => ?_) (fun h => absurd (by rw [hIk.1 10 0 0 rfl (by decide)]; exact sr_cnt_le q4) h)
      refine sr_many 5 (t := (bif decide (¬ ((sr_it (f_RN_step_36 μ) (sr_it (f_RN_step_12 μ) (sr_seti μ 1 0 9 ((μ.1 1 0 9) + (1 : Int32))) ((μ.1 10 0 0).toNatClampNeg)) ((μ.1 10 0 0).toNatClampNeg)).1 1 0 11) = ((sr_it (f_RN_step_36 μ) (sr_it (f_RN_step_12 μ) (sr_seti μ 1 0 9 ((μ.1 1 0 9) + (1 : Int32))) ((μ.1 10 0 0).toNatClampNeg)) ((μ.1 10 0 0).toNatClampNeg)).1 1 0 10)) then 73 else 69, [some (.inr (.inr (1, 0))), some (.inl (nI ((μ.1 10 0 0).toNatClampNeg)))], [], (sr_it (f_RN_step_36 μ) (sr_it (f_RN_step_12 μ) (sr_seti μ 1 0 9 ((μ.1 1 0 9) + (1 : Int32))) ((μ.1 10 0 0).toNatClampNeg)) ((μ.1 10 0 0).toNatClampNeg)))) rfl ⟨trivial, (show 0 < 1 by decide), trivial, (show 0 < 1 by decide), trivial, trivial⟩ ?_
      refine sr_brd (fun h1 => ?_) (fun h1 => ?_)
      · exact sr_ret rfl rfl rfl trivial (by simp only [m_RN_step, if_pos h1])
      · refine sr_many 2 (t := (73, [some (.inr (.inr (1, 0))), some (.inl (nI ((μ.1 10 0 0).toNatClampNeg)))], [], (m_RN_finish (sr_it (f_RN_step_36 μ) (sr_it (f_RN_step_12 μ) (sr_seti μ 1 0 9 ((μ.1 1 0 9) + (1 : Int32))) ((μ.1 10 0 0).toNatClampNeg)) ((μ.1 10 0 0).toNatClampNeg))))) rfl ⟨trivial, ⟨(show 0 < 1 by decide), ⟨(show sr_cnt ((sr_it (f_RN_step_36 μ) (sr_it (f_RN_step_12 μ) (sr_seti μ 1 0 9 ((μ.1 1 0 9) + (1 : Int32))) ((μ.1 10 0 0).toNatClampNeg)) ((μ.1 10 0 0).toNatClampNeg)).1 11 0 1) 2000099000 by assumption), (show sr_cnt ((sr_it (f_RN_step_36 μ) (sr_it (f_RN_step_12 μ) (sr_seti μ 1 0 9 ((μ.1 1 0 9) + (1 : Int32))) ((μ.1 10 0 0).toNatClampNeg)) ((μ.1 10 0 0).toNatClampNeg)).1 2 0 3) 8 by assumption)⟩⟩, trivial⟩ ?_
        exact sr_ret rfl rfl rfl trivial (by simp only [m_RN_step, if_neg h1])
theorem o_RN_step (μ : sr_M) (hq : q_RN_step μ) : sr_ss μ (m_RN_step μ) 9500 := by
  obtain ⟨q1, q2, q3, q4, q5⟩ : sr_cnt (μ.1 11 0 1) 2000070000 ∧ sr_cnt (μ.1 2 0 3) 8 ∧ sr_cnt (μ.1 2 0 1) 16 ∧ sr_cnt (μ.1 10 0 0) 3 ∧ sr_rv μ := hq
  have hz : sr_ss μ (sr_seti μ 1 0 9 (μ.1 1 0 9 + 1)) (170 * 0) := (sr_ss.rf q5).fr ((sr_fr.rf μ).seti rfl (by decide)) (rv_fd q5 ((sr_fr.rf μ).seti rfl (by decide)) ((sr_fd.rf μ).seti (by decide)))
  have s1 : ∀ k, k < (μ.1 10 0 0).toNatClampNeg → ∀ a, sr_ss μ a (170 * k) → sr_ss μ (f_RN_step_12 μ k a) (170 * (k + 1)) := (fun k hk a h => by have hk3 : k < 3 := sr_cnt_lt q4 hk; unfold f_RN_step_12; exact (h.trans (o_RN_advance a (nI k) ⟨sr_inN 3 hk3 (by decide), (h.2.2.1 _ q1 (by omega)).mono (by omega), h.cnt q2, h.cnt q3, h.2.2.2⟩)).mono (by omega))
  have s2 : ∀ k, k < (μ.1 10 0 0).toNatClampNeg → ∀ a, sr_ss μ a (510 + 2960 * k) → sr_ss μ (f_RN_step_36 μ k a) (510 + 2960 * (k + 1)) := (fun k hk a h => by have hk3 : k < 3 := sr_cnt_lt q4 hk; unfold f_RN_step_36; exact (h.trans (o_RN_serve a (nI k) ⟨sr_inN 3 hk3 (by decide), (h.2.2.1 _ q1 (by omega)).mono (by omega), h.cnt q2, h.cnt q3, h.2.2.2, h.cnt q4⟩)).mono (by omega))
  have h1 : sr_ss μ (sr_it (f_RN_step_12 μ) (sr_seti μ 1 0 9 (μ.1 1 0 9 + 1)) (μ.1 10 0 0).toNatClampNeg) (170 * (μ.1 10 0 0).toNatClampNeg) := by
    have key : ∀ n, n ≤ (μ.1 10 0 0).toNatClampNeg → sr_ss μ (sr_it (f_RN_step_12 μ) (sr_seti μ 1 0 9 (μ.1 1 0 9 + 1)) n) (170 * n) := by
      intro n
      induction n with
      | zero => intro _; exact hz
      | succ n ih => intro hn; exact s1 n (by omega) _ (ih (by omega))
    exact key _ (Nat.le_refl _)
  have h2 : sr_ss μ (sr_it (f_RN_step_36 μ) (sr_it (f_RN_step_12 μ) (sr_seti μ 1 0 9 (μ.1 1 0 9 + 1)) (μ.1 10 0 0).toNatClampNeg) (μ.1 10 0 0).toNatClampNeg) (510 + 2960 * (μ.1 10 0 0).toNatClampNeg) := by
    have key : ∀ n, n ≤ (μ.1 10 0 0).toNatClampNeg → sr_ss μ (sr_it (f_RN_step_36 μ) (sr_it (f_RN_step_12 μ) (sr_seti μ 1 0 9 (μ.1 1 0 9 + 1)) (μ.1 10 0 0).toNatClampNeg) n) (510 + 2960 * n) := by
      intro n
      induction n with
      | zero => intro _; exact h1.mono (by have := q4.2; omega)
      | succ n ih => intro hn; exact s2 n (by omega) _ (ih (by omega))
    exact key _ (Nat.le_refl _)
  have hw := q4.2
  unfold m_RN_step
  split
  · exact h2.mono (by omega)
  · have hf := fr_RN_finish (sr_it (f_RN_step_36 μ) (sr_it (f_RN_step_12 μ) (sr_seti μ 1 0 9 (μ.1 1 0 9 + 1)) (μ.1 10 0 0).toNatClampNeg) (μ.1 10 0 0).toNatClampNeg) (h2.cnt q2)
    refine (h2.fr hf (rv_fd h2.2.2.2 hf ?_)).mono (by omega)
    unfold m_RN_finish
    split
    · exact (((sr_fd.rf _).seti (by decide)).seti (by decide)).trans (fd_LG_add _ _ _ _ _)
    · exact ((((sr_fd.rf _).trans (fd_RN_runConfigurations _ _ _ _)).seti (by decide)).seti (by decide)).trans (fd_LG_add _ _ _ _ _)
