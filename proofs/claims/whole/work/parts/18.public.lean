/-! pictures and runs: circles, and the public methods but start and tick -/
theorem kp_CT_findReach (μ : sr_M) (ch : Int32) : (∀ g i j, ¬ g = 9 → (m_CT_findReach μ ch).1 g i j = μ.1 g i j) ∧ (m_CT_findReach μ ch).2 = μ.2 := by
  unfold m_CT_findReach
  refine sr_it_inv (fun b : sr_M => (∀ g i j, ¬ g = 9 → b.1 g i j = μ.1 g i j) ∧ b.2 = μ.2) (fun k b hb => ?_) ?_ _
  · unfold f_CT_findReach_42
    refine sr_it_inv (fun b : sr_M => (∀ g i j, ¬ g = 9 → b.1 g i j = μ.1 g i j) ∧ b.2 = μ.2) (fun k2 b hb => ?_) hb _
    unfold f_CT_findReach_52
    split
    · exact hb
    · refine ⟨fun g i j hg => ?_, hb.2⟩
      simp only [sr_seti]
      rw [if_neg (fun q => hg q.1)]
      exact hb.1 g i j hg
  · refine sr_it_inv (fun b : sr_M => (∀ g i j, ¬ g = 9 → b.1 g i j = μ.1 g i j) ∧ b.2 = μ.2) (fun k b hb => ?_) ⟨fun _ _ _ _ => rfl, rfl⟩ _
    unfold f_CT_findReach_2
    split
    · refine ⟨fun g i j hg => ?_, hb.2⟩
      simp only [sr_seti]
      rw [if_neg (fun q => hg q.1)]
      exact hb.1 g i j hg
    · refine ⟨fun g i j hg => ?_, hb.2⟩
      simp only [sr_seti]
      rw [if_neg (fun q => hg q.1)]
      exact hb.1 g i j hg
theorem sr_hasm {μ : sr_M} {m : Int32} (q : sr_cnt (μ.1 2 0 1) 16) (h : ¬ v_CT_hasMethod μ m = 0) : sr_in m 16 := by
  unfold v_CT_hasMethod at h
  rw [q.1] at h
  have h1 := sr_within _ (by have := q.2; omega) h
  have h2 := vp_in_iff.mp h1
  have := q.2
  exact vp_in_iff.mpr ⟨h2.1, by omega⟩
theorem sr_allows {w v : Int32} (h : ¬ v_TM_allows w v = 0) : sr_in w 9 := by
  refine sr_within_in (fun e => h ?_)
  unfold v_TM_allows
  rw [if_pos e]
def f_CT_circleWithin (μ : sr_M) (ch : Int32)  : Nat → Int32 → Int32 := fun k a => if (v_SR_holds ((m_CT_findReach μ ch).1 9 0 (k)) (nI k)) = 0 then a else (a ||| ((1 : Int32) <<< ((nI k) &&& 31)))
def v_CT_circleWithin (μ : sr_M) (ch : Int32) : Int32 := (sr_it (f_CT_circleWithin μ ch) 0 (((m_CT_findReach μ ch).1 2 0 1).toNatClampNeg))
def m_CT_circleWithin (μ : sr_M) (ch : Int32) : sr_M := (m_CT_findReach μ ch)
def q_CT_circleWithin (μ : sr_M) (ch : Int32) : Prop := sr_cnt (μ.1 2 0 1) 16
def p_CT_circleWithin : sr_F := fun vs μ => match vs with
  | [.inr (.inr (2, 0)), .inl ch] => some (q_CT_circleWithin μ ch, some (.inl (v_CT_circleWithin μ ch)), m_CT_circleWithin μ ch)
  | _ => none
def e_CT_circleWithin : sr_E := (sr_SC, sr_KS, (fun k => ([(27, 2, 5), (32, 2, 1)] : List (Nat × Nat × Nat)).lookup k, fun _ => none, fun _ => none, fun _ => none, fun k => ([(70, 0, 2, p_SR_holds), (73, 3, 1, p_CT_findReach)] : List (Nat × Nat × Nat × sr_F)).lookup k), sr_cd cd_CT_circleWithin, some .int)
set_option maxRecDepth 10000 in
theorem a_CT_circleWithin (μ : sr_M) (ch : Int32) (hq : q_CT_circleWithin μ ch) : sr_AW e_CT_circleWithin (fun r => r = (some (.inl (v_CT_circleWithin μ ch)), m_CT_circleWithin μ ch)) (sr_entry 4 [.inr (.inr (2, 0)), .inl ch] μ) := by
  have q1 : sr_cnt (μ.1 2 0 1) 16 := hq
  have q9 : sr_cnt ((m_CT_findReach μ ch).1 2 0 1) 16 := by rw [(kp_CT_findReach μ ch).1 2 0 1 (by decide)]; exact q1
  refine sr_many 7 (t := (9, [some (.inr (.inr (2, 0))), some (.inl ch), some (.inl 0), some (.inl 0)], [], (m_CT_findReach μ ch))) rfl ⟨trivial, trivial, ⟨(show 0 < 1 by decide), (show sr_cnt (μ.1 2 0 1) 16 by assumption)⟩, trivial, trivial, trivial, trivial, trivial⟩ ?_
  refine sr_forT (α := Int32) (fun k a => (9, [some (.inr (.inr (2, 0))), some (.inl ch), some (.inl a), some (.inl (nI k))], [], (m_CT_findReach μ ch))) (f_CT_circleWithin μ ch) 0 (((m_CT_findReach μ ch).1 2 0 1).toNatClampNeg) (fun k hk a w => ?_) ?_
  · have hbk : k < 16 := sr_cnt_lt q9 hk
    have hck : (nI k).toNatClampNeg = k := sr_clN 16 hbk (by decide)
    have hink : sr_in (nI k) 16 := sr_inN 16 hbk (by decide)
    have hcbk : (nI k).toNatClampNeg < 16 := by rw [hck]; exact hbk
    refine sr_many 4 (t := (bif decide (((m_CT_findReach μ ch).1 2 0 1) ≤ (nI k)) then 42 else 17, [some (.inr (.inr (2, 0))), some (.inl ch), some (.inl a), some (.inl (nI k))], [], (m_CT_findReach μ ch))) rfl ⟨trivial, trivial, (show 0 < 1 by decide), trivial, trivial⟩ ?_
    refine sr_brd (fun h => absurd h (by exact sr_cnt_nlt q9 (by decide) hk)) (fun _ => ?_)
    refine sr_many 7 (t := (bif decide ((v_SR_holds ((m_CT_findReach μ ch).1 9 0 ((nI k).toNatClampNeg)) (nI k)) = 0) then 36 else 30, [some (.inr (.inr (2, 0))), some (.inl ch), some (.inl a), some (.inl (nI k))], [], (m_CT_findReach μ ch))) rfl ⟨trivial, (show 0 < 1 by decide), trivial, ⟨(show 0 < 1 by decide), (show sr_in (nI k) 16 by assumption)⟩, trivial, trivial, trivial, trivial⟩ ?_
    refine sr_brd (fun h1 => ?_) (fun h1 => ?_)
    · refine sr_many 2 (t := (9, [some (.inr (.inr (2, 0))), some (.inl ch), some (.inl a), some (.inl ((nI k) + 1))], [], (m_CT_findReach μ ch))) rfl ⟨trivial, trivial, trivial⟩ ?_
      try simp only [hck] at h1
      try simp only [hck]
      simp only [f_CT_circleWithin, if_pos h1, nI_succ] at w
      exact w
    · refine sr_many 8 (t := (9, [some (.inr (.inr (2, 0))), some (.inl ch), some (.inl (a ||| ((1 : Int32) <<< ((nI k) &&& 31)))), some (.inl ((nI k) + 1))], [], (m_CT_findReach μ ch))) rfl ⟨trivial, trivial, trivial, trivial, trivial, trivial, trivial, trivial, trivial⟩ ?_
      try simp only [hck] at h1
      try simp only [hck]
      simp only [f_CT_circleWithin, if_neg h1, nI_succ] at w
      exact w
  · skip
    refine sr_many 4 (t := (bif decide (((m_CT_findReach μ ch).1 2 0 1) ≤ (nI (((m_CT_findReach μ ch).1 2 0 1).toNatClampNeg))) then 42 else 17, [some (.inr (.inr (2, 0))), some (.inl ch), some (.inl (sr_it (f_CT_circleWithin μ ch) 0 (((m_CT_findReach μ ch).1 2 0 1).toNatClampNeg))), some (.inl (nI (((m_CT_findReach μ ch).1 2 0 1).toNatClampNeg)))], [], (m_CT_findReach μ ch))) rfl ⟨trivial, trivial, (show 0 < 1 by decide), trivial, trivial⟩ ?_
    refine sr_brd (fun _ => ?_) (fun h => absurd (by exact sr_cnt_le q9) h)
    refine sr_many 1 (t := (43, [some (.inr (.inr (2, 0))), some (.inl ch), some (.inl (sr_it (f_CT_circleWithin μ ch) 0 (((m_CT_findReach μ ch).1 2 0 1).toNatClampNeg))), some (.inl (nI (((m_CT_findReach μ ch).1 2 0 1).toNatClampNeg)))], [.inl (sr_it (f_CT_circleWithin μ ch) 0 (((m_CT_findReach μ ch).1 2 0 1).toNatClampNeg))], (m_CT_findReach μ ch))) rfl ⟨trivial, trivial⟩ ?_
    exact sr_ret rfl rfl rfl trivial rfl
def f_CT_withAllNeeded (μ : sr_M) (set : Int32) (ch : Int32)  : Nat → Int32 → Int32 := fun k a => if (v_SR_holds set (nI k)) = 0 then a else (a ||| ((m_CT_findReach μ ch).1 9 0 (k)))
def v_CT_withAllNeeded (μ : sr_M) (set : Int32) (ch : Int32) : Int32 := (sr_it (f_CT_withAllNeeded μ set ch) set (((m_CT_findReach μ ch).1 2 0 1).toNatClampNeg))
def m_CT_withAllNeeded (μ : sr_M) (set : Int32) (ch : Int32) : sr_M := (m_CT_findReach μ ch)
def q_CT_withAllNeeded (μ : sr_M) (set : Int32) (ch : Int32) : Prop := sr_cnt (μ.1 2 0 1) 16
def p_CT_withAllNeeded : sr_F := fun vs μ => match vs with
  | [.inr (.inr (2, 0)), .inl set, .inl ch] => some (q_CT_withAllNeeded μ set ch, some (.inl (v_CT_withAllNeeded μ set ch)), m_CT_withAllNeeded μ set ch)
  | _ => none
def e_CT_withAllNeeded : sr_E := (sr_SC, sr_KS, (fun k => ([(27, 2, 5), (32, 2, 1)] : List (Nat × Nat × Nat)).lookup k, fun _ => none, fun _ => none, fun _ => none, fun k => ([(70, 0, 2, p_SR_holds), (73, 3, 1, p_CT_findReach)] : List (Nat × Nat × Nat × sr_F)).lookup k), sr_cd cd_CT_withAllNeeded, some .int)
set_option maxRecDepth 10000 in
theorem a_CT_withAllNeeded (μ : sr_M) (set : Int32) (ch : Int32) (hq : q_CT_withAllNeeded μ set ch) : sr_AW e_CT_withAllNeeded (fun r => r = (some (.inl (v_CT_withAllNeeded μ set ch)), m_CT_withAllNeeded μ set ch)) (sr_entry 5 [.inr (.inr (2, 0)), .inl set, .inl ch] μ) := by
  have q1 : sr_cnt (μ.1 2 0 1) 16 := hq
  have q9 : sr_cnt ((m_CT_findReach μ ch).1 2 0 1) 16 := by rw [(kp_CT_findReach μ ch).1 2 0 1 (by decide)]; exact q1
  refine sr_many 7 (t := (10, [some (.inr (.inr (2, 0))), some (.inl set), some (.inl ch), some (.inl set), some (.inl 0)], [], (m_CT_findReach μ ch))) rfl ⟨trivial, trivial, ⟨(show 0 < 1 by decide), (show sr_cnt (μ.1 2 0 1) 16 by assumption)⟩, trivial, trivial, trivial, trivial, trivial⟩ ?_
  refine sr_forT (α := Int32) (fun k a => (10, [some (.inr (.inr (2, 0))), some (.inl set), some (.inl ch), some (.inl a), some (.inl (nI k))], [], (m_CT_findReach μ ch))) (f_CT_withAllNeeded μ set ch) set (((m_CT_findReach μ ch).1 2 0 1).toNatClampNeg) (fun k hk a w => ?_) ?_
  · have hbk : k < 16 := sr_cnt_lt q9 hk
    have hck : (nI k).toNatClampNeg = k := sr_clN 16 hbk (by decide)
    have hink : sr_in (nI k) 16 := sr_inN 16 hbk (by decide)
    have hcbk : (nI k).toNatClampNeg < 16 := by rw [hck]; exact hbk
    refine sr_many 4 (t := (bif decide (((m_CT_findReach μ ch).1 2 0 1) ≤ (nI k)) then 44 else 19, [some (.inr (.inr (2, 0))), some (.inl set), some (.inl ch), some (.inl a), some (.inl (nI k))], [], (m_CT_findReach μ ch))) rfl ⟨trivial, trivial, (show 0 < 1 by decide), trivial, trivial⟩ ?_
    refine sr_brd (fun h => absurd h (by exact sr_cnt_nlt q9 (by decide) hk)) (fun _ => ?_)
    refine sr_many 4 (t := (bif decide ((v_SR_holds set (nI k)) = 0) then 38 else 28, [some (.inr (.inr (2, 0))), some (.inl set), some (.inl ch), some (.inl a), some (.inl (nI k))], [], (m_CT_findReach μ ch))) rfl ⟨trivial, trivial, trivial, trivial, trivial⟩ ?_
    refine sr_brd (fun h1 => ?_) (fun h1 => ?_)
    · refine sr_many 2 (t := (10, [some (.inr (.inr (2, 0))), some (.inl set), some (.inl ch), some (.inl a), some (.inl ((nI k) + 1))], [], (m_CT_findReach μ ch))) rfl ⟨trivial, trivial, trivial⟩ ?_
      try simp only [hck] at h1
      try simp only [hck]
      simp only [f_CT_withAllNeeded, if_pos h1, nI_succ] at w
      exact w
    · refine sr_many 9 (t := (10, [some (.inr (.inr (2, 0))), some (.inl set), some (.inl ch), some (.inl (a ||| ((m_CT_findReach μ ch).1 9 0 ((nI k).toNatClampNeg)))), some (.inl ((nI k) + 1))], [], (m_CT_findReach μ ch))) rfl ⟨trivial, trivial, (show 0 < 1 by decide), trivial, ⟨(show 0 < 1 by decide), (show sr_in (nI k) 16 by assumption)⟩, trivial, trivial, trivial, trivial, trivial⟩ ?_
      try simp only [hck] at h1
      try simp only [hck]
      simp only [f_CT_withAllNeeded, if_neg h1, nI_succ] at w
      exact w
  · skip
    refine sr_many 4 (t := (bif decide (((m_CT_findReach μ ch).1 2 0 1) ≤ (nI (((m_CT_findReach μ ch).1 2 0 1).toNatClampNeg))) then 44 else 19, [some (.inr (.inr (2, 0))), some (.inl set), some (.inl ch), some (.inl (sr_it (f_CT_withAllNeeded μ set ch) set (((m_CT_findReach μ ch).1 2 0 1).toNatClampNeg))), some (.inl (nI (((m_CT_findReach μ ch).1 2 0 1).toNatClampNeg)))], [], (m_CT_findReach μ ch))) rfl ⟨trivial, trivial, (show 0 < 1 by decide), trivial, trivial⟩ ?_
    refine sr_brd (fun _ => ?_) (fun h => absurd (by exact sr_cnt_le q9) h)
    refine sr_many 1 (t := (45, [some (.inr (.inr (2, 0))), some (.inl set), some (.inl ch), some (.inl (sr_it (f_CT_withAllNeeded μ set ch) set (((m_CT_findReach μ ch).1 2 0 1).toNatClampNeg))), some (.inl (nI (((m_CT_findReach μ ch).1 2 0 1).toNatClampNeg)))], [.inl (sr_it (f_CT_withAllNeeded μ set ch) set (((m_CT_findReach μ ch).1 2 0 1).toNatClampNeg))], (m_CT_findReach μ ch))) rfl ⟨trivial, trivial⟩ ?_
    exact sr_ret rfl rfl rfl trivial rfl
def v_SR_method (μ : sr_M) (cls : Int32) (nm : Int64) : Int32 := if ¬ (μ.1 1 0 5) = 0 then (-1) else (if (v_SR_isWithin cls 4) = 0 then (-1) else (if ¬ (v_TM_isName nm) = 0 then (v_CT_addMethod μ cls nm) else (-1)))
def m_SR_method (μ : sr_M) (cls : Int32) (nm : Int64) : sr_M := if ¬ (μ.1 1 0 5) = 0 then μ else (if (v_SR_isWithin cls 4) = 0 then μ else (if ¬ (v_TM_isName nm) = 0 then (m_CT_addMethod μ cls nm) else μ))
def q_SR_method (μ : sr_M) (cls : Int32) (nm : Int64) : Prop := sr_cnt (μ.1 2 0 1) 16
def p_SR_method : sr_F := fun vs μ => match vs with
  | [.inr (.inr (0, 0)), .inl cls, .inr (.inl nm)] => some (q_SR_method μ cls nm, some (.inl (v_SR_method μ cls nm)), m_SR_method μ cls nm)
  | _ => none
def e_SR_method : sr_E := (sr_SC, sr_KS, (fun k => ([(10, 0, 0), (20, 0, 1), (28, 1, 5)] : List (Nat × Nat × Nat)).lookup k, fun _ => none, fun _ => none, fun _ => none, fun k => ([(32, 0, 2, p_SR_isWithin), (36, 0, 1, p_TM_isName), (42, 3, 2, p_CT_addMethod)] : List (Nat × Nat × Nat × sr_F)).lookup k), sr_cd cd_SR_method, some .int)
set_option maxRecDepth 10000 in
theorem a_SR_method (μ : sr_M) (cls : Int32) (nm : Int64) (hq : q_SR_method μ cls nm) : sr_AW e_SR_method (fun r => r = (some (.inl (v_SR_method μ cls nm)), m_SR_method μ cls nm)) (sr_entry 4 [.inr (.inr (0, 0)), .inl cls, .inr (.inl nm)] μ) := by
  have q1 : sr_cnt (μ.1 2 0 1) 16 := hq
  refine sr_many 4 (t := (bif decide (¬ (μ.1 1 0 5) = 0) then 25 else 10, [some (.inr (.inr (0, 0))), some (.inl cls), some (.inr (.inl nm)), none], [], μ)) rfl ⟨trivial, (show 0 < 1 by decide), (show 0 < 1 by decide), trivial, trivial⟩ ?_
  refine sr_brd (fun h1 => ?_) (fun h1 => ?_)
  · refine sr_many 1 (t := (26, [some (.inr (.inr (0, 0))), some (.inl cls), some (.inr (.inl nm)), none], [.inl (-1)], μ)) rfl ⟨trivial, trivial⟩ ?_
    exact sr_ret rfl rfl rfl trivial (by simp only [v_SR_method, m_SR_method, if_pos h1])
  · refine sr_many 4 (t := (bif decide ((v_SR_isWithin cls 4) = 0) then 25 else 18, [some (.inr (.inr (0, 0))), some (.inl cls), some (.inr (.inl nm)), none], [], μ)) rfl ⟨trivial, trivial, trivial, trivial, trivial⟩ ?_
    refine sr_brd (fun h2 => ?_) (fun h2 => ?_)
    · refine sr_many 1 (t := (26, [some (.inr (.inr (0, 0))), some (.inl cls), some (.inr (.inl nm)), none], [.inl (-1)], μ)) rfl ⟨trivial, trivial⟩ ?_
      exact sr_ret rfl rfl rfl trivial (by simp only [v_SR_method, m_SR_method, if_neg h1, if_pos h2])
    · refine sr_many 3 (t := (bif decide (¬ (v_TM_isName nm) = 0) then 27 else 25, [some (.inr (.inr (0, 0))), some (.inl cls), some (.inr (.inl nm)), none], [], μ)) rfl ⟨trivial, trivial, trivial, trivial⟩ ?_
      refine sr_brd (fun h3 => ?_) (fun h3 => ?_)
      · refine sr_many 5 (t := (36, [some (.inr (.inr (0, 0))), some (.inl cls), some (.inr (.inl nm)), none], [.inl (v_CT_addMethod μ cls nm)], (m_CT_addMethod μ cls nm))) rfl ⟨trivial, (show 0 < 1 by decide), trivial, trivial, ⟨(show 0 < 1 by decide), (show sr_cnt (μ.1 2 0 1) 16 by assumption)⟩, trivial⟩ ?_
        exact sr_ret rfl rfl rfl trivial (by simp only [v_SR_method, m_SR_method, if_neg h1, if_neg h2, if_pos h3])
      · refine sr_many 1 (t := (26, [some (.inr (.inr (0, 0))), some (.inl cls), some (.inr (.inl nm)), none], [.inl (-1)], μ)) rfl ⟨trivial, trivial⟩ ?_
        exact sr_ret rfl rfl rfl trivial (by simp only [v_SR_method, m_SR_method, if_neg h1, if_neg h2, if_neg h3])
def v_SR_trait (μ : sr_M) (m : Int32) (w : Int32) (v : Int32) : Int32 := if ¬ (μ.1 1 0 5) = 0 then 0 else (if (v_CT_hasMethod μ m) = 0 then 0 else (if ¬ (v_TM_allows w v) = 0 then 1 else 0))
def m_SR_trait (μ : sr_M) (m : Int32) (w : Int32) (v : Int32) : sr_M := if ¬ (μ.1 1 0 5) = 0 then μ else (if (v_CT_hasMethod μ m) = 0 then μ else (if ¬ (v_TM_allows w v) = 0 then (sr_seti μ 4 m.toNatClampNeg w.toNatClampNeg v) else μ))
def q_SR_trait (μ : sr_M) (m : Int32) (w : Int32) (v : Int32) : Prop := sr_cnt (μ.1 2 0 1) 16
def p_SR_trait : sr_F := fun vs μ => match vs with
  | [.inr (.inr (0, 0)), .inl m, .inl w, .inl v] => some (q_SR_trait μ m w v, some (.inl (v_SR_trait μ m w v)), m_SR_trait μ m w v)
  | _ => none
def e_SR_trait : sr_E := (sr_SC, sr_KS, (fun k => ([(10, 0, 0), (20, 0, 1), (28, 1, 5), (55, 2, 0), (59, 3, 2)] : List (Nat × Nat × Nat)).lookup k, fun _ => none, fun _ => none, fun _ => none, fun k => ([(48, 3, 1, p_CT_hasMethod), (52, 0, 2, p_TM_allows)] : List (Nat × Nat × Nat × sr_F)).lookup k), sr_cd cd_SR_trait, some .boolean)
theorem b_SR_trait (μ : sr_M) (m : Int32) (w : Int32) (v : Int32) : v_SR_trait μ m w v = 0 ∨ v_SR_trait μ m w v = 1 := by
  unfold v_SR_trait
  repeat' split
  all_goals first | exact Or.inl rfl | exact Or.inr rfl | exact Or.inl rfl
set_option maxRecDepth 10000 in
theorem a_SR_trait (μ : sr_M) (m : Int32) (w : Int32) (v : Int32) (hq : q_SR_trait μ m w v) : sr_AW e_SR_trait (fun r => r = (some (.inl (v_SR_trait μ m w v)), m_SR_trait μ m w v)) (sr_entry 4 [.inr (.inr (0, 0)), .inl m, .inl w, .inl v] μ) := by
  have q1 : sr_cnt (μ.1 2 0 1) 16 := hq
  refine sr_many 4 (t := (bif decide (¬ (μ.1 1 0 5) = 0) then 29 else 10, [some (.inr (.inr (0, 0))), some (.inl m), some (.inl w), some (.inl v)], [], μ)) rfl ⟨trivial, (show 0 < 1 by decide), (show 0 < 1 by decide), trivial, trivial⟩ ?_
  refine sr_brd (fun h1 => ?_) (fun h1 => ?_)
  · refine sr_many 1 (t := (30, [some (.inr (.inr (0, 0))), some (.inl m), some (.inl w), some (.inl v)], [.inl 0], μ)) rfl ⟨trivial, trivial⟩ ?_
    exact sr_ret rfl rfl rfl (Or.inl rfl) (by simp only [v_SR_trait, m_SR_trait, if_pos h1])
  · refine sr_many 5 (t := (bif decide ((v_CT_hasMethod μ m) = 0) then 29 else 21, [some (.inr (.inr (0, 0))), some (.inl m), some (.inl w), some (.inl v)], [], μ)) rfl ⟨trivial, (show 0 < 1 by decide), trivial, ⟨(show 0 < 1 by decide), trivial⟩, trivial, trivial⟩ ?_
    refine sr_brd (fun h2 => ?_) (fun h2 => ?_)
    · refine sr_many 1 (t := (30, [some (.inr (.inr (0, 0))), some (.inl m), some (.inl w), some (.inl v)], [.inl 0], μ)) rfl ⟨trivial, trivial⟩ ?_
      exact sr_ret rfl rfl rfl (Or.inl rfl) (by simp only [v_SR_trait, m_SR_trait, if_neg h1, if_pos h2])
    · refine sr_many 4 (t := (bif decide (¬ (v_TM_allows w v) = 0) then 31 else 29, [some (.inr (.inr (0, 0))), some (.inl m), some (.inl w), some (.inl v)], [], μ)) rfl ⟨trivial, trivial, trivial, trivial, trivial⟩ ?_
      refine sr_brd (fun h3 => ?_) (fun h3 => ?_)
      · refine sr_many 10 (t := (47, [some (.inr (.inr (0, 0))), some (.inl m), some (.inl w), some (.inl v)], [.inl 1], (sr_seti μ 4 m.toNatClampNeg w.toNatClampNeg v))) rfl ⟨trivial, (show 0 < 1 by decide), (show 0 < 1 by decide), trivial, ⟨(show 0 < 1 by decide), (show sr_in m 16 by first | assumption | exact sr_hasm q1 h2 | exact sr_in_lt (sr_hasm q1 h2) | exact sr_hasm q1 h3 | exact sr_in_lt (sr_hasm q1 h3) | exact sr_allows h3)⟩, (show m.toNatClampNeg < 16 by first | assumption | exact sr_hasm q1 h2 | exact sr_in_lt (sr_hasm q1 h2) | exact sr_hasm q1 h3 | exact sr_in_lt (sr_hasm q1 h3) | exact sr_allows h3), trivial, trivial, ⟨(show m.toNatClampNeg < 16 by first | assumption | exact sr_hasm q1 h2 | exact sr_in_lt (sr_hasm q1 h2) | exact sr_hasm q1 h3 | exact sr_in_lt (sr_hasm q1 h3) | exact sr_allows h3), (show sr_in w 9 by first | assumption | exact sr_hasm q1 h2 | exact sr_in_lt (sr_hasm q1 h2) | exact sr_hasm q1 h3 | exact sr_in_lt (sr_hasm q1 h3) | exact sr_allows h3)⟩, trivial, trivial⟩ ?_
        exact sr_ret rfl rfl rfl (Or.inr rfl) (by simp only [v_SR_trait, m_SR_trait, if_neg h1, if_neg h2, if_pos h3])
      · refine sr_many 1 (t := (30, [some (.inr (.inr (0, 0))), some (.inl m), some (.inl w), some (.inl v)], [.inl 0], μ)) rfl ⟨trivial, trivial⟩ ?_
        exact sr_ret rfl rfl rfl (Or.inl rfl) (by simp only [v_SR_trait, m_SR_trait, if_neg h1, if_neg h2, if_neg h3])
def v_SR_needs (μ : sr_M) (m : Int32) (n : Int32) : Int32 := if ¬ (μ.1 1 0 5) = 0 then 0 else (if (v_CT_hasMethod μ m) = 0 then 0 else (if ¬ (v_CT_hasMethod μ n) = 0 then (if (v_SR_holds (μ.1 3 m.toNatClampNeg 3) n) = 0 then 1 else 0) else 0))
def m_SR_needs (μ : sr_M) (m : Int32) (n : Int32) : sr_M := if ¬ (μ.1 1 0 5) = 0 then μ else (if (v_CT_hasMethod μ m) = 0 then μ else (if ¬ (v_CT_hasMethod μ n) = 0 then (if (v_SR_holds (μ.1 3 m.toNatClampNeg 3) n) = 0 then (sr_seti μ 3 m.toNatClampNeg 3 ((μ.1 3 m.toNatClampNeg 3) ||| ((1 : Int32) <<< (n &&& 31)))) else μ) else μ))
def q_SR_needs (μ : sr_M) (m : Int32) (n : Int32) : Prop := sr_cnt (μ.1 2 0 1) 16
def p_SR_needs : sr_F := fun vs μ => match vs with
  | [.inr (.inr (0, 0)), .inl m, .inl n] => some (q_SR_needs μ m n, some (.inl (v_SR_needs μ m n)), m_SR_needs μ m n)
  | _ => none
def e_SR_needs : sr_E := (sr_SC, sr_KS, (fun k => ([(10, 0, 0), (20, 0, 1), (28, 1, 5), (55, 2, 0), (63, 3, 3)] : List (Nat × Nat × Nat)).lookup k, fun _ => none, fun _ => none, fun _ => none, fun k => ([(48, 3, 1, p_CT_hasMethod), (67, 0, 2, p_SR_holds)] : List (Nat × Nat × Nat × sr_F)).lookup k), sr_cd cd_SR_needs, some .boolean)
theorem b_SR_needs (μ : sr_M) (m : Int32) (n : Int32) : v_SR_needs μ m n = 0 ∨ v_SR_needs μ m n = 1 := by
  unfold v_SR_needs
  repeat' split
  all_goals first | exact Or.inl rfl | exact Or.inr rfl | exact Or.inl rfl
set_option maxRecDepth 10000 in
theorem a_SR_needs (μ : sr_M) (m : Int32) (n : Int32) (hq : q_SR_needs μ m n) : sr_AW e_SR_needs (fun r => r = (some (.inl (v_SR_needs μ m n)), m_SR_needs μ m n)) (sr_entry 4 [.inr (.inr (0, 0)), .inl m, .inl n] μ) := by
  have q1 : sr_cnt (μ.1 2 0 1) 16 := hq
  refine sr_many 4 (t := (bif decide (¬ (μ.1 1 0 5) = 0) then 32 else 10, [some (.inr (.inr (0, 0))), some (.inl m), some (.inl n), none], [], μ)) rfl ⟨trivial, (show 0 < 1 by decide), (show 0 < 1 by decide), trivial, trivial⟩ ?_
  refine sr_brd (fun h1 => ?_) (fun h1 => ?_)
  · refine sr_many 1 (t := (33, [some (.inr (.inr (0, 0))), some (.inl m), some (.inl n), none], [.inl 0], μ)) rfl ⟨trivial, trivial⟩ ?_
    exact sr_ret rfl rfl rfl (Or.inl rfl) (by simp only [v_SR_needs, m_SR_needs, if_pos h1])
  · refine sr_many 5 (t := (bif decide ((v_CT_hasMethod μ m) = 0) then 32 else 21, [some (.inr (.inr (0, 0))), some (.inl m), some (.inl n), none], [], μ)) rfl ⟨trivial, (show 0 < 1 by decide), trivial, ⟨(show 0 < 1 by decide), trivial⟩, trivial, trivial⟩ ?_
    refine sr_brd (fun h2 => ?_) (fun h2 => ?_)
    · refine sr_many 1 (t := (33, [some (.inr (.inr (0, 0))), some (.inl m), some (.inl n), none], [.inl 0], μ)) rfl ⟨trivial, trivial⟩ ?_
      exact sr_ret rfl rfl rfl (Or.inl rfl) (by simp only [v_SR_needs, m_SR_needs, if_neg h1, if_pos h2])
    · refine sr_many 5 (t := (bif decide (¬ (v_CT_hasMethod μ n) = 0) then 34 else 32, [some (.inr (.inr (0, 0))), some (.inl m), some (.inl n), none], [], μ)) rfl ⟨trivial, (show 0 < 1 by decide), trivial, ⟨(show 0 < 1 by decide), trivial⟩, trivial, trivial⟩ ?_
      refine sr_brd (fun h3 => ?_) (fun h3 => ?_)
      · refine sr_many 11 (t := (bif decide ((v_SR_holds (μ.1 3 m.toNatClampNeg 3) n) = 0) then 57 else 55, [some (.inr (.inr (0, 0))), some (.inl m), some (.inl n), some (.inr (.inr (3, m.toNatClampNeg)))], [], μ)) rfl ⟨trivial, (show 0 < 1 by decide), (show 0 < 1 by decide), trivial, ⟨(show 0 < 1 by decide), (show sr_in m 16 by first | assumption | exact sr_hasm q1 h2 | exact sr_in_lt (sr_hasm q1 h2) | exact sr_hasm q1 h3 | exact sr_in_lt (sr_hasm q1 h3) | exact sr_allows h3)⟩, trivial, trivial, (show m.toNatClampNeg < 16 by first | assumption | exact sr_hasm q1 h2 | exact sr_in_lt (sr_hasm q1 h2) | exact sr_hasm q1 h3 | exact sr_in_lt (sr_hasm q1 h3) | exact sr_allows h3), trivial, trivial, trivial, trivial⟩ ?_
        refine sr_brd (fun h4 => ?_) (fun h4 => ?_)
        · refine sr_many 9 (t := (70, [some (.inr (.inr (0, 0))), some (.inl m), some (.inl n), some (.inr (.inr (3, m.toNatClampNeg)))], [.inl 1], (sr_seti μ 3 m.toNatClampNeg 3 ((μ.1 3 m.toNatClampNeg 3) ||| ((1 : Int32) <<< (n &&& 31)))))) rfl ⟨trivial, trivial, (show m.toNatClampNeg < 16 by first | assumption | exact sr_hasm q1 h2 | exact sr_in_lt (sr_hasm q1 h2) | exact sr_hasm q1 h3 | exact sr_in_lt (sr_hasm q1 h3) | exact sr_allows h3), trivial, trivial, trivial, trivial, (show m.toNatClampNeg < 16 by first | assumption | exact sr_hasm q1 h2 | exact sr_in_lt (sr_hasm q1 h2) | exact sr_hasm q1 h3 | exact sr_in_lt (sr_hasm q1 h3) | exact sr_allows h3), trivial, trivial⟩ ?_
          exact sr_ret rfl rfl rfl (Or.inr rfl) (by simp only [v_SR_needs, m_SR_needs, if_neg h1, if_neg h2, if_pos h3, if_pos h4])
        · refine sr_many 1 (t := (56, [some (.inr (.inr (0, 0))), some (.inl m), some (.inl n), some (.inr (.inr (3, m.toNatClampNeg)))], [.inl 0], μ)) rfl ⟨trivial, trivial⟩ ?_
          exact sr_ret rfl rfl rfl (Or.inl rfl) (by simp only [v_SR_needs, m_SR_needs, if_neg h1, if_neg h2, if_pos h3, if_neg h4])
      · refine sr_many 1 (t := (33, [some (.inr (.inr (0, 0))), some (.inl m), some (.inl n), none], [.inl 0], μ)) rfl ⟨trivial, trivial⟩ ?_
        exact sr_ret rfl rfl rfl (Or.inl rfl) (by simp only [v_SR_needs, m_SR_needs, if_neg h1, if_neg h2, if_neg h3])
def v_SR_needsGroup (μ : sr_M) (m : Int32) (g : Int32) : Int32 := if ¬ (μ.1 1 0 5) = 0 then 0 else (if (v_CT_hasMethod μ m) = 0 then 0 else (if ¬ (v_SR_isWithin g 6) = 0 then (if (v_SR_holds (μ.1 3 m.toNatClampNeg 4) g) = 0 then 1 else 0) else 0))
def m_SR_needsGroup (μ : sr_M) (m : Int32) (g : Int32) : sr_M := if ¬ (μ.1 1 0 5) = 0 then μ else (if (v_CT_hasMethod μ m) = 0 then μ else (if ¬ (v_SR_isWithin g 6) = 0 then (if (v_SR_holds (μ.1 3 m.toNatClampNeg 4) g) = 0 then (sr_seti μ 3 m.toNatClampNeg 4 ((μ.1 3 m.toNatClampNeg 4) ||| ((1 : Int32) <<< (g &&& 31)))) else μ) else μ))
def q_SR_needsGroup (μ : sr_M) (m : Int32) (g : Int32) : Prop := sr_cnt (μ.1 2 0 1) 16
def p_SR_needsGroup : sr_F := fun vs μ => match vs with
  | [.inr (.inr (0, 0)), .inl m, .inl g] => some (q_SR_needsGroup μ m g, some (.inl (v_SR_needsGroup μ m g)), m_SR_needsGroup μ m g)
  | _ => none
def e_SR_needsGroup : sr_E := (sr_SC, sr_KS, (fun k => ([(10, 0, 0), (20, 0, 1), (28, 1, 5), (55, 2, 0), (70, 3, 4)] : List (Nat × Nat × Nat)).lookup k, fun _ => none, fun _ => none, fun _ => none, fun k => ([(32, 0, 2, p_SR_isWithin), (48, 3, 1, p_CT_hasMethod), (67, 0, 2, p_SR_holds)] : List (Nat × Nat × Nat × sr_F)).lookup k), sr_cd cd_SR_needsGroup, some .boolean)
theorem b_SR_needsGroup (μ : sr_M) (m : Int32) (g : Int32) : v_SR_needsGroup μ m g = 0 ∨ v_SR_needsGroup μ m g = 1 := by
  unfold v_SR_needsGroup
  repeat' split
  all_goals first | exact Or.inl rfl | exact Or.inr rfl | exact Or.inl rfl
set_option maxRecDepth 10000 in
theorem a_SR_needsGroup (μ : sr_M) (m : Int32) (g : Int32) (hq : q_SR_needsGroup μ m g) : sr_AW e_SR_needsGroup (fun r => r = (some (.inl (v_SR_needsGroup μ m g)), m_SR_needsGroup μ m g)) (sr_entry 4 [.inr (.inr (0, 0)), .inl m, .inl g] μ) := by
  have q1 : sr_cnt (μ.1 2 0 1) 16 := hq
  refine sr_many 4 (t := (bif decide (¬ (μ.1 1 0 5) = 0) then 30 else 10, [some (.inr (.inr (0, 0))), some (.inl m), some (.inl g), none], [], μ)) rfl ⟨trivial, (show 0 < 1 by decide), (show 0 < 1 by decide), trivial, trivial⟩ ?_
  refine sr_brd (fun h1 => ?_) (fun h1 => ?_)
  · refine sr_many 1 (t := (31, [some (.inr (.inr (0, 0))), some (.inl m), some (.inl g), none], [.inl 0], μ)) rfl ⟨trivial, trivial⟩ ?_
    exact sr_ret rfl rfl rfl (Or.inl rfl) (by simp only [v_SR_needsGroup, m_SR_needsGroup, if_pos h1])
  · refine sr_many 5 (t := (bif decide ((v_CT_hasMethod μ m) = 0) then 30 else 21, [some (.inr (.inr (0, 0))), some (.inl m), some (.inl g), none], [], μ)) rfl ⟨trivial, (show 0 < 1 by decide), trivial, ⟨(show 0 < 1 by decide), trivial⟩, trivial, trivial⟩ ?_
    refine sr_brd (fun h2 => ?_) (fun h2 => ?_)
    · refine sr_many 1 (t := (31, [some (.inr (.inr (0, 0))), some (.inl m), some (.inl g), none], [.inl 0], μ)) rfl ⟨trivial, trivial⟩ ?_
      exact sr_ret rfl rfl rfl (Or.inl rfl) (by simp only [v_SR_needsGroup, m_SR_needsGroup, if_neg h1, if_pos h2])
    · refine sr_many 4 (t := (bif decide (¬ (v_SR_isWithin g 6) = 0) then 32 else 30, [some (.inr (.inr (0, 0))), some (.inl m), some (.inl g), none], [], μ)) rfl ⟨trivial, trivial, trivial, trivial, trivial⟩ ?_
      refine sr_brd (fun h3 => ?_) (fun h3 => ?_)
      · refine sr_many 11 (t := (bif decide ((v_SR_holds (μ.1 3 m.toNatClampNeg 4) g) = 0) then 55 else 53, [some (.inr (.inr (0, 0))), some (.inl m), some (.inl g), some (.inr (.inr (3, m.toNatClampNeg)))], [], μ)) rfl ⟨trivial, (show 0 < 1 by decide), (show 0 < 1 by decide), trivial, ⟨(show 0 < 1 by decide), (show sr_in m 16 by first | assumption | exact sr_hasm q1 h2 | exact sr_in_lt (sr_hasm q1 h2) | exact sr_hasm q1 h3 | exact sr_in_lt (sr_hasm q1 h3) | exact sr_allows h3)⟩, trivial, trivial, (show m.toNatClampNeg < 16 by first | assumption | exact sr_hasm q1 h2 | exact sr_in_lt (sr_hasm q1 h2) | exact sr_hasm q1 h3 | exact sr_in_lt (sr_hasm q1 h3) | exact sr_allows h3), trivial, trivial, trivial, trivial⟩ ?_
        refine sr_brd (fun h4 => ?_) (fun h4 => ?_)
        · refine sr_many 9 (t := (68, [some (.inr (.inr (0, 0))), some (.inl m), some (.inl g), some (.inr (.inr (3, m.toNatClampNeg)))], [.inl 1], (sr_seti μ 3 m.toNatClampNeg 4 ((μ.1 3 m.toNatClampNeg 4) ||| ((1 : Int32) <<< (g &&& 31)))))) rfl ⟨trivial, trivial, (show m.toNatClampNeg < 16 by first | assumption | exact sr_hasm q1 h2 | exact sr_in_lt (sr_hasm q1 h2) | exact sr_hasm q1 h3 | exact sr_in_lt (sr_hasm q1 h3) | exact sr_allows h3), trivial, trivial, trivial, trivial, (show m.toNatClampNeg < 16 by first | assumption | exact sr_hasm q1 h2 | exact sr_in_lt (sr_hasm q1 h2) | exact sr_hasm q1 h3 | exact sr_in_lt (sr_hasm q1 h3) | exact sr_allows h3), trivial, trivial⟩ ?_
          exact sr_ret rfl rfl rfl (Or.inr rfl) (by simp only [v_SR_needsGroup, m_SR_needsGroup, if_neg h1, if_neg h2, if_pos h3, if_pos h4])
        · refine sr_many 1 (t := (54, [some (.inr (.inr (0, 0))), some (.inl m), some (.inl g), some (.inr (.inr (3, m.toNatClampNeg)))], [.inl 0], μ)) rfl ⟨trivial, trivial⟩ ?_
          exact sr_ret rfl rfl rfl (Or.inl rfl) (by simp only [v_SR_needsGroup, m_SR_needsGroup, if_neg h1, if_neg h2, if_pos h3, if_neg h4])
      · refine sr_many 1 (t := (31, [some (.inr (.inr (0, 0))), some (.inl m), some (.inl g), none], [.inl 0], μ)) rfl ⟨trivial, trivial⟩ ?_
        exact sr_ret rfl rfl rfl (Or.inl rfl) (by simp only [v_SR_needsGroup, m_SR_needsGroup, if_neg h1, if_neg h2, if_neg h3])
def v_SR_provider (μ : sr_M) (p : Int32) (rw : Int32) : Int32 := if ¬ (μ.1 1 0 5) = 0 then 0 else (if (v_SR_isWithin p 4) = 0 then 0 else (if rw < (-1) then 0 else (if rw ≤ 4 then 1 else 0)))
def m_SR_provider (μ : sr_M) (p : Int32) (rw : Int32) : sr_M := if ¬ (μ.1 1 0 5) = 0 then μ else (if (v_SR_isWithin p 4) = 0 then μ else (if rw < (-1) then μ else (if rw ≤ 4 then (sr_seti μ 8 0 p.toNatClampNeg rw) else μ)))
def p_SR_provider : sr_F := fun vs μ => match vs with
  | [.inr (.inr (0, 0)), .inl p, .inl rw] => some (True, some (.inl (v_SR_provider μ p rw)), m_SR_provider μ p rw)
  | _ => none
def e_SR_provider : sr_E := (sr_SC, sr_KS, (fun k => ([(10, 0, 0), (20, 0, 1), (28, 1, 5), (73, 2, 4)] : List (Nat × Nat × Nat)).lookup k, fun _ => none, fun _ => none, fun _ => none, fun k => ([(32, 0, 2, p_SR_isWithin)] : List (Nat × Nat × Nat × sr_F)).lookup k), sr_cd cd_SR_provider, some .boolean)
theorem b_SR_provider (μ : sr_M) (p : Int32) (rw : Int32) : v_SR_provider μ p rw = 0 ∨ v_SR_provider μ p rw = 1 := by
  unfold v_SR_provider
  repeat' split
  all_goals first | exact Or.inl rfl | exact Or.inr rfl | exact Or.inl rfl
set_option maxRecDepth 10000 in
theorem a_SR_provider (μ : sr_M) (p : Int32) (rw : Int32) : sr_AW e_SR_provider (fun r => r = (some (.inl (v_SR_provider μ p rw)), m_SR_provider μ p rw)) (sr_entry 3 [.inr (.inr (0, 0)), .inl p, .inl rw] μ) := by
  refine sr_many 4 (t := (bif decide (¬ (μ.1 1 0 5) = 0) then 28 else 10, [some (.inr (.inr (0, 0))), some (.inl p), some (.inl rw)], [], μ)) rfl ⟨trivial, (show 0 < 1 by decide), (show 0 < 1 by decide), trivial, trivial⟩ ?_
  refine sr_brd (fun h1 => ?_) (fun h1 => ?_)
  · refine sr_many 1 (t := (29, [some (.inr (.inr (0, 0))), some (.inl p), some (.inl rw)], [.inl 0], μ)) rfl ⟨trivial, trivial⟩ ?_
    exact sr_ret rfl rfl rfl (Or.inl rfl) (by simp only [v_SR_provider, m_SR_provider, if_pos h1])
  · refine sr_many 4 (t := (bif decide ((v_SR_isWithin p 4) = 0) then 28 else 18, [some (.inr (.inr (0, 0))), some (.inl p), some (.inl rw)], [], μ)) rfl ⟨trivial, trivial, trivial, trivial, trivial⟩ ?_
    refine sr_brd (fun h2 => ?_) (fun h2 => ?_)
    · refine sr_many 1 (t := (29, [some (.inr (.inr (0, 0))), some (.inl p), some (.inl rw)], [.inl 0], μ)) rfl ⟨trivial, trivial⟩ ?_
      exact sr_ret rfl rfl rfl (Or.inl rfl) (by simp only [v_SR_provider, m_SR_provider, if_neg h1, if_pos h2])
    · refine sr_many 3 (t := (bif decide (rw < (-1)) then 28 else 23, [some (.inr (.inr (0, 0))), some (.inl p), some (.inl rw)], [], μ)) rfl ⟨trivial, trivial, trivial, trivial⟩ ?_
      refine sr_brd (fun h3 => ?_) (fun h3 => ?_)
      · refine sr_many 1 (t := (29, [some (.inr (.inr (0, 0))), some (.inl p), some (.inl rw)], [.inl 0], μ)) rfl ⟨trivial, trivial⟩ ?_
        exact sr_ret rfl rfl rfl (Or.inl rfl) (by simp only [v_SR_provider, m_SR_provider, if_neg h1, if_neg h2, if_pos h3])
      · refine sr_many 3 (t := (bif decide (rw ≤ 4) then 30 else 28, [some (.inr (.inr (0, 0))), some (.inl p), some (.inl rw)], [], μ)) rfl ⟨trivial, trivial, trivial, trivial⟩ ?_
        refine sr_brd (fun h4 => ?_) (fun h4 => ?_)
        · refine sr_many 7 (t := (41, [some (.inr (.inr (0, 0))), some (.inl p), some (.inl rw)], [.inl 1], (sr_seti μ 8 0 p.toNatClampNeg rw))) rfl ⟨trivial, (show 0 < 1 by decide), (show 0 < 1 by decide), trivial, trivial, ⟨(show 0 < 1 by decide), (show sr_in p 4 by exact sr_within 4 (by decide) h2)⟩, trivial, trivial⟩ ?_
          exact sr_ret rfl rfl rfl (Or.inr rfl) (by simp only [v_SR_provider, m_SR_provider, if_neg h1, if_neg h2, if_neg h3, if_pos h4])
        · refine sr_many 1 (t := (29, [some (.inr (.inr (0, 0))), some (.inl p), some (.inl rw)], [.inl 0], μ)) rfl ⟨trivial, trivial⟩ ?_
          exact sr_ret rfl rfl rfl (Or.inl rfl) (by simp only [v_SR_provider, m_SR_provider, if_neg h1, if_neg h2, if_neg h3, if_neg h4])
def v_SR_configuration (μ : sr_M) (lev : Int32) (bef : Int32) (cls : Int32) (beh : Int32) : Int32 := if ¬ (μ.1 1 0 5) = 0 then (-1) else (if lev < 0 then (-1) else (if 2 < lev then (-1) else (if ¬ (v_SR_isWithin cls 4) = 0 then (v_CT_addConfiguration μ lev bef cls beh) else (-1))))
def m_SR_configuration (μ : sr_M) (lev : Int32) (bef : Int32) (cls : Int32) (beh : Int32) : sr_M := if ¬ (μ.1 1 0 5) = 0 then μ else (if lev < 0 then μ else (if 2 < lev then μ else (if ¬ (v_SR_isWithin cls 4) = 0 then (m_CT_addConfiguration μ lev bef cls beh) else μ)))
def q_SR_configuration (μ : sr_M) (lev : Int32) (bef : Int32) (cls : Int32) (beh : Int32) : Prop := sr_cnt (μ.1 2 0 3) 8 ∧ (bef = 0 ∨ bef = 1)
def p_SR_configuration : sr_F := fun vs μ => match vs with
  | [.inr (.inr (0, 0)), .inl lev, .inl bef, .inl cls, .inl beh] => some (q_SR_configuration μ lev bef cls beh, some (.inl (v_SR_configuration μ lev bef cls beh)), m_SR_configuration μ lev bef cls beh)
  | _ => none
def e_SR_configuration : sr_E := (sr_SC, sr_KS, (fun k => ([(10, 0, 0), (20, 0, 1), (28, 1, 5)] : List (Nat × Nat × Nat)).lookup k, fun _ => none, fun _ => none, fun _ => none, fun k => ([(32, 0, 2, p_SR_isWithin), (76, 3, 4, p_CT_addConfiguration)] : List (Nat × Nat × Nat × sr_F)).lookup k), sr_cd cd_SR_configuration, some .int)
set_option maxRecDepth 10000 in
theorem a_SR_configuration (μ : sr_M) (lev : Int32) (bef : Int32) (cls : Int32) (beh : Int32) (hq : q_SR_configuration μ lev bef cls beh) : sr_AW e_SR_configuration (fun r => r = (some (.inl (v_SR_configuration μ lev bef cls beh)), m_SR_configuration μ lev bef cls beh)) (sr_entry 5 [.inr (.inr (0, 0)), .inl lev, .inl bef, .inl cls, .inl beh] μ) := by
  have hq0 := hq
  obtain ⟨q1, q2⟩ : sr_cnt (μ.1 2 0 3) 8 ∧ (bef = 0 ∨ bef = 1) := hq
  refine sr_many 4 (t := (bif decide (¬ (μ.1 1 0 5) = 0) then 27 else 10, [some (.inr (.inr (0, 0))), some (.inl lev), some (.inl bef), some (.inl cls), some (.inl beh)], [], μ)) rfl ⟨trivial, (show 0 < 1 by decide), (show 0 < 1 by decide), trivial, trivial⟩ ?_
  refine sr_brd (fun h1 => ?_) (fun h1 => ?_)
  · refine sr_many 1 (t := (28, [some (.inr (.inr (0, 0))), some (.inl lev), some (.inl bef), some (.inl cls), some (.inl beh)], [.inl (-1)], μ)) rfl ⟨trivial, trivial⟩ ?_
    exact sr_ret rfl rfl rfl trivial (by simp only [v_SR_configuration, m_SR_configuration, if_pos h1])
  · refine sr_many 2 (t := (bif decide (lev < 0) then 27 else 14, [some (.inr (.inr (0, 0))), some (.inl lev), some (.inl bef), some (.inl cls), some (.inl beh)], [], μ)) rfl ⟨trivial, trivial, trivial⟩ ?_
    refine sr_brd (fun h2 => ?_) (fun h2 => ?_)
    · refine sr_many 1 (t := (28, [some (.inr (.inr (0, 0))), some (.inl lev), some (.inl bef), some (.inl cls), some (.inl beh)], [.inl (-1)], μ)) rfl ⟨trivial, trivial⟩ ?_
      exact sr_ret rfl rfl rfl trivial (by simp only [v_SR_configuration, m_SR_configuration, if_neg h1, if_pos h2])
    · refine sr_many 3 (t := (bif decide (2 < lev) then 27 else 19, [some (.inr (.inr (0, 0))), some (.inl lev), some (.inl bef), some (.inl cls), some (.inl beh)], [], μ)) rfl ⟨trivial, trivial, trivial, trivial⟩ ?_
      refine sr_brd (fun h3 => ?_) (fun h3 => ?_)
      · refine sr_many 1 (t := (28, [some (.inr (.inr (0, 0))), some (.inl lev), some (.inl bef), some (.inl cls), some (.inl beh)], [.inl (-1)], μ)) rfl ⟨trivial, trivial⟩ ?_
        exact sr_ret rfl rfl rfl trivial (by simp only [v_SR_configuration, m_SR_configuration, if_neg h1, if_neg h2, if_pos h3])
      · refine sr_many 4 (t := (bif decide (¬ (v_SR_isWithin cls 4) = 0) then 29 else 27, [some (.inr (.inr (0, 0))), some (.inl lev), some (.inl bef), some (.inl cls), some (.inl beh)], [], μ)) rfl ⟨trivial, trivial, trivial, trivial, trivial⟩ ?_
        refine sr_brd (fun h4 => ?_) (fun h4 => ?_)
        · refine sr_many 7 (t := (41, [some (.inr (.inr (0, 0))), some (.inl lev), some (.inl bef), some (.inl cls), some (.inl beh)], [.inl (v_CT_addConfiguration μ lev bef cls beh)], (m_CT_addConfiguration μ lev bef cls beh))) rfl ⟨trivial, (show 0 < 1 by decide), trivial, trivial, trivial, trivial, ⟨(show 0 < 1 by decide), ⟨(show sr_cnt (μ.1 2 0 3) 8 by assumption), (show bef = 0 ∨ bef = 1 by assumption)⟩⟩, trivial⟩ ?_
          exact sr_ret rfl rfl rfl trivial (by simp only [v_SR_configuration, m_SR_configuration, if_neg h1, if_neg h2, if_neg h3, if_pos h4])
        · refine sr_many 1 (t := (28, [some (.inr (.inr (0, 0))), some (.inl lev), some (.inl bef), some (.inl cls), some (.inl beh)], [.inl (-1)], μ)) rfl ⟨trivial, trivial⟩ ?_
          exact sr_ret rfl rfl rfl trivial (by simp only [v_SR_configuration, m_SR_configuration, if_neg h1, if_neg h2, if_neg h3, if_neg h4])
def v_SR_type (μ : sr_M) (inc : Int32) (c : Int32) : Int32 := if (μ.1 1 0 5) = 0 then (if inc = 0 then (v_PT_append μ 1 c) else (v_PT_append μ 0 c)) else 0
def m_SR_type (μ : sr_M) (inc : Int32) (c : Int32) : sr_M := if (μ.1 1 0 5) = 0 then (if inc = 0 then (m_PT_append μ 1 c) else (m_PT_append μ 0 c)) else μ
def q_SR_type (μ : sr_M) (inc : Int32) (c : Int32) : Prop := sr_cnt (μ.1 18 0 1) 12 ∧ sr_cnt (μ.1 18 1 1) 12
def p_SR_type : sr_F := fun vs μ => match vs with
  | [.inr (.inr (0, 0)), .inl inc, .inl c] => some (q_SR_type μ inc c, some (.inl (v_SR_type μ inc c)), m_SR_type μ inc c)
  | _ => none
def e_SR_type : sr_E := (sr_SC, sr_KS, (fun k => ([(10, 0, 0), (24, 0, 2), (28, 1, 5), (80, 8, 0), (90, 8, 1)] : List (Nat × Nat × Nat)).lookup k, fun _ => none, fun _ => none, fun _ => none, fun k => ([(84, 10, 1, p_PT_append)] : List (Nat × Nat × Nat × sr_F)).lookup k), sr_cd cd_SR_type, some .boolean)
theorem b_SR_type (μ : sr_M) (inc : Int32) (c : Int32) : v_SR_type μ inc c = 0 ∨ v_SR_type μ inc c = 1 := by
  unfold v_SR_type
  repeat' split
  all_goals first | exact Or.inl rfl | exact Or.inr rfl | exact (b_PT_append _ _ _) | exact (b_PT_append _ _ _)
set_option maxRecDepth 10000 in
theorem a_SR_type (μ : sr_M) (inc : Int32) (c : Int32) (hq : q_SR_type μ inc c) : sr_AW e_SR_type (fun r => r = (some (.inl (v_SR_type μ inc c)), m_SR_type μ inc c)) (sr_entry 3 [.inr (.inr (0, 0)), .inl inc, .inl c] μ) := by
  have hq0 := hq
  obtain ⟨q1, q2⟩ : sr_cnt (μ.1 18 0 1) 12 ∧ sr_cnt (μ.1 18 1 1) 12 := hq
  refine sr_many 4 (t := (bif decide ((μ.1 1 0 5) = 0) then 12 else 10, [some (.inr (.inr (0, 0))), some (.inl inc), some (.inl c)], [], μ)) rfl ⟨trivial, (show 0 < 1 by decide), (show 0 < 1 by decide), trivial, trivial⟩ ?_
  refine sr_brd (fun h1 => ?_) (fun h1 => ?_)
  · refine sr_many 2 (t := (bif decide (inc = 0) then 30 else 16, [some (.inr (.inr (0, 0))), some (.inl inc), some (.inl c)], [], μ)) rfl ⟨trivial, trivial, trivial⟩ ?_
    refine sr_brd (fun h2 => ?_) (fun h2 => ?_)
    · refine sr_many 5 (t := (41, [some (.inr (.inr (0, 0))), some (.inl inc), some (.inl c)], [.inl (v_PT_append μ 1 c)], (m_PT_append μ 1 c))) rfl ⟨trivial, (show 0 < 1 by decide), (show 0 < 1 by decide), trivial, ⟨(show 1 < 2 by decide), ⟨(show 1 <  2 by decide), (show sr_cnt (μ.1 18 1 1) 12 by assumption)⟩⟩, trivial⟩ ?_
      exact sr_ret rfl rfl rfl (b_PT_append _ _ _) (by simp only [v_SR_type, m_SR_type, if_pos h1, if_pos h2])
    · refine sr_many 6 (t := (41, [some (.inr (.inr (0, 0))), some (.inl inc), some (.inl c)], [.inl (v_PT_append μ 0 c)], (m_PT_append μ 0 c))) rfl ⟨trivial, (show 0 < 1 by decide), (show 0 < 1 by decide), trivial, ⟨(show 0 < 2 by decide), ⟨(show 0 <  2 by decide), (show sr_cnt (μ.1 18 0 1) 12 by assumption)⟩⟩, trivial, trivial⟩ ?_
      exact sr_ret rfl rfl rfl (b_PT_append _ _ _) (by simp only [v_SR_type, m_SR_type, if_pos h1, if_neg h2])
  · refine sr_many 1 (t := (11, [some (.inr (.inr (0, 0))), some (.inl inc), some (.inl c)], [.inl 0], μ)) rfl ⟨trivial, trivial⟩ ?_
    exact sr_ret rfl rfl rfl (Or.inl rfl) (by simp only [v_SR_type, m_SR_type, if_neg h1])
def v_SR_select (μ : sr_M) (cl : Int32) (inn : Int32) (out : Int32) : Int32 := if (μ.1 1 0 5) = 0 then 1 else 0
def m_SR_select (μ : sr_M) (cl : Int32) (inn : Int32) (out : Int32) : sr_M := if (μ.1 1 0 5) = 0 then (m_SE_pick μ (cl &&& (15 : Int32)) (inn &&& (63 : Int32)) (out &&& (63 : Int32))) else μ
def p_SR_select : sr_F := fun vs μ => match vs with
  | [.inr (.inr (0, 0)), .inl cl, .inl inn, .inl out] => some (True, some (.inl (v_SR_select μ cl inn out)), m_SR_select μ cl inn out)
  | _ => none
def e_SR_select : sr_E := (sr_SC, sr_KS, (fun k => ([(10, 0, 0), (24, 0, 2), (28, 1, 5)] : List (Nat × Nat × Nat)).lookup k, fun _ => none, fun _ => none, fun _ => none, fun k => ([(93, 9, 3, p_SE_pick)] : List (Nat × Nat × Nat × sr_F)).lookup k), sr_cd cd_SR_select, some .boolean)
theorem b_SR_select (μ : sr_M) (cl : Int32) (inn : Int32) (out : Int32) : v_SR_select μ cl inn out = 0 ∨ v_SR_select μ cl inn out = 1 := by
  unfold v_SR_select
  repeat' split
  all_goals first | exact Or.inl rfl | exact Or.inr rfl | exact Or.inl rfl
set_option maxRecDepth 10000 in
theorem a_SR_select (μ : sr_M) (cl : Int32) (inn : Int32) (out : Int32) : sr_AW e_SR_select (fun r => r = (some (.inl (v_SR_select μ cl inn out)), m_SR_select μ cl inn out)) (sr_entry 4 [.inr (.inr (0, 0)), .inl cl, .inl inn, .inl out] μ) := by
  refine sr_many 4 (t := (bif decide ((μ.1 1 0 5) = 0) then 12 else 10, [some (.inr (.inr (0, 0))), some (.inl cl), some (.inl inn), some (.inl out)], [], μ)) rfl ⟨trivial, (show 0 < 1 by decide), (show 0 < 1 by decide), trivial, trivial⟩ ?_
  refine sr_brd (fun h1 => ?_) (fun h1 => ?_)
  · refine sr_many 13 (t := (32, [some (.inr (.inr (0, 0))), some (.inl cl), some (.inl inn), some (.inl out)], [.inl 1], (m_SE_pick μ (cl &&& (15 : Int32)) (inn &&& (63 : Int32)) (out &&& (63 : Int32))))) rfl ⟨trivial, (show 0 < 1 by decide), trivial, trivial, trivial, trivial, trivial, trivial, trivial, trivial, trivial, ⟨(show 0 < 1 by decide), trivial⟩, trivial, trivial⟩ ?_
    exact sr_ret rfl rfl rfl (Or.inr rfl) (by simp only [v_SR_select, m_SR_select, if_pos h1])
  · refine sr_many 1 (t := (11, [some (.inr (.inr (0, 0))), some (.inl cl), some (.inl inn), some (.inl out)], [.inl 0], μ)) rfl ⟨trivial, trivial⟩ ?_
    exact sr_ret rfl rfl rfl (Or.inl rfl) (by simp only [v_SR_select, m_SR_select, if_neg h1])
def v_SR_options (μ : sr_M) (wk : Int32) (bc : Int32) (sk : Int32) (pg : Int32) (ig : Int32) : Int32 := if ¬ (μ.1 1 0 5) = 0 then 0 else (if wk < 1 then 0 else (if wk ≤ 3 then 1 else 0))
def m_SR_options (μ : sr_M) (wk : Int32) (bc : Int32) (sk : Int32) (pg : Int32) (ig : Int32) : sr_M := if ¬ (μ.1 1 0 5) = 0 then μ else (if wk < 1 then μ else (if wk ≤ 3 then (sr_seti (sr_seti (sr_seti (sr_seti (sr_seti μ 10 0 0 wk) 10 0 1 bc) 10 0 2 sk) 10 0 3 pg) 10 0 4 ig) else μ))
def q_SR_options (μ : sr_M) (wk : Int32) (bc : Int32) (sk : Int32) (pg : Int32) (ig : Int32) : Prop := (bc = 0 ∨ bc = 1) ∧ (sk = 0 ∨ sk = 1) ∧ (pg = 0 ∨ pg = 1) ∧ (ig = 0 ∨ ig = 1)
def p_SR_options : sr_F := fun vs μ => match vs with
  | [.inr (.inr (0, 0)), .inl wk, .inl bc, .inl sk, .inl pg, .inl ig] => some (q_SR_options μ wk bc sk pg ig, some (.inl (v_SR_options μ wk bc sk pg ig)), m_SR_options μ wk bc sk pg ig)
  | _ => none
def e_SR_options : sr_E := (sr_SC, sr_KS, (fun k => ([(10, 0, 0), (28, 1, 5), (97, 1, 1), (101, 5, 0), (106, 5, 1), (109, 5, 2), (112, 5, 3), (115, 5, 4)] : List (Nat × Nat × Nat)).lookup k, fun _ => none, fun _ => none, fun _ => none, fun _ => none), sr_cd cd_SR_options, some .boolean)
theorem b_SR_options (μ : sr_M) (wk : Int32) (bc : Int32) (sk : Int32) (pg : Int32) (ig : Int32) : v_SR_options μ wk bc sk pg ig = 0 ∨ v_SR_options μ wk bc sk pg ig = 1 := by
  unfold v_SR_options
  repeat' split
  all_goals first | exact Or.inl rfl | exact Or.inr rfl | exact Or.inl rfl
set_option maxRecDepth 10000 in
theorem a_SR_options (μ : sr_M) (wk : Int32) (bc : Int32) (sk : Int32) (pg : Int32) (ig : Int32) (hq : q_SR_options μ wk bc sk pg ig) : sr_AW e_SR_options (fun r => r = (some (.inl (v_SR_options μ wk bc sk pg ig)), m_SR_options μ wk bc sk pg ig)) (sr_entry 7 [.inr (.inr (0, 0)), .inl wk, .inl bc, .inl sk, .inl pg, .inl ig] μ) := by
  have hq0 := hq
  obtain ⟨q1, q2, q3, q4⟩ : (bc = 0 ∨ bc = 1) ∧ (sk = 0 ∨ sk = 1) ∧ (pg = 0 ∨ pg = 1) ∧ (ig = 0 ∨ ig = 1) := hq
  refine sr_many 4 (t := (bif decide (¬ (μ.1 1 0 5) = 0) then 20 else 10, [some (.inr (.inr (0, 0))), some (.inl wk), some (.inl bc), some (.inl sk), some (.inl pg), some (.inl ig), none], [], μ)) rfl ⟨trivial, (show 0 < 1 by decide), (show 0 < 1 by decide), trivial, trivial⟩ ?_
  refine sr_brd (fun h1 => ?_) (fun h1 => ?_)
  · refine sr_many 1 (t := (21, [some (.inr (.inr (0, 0))), some (.inl wk), some (.inl bc), some (.inl sk), some (.inl pg), some (.inl ig), none], [.inl 0], μ)) rfl ⟨trivial, trivial⟩ ?_
    exact sr_ret rfl rfl rfl (Or.inl rfl) (by simp only [v_SR_options, m_SR_options, if_pos h1])
  · refine sr_many 3 (t := (bif decide (wk < 1) then 20 else 15, [some (.inr (.inr (0, 0))), some (.inl wk), some (.inl bc), some (.inl sk), some (.inl pg), some (.inl ig), none], [], μ)) rfl ⟨trivial, trivial, trivial, trivial⟩ ?_
    refine sr_brd (fun h2 => ?_) (fun h2 => ?_)
    · refine sr_many 1 (t := (21, [some (.inr (.inr (0, 0))), some (.inl wk), some (.inl bc), some (.inl sk), some (.inl pg), some (.inl ig), none], [.inl 0], μ)) rfl ⟨trivial, trivial⟩ ?_
      exact sr_ret rfl rfl rfl (Or.inl rfl) (by simp only [v_SR_options, m_SR_options, if_neg h1, if_pos h2])
    · refine sr_many 3 (t := (bif decide (wk ≤ 3) then 22 else 20, [some (.inr (.inr (0, 0))), some (.inl wk), some (.inl bc), some (.inl sk), some (.inl pg), some (.inl ig), none], [], μ)) rfl ⟨trivial, trivial, trivial, trivial⟩ ?_
      refine sr_brd (fun h3 => ?_) (fun h3 => ?_)
      · refine sr_many 20 (t := (64, [some (.inr (.inr (0, 0))), some (.inl wk), some (.inl bc), some (.inl sk), some (.inl pg), some (.inl ig), some (.inr (.inr (10, 0)))], [.inl 1], (sr_seti (sr_seti (sr_seti (sr_seti (sr_seti μ 10 0 0 wk) 10 0 1 bc) 10 0 2 sk) 10 0 3 pg) 10 0 4 ig))) rfl ⟨trivial, (show 0 < 1 by decide), (show 0 < 1 by decide), trivial, trivial, trivial, (show 0 < 1 by decide), trivial, trivial, ⟨(show 0 < 1 by decide), (show bc = 0 ∨ bc = 1 by assumption)⟩, trivial, trivial, ⟨(show 0 < 1 by decide), (show sk = 0 ∨ sk = 1 by assumption)⟩, trivial, trivial, ⟨(show 0 < 1 by decide), (show pg = 0 ∨ pg = 1 by assumption)⟩, trivial, trivial, ⟨(show 0 < 1 by decide), (show ig = 0 ∨ ig = 1 by assumption)⟩, trivial, trivial⟩ ?_
        exact sr_ret rfl rfl rfl (Or.inr rfl) (by simp only [v_SR_options, m_SR_options, if_neg h1, if_neg h2, if_pos h3])
      · refine sr_many 1 (t := (21, [some (.inr (.inr (0, 0))), some (.inl wk), some (.inl bc), some (.inl sk), some (.inl pg), some (.inl ig), none], [.inl 0], μ)) rfl ⟨trivial, trivial⟩ ?_
        exact sr_ret rfl rfl rfl (Or.inl rfl) (by simp only [v_SR_options, m_SR_options, if_neg h1, if_neg h2, if_neg h3])
def v_SR_selected (μ : sr_M)  : Int32 := v_SR_chosenNow μ
def q_SR_selected (μ : sr_M)  : Prop := sr_cnt (μ.1 2 0 1) 16 ∧ sr_cnt (μ.1 18 0 1) 12 ∧ sr_cnt (μ.1 18 1 1) 12
def p_SR_selected : sr_F := fun vs μ => match vs with
  | [.inr (.inr (0, 0))] => some (q_SR_selected μ , some (.inl (v_SR_selected μ )), μ)
  | _ => none
def e_SR_selected : sr_E := (sr_SC, sr_KS, (fun _ => none, fun _ => none, fun _ => none, fun _ => none, fun k => ([(118, 1, 0, p_SR_chosenNow)] : List (Nat × Nat × Nat × sr_F)).lookup k), sr_cd cd_SR_selected, some .int)
set_option maxRecDepth 10000 in
theorem a_SR_selected (μ : sr_M)  (hq : q_SR_selected μ ) : sr_AW e_SR_selected (fun r => r = (some (.inl (v_SR_selected μ )), μ)) (sr_entry 1 [.inr (.inr (0, 0))] μ) := by
  have hq0 := hq
  obtain ⟨q1, q2, q3⟩ : sr_cnt (μ.1 2 0 1) 16 ∧ sr_cnt (μ.1 18 0 1) 12 ∧ sr_cnt (μ.1 18 1 1) 12 := hq
  refine sr_many 2 (t := (4, [some (.inr (.inr (0, 0)))], [.inl (v_SR_chosenNow μ)], μ)) rfl ⟨trivial, ⟨(show 0 < 1 by decide), ⟨(show sr_cnt (μ.1 2 0 1) 16 by assumption), (show sr_cnt (μ.1 18 0 1) 12 by assumption), (show sr_cnt (μ.1 18 1 1) 12 by assumption)⟩⟩, trivial⟩ ?_
  exact sr_ret rfl rfl rfl trivial rfl
def v_SR_edges (μ : sr_M) (m : Int32) : Int32 := if (v_CT_hasMethod μ m) = 0 then 0 else (if (v_SR_holds (v_SR_chosenNow μ) m) = 0 then 0 else (v_CT_needsWithin μ m (v_SR_chosenNow μ)))
def q_SR_edges (μ : sr_M) (m : Int32) : Prop := sr_cnt (μ.1 2 0 1) 16 ∧ sr_cnt (μ.1 18 0 1) 12 ∧ sr_cnt (μ.1 18 1 1) 12
def p_SR_edges : sr_F := fun vs μ => match vs with
  | [.inr (.inr (0, 0)), .inl m] => some (q_SR_edges μ m, some (.inl (v_SR_edges μ m)), μ)
  | _ => none
def e_SR_edges : sr_E := (sr_SC, sr_KS, (fun k => ([(20, 0, 1)] : List (Nat × Nat × Nat)).lookup k, fun _ => none, fun _ => none, fun _ => none, fun k => ([(48, 3, 1, p_CT_hasMethod), (67, 0, 2, p_SR_holds), (118, 1, 0, p_SR_chosenNow), (149, 3, 2, p_CT_needsWithin)] : List (Nat × Nat × Nat × sr_F)).lookup k), sr_cd cd_SR_edges, some .int)
set_option maxRecDepth 10000 in
theorem a_SR_edges (μ : sr_M) (m : Int32) (hq : q_SR_edges μ m) : sr_AW e_SR_edges (fun r => r = (some (.inl (v_SR_edges μ m)), μ)) (sr_entry 3 [.inr (.inr (0, 0)), .inl m] μ) := by
  have hq0 := hq
  obtain ⟨q1, q2, q3⟩ : sr_cnt (μ.1 2 0 1) 16 ∧ sr_cnt (μ.1 18 0 1) 12 ∧ sr_cnt (μ.1 18 1 1) 12 := hq
  refine sr_many 8 (t := (bif decide ((v_CT_hasMethod μ m) = 0) then 36 else 16, [some (.inr (.inr (0, 0))), some (.inl m), some (.inl (v_SR_chosenNow μ))], [], μ)) rfl ⟨trivial, ⟨(show 0 < 1 by decide), ⟨(show sr_cnt (μ.1 2 0 1) 16 by first | assumption | exact sr_hasm q1 h1), (show sr_cnt (μ.1 18 0 1) 12 by first | assumption | exact sr_hasm q1 h1), (show sr_cnt (μ.1 18 1 1) 12 by first | assumption | exact sr_hasm q1 h1)⟩⟩, trivial, trivial, (show 0 < 1 by decide), trivial, ⟨(show 0 < 1 by decide), trivial⟩, trivial, trivial⟩ ?_
  refine sr_brd (fun h1 => ?_) (fun h1 => ?_)
  · refine sr_many 1 (t := (37, [some (.inr (.inr (0, 0))), some (.inl m), some (.inl (v_SR_chosenNow μ))], [.inl 0], μ)) rfl ⟨trivial, trivial⟩ ?_
    exact sr_ret rfl rfl rfl trivial (by simp only [v_SR_edges, if_pos h1])
  · refine sr_many 4 (t := (bif decide ((v_SR_holds (v_SR_chosenNow μ) m) = 0) then 36 else 24, [some (.inr (.inr (0, 0))), some (.inl m), some (.inl (v_SR_chosenNow μ))], [], μ)) rfl ⟨trivial, trivial, trivial, trivial, trivial⟩ ?_
    refine sr_brd (fun h2 => ?_) (fun h2 => ?_)
    · refine sr_many 1 (t := (37, [some (.inr (.inr (0, 0))), some (.inl m), some (.inl (v_SR_chosenNow μ))], [.inl 0], μ)) rfl ⟨trivial, trivial⟩ ?_
      exact sr_ret rfl rfl rfl trivial (by simp only [v_SR_edges, if_neg h1, if_pos h2])
    · refine sr_many 6 (t := (37, [some (.inr (.inr (0, 0))), some (.inl m), some (.inl (v_SR_chosenNow μ))], [.inl (v_CT_needsWithin μ m (v_SR_chosenNow μ))], μ)) rfl ⟨trivial, (show 0 < 1 by decide), trivial, trivial, ⟨(show 0 < 1 by decide), ⟨(show sr_cnt (μ.1 2 0 1) 16 by first | assumption | exact sr_hasm q1 h1), (show sr_in m 16 by first | assumption | exact sr_hasm q1 h1)⟩⟩, trivial, trivial⟩ ?_
      exact sr_ret rfl rfl rfl trivial (by simp only [v_SR_edges, if_neg h1, if_neg h2])
def v_SR_circle (μ : sr_M)  : Int32 := v_CT_circleWithin μ (v_SR_chosenNow μ)
def m_SR_circle (μ : sr_M)  : sr_M := (m_CT_circleWithin μ (v_SR_chosenNow μ))
def q_SR_circle (μ : sr_M)  : Prop := sr_cnt (μ.1 2 0 1) 16 ∧ sr_cnt (μ.1 18 0 1) 12 ∧ sr_cnt (μ.1 18 1 1) 12
def p_SR_circle : sr_F := fun vs μ => match vs with
  | [.inr (.inr (0, 0))] => some (q_SR_circle μ , some (.inl (v_SR_circle μ )), m_SR_circle μ )
  | _ => none
def e_SR_circle : sr_E := (sr_SC, sr_KS, (fun k => ([(20, 0, 1)] : List (Nat × Nat × Nat)).lookup k, fun _ => none, fun _ => none, fun _ => none, fun k => ([(118, 1, 0, p_SR_chosenNow), (125, 3, 1, p_CT_circleWithin)] : List (Nat × Nat × Nat × sr_F)).lookup k), sr_cd cd_SR_circle, some .int)
set_option maxRecDepth 10000 in
theorem a_SR_circle (μ : sr_M)  (hq : q_SR_circle μ ) : sr_AW e_SR_circle (fun r => r = (some (.inl (v_SR_circle μ )), m_SR_circle μ )) (sr_entry 1 [.inr (.inr (0, 0))] μ) := by
  have hq0 := hq
  obtain ⟨q1, q2, q3⟩ : sr_cnt (μ.1 2 0 1) 16 ∧ sr_cnt (μ.1 18 0 1) 12 ∧ sr_cnt (μ.1 18 1 1) 12 := hq
  refine sr_many 5 (t := (11, [some (.inr (.inr (0, 0)))], [.inl (v_CT_circleWithin μ (v_SR_chosenNow μ))], (m_CT_circleWithin μ (v_SR_chosenNow μ)))) rfl ⟨trivial, (show 0 < 1 by decide), trivial, ⟨(show 0 < 1 by decide), ⟨(show sr_cnt (μ.1 2 0 1) 16 by assumption), (show sr_cnt (μ.1 18 0 1) 12 by assumption), (show sr_cnt (μ.1 18 1 1) 12 by assumption)⟩⟩, ⟨(show 0 < 1 by decide), (show sr_cnt (μ.1 2 0 1) 16 by assumption)⟩, trivial⟩ ?_
  exact sr_ret rfl rfl rfl trivial rfl
def v_SR_again (μ : sr_M)  : Int32 := if ¬ (μ.1 1 0 5) = 0 then (-1) else (if ¬ (μ.1 1 0 6) = 0 then (v_CT_withAllNeeded μ (μ.1 1 0 7) (v_SR_chosenNow μ)) else (-1))
def m_SR_again (μ : sr_M)  : sr_M := if ¬ (μ.1 1 0 5) = 0 then μ else (if ¬ (μ.1 1 0 6) = 0 then (sr_seti (m_CT_withAllNeeded μ (μ.1 1 0 7) (v_SR_chosenNow μ)) 17 0 2 (v_CT_withAllNeeded μ (μ.1 1 0 7) (v_SR_chosenNow μ))) else μ)
def q_SR_again (μ : sr_M)  : Prop := sr_cnt (μ.1 2 0 1) 16 ∧ sr_cnt (μ.1 18 0 1) 12 ∧ sr_cnt (μ.1 18 1 1) 12
def p_SR_again : sr_F := fun vs μ => match vs with
  | [.inr (.inr (0, 0))] => some (q_SR_again μ , some (.inl (v_SR_again μ )), m_SR_again μ )
  | _ => none
def e_SR_again : sr_E := (sr_SC, sr_KS, (fun k => ([(10, 0, 0), (20, 0, 1), (24, 0, 2), (28, 1, 5), (136, 1, 6), (139, 1, 7), (146, 8, 2)] : List (Nat × Nat × Nat)).lookup k, fun _ => none, fun _ => none, fun _ => none, fun k => ([(118, 1, 0, p_SR_chosenNow), (142, 3, 2, p_CT_withAllNeeded)] : List (Nat × Nat × Nat × sr_F)).lookup k), sr_cd cd_SR_again, some .int)
set_option maxRecDepth 10000 in
theorem a_SR_again (μ : sr_M)  (hq : q_SR_again μ ) : sr_AW e_SR_again (fun r => r = (some (.inl (v_SR_again μ )), m_SR_again μ )) (sr_entry 1 [.inr (.inr (0, 0))] μ) := by
  have hq0 := hq
  obtain ⟨q1, q2, q3⟩ : sr_cnt (μ.1 2 0 1) 16 ∧ sr_cnt (μ.1 18 0 1) 12 ∧ sr_cnt (μ.1 18 1 1) 12 := hq
  refine sr_many 4 (t := (bif decide (¬ (μ.1 1 0 5) = 0) then 20 else 10, [some (.inr (.inr (0, 0)))], [], μ)) rfl ⟨trivial, (show 0 < 1 by decide), (show 0 < 1 by decide), trivial, trivial⟩ ?_
  refine sr_brd (fun h1 => ?_) (fun h1 => ?_)
  · refine sr_many 1 (t := (21, [some (.inr (.inr (0, 0)))], [.inl (-1)], μ)) rfl ⟨trivial, trivial⟩ ?_
    exact sr_ret rfl rfl rfl trivial (by simp only [v_SR_again, m_SR_again, if_pos h1])
  · refine sr_many 4 (t := (bif decide (¬ (μ.1 1 0 6) = 0) then 22 else 20, [some (.inr (.inr (0, 0)))], [], μ)) rfl ⟨trivial, (show 0 < 1 by decide), (show 0 < 1 by decide), trivial, trivial⟩ ?_
    refine sr_brd (fun h2 => ?_) (fun h2 => ?_)
    · refine sr_many 14 (t := (54, [some (.inr (.inr (0, 0)))], [.inl (v_CT_withAllNeeded μ (μ.1 1 0 7) (v_SR_chosenNow μ))], (sr_seti (m_CT_withAllNeeded μ (μ.1 1 0 7) (v_SR_chosenNow μ)) 17 0 2 (v_CT_withAllNeeded μ (μ.1 1 0 7) (v_SR_chosenNow μ))))) rfl ⟨trivial, (show 0 < 1 by decide), trivial, (show 0 < 1 by decide), trivial, (show 0 < 1 by decide), (show 0 < 1 by decide), trivial, ⟨(show 0 < 1 by decide), ⟨(show sr_cnt (μ.1 2 0 1) 16 by assumption), (show sr_cnt (μ.1 18 0 1) 12 by assumption), (show sr_cnt (μ.1 18 1 1) 12 by assumption)⟩⟩, ⟨(show 0 < 1 by decide), (show sr_cnt (μ.1 2 0 1) 16 by assumption)⟩, (show 0 < 1 by decide), trivial, (show 0 < 1 by decide), (show 0 < 1 by decide), trivial⟩ ?_
      exact sr_ret rfl rfl rfl trivial (by simp only [v_SR_again, m_SR_again, if_neg h1, if_pos h2])
    · refine sr_many 1 (t := (21, [some (.inr (.inr (0, 0)))], [.inl (-1)], μ)) rfl ⟨trivial, trivial⟩ ?_
      exact sr_ret rfl rfl rfl trivial (by simp only [v_SR_again, m_SR_again, if_neg h1, if_neg h2])
def v_SR_report (μ : sr_M) (m : Int32) (what : Int32) : Int32 := if (v_CT_hasMethod μ m) = 0 then (-1) else (v_PR_figure μ m.toNatClampNeg what)
def q_SR_report (μ : sr_M) (m : Int32) (what : Int32) : Prop := sr_cnt (μ.1 2 0 1) 16
def p_SR_report : sr_F := fun vs μ => match vs with
  | [.inr (.inr (0, 0)), .inl m, .inl what] => some (q_SR_report μ m what, some (.inl (v_SR_report μ m what)), μ)
  | _ => none
def e_SR_report : sr_E := (sr_SC, sr_KS, (fun k => ([(10, 0, 0), (20, 0, 1), (152, 1, 3)] : List (Nat × Nat × Nat)).lookup k, fun _ => none, fun _ => none, fun _ => none, fun k => ([(48, 3, 1, p_CT_hasMethod), (156, 8, 1, p_PR_figure)] : List (Nat × Nat × Nat × sr_F)).lookup k), sr_cd cd_SR_report, some .int)
set_option maxRecDepth 10000 in
theorem a_SR_report (μ : sr_M) (m : Int32) (what : Int32) (hq : q_SR_report μ m what) : sr_AW e_SR_report (fun r => r = (some (.inl (v_SR_report μ m what)), μ)) (sr_entry 3 [.inr (.inr (0, 0)), .inl m, .inl what] μ) := by
  have q1 : sr_cnt (μ.1 2 0 1) 16 := hq
  refine sr_many 5 (t := (bif decide ((v_CT_hasMethod μ m) = 0) then 27 else 11, [some (.inr (.inr (0, 0))), some (.inl m), some (.inl what)], [], μ)) rfl ⟨trivial, (show 0 < 1 by decide), trivial, ⟨(show 0 < 1 by decide), trivial⟩, trivial, trivial⟩ ?_
  refine sr_brd (fun h1 => ?_) (fun h1 => ?_)
  · refine sr_many 1 (t := (28, [some (.inr (.inr (0, 0))), some (.inl m), some (.inl what)], [.inl (-1)], μ)) rfl ⟨trivial, trivial⟩ ?_
    exact sr_ret rfl rfl rfl trivial (by simp only [v_SR_report, if_pos h1])
  · refine sr_many 8 (t := (28, [some (.inr (.inr (0, 0))), some (.inl m), some (.inl what)], [.inl (v_PR_figure μ m.toNatClampNeg what)], μ)) rfl ⟨trivial, (show 0 < 1 by decide), (show 0 < 1 by decide), trivial, ⟨(show 0 < 1 by decide), (show sr_in m 16 by first | assumption | exact sr_hasm q1 h1 | exact sr_in_lt (sr_hasm q1 h1))⟩, trivial, ⟨(show m.toNatClampNeg < 16 by first | assumption | exact sr_hasm q1 h1 | exact sr_in_lt (sr_hasm q1 h1)), (show m.toNatClampNeg < 16 by first | assumption | exact sr_hasm q1 h1 | exact sr_in_lt (sr_hasm q1 h1))⟩, trivial, trivial⟩ ?_
    exact sr_ret rfl rfl rfl trivial (by simp only [v_SR_report, if_neg h1])
def v_SR_worker (μ : sr_M) (w : Int32) : Int32 := if (v_SR_isWithin w 3) = 0 then (-1) else (μ.1 15 0 w.toNatClampNeg)
def p_SR_worker : sr_F := fun vs μ => match vs with
  | [.inr (.inr (0, 0)), .inl w] => some (True, some (.inl (v_SR_worker μ w)), μ)
  | _ => none
def e_SR_worker : sr_E := (sr_SC, sr_KS, (fun k => ([(10, 0, 0), (161, 1, 4)] : List (Nat × Nat × Nat)).lookup k, fun _ => none, fun _ => none, fun _ => none, fun k => ([(32, 0, 2, p_SR_isWithin)] : List (Nat × Nat × Nat × sr_F)).lookup k), sr_cd cd_SR_worker, some .int)
set_option maxRecDepth 10000 in
theorem a_SR_worker (μ : sr_M) (w : Int32) : sr_AW e_SR_worker (fun r => r = (some (.inl (v_SR_worker μ w)), μ)) (sr_entry 2 [.inr (.inr (0, 0)), .inl w] μ) := by
  refine sr_many 4 (t := (bif decide ((v_SR_isWithin w 3) = 0) then 20 else 8, [some (.inr (.inr (0, 0))), some (.inl w)], [], μ)) rfl ⟨trivial, trivial, trivial, trivial, trivial⟩ ?_
  refine sr_brd (fun h1 => ?_) (fun h1 => ?_)
  · refine sr_many 1 (t := (21, [some (.inr (.inr (0, 0))), some (.inl w)], [.inl (-1)], μ)) rfl ⟨trivial, trivial⟩ ?_
    exact sr_ret rfl rfl rfl trivial (by simp only [v_SR_worker, if_pos h1])
  · refine sr_many 6 (t := (21, [some (.inr (.inr (0, 0))), some (.inl w)], [.inl (μ.1 15 0 w.toNatClampNeg)], μ)) rfl ⟨trivial, (show 0 < 1 by decide), (show 0 < 1 by decide), trivial, ⟨(show 0 < 1 by decide), (show sr_in w 3 by exact sr_within 3 (by decide) h1)⟩, trivial, trivial⟩ ?_
    exact sr_ret rfl rfl rfl trivial (by simp only [v_SR_worker, if_neg h1])
def v_SR_event (μ : sr_M) (k : Int32) : Int32 := if ¬ k = (-1) then (v_LG_latest μ k) else (μ.1 11 0 1)
def q_SR_event (μ : sr_M) (k : Int32) : Prop := sr_cnt (μ.1 11 0 1) 2000000000
def p_SR_event : sr_F := fun vs μ => match vs with
  | [.inr (.inr (0, 0)), .inl k] => some (q_SR_event μ k, some (.inl (v_SR_event μ k)), μ)
  | _ => none
def e_SR_event : sr_E := (sr_SC, sr_KS, (fun k => ([(10, 0, 0), (164, 1, 2), (168, 6, 1)] : List (Nat × Nat × Nat)).lookup k, fun _ => none, fun _ => none, fun _ => none, fun k => ([(173, 7, 1, p_LG_latest)] : List (Nat × Nat × Nat × sr_F)).lookup k), sr_cd cd_SR_event, some .int)
set_option maxRecDepth 10000 in
theorem a_SR_event (μ : sr_M) (k : Int32) (hq : q_SR_event μ k) : sr_AW e_SR_event (fun r => r = (some (.inl (v_SR_event μ k)), μ)) (sr_entry 2 [.inr (.inr (0, 0)), .inl k] μ) := by
  have q1 : sr_cnt (μ.1 11 0 1) 2000000000 := hq
  refine sr_many 3 (t := (bif decide (¬ k = (-1)) then 18 else 5, [some (.inr (.inr (0, 0))), some (.inl k)], [], μ)) rfl ⟨trivial, trivial, trivial, trivial⟩ ?_
  refine sr_brd (fun h1 => ?_) (fun h1 => ?_)
  · refine sr_many 5 (t := (29, [some (.inr (.inr (0, 0))), some (.inl k)], [.inl (v_LG_latest μ k)], μ)) rfl ⟨trivial, (show 0 < 1 by decide), (show 0 < 1 by decide), trivial, ⟨(show 0 < 1 by decide), (show sr_cnt (μ.1 11 0 1) 2000000000 by assumption)⟩, trivial⟩ ?_
    exact sr_ret rfl rfl rfl trivial (by simp only [v_SR_event, if_pos h1])
  · refine sr_many 5 (t := (29, [some (.inr (.inr (0, 0))), some (.inl k)], [.inl (μ.1 11 0 1)], μ)) rfl ⟨trivial, (show 0 < 1 by decide), (show 0 < 1 by decide), (show 0 < 1 by decide), trivial, trivial⟩ ?_
    exact sr_ret rfl rfl rfl trivial (by simp only [v_SR_event, if_neg h1])
