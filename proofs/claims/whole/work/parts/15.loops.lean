/-! pictures and runs: the catalog and its loops -/
theorem sr_in_lt {x : Int32} {n : Nat} (h : sr_in x n) : x.toNatClampNeg < n := Nat.not_le.mp (fun q => h (Or.inr q))
theorem sr_cnt_in {x : Int32} {N : Nat} (q : sr_cnt x N) (h : ¬ x = nI N) (hN : N < 2 ^ 31 := by decide) : sr_in x N := by
  have h1 : x.toNatClampNeg ≠ N := fun e => h (by rw [← e]; exact q.1)
  have h2 := q.2
  rw [q.1]
  exact sr_inN N (by omega) hN
theorem sr_within {w : Int32} (n : Nat) (hn : n < 2 ^ 31) (h : ¬ v_SR_isWithin w (nI n) = 0) : sr_in w n := by
  unfold v_SR_isWithin at h
  split at h
  · exact absurd rfl h
  · rename_i h1
    split at h
    · exact absurd rfl h
    · rename_i h2
      rw [Int32.le_iff_toInt_le, nI_toInt hn] at h2
      rw [Int32.lt_iff_toInt_lt] at h1
      refine vp_in_iff.mpr ⟨?_, ?_⟩
      · have : (0 : Int32).toInt = 0 := rfl
        omega
      · omega
def f_CT_methodsOf (μ : sr_M) (cls : Int32)  : Nat → Int32 → Int32 := fun k a => if ¬ (μ.1 3 (k) 0) = cls then a else (a ||| ((1 : Int32) <<< ((nI k) &&& 31)))
def v_CT_methodsOf (μ : sr_M) (cls : Int32) : Int32 := (sr_it (f_CT_methodsOf μ cls) 0 ((μ.1 2 0 1).toNatClampNeg))
def q_CT_methodsOf (μ : sr_M) (cls : Int32) : Prop := sr_cnt (μ.1 2 0 1) 16
def p_CT_methodsOf : sr_F := fun vs μ => match vs with
  | [.inr (.inr (2, 0)), .inl cls] => some (q_CT_methodsOf μ cls, some (.inl (v_CT_methodsOf μ cls)), μ)
  | _ => none
def e_CT_methodsOf : sr_E := (sr_SC, sr_KS, (fun k => ([(11, 2, 0), (32, 2, 1), (40, 3, 0)] : List (Nat × Nat × Nat)).lookup k, fun _ => none, fun _ => none, fun _ => none, fun _ => none), sr_cd cd_CT_methodsOf, some .int)
set_option maxRecDepth 10000 in
theorem a_CT_methodsOf (μ : sr_M) (cls : Int32) (hq : q_CT_methodsOf μ cls) : sr_AW e_CT_methodsOf (fun r => r = (some (.inl (v_CT_methodsOf μ cls)), μ)) (sr_entry 4 [.inr (.inr (2, 0)), .inl cls] μ) := by
  have q1 : sr_cnt (μ.1 2 0 1) 16 := hq
  refine sr_many 4 (t := (4, [some (.inr (.inr (2, 0))), some (.inl cls), some (.inl 0), some (.inl 0)], [], μ)) rfl ⟨trivial, trivial, trivial, trivial, trivial⟩ ?_
  refine sr_forT (α := Int32) (fun k a => (4, [some (.inr (.inr (2, 0))), some (.inl cls), some (.inl a), some (.inl (nI k))], [], μ)) (f_CT_methodsOf μ cls) 0 ((μ.1 2 0 1).toNatClampNeg) (fun k hk a w => ?_) ?_
  · have hbk : k < 16 := sr_cnt_lt q1 hk
    have hck : (nI k).toNatClampNeg = k := sr_clN 16 hbk (by decide)
    have hink : sr_in (nI k) 16 := sr_inN 16 hbk (by decide)
    have hcbk : (nI k).toNatClampNeg < 16 := by rw [hck]; exact hbk
    refine sr_many 4 (t := (bif decide ((μ.1 2 0 1) ≤ (nI k)) then 37 else 12, [some (.inr (.inr (2, 0))), some (.inl cls), some (.inl a), some (.inl (nI k))], [], μ)) rfl ⟨trivial, trivial, (show 0 < 1 by decide), trivial, trivial⟩ ?_
    refine sr_brd (fun h => absurd h (by exact sr_cnt_nlt q1 (by decide) hk)) (fun _ => ?_)
    refine sr_many 7 (t := (bif decide (¬ (μ.1 3 ((nI k).toNatClampNeg) 0) = cls) then 31 else 25, [some (.inr (.inr (2, 0))), some (.inl cls), some (.inl a), some (.inl (nI k))], [], μ)) rfl ⟨trivial, (show 0 < 1 by decide), trivial, ⟨(show 0 < 1 by decide), (show sr_in (nI k) 16 by assumption)⟩, (show (nI k).toNatClampNeg < 16 by assumption), trivial, trivial, trivial⟩ ?_
    refine sr_brd (fun h1 => ?_) (fun h1 => ?_)
    · refine sr_many 2 (t := (4, [some (.inr (.inr (2, 0))), some (.inl cls), some (.inl a), some (.inl ((nI k) + 1))], [], μ)) rfl ⟨trivial, trivial, trivial⟩ ?_
      try simp only [hck] at h1
      try simp only [hck]
      simp only [f_CT_methodsOf, if_pos h1, nI_succ] at w
      exact w
    · refine sr_many 8 (t := (4, [some (.inr (.inr (2, 0))), some (.inl cls), some (.inl (a ||| ((1 : Int32) <<< ((nI k) &&& 31)))), some (.inl ((nI k) + 1))], [], μ)) rfl ⟨trivial, trivial, trivial, trivial, trivial, trivial, trivial, trivial, trivial⟩ ?_
      try simp only [hck] at h1
      try simp only [hck]
      simp only [f_CT_methodsOf, if_neg h1, nI_succ] at w
      exact w
  · skip
    refine sr_many 4 (t := (bif decide ((μ.1 2 0 1) ≤ (nI ((μ.1 2 0 1).toNatClampNeg))) then 37 else 12, [some (.inr (.inr (2, 0))), some (.inl cls), some (.inl (sr_it (f_CT_methodsOf μ cls) 0 ((μ.1 2 0 1).toNatClampNeg))), some (.inl (nI ((μ.1 2 0 1).toNatClampNeg)))], [], μ)) rfl ⟨trivial, trivial, (show 0 < 1 by decide), trivial, trivial⟩ ?_
    refine sr_brd (fun _ => ?_) (fun h => absurd (by exact sr_cnt_le q1) h)
    refine sr_many 1 (t := (38, [some (.inr (.inr (2, 0))), some (.inl cls), some (.inl (sr_it (f_CT_methodsOf μ cls) 0 ((μ.1 2 0 1).toNatClampNeg))), some (.inl (nI ((μ.1 2 0 1).toNatClampNeg)))], [.inl (sr_it (f_CT_methodsOf μ cls) 0 ((μ.1 2 0 1).toNatClampNeg))], μ)) rfl ⟨trivial, trivial⟩ ?_
    exact sr_ret rfl rfl rfl trivial rfl
def f_CT_needsWithin (μ : sr_M) (m : Int32) (ch : Int32)  : Nat → Int32 → Int32 := fun k a => if ((μ.1 4 (k) 1) &&& (μ.1 3 m.toNatClampNeg 4)) = 0 then a else (a ||| ((1 : Int32) <<< ((nI k) &&& 31)))
def v_CT_needsWithin (μ : sr_M) (m : Int32) (ch : Int32) : Int32 := (sr_it (f_CT_needsWithin μ m ch) (μ.1 3 m.toNatClampNeg 3) ((μ.1 2 0 1).toNatClampNeg)) &&& ch
def q_CT_needsWithin (μ : sr_M) (m : Int32) (ch : Int32) : Prop := sr_cnt (μ.1 2 0 1) 16 ∧ sr_in m 16
def p_CT_needsWithin : sr_F := fun vs μ => match vs with
  | [.inr (.inr (2, 0)), .inl m, .inl ch] => some (q_CT_needsWithin μ m ch, some (.inl (v_CT_needsWithin μ m ch)), μ)
  | _ => none
def e_CT_needsWithin : sr_E := (sr_SC, sr_KS, (fun k => ([(11, 2, 0), (32, 2, 1), (61, 3, 2), (64, 3, 3), (67, 3, 4)] : List (Nat × Nat × Nat)).lookup k, fun _ => none, fun _ => none, fun _ => none, fun _ => none), sr_cd cd_CT_needsWithin, some .int)
set_option maxRecDepth 10000 in
theorem a_CT_needsWithin (μ : sr_M) (m : Int32) (ch : Int32) (hq : q_CT_needsWithin μ m ch) : sr_AW e_CT_needsWithin (fun r => r = (some (.inl (v_CT_needsWithin μ m ch)), μ)) (sr_entry 6 [.inr (.inr (2, 0)), .inl m, .inl ch] μ) := by
  have hq0 := hq
  obtain ⟨q1, q2⟩ : sr_cnt (μ.1 2 0 1) 16 ∧ sr_in m 16 := hq
  have qm := sr_in_lt q2
  refine sr_many 10 (t := (16, [some (.inr (.inr (2, 0))), some (.inl m), some (.inl ch), some (.inr (.inr (3, m.toNatClampNeg))), some (.inl (μ.1 3 m.toNatClampNeg 3)), some (.inl 0)], [], μ)) rfl ⟨trivial, (show 0 < 1 by decide), trivial, ⟨(show 0 < 1 by decide), (show sr_in m 16 by assumption)⟩, trivial, trivial, (show m.toNatClampNeg < 16 by assumption), trivial, trivial, trivial, trivial⟩ ?_
  refine sr_forT (α := Int32) (fun k a => (16, [some (.inr (.inr (2, 0))), some (.inl m), some (.inl ch), some (.inr (.inr (3, m.toNatClampNeg))), some (.inl a), some (.inl (nI k))], [], μ)) (f_CT_needsWithin μ m ch) (μ.1 3 m.toNatClampNeg 3) ((μ.1 2 0 1).toNatClampNeg) (fun k hk a w => ?_) ?_
  · have hbk : k < 16 := sr_cnt_lt q1 hk
    have hck : (nI k).toNatClampNeg = k := sr_clN 16 hbk (by decide)
    have hink : sr_in (nI k) 16 := sr_inN 16 hbk (by decide)
    have hcbk : (nI k).toNatClampNeg < 16 := by rw [hck]; exact hbk
    refine sr_many 4 (t := (bif decide ((μ.1 2 0 1) ≤ (nI k)) then 60 else 25, [some (.inr (.inr (2, 0))), some (.inl m), some (.inl ch), some (.inr (.inr (3, m.toNatClampNeg))), some (.inl a), some (.inl (nI k))], [], μ)) rfl ⟨trivial, trivial, (show 0 < 1 by decide), trivial, trivial⟩ ?_
    refine sr_brd (fun h => absurd h (by exact sr_cnt_nlt q1 (by decide) hk)) (fun _ => ?_)
    refine sr_many 11 (t := (bif decide (((μ.1 4 ((nI k).toNatClampNeg) 1) &&& (μ.1 3 m.toNatClampNeg 4)) = 0) then 54 else 45, [some (.inr (.inr (2, 0))), some (.inl m), some (.inl ch), some (.inr (.inr (3, m.toNatClampNeg))), some (.inl a), some (.inl (nI k))], [], μ)) rfl ⟨trivial, (show 0 < 1 by decide), trivial, ⟨(show 0 < 1 by decide), (show sr_in (nI k) 16 by assumption)⟩, (show (nI k).toNatClampNeg < 16 by assumption), trivial, ⟨(show (nI k).toNatClampNeg < 16 by assumption), (show sr_in 1 9 by decide)⟩, trivial, (show m.toNatClampNeg < 16 by assumption), trivial, trivial, trivial⟩ ?_
    refine sr_brd (fun h1 => ?_) (fun h1 => ?_)
    · refine sr_many 2 (t := (16, [some (.inr (.inr (2, 0))), some (.inl m), some (.inl ch), some (.inr (.inr (3, m.toNatClampNeg))), some (.inl a), some (.inl ((nI k) + 1))], [], μ)) rfl ⟨trivial, trivial, trivial⟩ ?_
      try simp only [hck] at h1
      try simp only [hck]
      simp only [f_CT_needsWithin, if_pos h1, nI_succ] at w
      exact w
    · refine sr_many 8 (t := (16, [some (.inr (.inr (2, 0))), some (.inl m), some (.inl ch), some (.inr (.inr (3, m.toNatClampNeg))), some (.inl (a ||| ((1 : Int32) <<< ((nI k) &&& 31)))), some (.inl ((nI k) + 1))], [], μ)) rfl ⟨trivial, trivial, trivial, trivial, trivial, trivial, trivial, trivial, trivial⟩ ?_
      try simp only [hck] at h1
      try simp only [hck]
      simp only [f_CT_needsWithin, if_neg h1, nI_succ] at w
      exact w
  · skip
    refine sr_many 4 (t := (bif decide ((μ.1 2 0 1) ≤ (nI ((μ.1 2 0 1).toNatClampNeg))) then 60 else 25, [some (.inr (.inr (2, 0))), some (.inl m), some (.inl ch), some (.inr (.inr (3, m.toNatClampNeg))), some (.inl (sr_it (f_CT_needsWithin μ m ch) (μ.1 3 m.toNatClampNeg 3) ((μ.1 2 0 1).toNatClampNeg))), some (.inl (nI ((μ.1 2 0 1).toNatClampNeg)))], [], μ)) rfl ⟨trivial, trivial, (show 0 < 1 by decide), trivial, trivial⟩ ?_
    refine sr_brd (fun _ => ?_) (fun h => absurd (by exact sr_cnt_le q1) h)
    refine sr_many 3 (t := (64, [some (.inr (.inr (2, 0))), some (.inl m), some (.inl ch), some (.inr (.inr (3, m.toNatClampNeg))), some (.inl (sr_it (f_CT_needsWithin μ m ch) (μ.1 3 m.toNatClampNeg 3) ((μ.1 2 0 1).toNatClampNeg))), some (.inl (nI ((μ.1 2 0 1).toNatClampNeg)))], [.inl ((sr_it (f_CT_needsWithin μ m ch) (μ.1 3 m.toNatClampNeg 3) ((μ.1 2 0 1).toNatClampNeg)) &&& ch)], μ)) rfl ⟨trivial, trivial, trivial, trivial⟩ ?_
    exact sr_ret rfl rfl rfl trivial rfl
def f_CT_hasDanglingNeed (μ : sr_M) (ch : Int32)  : Nat → (Int32 × Int32 × Int32) → Int32 × Int32 × Int32 := fun k a => if (v_SR_holds ch (nI k)) = 0 then (a.1, a.2.1, a.2.2) else (a.1 ||| (μ.1 4 (k) 1), a.2.1 ||| (μ.1 3 (k) 3), a.2.2 ||| (μ.1 3 (k) 4))
def v_CT_hasDanglingNeed (μ : sr_M) (ch : Int32) : Int32 := if ¬ (((sr_it (f_CT_hasDanglingNeed μ ch) (0, 0, 0) ((μ.1 2 0 1).toNatClampNeg)).2.1) &&& (ch ^^^ (-1 : Int32))) = 0 then 1 else (if (((sr_it (f_CT_hasDanglingNeed μ ch) (0, 0, 0) ((μ.1 2 0 1).toNatClampNeg)).2.2) &&& (((sr_it (f_CT_hasDanglingNeed μ ch) (0, 0, 0) ((μ.1 2 0 1).toNatClampNeg)).1) ^^^ (-1 : Int32))) = 0 then 0 else 1)
def q_CT_hasDanglingNeed (μ : sr_M) (ch : Int32) : Prop := sr_cnt (μ.1 2 0 1) 16
def p_CT_hasDanglingNeed : sr_F := fun vs μ => match vs with
  | [.inr (.inr (2, 0)), .inl ch] => some (q_CT_hasDanglingNeed μ ch, some (.inl (v_CT_hasDanglingNeed μ ch)), μ)
  | _ => none
def e_CT_hasDanglingNeed : sr_E := (sr_SC, sr_KS, (fun k => ([(11, 2, 0), (32, 2, 1), (61, 3, 2), (64, 3, 3), (67, 3, 4)] : List (Nat × Nat × Nat)).lookup k, fun _ => none, fun _ => none, fun _ => none, fun k => ([(70, 0, 2, p_SR_holds)] : List (Nat × Nat × Nat × sr_F)).lookup k), sr_cd cd_CT_hasDanglingNeed, some .boolean)
theorem b_CT_hasDanglingNeed (μ : sr_M) (ch : Int32) : v_CT_hasDanglingNeed μ ch = 0 ∨ v_CT_hasDanglingNeed μ ch = 1 := by
  unfold v_CT_hasDanglingNeed
  repeat' split
  all_goals first | exact Or.inl rfl | exact Or.inr rfl | exact Or.inl rfl
set_option maxRecDepth 10000 in
theorem a_CT_hasDanglingNeed (μ : sr_M) (ch : Int32) (hq : q_CT_hasDanglingNeed μ ch) : sr_AW e_CT_hasDanglingNeed (fun r => r = (some (.inl (v_CT_hasDanglingNeed μ ch)), μ)) (sr_entry 6 [.inr (.inr (2, 0)), .inl ch] μ) := by
  have q1 : sr_cnt (μ.1 2 0 1) 16 := hq
  refine sr_many 8 (t := (10, [some (.inr (.inr (2, 0))), some (.inl ch), some (.inl 0), some (.inl 0), some (.inl 0), some (.inl 0)], [], μ)) rfl ⟨trivial, trivial, trivial, trivial, trivial, trivial, trivial, trivial, trivial⟩ ?_
  refine sr_forT (α := Int32 × Int32 × Int32) (fun k a => (10, [some (.inr (.inr (2, 0))), some (.inl ch), some (.inl a.1), some (.inl a.2.1), some (.inl a.2.2), some (.inl (nI k))], [], μ)) (f_CT_hasDanglingNeed μ ch) (0, 0, 0) ((μ.1 2 0 1).toNatClampNeg) (fun k hk a w => ?_) ?_
  · have hbk : k < 16 := sr_cnt_lt q1 hk
    have hck : (nI k).toNatClampNeg = k := sr_clN 16 hbk (by decide)
    have hink : sr_in (nI k) 16 := sr_inN 16 hbk (by decide)
    have hcbk : (nI k).toNatClampNeg < 16 := by rw [hck]; exact hbk
    refine sr_many 4 (t := (bif decide ((μ.1 2 0 1) ≤ (nI k)) then 77 else 19, [some (.inr (.inr (2, 0))), some (.inl ch), some (.inl a.1), some (.inl a.2.1), some (.inl a.2.2), some (.inl (nI k))], [], μ)) rfl ⟨trivial, trivial, (show 0 < 1 by decide), trivial, trivial⟩ ?_
    refine sr_brd (fun h => absurd h (by exact sr_cnt_nlt q1 (by decide) hk)) (fun _ => ?_)
    refine sr_many 4 (t := (bif decide ((v_SR_holds ch (nI k)) = 0) then 71 else 28, [some (.inr (.inr (2, 0))), some (.inl ch), some (.inl a.1), some (.inl a.2.1), some (.inl a.2.2), some (.inl (nI k))], [], μ)) rfl ⟨trivial, trivial, trivial, trivial, trivial⟩ ?_
    refine sr_brd (fun h1 => ?_) (fun h1 => ?_)
    · refine sr_many 2 (t := (10, [some (.inr (.inr (2, 0))), some (.inl ch), some (.inl a.1), some (.inl a.2.1), some (.inl a.2.2), some (.inl ((nI k) + 1))], [], μ)) rfl ⟨trivial, trivial, trivial⟩ ?_
      try simp only [hck] at h1
      try simp only [hck]
      simp only [f_CT_hasDanglingNeed, if_pos h1, nI_succ] at w
      exact w
    · refine sr_many 28 (t := (10, [some (.inr (.inr (2, 0))), some (.inl ch), some (.inl (a.1 ||| (μ.1 4 ((nI k).toNatClampNeg) 1))), some (.inl (a.2.1 ||| (μ.1 3 ((nI k).toNatClampNeg) 3))), some (.inl (a.2.2 ||| (μ.1 3 ((nI k).toNatClampNeg) 4))), some (.inl ((nI k) + 1))], [], μ)) rfl ⟨trivial, trivial, (show 0 < 1 by decide), trivial, ⟨(show 0 < 1 by decide), (show sr_in (nI k) 16 by assumption)⟩, (show (nI k).toNatClampNeg < 16 by assumption), trivial, ⟨(show (nI k).toNatClampNeg < 16 by assumption), (show sr_in 1 9 by decide)⟩, trivial, trivial, trivial, trivial, (show 0 < 1 by decide), trivial, ⟨(show 0 < 1 by decide), (show sr_in (nI k) 16 by assumption)⟩, (show (nI k).toNatClampNeg < 16 by assumption), trivial, trivial, trivial, trivial, (show 0 < 1 by decide), trivial, ⟨(show 0 < 1 by decide), (show sr_in (nI k) 16 by assumption)⟩, (show (nI k).toNatClampNeg < 16 by assumption), trivial, trivial, trivial, trivial, trivial⟩ ?_
      try simp only [hck] at h1
      try simp only [hck]
      simp only [f_CT_hasDanglingNeed, if_neg h1, nI_succ] at w
      exact w
  · skip
    refine sr_many 4 (t := (bif decide ((μ.1 2 0 1) ≤ (nI ((μ.1 2 0 1).toNatClampNeg))) then 77 else 19, [some (.inr (.inr (2, 0))), some (.inl ch), some (.inl ((sr_it (f_CT_hasDanglingNeed μ ch) (0, 0, 0) ((μ.1 2 0 1).toNatClampNeg)).1)), some (.inl ((sr_it (f_CT_hasDanglingNeed μ ch) (0, 0, 0) ((μ.1 2 0 1).toNatClampNeg)).2.1)), some (.inl ((sr_it (f_CT_hasDanglingNeed μ ch) (0, 0, 0) ((μ.1 2 0 1).toNatClampNeg)).2.2)), some (.inl (nI ((μ.1 2 0 1).toNatClampNeg)))], [], μ)) rfl ⟨trivial, trivial, (show 0 < 1 by decide), trivial, trivial⟩ ?_
    refine sr_brd (fun _ => ?_) (fun h => absurd (by exact sr_cnt_le q1) h)
    refine sr_many 6 (t := (bif decide (¬ (((sr_it (f_CT_hasDanglingNeed μ ch) (0, 0, 0) ((μ.1 2 0 1).toNatClampNeg)).2.1) &&& (ch ^^^ (-1 : Int32))) = 0) then 94 else 85, [some (.inr (.inr (2, 0))), some (.inl ch), some (.inl ((sr_it (f_CT_hasDanglingNeed μ ch) (0, 0, 0) ((μ.1 2 0 1).toNatClampNeg)).1)), some (.inl ((sr_it (f_CT_hasDanglingNeed μ ch) (0, 0, 0) ((μ.1 2 0 1).toNatClampNeg)).2.1)), some (.inl ((sr_it (f_CT_hasDanglingNeed μ ch) (0, 0, 0) ((μ.1 2 0 1).toNatClampNeg)).2.2)), some (.inl (nI ((μ.1 2 0 1).toNatClampNeg)))], [], μ)) rfl ⟨trivial, trivial, trivial, trivial, trivial, trivial, trivial⟩ ?_
    refine sr_brd (fun h1 => ?_) (fun h1 => ?_)
    · refine sr_many 2 (t := (99, [some (.inr (.inr (2, 0))), some (.inl ch), some (.inl ((sr_it (f_CT_hasDanglingNeed μ ch) (0, 0, 0) ((μ.1 2 0 1).toNatClampNeg)).1)), some (.inl ((sr_it (f_CT_hasDanglingNeed μ ch) (0, 0, 0) ((μ.1 2 0 1).toNatClampNeg)).2.1)), some (.inl ((sr_it (f_CT_hasDanglingNeed μ ch) (0, 0, 0) ((μ.1 2 0 1).toNatClampNeg)).2.2)), some (.inl (nI ((μ.1 2 0 1).toNatClampNeg)))], [.inl 1], μ)) rfl ⟨trivial, trivial, trivial⟩ ?_
      exact sr_ret rfl rfl rfl (Or.inr rfl) (by simp only [v_CT_hasDanglingNeed, if_pos h1])
    · refine sr_many 6 (t := (bif decide ((((sr_it (f_CT_hasDanglingNeed μ ch) (0, 0, 0) ((μ.1 2 0 1).toNatClampNeg)).2.2) &&& (((sr_it (f_CT_hasDanglingNeed μ ch) (0, 0, 0) ((μ.1 2 0 1).toNatClampNeg)).1) ^^^ (-1 : Int32))) = 0) then 98 else 94, [some (.inr (.inr (2, 0))), some (.inl ch), some (.inl ((sr_it (f_CT_hasDanglingNeed μ ch) (0, 0, 0) ((μ.1 2 0 1).toNatClampNeg)).1)), some (.inl ((sr_it (f_CT_hasDanglingNeed μ ch) (0, 0, 0) ((μ.1 2 0 1).toNatClampNeg)).2.1)), some (.inl ((sr_it (f_CT_hasDanglingNeed μ ch) (0, 0, 0) ((μ.1 2 0 1).toNatClampNeg)).2.2)), some (.inl (nI ((μ.1 2 0 1).toNatClampNeg)))], [], μ)) rfl ⟨trivial, trivial, trivial, trivial, trivial, trivial, trivial⟩ ?_
      refine sr_brd (fun h2 => ?_) (fun h2 => ?_)
      · refine sr_many 1 (t := (99, [some (.inr (.inr (2, 0))), some (.inl ch), some (.inl ((sr_it (f_CT_hasDanglingNeed μ ch) (0, 0, 0) ((μ.1 2 0 1).toNatClampNeg)).1)), some (.inl ((sr_it (f_CT_hasDanglingNeed μ ch) (0, 0, 0) ((μ.1 2 0 1).toNatClampNeg)).2.1)), some (.inl ((sr_it (f_CT_hasDanglingNeed μ ch) (0, 0, 0) ((μ.1 2 0 1).toNatClampNeg)).2.2)), some (.inl (nI ((μ.1 2 0 1).toNatClampNeg)))], [.inl 0], μ)) rfl ⟨trivial, trivial⟩ ?_
        exact sr_ret rfl rfl rfl (Or.inl rfl) (by simp only [v_CT_hasDanglingNeed, if_neg h1, if_pos h2])
      · refine sr_many 2 (t := (99, [some (.inr (.inr (2, 0))), some (.inl ch), some (.inl ((sr_it (f_CT_hasDanglingNeed μ ch) (0, 0, 0) ((μ.1 2 0 1).toNatClampNeg)).1)), some (.inl ((sr_it (f_CT_hasDanglingNeed μ ch) (0, 0, 0) ((μ.1 2 0 1).toNatClampNeg)).2.1)), some (.inl ((sr_it (f_CT_hasDanglingNeed μ ch) (0, 0, 0) ((μ.1 2 0 1).toNatClampNeg)).2.2)), some (.inl (nI ((μ.1 2 0 1).toNatClampNeg)))], [.inl 1], μ)) rfl ⟨trivial, trivial, trivial⟩ ?_
        exact sr_ret rfl rfl rfl (Or.inr rfl) (by simp only [v_CT_hasDanglingNeed, if_neg h1, if_neg h2])
def f_CT_forgetRuns (μ : sr_M)   : Nat → sr_M → sr_M := fun k a => (sr_seti a 6 (k) 4 0)
def m_CT_forgetRuns (μ : sr_M)  : sr_M := (sr_it (f_CT_forgetRuns μ) μ ((μ.1 2 0 3).toNatClampNeg))
def q_CT_forgetRuns (μ : sr_M)  : Prop := sr_cnt (μ.1 2 0 3) 8
def p_CT_forgetRuns : sr_F := fun vs μ => match vs with
  | [.inr (.inr (2, 0))] => some (q_CT_forgetRuns μ , none, m_CT_forgetRuns μ )
  | _ => none
def e_CT_forgetRuns : sr_E := (sr_SC, sr_KS, (fun k => ([(19, 2, 2), (47, 2, 3), (81, 4, 4)] : List (Nat × Nat × Nat)).lookup k, fun _ => none, fun _ => none, fun _ => none, fun _ => none), sr_cd cd_CT_forgetRuns, none)
set_option maxRecDepth 10000 in
theorem a_CT_forgetRuns (μ : sr_M)  (hq : q_CT_forgetRuns μ ) : sr_AW e_CT_forgetRuns (fun r => r = (none, m_CT_forgetRuns μ )) (sr_entry 2 [.inr (.inr (2, 0))] μ) := by
  have q1 : sr_cnt (μ.1 2 0 3) 8 := hq
  refine sr_many 2 (t := (2, [some (.inr (.inr (2, 0))), some (.inl 0)], [], μ)) rfl ⟨trivial, trivial, trivial⟩ ?_
  refine sr_forI (α := sr_M) (fun k a => (2, [some (.inr (.inr (2, 0))), some (.inl (nI k))], [], a)) (f_CT_forgetRuns μ) (fun k a => a.1 2 0 3 = μ.1 2 0 3 ∧ True) μ ((μ.1 2 0 3).toNatClampNeg) ⟨rfl, trivial⟩ (fun k hk a h => by unfold f_CT_forgetRuns; simp only [sr_seti]; (repeat' split) <;> simp_all) (fun k hk a hIk w => ?_) (fun hIk => ?_)
  · have hbk : k < 8 := sr_cnt_lt q1 hk
    have hck : (nI k).toNatClampNeg = k := sr_clN 8 hbk (by decide)
    have hink : sr_in (nI k) 8 := sr_inN 8 hbk (by decide)
    have hcbk : (nI k).toNatClampNeg < 8 := by rw [hck]; exact hbk
    refine sr_many 4 (t := (bif decide ((a.1 2 0 3) ≤ (nI k)) then 26 else 10, [some (.inr (.inr (2, 0))), some (.inl (nI k))], [], a)) rfl ⟨trivial, trivial, (show 0 < 1 by decide), trivial, trivial⟩ ?_
    refine sr_brd (fun h => absurd h (by rw [(hIk).1]; exact sr_cnt_nlt q1 (by decide) hk)) (fun _ => ?_)
    refine sr_many 8 (t := (2, [some (.inr (.inr (2, 0))), some (.inl ((nI k) + 1))], [], (sr_seti a 6 ((nI k).toNatClampNeg) 4 0))) rfl ⟨trivial, (show 0 < 1 by decide), trivial, ⟨(show 0 < 1 by decide), (show sr_in (nI k) 8 by assumption)⟩, trivial, (show (nI k).toNatClampNeg < 8 by assumption), trivial, trivial, trivial⟩ ?_
    try simp only [hck]
    simp only [f_CT_forgetRuns, nI_succ] at w
    exact w
  · skip
    refine sr_many 4 (t := (bif decide (((sr_it (f_CT_forgetRuns μ) μ ((μ.1 2 0 3).toNatClampNeg)).1 2 0 3) ≤ (nI ((μ.1 2 0 3).toNatClampNeg))) then 26 else 10, [some (.inr (.inr (2, 0))), some (.inl (nI ((μ.1 2 0 3).toNatClampNeg)))], [], (sr_it (f_CT_forgetRuns μ) μ ((μ.1 2 0 3).toNatClampNeg)))) rfl ⟨trivial, trivial, (show 0 < 1 by decide), trivial, trivial⟩ ?_
    refine sr_brd (fun _ => ?_) (fun h => absurd (by rw [(hIk).1]; exact sr_cnt_le q1) h)
    exact sr_ret rfl rfl rfl trivial rfl
def v_CT_addMethod (μ : sr_M) (cls : Int32) (nm : Int64) : Int32 := if ¬ (μ.1 2 0 1) = 16 then (((μ.1 2 0 1) + (1 : Int32)) - (1 : Int32)) else (-1)
def m_CT_addMethod (μ : sr_M) (cls : Int32) (nm : Int64) : sr_M := if ¬ (μ.1 2 0 1) = 16 then (sr_seti (sr_setl (sr_seti μ 3 ((μ.1 2 0 1).toNatClampNeg) 0 cls) 3 ((μ.1 2 0 1).toNatClampNeg) 1 nm) 2 0 1 ((μ.1 2 0 1) + (1 : Int32))) else μ
def q_CT_addMethod (μ : sr_M) (cls : Int32) (nm : Int64) : Prop := sr_cnt (μ.1 2 0 1) 16
def p_CT_addMethod : sr_F := fun vs μ => match vs with
  | [.inr (.inr (2, 0)), .inl cls, .inr (.inl nm)] => some (q_CT_addMethod μ cls nm, some (.inl (v_CT_addMethod μ cls nm)), m_CT_addMethod μ cls nm)
  | _ => none
def e_CT_addMethod : sr_E := (sr_SC, sr_KS, (fun k => ([(11, 2, 0), (32, 2, 1), (40, 3, 0), (43, 3, 1)] : List (Nat × Nat × Nat)).lookup k, fun _ => none, fun _ => none, fun _ => none, fun _ => none), sr_cd cd_CT_addMethod, some .int)
set_option maxRecDepth 10000 in
theorem a_CT_addMethod (μ : sr_M) (cls : Int32) (nm : Int64) (hq : q_CT_addMethod μ cls nm) : sr_AW e_CT_addMethod (fun r => r = (some (.inl (v_CT_addMethod μ cls nm)), m_CT_addMethod μ cls nm)) (sr_entry 5 [.inr (.inr (2, 0)), .inl cls, .inr (.inl nm)] μ) := by
  have q1 : sr_cnt (μ.1 2 0 1) 16 := hq
  refine sr_many 4 (t := (bif decide (¬ (μ.1 2 0 1) = 16) then 11 else 9, [some (.inr (.inr (2, 0))), some (.inl cls), some (.inr (.inl nm)), none, none], [], μ)) rfl ⟨trivial, (show 0 < 1 by decide), trivial, trivial, trivial⟩ ?_
  refine sr_brd (fun h1 => ?_) (fun h1 => ?_)
  · refine sr_many 22 (t := (50, [some (.inr (.inr (2, 0))), some (.inl cls), some (.inr (.inl nm)), none, some (.inr (.inr (3, (μ.1 2 0 1).toNatClampNeg)))], [.inl (((μ.1 2 0 1) + (1 : Int32)) - (1 : Int32))], (sr_seti (sr_setl (sr_seti μ 3 ((μ.1 2 0 1).toNatClampNeg) 0 cls) 3 ((μ.1 2 0 1).toNatClampNeg) 1 nm) 2 0 1 ((μ.1 2 0 1) + (1 : Int32))))) rfl ⟨trivial, (show 0 < 1 by decide), trivial, (show 0 < 1 by decide), ⟨(show 0 < 1 by decide), (show sr_in (μ.1 2 0 1) 16 by first | exact sr_cnt_in q1 h1 | exact sr_in_lt (sr_cnt_in q1 h1))⟩, trivial, trivial, trivial, (show (μ.1 2 0 1).toNatClampNeg < 16 by first | exact sr_cnt_in q1 h1 | exact sr_in_lt (sr_cnt_in q1 h1)), trivial, trivial, (show (μ.1 2 0 1).toNatClampNeg < 16 by first | exact sr_cnt_in q1 h1 | exact sr_in_lt (sr_cnt_in q1 h1)), trivial, trivial, (show 0 < 1 by decide), trivial, trivial, (show 0 < 1 by decide), trivial, (show 0 < 1 by decide), trivial, trivial, trivial⟩ ?_
    exact sr_ret rfl rfl rfl trivial (by simp only [v_CT_addMethod, m_CT_addMethod, if_pos h1])
  · refine sr_many 1 (t := (10, [some (.inr (.inr (2, 0))), some (.inl cls), some (.inr (.inl nm)), none, none], [.inl (-1)], μ)) rfl ⟨trivial, trivial⟩ ?_
    exact sr_ret rfl rfl rfl trivial (by simp only [v_CT_addMethod, m_CT_addMethod, if_neg h1])
def v_CT_addConfiguration (μ : sr_M) (lev : Int32) (bef : Int32) (cls : Int32) (beh : Int32) : Int32 := if ¬ (μ.1 2 0 3) = 8 then (((μ.1 2 0 3) + (1 : Int32)) - (1 : Int32)) else (-1)
def m_CT_addConfiguration (μ : sr_M) (lev : Int32) (bef : Int32) (cls : Int32) (beh : Int32) : sr_M := if ¬ (μ.1 2 0 3) = 8 then (sr_seti (sr_seti (sr_seti (sr_seti (sr_seti μ 6 ((μ.1 2 0 3).toNatClampNeg) 0 lev) 6 ((μ.1 2 0 3).toNatClampNeg) 1 bef) 6 ((μ.1 2 0 3).toNatClampNeg) 2 cls) 6 ((μ.1 2 0 3).toNatClampNeg) 3 beh) 2 0 3 ((μ.1 2 0 3) + (1 : Int32))) else μ
def q_CT_addConfiguration (μ : sr_M) (lev : Int32) (bef : Int32) (cls : Int32) (beh : Int32) : Prop := sr_cnt (μ.1 2 0 3) 8 ∧ (bef = 0 ∨ bef = 1)
def p_CT_addConfiguration : sr_F := fun vs μ => match vs with
  | [.inr (.inr (2, 0)), .inl lev, .inl bef, .inl cls, .inl beh] => some (q_CT_addConfiguration μ lev bef cls beh, some (.inl (v_CT_addConfiguration μ lev bef cls beh)), m_CT_addConfiguration μ lev bef cls beh)
  | _ => none
def e_CT_addConfiguration : sr_E := (sr_SC, sr_KS, (fun k => ([(19, 2, 2), (47, 2, 3), (50, 4, 0), (53, 4, 1), (57, 4, 2), (58, 4, 3)] : List (Nat × Nat × Nat)).lookup k, fun _ => none, fun _ => none, fun _ => none, fun _ => none), sr_cd cd_CT_addConfiguration, some .int)
set_option maxRecDepth 10000 in
theorem a_CT_addConfiguration (μ : sr_M) (lev : Int32) (bef : Int32) (cls : Int32) (beh : Int32) (hq : q_CT_addConfiguration μ lev bef cls beh) : sr_AW e_CT_addConfiguration (fun r => r = (some (.inl (v_CT_addConfiguration μ lev bef cls beh)), m_CT_addConfiguration μ lev bef cls beh)) (sr_entry 6 [.inr (.inr (2, 0)), .inl lev, .inl bef, .inl cls, .inl beh] μ) := by
  obtain ⟨q1, q2⟩ : sr_cnt (μ.1 2 0 3) 8 ∧ (bef = 0 ∨ bef = 1) := hq
  refine sr_many 4 (t := (bif decide (¬ (μ.1 2 0 3) = 8) then 11 else 9, [some (.inr (.inr (2, 0))), some (.inl lev), some (.inl bef), some (.inl cls), some (.inl beh), none], [], μ)) rfl ⟨trivial, (show 0 < 1 by decide), trivial, trivial, trivial⟩ ?_
  refine sr_brd (fun h1 => ?_) (fun h1 => ?_)
  · refine sr_many 28 (t := (63, [some (.inr (.inr (2, 0))), some (.inl lev), some (.inl bef), some (.inl cls), some (.inl beh), some (.inr (.inr (6, (μ.1 2 0 3).toNatClampNeg)))], [.inl (((μ.1 2 0 3) + (1 : Int32)) - (1 : Int32))], (sr_seti (sr_seti (sr_seti (sr_seti (sr_seti μ 6 ((μ.1 2 0 3).toNatClampNeg) 0 lev) 6 ((μ.1 2 0 3).toNatClampNeg) 1 bef) 6 ((μ.1 2 0 3).toNatClampNeg) 2 cls) 6 ((μ.1 2 0 3).toNatClampNeg) 3 beh) 2 0 3 ((μ.1 2 0 3) + (1 : Int32))))) rfl ⟨trivial, (show 0 < 1 by decide), trivial, (show 0 < 1 by decide), ⟨(show 0 < 1 by decide), (show sr_in (μ.1 2 0 3) 8 by first | assumption | exact sr_cnt_in q1 h1 | exact sr_in_lt (sr_cnt_in q1 h1))⟩, trivial, trivial, trivial, (show (μ.1 2 0 3).toNatClampNeg < 8 by first | assumption | exact sr_cnt_in q1 h1 | exact sr_in_lt (sr_cnt_in q1 h1)), trivial, trivial, ⟨(show (μ.1 2 0 3).toNatClampNeg < 8 by first | assumption | exact sr_cnt_in q1 h1 | exact sr_in_lt (sr_cnt_in q1 h1)), (show bef = 0 ∨ bef = 1 by first | assumption | exact sr_cnt_in q1 h1 | exact sr_in_lt (sr_cnt_in q1 h1))⟩, trivial, trivial, (show (μ.1 2 0 3).toNatClampNeg < 8 by first | assumption | exact sr_cnt_in q1 h1 | exact sr_in_lt (sr_cnt_in q1 h1)), trivial, trivial, (show (μ.1 2 0 3).toNatClampNeg < 8 by first | assumption | exact sr_cnt_in q1 h1 | exact sr_in_lt (sr_cnt_in q1 h1)), trivial, trivial, (show 0 < 1 by decide), trivial, trivial, (show 0 < 1 by decide), trivial, (show 0 < 1 by decide), trivial, trivial, trivial⟩ ?_
    exact sr_ret rfl rfl rfl trivial (by simp only [v_CT_addConfiguration, m_CT_addConfiguration, if_pos h1])
  · refine sr_many 1 (t := (10, [some (.inr (.inr (2, 0))), some (.inl lev), some (.inl bef), some (.inl cls), some (.inl beh), none], [.inl (-1)], μ)) rfl ⟨trivial, trivial⟩ ?_
    exact sr_ret rfl rfl rfl trivial (by simp only [v_CT_addConfiguration, m_CT_addConfiguration, if_neg h1])
def v_CT_rowsFor (μ : sr_M) (j : Nat) : Int32 := if (v_SR_isWithin (μ.1 4 j 4) 4) = 0 then 1 else (μ.1 8 0 ((μ.1 4 j 4).toNatClampNeg))
def q_CT_rowsFor (μ : sr_M) (j : Nat) : Prop := j < 16
def p_CT_rowsFor : sr_F := fun vs μ => match vs with
  | [.inr (.inr (2, 0)), .inr (.inr (3, j))] => some (q_CT_rowsFor μ j, some (.inl (v_CT_rowsFor μ j)), μ)
  | _ => none
def e_CT_rowsFor : sr_E := (sr_SC, sr_KS, (fun k => ([(23, 2, 4), (61, 3, 2)] : List (Nat × Nat × Nat)).lookup k, fun _ => none, fun _ => none, fun _ => none, fun k => ([(36, 0, 2, p_SR_isWithin)] : List (Nat × Nat × Nat × sr_F)).lookup k), sr_cd cd_CT_rowsFor, some .int)
set_option maxRecDepth 10000 in
theorem a_CT_rowsFor (μ : sr_M) (j : Nat) (hq : q_CT_rowsFor μ j) : sr_AW e_CT_rowsFor (fun r => r = (some (.inl (v_CT_rowsFor μ j)), μ)) (sr_entry 3 [.inr (.inr (2, 0)), .inr (.inr (3, j))] μ) := by
  have q1 : j < 16 := hq
  refine sr_many 9 (t := (bif decide ((v_SR_isWithin (μ.1 4 j 4) 4) = 0) then 24 else 15, [some (.inr (.inr (2, 0))), some (.inr (.inr (3, j))), some (.inl (μ.1 4 j 4))], [], μ)) rfl ⟨trivial, (show j < 16 by first | assumption | exact sr_within 4 (by decide) h1), trivial, ⟨(show j < 16 by first | assumption | exact sr_within 4 (by decide) h1), (show sr_in 4 9 by decide)⟩, trivial, trivial, trivial, trivial, trivial, trivial⟩ ?_
  refine sr_brd (fun h1 => ?_) (fun h1 => ?_)
  · refine sr_many 1 (t := (25, [some (.inr (.inr (2, 0))), some (.inr (.inr (3, j))), some (.inl (μ.1 4 j 4))], [.inl 1], μ)) rfl ⟨trivial, trivial⟩ ?_
    exact sr_ret rfl rfl rfl trivial (by simp only [v_CT_rowsFor, if_pos h1])
  · refine sr_many 5 (t := (25, [some (.inr (.inr (2, 0))), some (.inr (.inr (3, j))), some (.inl (μ.1 4 j 4))], [.inl (μ.1 8 0 ((μ.1 4 j 4).toNatClampNeg))], μ)) rfl ⟨trivial, (show 0 < 1 by decide), trivial, ⟨(show 0 < 1 by decide), (show sr_in (μ.1 4 j 4) 4 by first | assumption | exact sr_within 4 (by decide) h1)⟩, trivial, trivial⟩ ?_
    exact sr_ret rfl rfl rfl trivial (by simp only [v_CT_rowsFor, if_neg h1])
