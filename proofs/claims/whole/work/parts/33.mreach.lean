/-! the reference: reach, the public methods that read or declare -/
theorem sr_sw8 {x : Int32} {tg : Nat} {d : Int} {offs : Array Int} {pc : Nat} (h0 : ¬ x = 0) (h1 : ¬ x = 1) (h2 : ¬ x = 2) (h3 : ¬ x = 3) (h4 : ¬ x = 4) (h5 : ¬ x = 5) (h6 : ¬ x = 6) (h7 : ¬ x = 7) (e : sr_tgt pc d = tg := by decide) : sr_tgt pc (sr_swt d 0 7 offs x.toInt) = tg := by
  rw [show sr_swt d 0 7 offs x.toInt = d from if_pos ?_]
  · exact e
  · have n0 := lv_neT (a := 0) h0 rfl
    have n1 := lv_neT (a := 1) h1 rfl
    have n2 := lv_neT (a := 2) h2 rfl
    have n3 := lv_neT (a := 3) h3 rfl
    have n4 := lv_neT (a := 4) h4 rfl
    have n5 := lv_neT (a := 5) h5 rfl
    have n6 := lv_neT (a := 6) h6 rfl
    have n7 := lv_neT (a := 7) h7 rfl
    omega
def f_MO_reach_21 (μ : sr_M) (frm : Int32) (ch : Int32) (k : Nat) (a : Int32 × Int32) : Nat → Int32 → Int32 := fun k2 a2 => if ¬ ((a.2 >>> ((nI k2) &&& 31)) &&& (1 : Int32)) = 1 then a2 else (if ¬ ((ch >>> ((nI k2) &&& 31)) &&& (1 : Int32)) = 1 then a2 else (a2 ||| (v_MO_needsOf μ (nI k2) ch)))
def f_MO_reach_8 (μ : sr_M) (frm : Int32) (ch : Int32)  : Nat → (Int32 × Int32) → Int32 × Int32 := fun k a => (a.1 ||| (sr_it (f_MO_reach_21 μ frm ch k a) 0 ((μ.1 20 0 0).toNatClampNeg)), (sr_it (f_MO_reach_21 μ frm ch k a) 0 ((μ.1 20 0 0).toNatClampNeg)))
def v_MO_reach (μ : sr_M) (frm : Int32) (ch : Int32) : Int32 := (sr_it (f_MO_reach_8 μ frm ch) (0, frm) 17).1
def q_MO_reach (μ : sr_M) (frm : Int32) (ch : Int32) : Prop := True ∧ sr_cnt (μ.1 20 0 0) 16
def p_MO_reach : sr_F := fun vs μ => match vs with
  | [.inr (.inr (20, 0)), .inl frm, .inl ch] => some (q_MO_reach μ frm ch, some (.inl (v_MO_reach μ frm ch)), μ)
  | _ => none
def e_MO_reach : sr_E := (sr_SM, sr_KS, (fun k => ([(92, 10, 0)] : List (Nat × Nat × Nat)).lookup k, fun _ => none, fun _ => none, fun _ => none, fun k => ([(164, 11, 2, p_MO_needsOf)] : List (Nat × Nat × Nat × sr_F)).lookup k), sr_cd cd_MO_reach, some .int)
set_option maxRecDepth 10000 in
theorem a_MO_reach (μ : sr_M) (frm : Int32) (ch : Int32) (hq : q_MO_reach μ frm ch) : sr_AW e_MO_reach (fun r => r = (some (.inl (v_MO_reach μ frm ch)), μ)) (sr_entry 8 [.inr (.inr (20, 0)), .inl frm, .inl ch] μ) := by
  have hq0 := hq
  obtain ⟨q1, q2⟩ : True ∧ sr_cnt (μ.1 20 0 0) 16 := hq
  refine sr_many 6 (t := (8, [some (.inr (.inr (20, 0))), some (.inl frm), some (.inl ch), some (.inl 0), some (.inl frm), some (.inl 0), none, none], [], μ)) rfl ⟨trivial, trivial, trivial, trivial, trivial, trivial, trivial⟩ ?_
  refine sr_forT (α := Int32 × Int32) (fun k a => (8, [some (.inr (.inr (20, 0))), some (.inl frm), some (.inl ch), some (.inl a.1), some (.inl a.2), some (.inl (nI k)), none, none], [], μ)) (f_MO_reach_8 μ frm ch) (0, frm) 17 (fun k hk a w => ?_) ?_
  · have hbk : k < 17 := hk
    have hck : (nI k).toNatClampNeg = k := sr_clN 17 hbk (by decide)
    have hink : sr_in (nI k) 17 := sr_inN 17 hbk (by decide)
    have hcbk : (nI k).toNatClampNeg < 17 := by rw [hck]; exact hbk
    refine sr_many 3 (t := (bif decide (17 ≤ (nI k)) then 84 else 15, [some (.inr (.inr (20, 0))), some (.inl frm), some (.inl ch), some (.inl a.1), some (.inl a.2), some (.inl (nI k)), none, none], [], μ)) rfl ⟨trivial, trivial, trivial, trivial⟩ ?_
    refine sr_brd (fun h => absurd h (show ¬ (17 : Int32) ≤ nI k from nI_ge hk (by decide))) (fun _ => ?_)
    refine sr_many 4 (t := (21, [some (.inr (.inr (20, 0))), some (.inl frm), some (.inl ch), some (.inl a.1), some (.inl a.2), some (.inl (nI k)), some (.inl 0), some (.inl 0)], [], μ)) rfl ⟨trivial, trivial, trivial, trivial, trivial⟩ ?_
    refine sr_forT (α := Int32) (fun k2 a2 => (21, [some (.inr (.inr (20, 0))), some (.inl frm), some (.inl ch), some (.inl a.1), some (.inl a.2), some (.inl (nI k)), some (.inl a2), some (.inl (nI k2))], [], μ)) (f_MO_reach_21 μ frm ch k a) 0 ((μ.1 20 0 0).toNatClampNeg) (fun k2 hk2 a2 w2 => ?_) ?_
    · have hbk2 : k2 < 16 := sr_cnt_lt q2 hk2
      have hck2 : (nI k2).toNatClampNeg = k2 := sr_clN 16 hbk2 (by decide)
      have hink2 : sr_in (nI k2) 16 := sr_inN 16 hbk2 (by decide)
      have hcbk2 : (nI k2).toNatClampNeg < 16 := by rw [hck2]; exact hbk2
      refine sr_many 4 (t := (bif decide ((μ.1 20 0 0) ≤ (nI k2)) then 69 else 30, [some (.inr (.inr (20, 0))), some (.inl frm), some (.inl ch), some (.inl a.1), some (.inl a.2), some (.inl (nI k)), some (.inl a2), some (.inl (nI k2))], [], μ)) rfl ⟨trivial, trivial, (show 0 < 1 by decide), trivial, trivial⟩ ?_
      refine sr_brd (fun h => absurd h (by exact sr_cnt_nlt q2 (by decide) hk2)) (fun _ => ?_)
      refine sr_many 7 (t := (bif decide (¬ ((a.2 >>> ((nI k2) &&& 31)) &&& (1 : Int32)) = 1) then 63 else 41, [some (.inr (.inr (20, 0))), some (.inl frm), some (.inl ch), some (.inl a.1), some (.inl a.2), some (.inl (nI k)), some (.inl a2), some (.inl (nI k2))], [], μ)) rfl ⟨trivial, trivial, trivial, trivial, trivial, trivial, trivial, trivial⟩ ?_
      refine sr_brd (fun h1 => ?_) (fun h1 => ?_)
      · refine sr_many 2 (t := (21, [some (.inr (.inr (20, 0))), some (.inl frm), some (.inl ch), some (.inl a.1), some (.inl a.2), some (.inl (nI k)), some (.inl a2), some (.inl ((nI k2) + 1))], [], μ)) rfl ⟨trivial, trivial, trivial⟩ ?_
        try simp only [hck, hck2] at h1
        try simp only [hck, hck2]
        simp only [f_MO_reach_21, if_pos h1, nI_succ] at w2
        exact w2
      · refine sr_many 7 (t := (bif decide (¬ ((ch >>> ((nI k2) &&& 31)) &&& (1 : Int32)) = 1) then 63 else 51, [some (.inr (.inr (20, 0))), some (.inl frm), some (.inl ch), some (.inl a.1), some (.inl a.2), some (.inl (nI k)), some (.inl a2), some (.inl (nI k2))], [], μ)) rfl ⟨trivial, trivial, trivial, trivial, trivial, trivial, trivial, trivial⟩ ?_
        refine sr_brd (fun h2 => ?_) (fun h2 => ?_)
        · refine sr_many 2 (t := (21, [some (.inr (.inr (20, 0))), some (.inl frm), some (.inl ch), some (.inl a.1), some (.inl a.2), some (.inl (nI k)), some (.inl a2), some (.inl ((nI k2) + 1))], [], μ)) rfl ⟨trivial, trivial, trivial⟩ ?_
          try simp only [hck, hck2] at h1 h2
          try simp only [hck, hck2]
          simp only [f_MO_reach_21, if_neg h1, if_pos h2, nI_succ] at w2
          exact w2
        · refine sr_many 9 (t := (21, [some (.inr (.inr (20, 0))), some (.inl frm), some (.inl ch), some (.inl a.1), some (.inl a.2), some (.inl (nI k)), some (.inl (a2 ||| (v_MO_needsOf μ (nI k2) ch))), some (.inl ((nI k2) + 1))], [], μ)) rfl ⟨trivial, trivial, trivial, trivial, ⟨(show 0 < 1 by decide), ⟨(show sr_in (nI k2) 16 from hink2), (show sr_cnt (μ.1 20 0 0) 16 by assumption)⟩⟩, trivial, trivial, trivial, trivial, trivial⟩ ?_
          try simp only [hck, hck2] at h1 h2
          try simp only [hck, hck2]
          simp only [f_MO_reach_21, if_neg h1, if_neg h2, nI_succ] at w2
          exact w2
    · skip
      refine sr_many 4 (t := (bif decide ((μ.1 20 0 0) ≤ (nI ((μ.1 20 0 0).toNatClampNeg))) then 69 else 30, [some (.inr (.inr (20, 0))), some (.inl frm), some (.inl ch), some (.inl a.1), some (.inl a.2), some (.inl (nI k)), some (.inl (sr_it (f_MO_reach_21 μ frm ch k a) 0 ((μ.1 20 0 0).toNatClampNeg))), some (.inl (nI ((μ.1 20 0 0).toNatClampNeg)))], [], μ)) rfl ⟨trivial, trivial, (show 0 < 1 by decide), trivial, trivial⟩ ?_
      refine sr_brd (fun _ => ?_) (fun h => absurd (by exact sr_cnt_le q2) h)
      refine sr_many 8 (t := (8, [some (.inr (.inr (20, 0))), some (.inl frm), some (.inl ch), some (.inl (a.1 ||| (sr_it (f_MO_reach_21 μ frm ch k a) 0 ((μ.1 20 0 0).toNatClampNeg)))), some (.inl (sr_it (f_MO_reach_21 μ frm ch k a) 0 ((μ.1 20 0 0).toNatClampNeg))), some (.inl ((nI k) + 1)), some (.inl (sr_it (f_MO_reach_21 μ frm ch k a) 0 ((μ.1 20 0 0).toNatClampNeg))), some (.inl (nI ((μ.1 20 0 0).toNatClampNeg)))], [], μ)) rfl ⟨trivial, trivial, trivial, trivial, trivial, trivial, trivial, trivial, trivial⟩ ?_
      try simp only [hck]
      refine sr_forget [some (.inr (.inr (20, 0))), some (.inl frm), some (.inl ch), some (.inl (a.1 ||| (sr_it (f_MO_reach_21 μ frm ch k a) 0 ((μ.1 20 0 0).toNatClampNeg)))), some (.inl (sr_it (f_MO_reach_21 μ frm ch k a) 0 ((μ.1 20 0 0).toNatClampNeg))), some (.inl ((nI k) + 1)), none, none] (by simp [sr_sub]) ?_
      simp only [f_MO_reach_8, nI_succ] at w
      exact w
  · skip
    refine sr_many 3 (t := (bif decide (17 ≤ (nI 17)) then 84 else 15, [some (.inr (.inr (20, 0))), some (.inl frm), some (.inl ch), some (.inl ((sr_it (f_MO_reach_8 μ frm ch) (0, frm) 17).1)), some (.inl ((sr_it (f_MO_reach_8 μ frm ch) (0, frm) 17).2)), some (.inl (nI 17)), none, none], [], μ)) rfl ⟨trivial, trivial, trivial, trivial⟩ ?_
    refine sr_brd (fun _ => ?_) (fun h => absurd (show (17 : Int32) ≤ nI 17 by decide) h)
    refine sr_many 1 (t := (85, [some (.inr (.inr (20, 0))), some (.inl frm), some (.inl ch), some (.inl ((sr_it (f_MO_reach_8 μ frm ch) (0, frm) 17).1)), some (.inl ((sr_it (f_MO_reach_8 μ frm ch) (0, frm) 17).2)), some (.inl (nI 17)), none, none], [.inl ((sr_it (f_MO_reach_8 μ frm ch) (0, frm) 17).1)], μ)) rfl ⟨trivial, trivial⟩ ?_
    exact sr_ret rfl rfl rfl trivial rfl
def f_MO_circle (μ : sr_M)   : Nat → Int32 → Int32 := fun k a => if ¬ (((v_MO_selected μ) >>> ((nI k) &&& 31)) &&& (1 : Int32)) = 1 then (if ¬ (((0 : Int32) >>> ((nI k) &&& 31)) &&& (1 : Int32)) = 1 then a else (a ||| ((1 : Int32) <<< ((nI k) &&& 31)))) else (if ¬ (((v_MO_reach μ ((1 : Int32) <<< ((nI k) &&& 31)) (v_MO_selected μ)) >>> ((nI k) &&& 31)) &&& (1 : Int32)) = 1 then a else (a ||| ((1 : Int32) <<< ((nI k) &&& 31))))
def v_MO_circle (μ : sr_M)  : Int32 := (sr_it (f_MO_circle μ) 0 ((μ.1 20 0 0).toNatClampNeg))
def q_MO_circle (μ : sr_M)  : Prop := sr_cnt (μ.1 20 0 0) 16 ∧ sr_cnt (μ.1 32 0 0) 12 ∧ sr_cnt (μ.1 32 0 1) 12
def p_MO_circle : sr_F := fun vs μ => match vs with
  | [.inr (.inr (20, 0))] => some (q_MO_circle μ , some (.inl (v_MO_circle μ )), μ)
  | _ => none
def e_MO_circle : sr_E := (sr_SM, sr_KS, (fun k => ([(92, 10, 0)] : List (Nat × Nat × Nat)).lookup k, fun _ => none, fun _ => none, fun _ => none, fun k => ([(160, 11, 0, p_MO_selected), (167, 11, 2, p_MO_reach)] : List (Nat × Nat × Nat × sr_F)).lookup k), sr_cd cd_MO_circle, some .int)
set_option maxRecDepth 10000 in
theorem a_MO_circle (μ : sr_M)  (hq : q_MO_circle μ ) : sr_AW e_MO_circle (fun r => r = (some (.inl (v_MO_circle μ )), μ)) (sr_entry 5 [.inr (.inr (20, 0))] μ) := by
  have hq0 := hq
  obtain ⟨q1, q2, q3⟩ : sr_cnt (μ.1 20 0 0) 16 ∧ sr_cnt (μ.1 32 0 0) 12 ∧ sr_cnt (μ.1 32 0 1) 12 := hq
  refine sr_many 7 (t := (9, [some (.inr (.inr (20, 0))), some (.inl (v_MO_selected μ)), some (.inl 0), some (.inl 0), none], [], μ)) rfl ⟨trivial, ⟨(show 0 < 1 by decide), ⟨(show sr_cnt (μ.1 20 0 0) 16 by assumption), (show sr_cnt (μ.1 32 0 0) 12 by assumption), (show sr_cnt (μ.1 32 0 1) 12 by assumption)⟩⟩, trivial, trivial, trivial, trivial, trivial, trivial⟩ ?_
  refine sr_forT (α := Int32) (fun k a => (9, [some (.inr (.inr (20, 0))), some (.inl (v_MO_selected μ)), some (.inl a), some (.inl (nI k)), none], [], μ)) (f_MO_circle μ) 0 ((μ.1 20 0 0).toNatClampNeg) (fun k hk a w => ?_) ?_
  · have hbk : k < 16 := sr_cnt_lt q1 hk
    have hck : (nI k).toNatClampNeg = k := sr_clN 16 hbk (by decide)
    have hink : sr_in (nI k) 16 := sr_inN 16 hbk (by decide)
    have hcbk : (nI k).toNatClampNeg < 16 := by rw [hck]; exact hbk
    refine sr_many 4 (t := (bif decide ((μ.1 20 0 0) ≤ (nI k)) then 66 else 17, [some (.inr (.inr (20, 0))), some (.inl (v_MO_selected μ)), some (.inl a), some (.inl (nI k)), none], [], μ)) rfl ⟨trivial, trivial, (show 0 < 1 by decide), trivial, trivial⟩ ?_
    refine sr_brd (fun h => absurd h (by exact sr_cnt_nlt q1 (by decide) hk)) (fun _ => ?_)
    refine sr_many 7 (t := (bif decide (¬ (((v_MO_selected μ) >>> ((nI k) &&& 31)) &&& (1 : Int32)) = 1) then 37 else 26, [some (.inr (.inr (20, 0))), some (.inl (v_MO_selected μ)), some (.inl a), some (.inl (nI k)), none], [], μ)) rfl ⟨trivial, trivial, trivial, trivial, trivial, trivial, trivial, trivial⟩ ?_
    refine sr_brd (fun h1 => ?_) (fun h1 => ?_)
    · refine sr_many 9 (t := (bif decide (¬ (((0 : Int32) >>> ((nI k) &&& 31)) &&& (1 : Int32)) = 1) then 58 else 50, [some (.inr (.inr (20, 0))), some (.inl (v_MO_selected μ)), some (.inl a), some (.inl (nI k)), some (.inl 0)], [], μ)) rfl ⟨trivial, trivial, trivial, trivial, trivial, trivial, trivial, trivial, trivial, trivial⟩ ?_
      refine sr_brd (fun h2 => ?_) (fun h2 => ?_)
      · refine sr_many 4 (t := (9, [some (.inr (.inr (20, 0))), some (.inl (v_MO_selected μ)), some (.inl a), some (.inl ((nI k) + 1)), some (.inl 0)], [], μ)) rfl ⟨trivial, trivial, trivial, trivial, trivial⟩ ?_
        try simp only [hck] at h1 h2
        try simp only [hck]
        refine sr_forget [some (.inr (.inr (20, 0))), some (.inl (v_MO_selected μ)), some (.inl a), some (.inl ((nI k) + 1)), none] (by simp [sr_sub]) ?_
        simp only [f_MO_circle, if_pos h1, if_pos h2, nI_succ] at w
        exact w
      · refine sr_many 9 (t := (9, [some (.inr (.inr (20, 0))), some (.inl (v_MO_selected μ)), some (.inl (a ||| ((1 : Int32) <<< ((nI k) &&& 31)))), some (.inl ((nI k) + 1)), some (.inl 0)], [], μ)) rfl ⟨trivial, trivial, trivial, trivial, trivial, trivial, trivial, trivial, trivial, trivial⟩ ?_
        try simp only [hck] at h1 h2
        try simp only [hck]
        refine sr_forget [some (.inr (.inr (20, 0))), some (.inl (v_MO_selected μ)), some (.inl (a ||| ((1 : Int32) <<< ((nI k) &&& 31)))), some (.inl ((nI k) + 1)), none] (by simp [sr_sub]) ?_
        simp only [f_MO_circle, if_pos h1, if_neg h2, nI_succ] at w
        exact w
    · refine sr_many 15 (t := (bif decide (¬ (((v_MO_reach μ ((1 : Int32) <<< ((nI k) &&& 31)) (v_MO_selected μ)) >>> ((nI k) &&& 31)) &&& (1 : Int32)) = 1) then 58 else 50, [some (.inr (.inr (20, 0))), some (.inl (v_MO_selected μ)), some (.inl a), some (.inl (nI k)), some (.inl (v_MO_reach μ ((1 : Int32) <<< ((nI k) &&& 31)) (v_MO_selected μ)))], [], μ)) rfl ⟨trivial, trivial, trivial, trivial, trivial, ⟨(show 0 < 1 by decide), ⟨(show True from trivial), (show sr_cnt (μ.1 20 0 0) 16 by assumption)⟩⟩, trivial, trivial, trivial, trivial, trivial, trivial, trivial, trivial, trivial, trivial⟩ ?_
      refine sr_brd (fun h2 => ?_) (fun h2 => ?_)
      · refine sr_many 4 (t := (9, [some (.inr (.inr (20, 0))), some (.inl (v_MO_selected μ)), some (.inl a), some (.inl ((nI k) + 1)), some (.inl (v_MO_reach μ ((1 : Int32) <<< ((nI k) &&& 31)) (v_MO_selected μ)))], [], μ)) rfl ⟨trivial, trivial, trivial, trivial, trivial⟩ ?_
        try simp only [hck] at h1 h2
        try simp only [hck]
        refine sr_forget [some (.inr (.inr (20, 0))), some (.inl (v_MO_selected μ)), some (.inl a), some (.inl ((nI k) + 1)), none] (by simp [sr_sub]) ?_
        simp only [f_MO_circle, if_neg h1, if_pos h2, nI_succ] at w
        exact w
      · refine sr_many 9 (t := (9, [some (.inr (.inr (20, 0))), some (.inl (v_MO_selected μ)), some (.inl (a ||| ((1 : Int32) <<< ((nI k) &&& 31)))), some (.inl ((nI k) + 1)), some (.inl (v_MO_reach μ ((1 : Int32) <<< ((nI k) &&& 31)) (v_MO_selected μ)))], [], μ)) rfl ⟨trivial, trivial, trivial, trivial, trivial, trivial, trivial, trivial, trivial, trivial⟩ ?_
        try simp only [hck] at h1 h2
        try simp only [hck]
        refine sr_forget [some (.inr (.inr (20, 0))), some (.inl (v_MO_selected μ)), some (.inl (a ||| ((1 : Int32) <<< ((nI k) &&& 31)))), some (.inl ((nI k) + 1)), none] (by simp [sr_sub]) ?_
        simp only [f_MO_circle, if_neg h1, if_neg h2, nI_succ] at w
        exact w
  · skip
    refine sr_many 4 (t := (bif decide ((μ.1 20 0 0) ≤ (nI ((μ.1 20 0 0).toNatClampNeg))) then 66 else 17, [some (.inr (.inr (20, 0))), some (.inl (v_MO_selected μ)), some (.inl (sr_it (f_MO_circle μ) 0 ((μ.1 20 0 0).toNatClampNeg))), some (.inl (nI ((μ.1 20 0 0).toNatClampNeg))), none], [], μ)) rfl ⟨trivial, trivial, (show 0 < 1 by decide), trivial, trivial⟩ ?_
    refine sr_brd (fun _ => ?_) (fun h => absurd (by exact sr_cnt_le q1) h)
    refine sr_many 1 (t := (67, [some (.inr (.inr (20, 0))), some (.inl (v_MO_selected μ)), some (.inl (sr_it (f_MO_circle μ) 0 ((μ.1 20 0 0).toNatClampNeg))), some (.inl (nI ((μ.1 20 0 0).toNatClampNeg))), none], [.inl (sr_it (f_MO_circle μ) 0 ((μ.1 20 0 0).toNatClampNeg))], μ)) rfl ⟨trivial, trivial⟩ ?_
    exact sr_ret rfl rfl rfl trivial rfl
def v_MO_fits (w : Int32) (v : Int32) : Int32 := if w = 0 then (v_MO_in v (-9) 9) else (if w = 1 then (v_MO_in v 0 63) else (if w = 2 then (v_MO_in v 0 1) else (if w = 3 then (v_MO_in v 1 4) else (if w = 4 then (v_MO_in v (-1) 3) else (if w = 5 then (v_MO_in v 1 9) else (if w = 6 then (v_MO_in v 0 3) else (if w = 7 then (v_MO_in v 1 100) else (if ¬ w = 8 then 0 else 1))))))))
def p_MO_fits : sr_F := fun vs μ => match vs with
  | [.inl w, .inl v] => some (True, some (.inl (v_MO_fits w v)), μ)
  | _ => none
def e_MO_fits : sr_E := (sr_SM, sr_KS, (fun _ => none, fun _ => none, fun _ => none, fun _ => none, fun k => ([(95, 0, 3, p_MO_in)] : List (Nat × Nat × Nat × sr_F)).lookup k), sr_cd cd_MO_fits, some .boolean)
theorem b_MO_fits (w : Int32) (v : Int32) : v_MO_fits w v = 0 ∨ v_MO_fits w v = 1 := by
  unfold v_MO_fits
  repeat' split
  all_goals first | exact Or.inl rfl | exact Or.inr rfl | exact (b_MO_in _ _ _) | exact (b_MO_in _ _ _) | exact (b_MO_in _ _ _) | exact (b_MO_in _ _ _) | exact (b_MO_in _ _ _) | exact (b_MO_in _ _ _) | exact (b_MO_in _ _ _) | exact (b_MO_in _ _ _)
set_option maxRecDepth 10000 in
theorem a_MO_fits (μ : sr_M) (w : Int32) (v : Int32) : sr_AW e_MO_fits (fun r => r = (some (.inl (v_MO_fits w v)), μ)) (sr_entry 2 [.inl w, .inl v] μ) := by
  refine sr_many 1 (t := (1, [some (.inl w), some (.inl v)], [.inl w], μ)) rfl ⟨trivial, trivial⟩ ?_
  refine sr_many 1 (t := (sr_tgt 1 (sr_swt 108 0 7 #[47, 56, 64, 71, 78, 85, 93, 100] (w).toInt), [some (.inl w), some (.inl v)], [], μ)) rfl ⟨trivial, trivial⟩ ?_
  by_cases h1 : w = 0
  · refine sr_at (pc' := 48) (by rw [h1]; decide) ?_
    refine sr_many 4 (t := (56, [some (.inl w), some (.inl v)], [.inl (v_MO_in v (-9) 9)], μ)) rfl ⟨trivial, trivial, trivial, trivial, trivial⟩ ?_
    exact sr_ret rfl rfl rfl (b_MO_in _ _ _) (by simp only [v_MO_fits, if_pos h1])
  · by_cases h2 : w = 1
    · refine sr_at (pc' := 57) (by rw [h2]; decide) ?_
      refine sr_many 4 (t := (64, [some (.inl w), some (.inl v)], [.inl (v_MO_in v 0 63)], μ)) rfl ⟨trivial, trivial, trivial, trivial, trivial⟩ ?_
      exact sr_ret rfl rfl rfl (b_MO_in _ _ _) (by simp only [v_MO_fits, if_neg h1, if_pos h2])
    · by_cases h3 : w = 2
      · refine sr_at (pc' := 65) (by rw [h3]; decide) ?_
        refine sr_many 4 (t := (71, [some (.inl w), some (.inl v)], [.inl (v_MO_in v 0 1)], μ)) rfl ⟨trivial, trivial, trivial, trivial, trivial⟩ ?_
        exact sr_ret rfl rfl rfl (b_MO_in _ _ _) (by simp only [v_MO_fits, if_neg h1, if_neg h2, if_pos h3])
      · by_cases h4 : w = 3
        · refine sr_at (pc' := 72) (by rw [h4]; decide) ?_
          refine sr_many 4 (t := (78, [some (.inl w), some (.inl v)], [.inl (v_MO_in v 1 4)], μ)) rfl ⟨trivial, trivial, trivial, trivial, trivial⟩ ?_
          exact sr_ret rfl rfl rfl (b_MO_in _ _ _) (by simp only [v_MO_fits, if_neg h1, if_neg h2, if_neg h3, if_pos h4])
        · by_cases h5 : w = 4
          · refine sr_at (pc' := 79) (by rw [h5]; decide) ?_
            refine sr_many 4 (t := (85, [some (.inl w), some (.inl v)], [.inl (v_MO_in v (-1) 3)], μ)) rfl ⟨trivial, trivial, trivial, trivial, trivial⟩ ?_
            exact sr_ret rfl rfl rfl (b_MO_in _ _ _) (by simp only [v_MO_fits, if_neg h1, if_neg h2, if_neg h3, if_neg h4, if_pos h5])
          · by_cases h6 : w = 5
            · refine sr_at (pc' := 86) (by rw [h6]; decide) ?_
              refine sr_many 4 (t := (93, [some (.inl w), some (.inl v)], [.inl (v_MO_in v 1 9)], μ)) rfl ⟨trivial, trivial, trivial, trivial, trivial⟩ ?_
              exact sr_ret rfl rfl rfl (b_MO_in _ _ _) (by simp only [v_MO_fits, if_neg h1, if_neg h2, if_neg h3, if_neg h4, if_neg h5, if_pos h6])
            · by_cases h7 : w = 6
              · refine sr_at (pc' := 94) (by rw [h7]; decide) ?_
                refine sr_many 4 (t := (100, [some (.inl w), some (.inl v)], [.inl (v_MO_in v 0 3)], μ)) rfl ⟨trivial, trivial, trivial, trivial, trivial⟩ ?_
                exact sr_ret rfl rfl rfl (b_MO_in _ _ _) (by simp only [v_MO_fits, if_neg h1, if_neg h2, if_neg h3, if_neg h4, if_neg h5, if_neg h6, if_pos h7])
              · by_cases h8 : w = 7
                · refine sr_at (pc' := 101) (by rw [h8]; decide) ?_
                  refine sr_many 4 (t := (108, [some (.inl w), some (.inl v)], [.inl (v_MO_in v 1 100)], μ)) rfl ⟨trivial, trivial, trivial, trivial, trivial⟩ ?_
                  exact sr_ret rfl rfl rfl (b_MO_in _ _ _) (by simp only [v_MO_fits, if_neg h1, if_neg h2, if_neg h3, if_neg h4, if_neg h5, if_neg h6, if_neg h7, if_pos h8])
                · refine sr_at (pc' := 109) (sr_sw8 h1 h2 h3 h4 h5 h6 h7 h8) ?_
                  refine sr_many 3 (t := (bif decide (¬ w = 8) then 119 else 115, [some (.inl w), some (.inl v)], [], μ)) rfl ⟨trivial, trivial, trivial, trivial⟩ ?_
                  refine sr_brd (fun h9 => ?_) (fun h9 => ?_)
                  · refine sr_many 1 (t := (120, [some (.inl w), some (.inl v)], [.inl 0], μ)) rfl ⟨trivial, trivial⟩ ?_
                    exact sr_ret rfl rfl rfl (Or.inl rfl) (by simp only [v_MO_fits, if_neg h1, if_neg h2, if_neg h3, if_neg h4, if_neg h5, if_neg h6, if_neg h7, if_neg h8, if_pos h9])
                  · refine sr_many 2 (t := (120, [some (.inl w), some (.inl v)], [.inl 1], μ)) rfl ⟨trivial, trivial, trivial⟩ ?_
                    exact sr_ret rfl rfl rfl (Or.inr rfl) (by simp only [v_MO_fits, if_neg h1, if_neg h2, if_neg h3, if_neg h4, if_neg h5, if_neg h6, if_neg h7, if_neg h8, if_neg h9])
theorem sr_mfits {w v : Int32} (h : ¬ v_MO_fits w v = 0) : sr_in w 9 := by
  unfold v_MO_fits at h
  by_cases e0 : w = 0
  · subst e0; decide
  by_cases e1 : w = 1
  · subst e1; decide
  by_cases e2 : w = 2
  · subst e2; decide
  by_cases e3 : w = 3
  · subst e3; decide
  by_cases e4 : w = 4
  · subst e4; decide
  by_cases e5 : w = 5
  · subst e5; decide
  by_cases e6 : w = 6
  · subst e6; decide
  by_cases e7 : w = 7
  · subst e7; decide
  simp only [if_neg e0, if_neg e1, if_neg e2, if_neg e3, if_neg e4, if_neg e5, if_neg e6, if_neg e7] at h
  by_cases e8 : w = 8
  · subst e8; decide
  · simp [e8] at h
theorem sr_is9w {m w : Int32} (h : sr_in m 16) (hw : sr_in w 9) : sr_in ((9 : Int32) * m + w) 144 := by
  obtain ⟨t, ht, rfl⟩ := vp_in_of hw (by decide)
  exact sr_is9 h t ht
def v_MO_trait (μ : sr_M) (m : Int32) (w : Int32) (v : Int32) : Int32 := if ¬ (μ.1 20 0 23) = 0 then 0 else (if (v_MO_isMethod μ m) = 0 then 0 else (if ¬ (v_MO_fits w v) = 0 then 1 else 0))
def m_MO_trait (μ : sr_M) (m : Int32) (w : Int32) (v : Int32) : sr_M := if ¬ (μ.1 20 0 23) = 0 then μ else (if (v_MO_isMethod μ m) = 0 then μ else (if ¬ (v_MO_fits w v) = 0 then (sr_seti μ 23 0 ((((9 : Int32) * m) + w).toNatClampNeg) v) else μ))
def q_MO_trait (μ : sr_M) (m : Int32) (w : Int32) (v : Int32) : Prop := sr_cnt (μ.1 20 0 0) 16
def p_MO_trait : sr_F := fun vs μ => match vs with
  | [.inr (.inr (20, 0)), .inl m, .inl w, .inl v] => some (q_MO_trait μ m w v, some (.inl (v_MO_trait μ m w v)), m_MO_trait μ m w v)
  | _ => none
def e_MO_trait : sr_E := (sr_SM, sr_KS, (fun k => ([(17, 10, 3), (103, 10, 23)] : List (Nat × Nat × Nat)).lookup k, fun _ => none, fun _ => none, fun _ => none, fun k => ([(110, 11, 1, p_MO_isMethod), (114, 0, 2, p_MO_fits)] : List (Nat × Nat × Nat × sr_F)).lookup k), sr_cd cd_MO_trait, some .boolean)
theorem b_MO_trait (μ : sr_M) (m : Int32) (w : Int32) (v : Int32) : v_MO_trait μ m w v = 0 ∨ v_MO_trait μ m w v = 1 := by
  unfold v_MO_trait
  repeat' split
  all_goals first | exact Or.inl rfl | exact Or.inr rfl | exact Or.inl rfl
set_option maxRecDepth 10000 in
theorem a_MO_trait (μ : sr_M) (m : Int32) (w : Int32) (v : Int32) (hq : q_MO_trait μ m w v) : sr_AW e_MO_trait (fun r => r = (some (.inl (v_MO_trait μ m w v)), m_MO_trait μ m w v)) (sr_entry 4 [.inr (.inr (20, 0)), .inl m, .inl w, .inl v] μ) := by
  have q1 : sr_cnt (μ.1 20 0 0) 16 := hq
  refine sr_many 3 (t := (bif decide (¬ (μ.1 20 0 23) = 0) then 23 else 7, [some (.inr (.inr (20, 0))), some (.inl m), some (.inl w), some (.inl v)], [], μ)) rfl ⟨trivial, (show 0 < 1 by decide), trivial, trivial⟩ ?_
  refine sr_brd (fun h1 => ?_) (fun h1 => ?_)
  · refine sr_many 1 (t := (24, [some (.inr (.inr (20, 0))), some (.inl m), some (.inl w), some (.inl v)], [.inl 0], μ)) rfl ⟨trivial, trivial⟩ ?_
    exact sr_ret rfl rfl rfl (Or.inl rfl) (by simp only [v_MO_trait, m_MO_trait, if_pos h1])
  · refine sr_many 4 (t := (bif decide ((v_MO_isMethod μ m) = 0) then 23 else 15, [some (.inr (.inr (20, 0))), some (.inl m), some (.inl w), some (.inl v)], [], μ)) rfl ⟨trivial, trivial, ⟨(show 0 < 1 by decide), trivial⟩, trivial, trivial⟩ ?_
    refine sr_brd (fun h2 => ?_) (fun h2 => ?_)
    · refine sr_many 1 (t := (24, [some (.inr (.inr (20, 0))), some (.inl m), some (.inl w), some (.inl v)], [.inl 0], μ)) rfl ⟨trivial, trivial⟩ ?_
      exact sr_ret rfl rfl rfl (Or.inl rfl) (by simp only [v_MO_trait, m_MO_trait, if_neg h1, if_pos h2])
    · refine sr_many 4 (t := (bif decide (¬ (v_MO_fits w v) = 0) then 25 else 23, [some (.inr (.inr (20, 0))), some (.inl m), some (.inl w), some (.inl v)], [], μ)) rfl ⟨trivial, trivial, trivial, trivial, trivial⟩ ?_
      refine sr_brd (fun h3 => ?_) (fun h3 => ?_)
      · refine sr_many 10 (t := (38, [some (.inr (.inr (20, 0))), some (.inl m), some (.inl w), some (.inl v)], [.inl 1], (sr_seti μ 23 0 ((((9 : Int32) * m) + w).toNatClampNeg) v))) rfl ⟨trivial, (show 0 < 1 by decide), trivial, trivial, trivial, trivial, trivial, trivial, ⟨(show 0 < 1 by decide), (show sr_in (((9 : Int32) * m) + w) 144 from sr_is9w (sr_mhas q1 h2) (sr_mfits h3))⟩, trivial, trivial⟩ ?_
        exact sr_ret rfl rfl rfl (Or.inr rfl) (by simp only [v_MO_trait, m_MO_trait, if_neg h1, if_neg h2, if_pos h3])
      · refine sr_many 1 (t := (24, [some (.inr (.inr (20, 0))), some (.inl m), some (.inl w), some (.inl v)], [.inl 0], μ)) rfl ⟨trivial, trivial⟩ ?_
        exact sr_ret rfl rfl rfl (Or.inl rfl) (by simp only [v_MO_trait, m_MO_trait, if_neg h1, if_neg h2, if_neg h3])
def v_MO_method (μ : sr_M) (cls : Int32) (nm : Int64) : Int32 := if ¬ (μ.1 20 0 23) = 0 then (-1) else (if (v_MO_in cls 0 3) = 0 then (-1) else (if (v_MO_isName nm) = 0 then (-1) else (if ¬ (μ.1 20 0 0) = 16 then (μ.1 20 0 0) else (-1))))
def m_MO_method (μ : sr_M) (cls : Int32) (nm : Int64) : sr_M := if ¬ (μ.1 20 0 23) = 0 then μ else (if (v_MO_in cls 0 3) = 0 then μ else (if (v_MO_isName nm) = 0 then μ else (if ¬ (μ.1 20 0 0) = 16 then (sr_seti (sr_seti (sr_seti (sr_seti (sr_seti (sr_setl (sr_seti μ 21 0 ((μ.1 20 0 0).toNatClampNeg) cls) 22 0 ((μ.1 20 0 0).toNatClampNeg) nm) 23 0 ((((9 : Int32) * (μ.1 20 0 0)) + (3 : Int32)).toNatClampNeg) 1) 23 0 ((((9 : Int32) * (μ.1 20 0 0)) + (4 : Int32)).toNatClampNeg) (-1)) 23 0 ((((9 : Int32) * (μ.1 20 0 0)) + (5 : Int32)).toNatClampNeg) 1) 23 0 ((((9 : Int32) * (μ.1 20 0 0)) + (7 : Int32)).toNatClampNeg) 100) 20 0 0 ((μ.1 20 0 0) + (1 : Int32))) else μ)))
def q_MO_method (μ : sr_M) (cls : Int32) (nm : Int64) : Prop := sr_cnt (μ.1 20 0 0) 16
def p_MO_method : sr_F := fun vs μ => match vs with
  | [.inr (.inr (20, 0)), .inl cls, .inr (.inl nm)] => some (q_MO_method μ cls nm, some (.inl (v_MO_method μ cls nm)), m_MO_method μ cls nm)
  | _ => none
def e_MO_method : sr_E := (sr_SM, sr_KS, (fun k => ([(7, 10, 1), (13, 10, 2), (17, 10, 3), (92, 10, 0), (103, 10, 23)] : List (Nat × Nat × Nat)).lookup k, fun _ => none, fun _ => none, fun _ => none, fun k => ([(95, 0, 3, p_MO_in), (106, 0, 1, p_MO_isName)] : List (Nat × Nat × Nat × sr_F)).lookup k), sr_cd cd_MO_method, some .int)
set_option maxRecDepth 10000 in
theorem a_MO_method (μ : sr_M) (cls : Int32) (nm : Int64) (hq : q_MO_method μ cls nm) : sr_AW e_MO_method (fun r => r = (some (.inl (v_MO_method μ cls nm)), m_MO_method μ cls nm)) (sr_entry 5 [.inr (.inr (20, 0)), .inl cls, .inr (.inl nm)] μ) := by
  have q1 : sr_cnt (μ.1 20 0 0) 16 := hq
  refine sr_many 3 (t := (bif decide (¬ (μ.1 20 0 23) = 0) then 32 else 7, [some (.inr (.inr (20, 0))), some (.inl cls), some (.inr (.inl nm)), none, none], [], μ)) rfl ⟨trivial, (show 0 < 1 by decide), trivial, trivial⟩ ?_
  refine sr_brd (fun h1 => ?_) (fun h1 => ?_)
  · refine sr_many 1 (t := (33, [some (.inr (.inr (20, 0))), some (.inl cls), some (.inr (.inl nm)), none, none], [.inl (-1)], μ)) rfl ⟨trivial, trivial⟩ ?_
    exact sr_ret rfl rfl rfl trivial (by simp only [v_MO_method, m_MO_method, if_pos h1])
  · refine sr_many 5 (t := (bif decide ((v_MO_in cls 0 3) = 0) then 32 else 16, [some (.inr (.inr (20, 0))), some (.inl cls), some (.inr (.inl nm)), none, none], [], μ)) rfl ⟨trivial, trivial, trivial, trivial, trivial, trivial⟩ ?_
    refine sr_brd (fun h2 => ?_) (fun h2 => ?_)
    · refine sr_many 1 (t := (33, [some (.inr (.inr (20, 0))), some (.inl cls), some (.inr (.inl nm)), none, none], [.inl (-1)], μ)) rfl ⟨trivial, trivial⟩ ?_
      exact sr_ret rfl rfl rfl trivial (by simp only [v_MO_method, m_MO_method, if_neg h1, if_pos h2])
    · refine sr_many 3 (t := (bif decide ((v_MO_isName nm) = 0) then 32 else 23, [some (.inr (.inr (20, 0))), some (.inl cls), some (.inr (.inl nm)), none, none], [], μ)) rfl ⟨trivial, trivial, trivial, trivial⟩ ?_
      refine sr_brd (fun h3 => ?_) (fun h3 => ?_)
      · refine sr_many 1 (t := (33, [some (.inr (.inr (20, 0))), some (.inl cls), some (.inr (.inl nm)), none, none], [.inl (-1)], μ)) rfl ⟨trivial, trivial⟩ ?_
        exact sr_ret rfl rfl rfl trivial (by simp only [v_MO_method, m_MO_method, if_neg h1, if_neg h2, if_pos h3])
      · refine sr_many 4 (t := (bif decide (¬ (μ.1 20 0 0) = 16) then 34 else 32, [some (.inr (.inr (20, 0))), some (.inl cls), some (.inr (.inl nm)), none, none], [], μ)) rfl ⟨trivial, (show 0 < 1 by decide), trivial, trivial, trivial⟩ ?_
        refine sr_brd (fun h4 => ?_) (fun h4 => ?_)
        · refine sr_many 56 (t := (122, [some (.inr (.inr (20, 0))), some (.inl cls), some (.inr (.inl nm)), none, some (.inl (μ.1 20 0 0))], [.inl (μ.1 20 0 0)], (sr_seti (sr_seti (sr_seti (sr_seti (sr_seti (sr_setl (sr_seti μ 21 0 ((μ.1 20 0 0).toNatClampNeg) cls) 22 0 ((μ.1 20 0 0).toNatClampNeg) nm) 23 0 ((((9 : Int32) * (μ.1 20 0 0)) + (3 : Int32)).toNatClampNeg) 1) 23 0 ((((9 : Int32) * (μ.1 20 0 0)) + (4 : Int32)).toNatClampNeg) (-1)) 23 0 ((((9 : Int32) * (μ.1 20 0 0)) + (5 : Int32)).toNatClampNeg) 1) 23 0 ((((9 : Int32) * (μ.1 20 0 0)) + (7 : Int32)).toNatClampNeg) 100) 20 0 0 ((μ.1 20 0 0) + (1 : Int32))))) rfl ⟨trivial, (show 0 < 1 by decide), trivial, trivial, (show 0 < 1 by decide), trivial, trivial, ⟨(show 0 < 1 by decide), (show sr_in (μ.1 20 0 0) 16 from sr_cnt_in q1 h4)⟩, trivial, (show 0 < 1 by decide), trivial, trivial, ⟨(show 0 < 1 by decide), (show sr_in (μ.1 20 0 0) 16 from sr_cnt_in q1 h4)⟩, trivial, (show 0 < 1 by decide), trivial, trivial, trivial, trivial, trivial, trivial, ⟨(show 0 < 1 by decide), (show sr_in (((9 : Int32) * (μ.1 20 0 0)) + (3 : Int32)) 144 from sr_is9 (sr_cnt_in q1 h4) 3 (by decide))⟩, trivial, (show 0 < 1 by decide), trivial, trivial, trivial, trivial, trivial, trivial, ⟨(show 0 < 1 by decide), (show sr_in (((9 : Int32) * (μ.1 20 0 0)) + (4 : Int32)) 144 from sr_is9 (sr_cnt_in q1 h4) 4 (by decide))⟩, trivial, (show 0 < 1 by decide), trivial, trivial, trivial, trivial, trivial, trivial, ⟨(show 0 < 1 by decide), (show sr_in (((9 : Int32) * (μ.1 20 0 0)) + (5 : Int32)) 144 from sr_is9 (sr_cnt_in q1 h4) 5 (by decide))⟩, trivial, (show 0 < 1 by decide), trivial, trivial, trivial, trivial, trivial, trivial, ⟨(show 0 < 1 by decide), (show sr_in (((9 : Int32) * (μ.1 20 0 0)) + (7 : Int32)) 144 from sr_is9 (sr_cnt_in q1 h4) 7 (by decide))⟩, trivial, trivial, (show 0 < 1 by decide), trivial, trivial, (show 0 < 1 by decide), trivial, trivial⟩ ?_
          exact sr_ret rfl rfl rfl trivial (by simp only [v_MO_method, m_MO_method, if_neg h1, if_neg h2, if_neg h3, if_pos h4])
        · refine sr_many 1 (t := (33, [some (.inr (.inr (20, 0))), some (.inl cls), some (.inr (.inl nm)), none, none], [.inl (-1)], μ)) rfl ⟨trivial, trivial⟩ ?_
          exact sr_ret rfl rfl rfl trivial (by simp only [v_MO_method, m_MO_method, if_neg h1, if_neg h2, if_neg h3, if_neg h4])
def v_MO_configuration (μ : sr_M) (lev : Int32) (bef : Int32) (cls : Int32) (beh : Int32) : Int32 := if ¬ (μ.1 20 0 23) = 0 then (-1) else (if (v_MO_in lev 0 2) = 0 then (-1) else (if (v_MO_in cls 0 3) = 0 then (-1) else (if ¬ (μ.1 20 0 7) = 8 then (((μ.1 20 0 7) + (1 : Int32)) - (1 : Int32)) else (-1))))
def m_MO_configuration (μ : sr_M) (lev : Int32) (bef : Int32) (cls : Int32) (beh : Int32) : sr_M := if ¬ (μ.1 20 0 23) = 0 then μ else (if (v_MO_in lev 0 2) = 0 then μ else (if (v_MO_in cls 0 3) = 0 then μ else (if ¬ (μ.1 20 0 7) = 8 then (sr_seti (sr_seti (sr_seti (sr_seti (sr_seti μ 27 0 ((μ.1 20 0 7).toNatClampNeg) lev) 28 0 ((μ.1 20 0 7).toNatClampNeg) (vp_nar .boolean bef)) 29 0 ((μ.1 20 0 7).toNatClampNeg) cls) 30 0 ((μ.1 20 0 7).toNatClampNeg) beh) 20 0 7 ((μ.1 20 0 7) + (1 : Int32))) else μ)))
def q_MO_configuration (μ : sr_M) (lev : Int32) (bef : Int32) (cls : Int32) (beh : Int32) : Prop := sr_cnt (μ.1 20 0 7) 8
def p_MO_configuration : sr_F := fun vs μ => match vs with
  | [.inr (.inr (20, 0)), .inl lev, .inl bef, .inl cls, .inl beh] => some (q_MO_configuration μ lev bef cls beh, some (.inl (v_MO_configuration μ lev bef cls beh)), m_MO_configuration μ lev bef cls beh)
  | _ => none
def e_MO_configuration : sr_E := (sr_SM, sr_KS, (fun k => ([(29, 10, 8), (32, 10, 9), (36, 10, 10), (39, 10, 11), (103, 10, 23), (118, 10, 7)] : List (Nat × Nat × Nat)).lookup k, fun _ => none, fun _ => none, fun _ => none, fun k => ([(95, 0, 3, p_MO_in)] : List (Nat × Nat × Nat × sr_F)).lookup k), sr_cd cd_MO_configuration, some .int)
set_option maxRecDepth 10000 in
theorem a_MO_configuration (μ : sr_M) (lev : Int32) (bef : Int32) (cls : Int32) (beh : Int32) (hq : q_MO_configuration μ lev bef cls beh) : sr_AW e_MO_configuration (fun r => r = (some (.inl (v_MO_configuration μ lev bef cls beh)), m_MO_configuration μ lev bef cls beh)) (sr_entry 5 [.inr (.inr (20, 0)), .inl lev, .inl bef, .inl cls, .inl beh] μ) := by
  have q1 : sr_cnt (μ.1 20 0 7) 8 := hq
  refine sr_many 3 (t := (bif decide (¬ (μ.1 20 0 23) = 0) then 34 else 7, [some (.inr (.inr (20, 0))), some (.inl lev), some (.inl bef), some (.inl cls), some (.inl beh)], [], μ)) rfl ⟨trivial, (show 0 < 1 by decide), trivial, trivial⟩ ?_
  refine sr_brd (fun h1 => ?_) (fun h1 => ?_)
  · refine sr_many 1 (t := (35, [some (.inr (.inr (20, 0))), some (.inl lev), some (.inl bef), some (.inl cls), some (.inl beh)], [.inl (-1)], μ)) rfl ⟨trivial, trivial⟩ ?_
    exact sr_ret rfl rfl rfl trivial (by simp only [v_MO_configuration, m_MO_configuration, if_pos h1])
  · refine sr_many 5 (t := (bif decide ((v_MO_in lev 0 2) = 0) then 34 else 16, [some (.inr (.inr (20, 0))), some (.inl lev), some (.inl bef), some (.inl cls), some (.inl beh)], [], μ)) rfl ⟨trivial, trivial, trivial, trivial, trivial, trivial⟩ ?_
    refine sr_brd (fun h2 => ?_) (fun h2 => ?_)
    · refine sr_many 1 (t := (35, [some (.inr (.inr (20, 0))), some (.inl lev), some (.inl bef), some (.inl cls), some (.inl beh)], [.inl (-1)], μ)) rfl ⟨trivial, trivial⟩ ?_
      exact sr_ret rfl rfl rfl trivial (by simp only [v_MO_configuration, m_MO_configuration, if_neg h1, if_pos h2])
    · refine sr_many 5 (t := (bif decide ((v_MO_in cls 0 3) = 0) then 34 else 25, [some (.inr (.inr (20, 0))), some (.inl lev), some (.inl bef), some (.inl cls), some (.inl beh)], [], μ)) rfl ⟨trivial, trivial, trivial, trivial, trivial, trivial⟩ ?_
      refine sr_brd (fun h3 => ?_) (fun h3 => ?_)
      · refine sr_many 1 (t := (35, [some (.inr (.inr (20, 0))), some (.inl lev), some (.inl bef), some (.inl cls), some (.inl beh)], [.inl (-1)], μ)) rfl ⟨trivial, trivial⟩ ?_
        exact sr_ret rfl rfl rfl trivial (by simp only [v_MO_configuration, m_MO_configuration, if_neg h1, if_neg h2, if_pos h3])
      · refine sr_many 4 (t := (bif decide (¬ (μ.1 20 0 7) = 8) then 36 else 34, [some (.inr (.inr (20, 0))), some (.inl lev), some (.inl bef), some (.inl cls), some (.inl beh)], [], μ)) rfl ⟨trivial, (show 0 < 1 by decide), trivial, trivial, trivial⟩ ?_
        refine sr_brd (fun h4 => ?_) (fun h4 => ?_)
        · refine sr_many 34 (t := (93, [some (.inr (.inr (20, 0))), some (.inl lev), some (.inl bef), some (.inl cls), some (.inl beh)], [.inl (((μ.1 20 0 7) + (1 : Int32)) - (1 : Int32))], (sr_seti (sr_seti (sr_seti (sr_seti (sr_seti μ 27 0 ((μ.1 20 0 7).toNatClampNeg) lev) 28 0 ((μ.1 20 0 7).toNatClampNeg) (vp_nar .boolean bef)) 29 0 ((μ.1 20 0 7).toNatClampNeg) cls) 30 0 ((μ.1 20 0 7).toNatClampNeg) beh) 20 0 7 ((μ.1 20 0 7) + (1 : Int32))))) rfl ⟨trivial, (show 0 < 1 by decide), trivial, (show 0 < 1 by decide), trivial, ⟨(show 0 < 1 by decide), (show sr_in (μ.1 20 0 7) 8 from sr_cnt_in q1 h4)⟩, trivial, (show 0 < 1 by decide), trivial, (show 0 < 1 by decide), trivial, ⟨(show 0 < 1 by decide), (show sr_in (μ.1 20 0 7) 8 from sr_cnt_in q1 h4)⟩, trivial, (show 0 < 1 by decide), trivial, (show 0 < 1 by decide), trivial, ⟨(show 0 < 1 by decide), (show sr_in (μ.1 20 0 7) 8 from sr_cnt_in q1 h4)⟩, trivial, (show 0 < 1 by decide), trivial, (show 0 < 1 by decide), trivial, ⟨(show 0 < 1 by decide), (show sr_in (μ.1 20 0 7) 8 from sr_cnt_in q1 h4)⟩, trivial, trivial, (show 0 < 1 by decide), trivial, trivial, (show 0 < 1 by decide), trivial, (show 0 < 1 by decide), trivial, trivial, trivial⟩ ?_
          exact sr_ret rfl rfl rfl trivial (by simp only [v_MO_configuration, m_MO_configuration, if_neg h1, if_neg h2, if_neg h3, if_pos h4])
        · refine sr_many 1 (t := (35, [some (.inr (.inr (20, 0))), some (.inl lev), some (.inl bef), some (.inl cls), some (.inl beh)], [.inl (-1)], μ)) rfl ⟨trivial, trivial⟩ ?_
          exact sr_ret rfl rfl rfl trivial (by simp only [v_MO_configuration, m_MO_configuration, if_neg h1, if_neg h2, if_neg h3, if_neg h4])
theorem sr_cts {m w : Int32} (h : sr_in m 16) (h2 : ¬ v_MO_in w 0 6 = 0) (h3 : ¬ w = 0) (h4 : ¬ 5 ≤ w) : sr_in (((4 : Int32) * m + w) - 1) 64 := by
  obtain ⟨k, hk, rfl⟩ := vp_in_of h (by decide)
  obtain ⟨t, ht, rfl⟩ := vp_in_of (sr_min (x := w) 7 (by decide) rfl (by decide) h2) (by decide)
  have h5 : t ≠ 0 := fun e => h3 (by rw [e]; rfl)
  have h6 : t < 5 := by
    have : ¬ nI 5 ≤ nI t := h4
    rw [nI_leI (by decide) (by omega)] at this
    omega
  show sr_in ((nI 4 * nI k + nI t) - 1) 64
  rw [pk_mul, nI_add]
  have e : 4 * k + t = (4 * k + t - 1) + 1 := by omega
  rw [e, nI_pred]
  exact sr_inN 64 (by omega) (by decide)
def v_MO_report (μ : sr_M) (m : Int32) (what : Int32) : Int32 := if (v_MO_isMethod μ m) = 0 then (-1) else (if ¬ (v_MO_in what 0 6) = 0 then (if ¬ what = 0 then (if 5 ≤ what then (if ¬ what = 5 then (μ.1 36 0 m.toNatClampNeg) else (μ.1 35 0 m.toNatClampNeg)) else (μ.1 34 0 (((((4 : Int32) * m) + what) - (1 : Int32)).toNatClampNeg))) else (μ.1 33 0 m.toNatClampNeg)) else (-1))
def q_MO_report (μ : sr_M) (m : Int32) (what : Int32) : Prop := sr_cnt (μ.1 20 0 0) 16
def p_MO_report : sr_F := fun vs μ => match vs with
  | [.inr (.inr (20, 0)), .inl m, .inl what] => some (q_MO_report μ m what, some (.inl (v_MO_report μ m what)), μ)
  | _ => none
def e_MO_report : sr_E := (sr_SM, sr_KS, (fun k => ([(59, 10, 26), (62, 10, 27), (65, 10, 28), (68, 10, 29)] : List (Nat × Nat × Nat)).lookup k, fun _ => none, fun _ => none, fun _ => none, fun k => ([(95, 0, 3, p_MO_in), (110, 11, 1, p_MO_isMethod)] : List (Nat × Nat × Nat × sr_F)).lookup k), sr_cd cd_MO_report, some .int)
set_option maxRecDepth 10000 in
theorem a_MO_report (μ : sr_M) (m : Int32) (what : Int32) (hq : q_MO_report μ m what) : sr_AW e_MO_report (fun r => r = (some (.inl (v_MO_report μ m what)), μ)) (sr_entry 3 [.inr (.inr (20, 0)), .inl m, .inl what] μ) := by
  have q1 : sr_cnt (μ.1 20 0 0) 16 := hq
  refine sr_many 4 (t := (bif decide ((v_MO_isMethod μ m) = 0) then 18 else 8, [some (.inr (.inr (20, 0))), some (.inl m), some (.inl what)], [], μ)) rfl ⟨trivial, trivial, ⟨(show 0 < 1 by decide), trivial⟩, trivial, trivial⟩ ?_
  refine sr_brd (fun h1 => ?_) (fun h1 => ?_)
  · refine sr_many 1 (t := (19, [some (.inr (.inr (20, 0))), some (.inl m), some (.inl what)], [.inl (-1)], μ)) rfl ⟨trivial, trivial⟩ ?_
    exact sr_ret rfl rfl rfl trivial (by simp only [v_MO_report, if_pos h1])
  · refine sr_many 5 (t := (bif decide (¬ (v_MO_in what 0 6) = 0) then 20 else 18, [some (.inr (.inr (20, 0))), some (.inl m), some (.inl what)], [], μ)) rfl ⟨trivial, trivial, trivial, trivial, trivial, trivial⟩ ?_
    refine sr_brd (fun h2 => ?_) (fun h2 => ?_)
    · refine sr_many 2 (t := (bif decide (¬ what = 0) then 33 else 24, [some (.inr (.inr (20, 0))), some (.inl m), some (.inl what)], [], μ)) rfl ⟨trivial, trivial, trivial⟩ ?_
      refine sr_brd (fun h3 => ?_) (fun h3 => ?_)
      · refine sr_many 3 (t := (bif decide (5 ≤ what) then 53 else 38, [some (.inr (.inr (20, 0))), some (.inl m), some (.inl what)], [], μ)) rfl ⟨trivial, trivial, trivial, trivial⟩ ?_
        refine sr_brd (fun h4 => ?_) (fun h4 => ?_)
        · refine sr_many 3 (t := (bif decide (¬ what = 5) then 67 else 58, [some (.inr (.inr (20, 0))), some (.inl m), some (.inl what)], [], μ)) rfl ⟨trivial, trivial, trivial, trivial⟩ ?_
          refine sr_brd (fun h5 => ?_) (fun h5 => ?_)
          · refine sr_many 4 (t := (73, [some (.inr (.inr (20, 0))), some (.inl m), some (.inl what)], [.inl (μ.1 36 0 m.toNatClampNeg)], μ)) rfl ⟨trivial, (show 0 < 1 by decide), trivial, ⟨(show 0 < 1 by decide), (show sr_in m 16 from sr_mhas q1 h1)⟩, trivial⟩ ?_
            exact sr_ret rfl rfl rfl trivial (by simp only [v_MO_report, if_neg h1, if_pos h2, if_pos h3, if_pos h4, if_pos h5])
          · refine sr_many 5 (t := (73, [some (.inr (.inr (20, 0))), some (.inl m), some (.inl what)], [.inl (μ.1 35 0 m.toNatClampNeg)], μ)) rfl ⟨trivial, (show 0 < 1 by decide), trivial, ⟨(show 0 < 1 by decide), (show sr_in m 16 from sr_mhas q1 h1)⟩, trivial, trivial⟩ ?_
            exact sr_ret rfl rfl rfl trivial (by simp only [v_MO_report, if_neg h1, if_pos h2, if_pos h3, if_pos h4, if_neg h5])
        · refine sr_many 11 (t := (73, [some (.inr (.inr (20, 0))), some (.inl m), some (.inl what)], [.inl (μ.1 34 0 (((((4 : Int32) * m) + what) - (1 : Int32)).toNatClampNeg))], μ)) rfl ⟨trivial, (show 0 < 1 by decide), trivial, trivial, trivial, trivial, trivial, trivial, trivial, ⟨(show 0 < 1 by decide), (show sr_in ((((4 : Int32) * m) + what) - (1 : Int32)) 64 from sr_cts (sr_mhas q1 h1) h2 h3 h4)⟩, trivial, trivial⟩ ?_
          exact sr_ret rfl rfl rfl trivial (by simp only [v_MO_report, if_neg h1, if_pos h2, if_pos h3, if_neg h4])
      · refine sr_many 5 (t := (73, [some (.inr (.inr (20, 0))), some (.inl m), some (.inl what)], [.inl (μ.1 33 0 m.toNatClampNeg)], μ)) rfl ⟨trivial, (show 0 < 1 by decide), trivial, ⟨(show 0 < 1 by decide), (show sr_in m 16 from sr_mhas q1 h1)⟩, trivial, trivial⟩ ?_
        exact sr_ret rfl rfl rfl trivial (by simp only [v_MO_report, if_neg h1, if_pos h2, if_neg h3])
    · refine sr_many 1 (t := (19, [some (.inr (.inr (20, 0))), some (.inl m), some (.inl what)], [.inl (-1)], μ)) rfl ⟨trivial, trivial⟩ ?_
      exact sr_ret rfl rfl rfl trivial (by simp only [v_MO_report, if_neg h1, if_neg h2])
theorem sr_wkin {x w : Int32} (q : sr_cnt x 3) (h : ¬ v_MO_in w 0 (x - 1) = 0) : sr_in w 3 := by
  refine sr_min 3 (by decide) rfl ?_ h
  have h2 := q.2
  rw [q.1]
  by_cases e : x.toNatClampNeg = 0
  · rw [e]; decide
  · have e2 : x.toNatClampNeg = x.toNatClampNeg - 1 + 1 := by omega
    rw [e2, nI_pred, nI_toInt (by omega)]
    omega
def v_MO_worker (μ : sr_M) (wo : Int32) : Int32 := if (v_MO_in wo 0 ((μ.1 20 0 18) - (1 : Int32))) = 0 then (-1) else (μ.1 40 0 wo.toNatClampNeg)
def q_MO_worker (μ : sr_M) (wo : Int32) : Prop := sr_cnt (μ.1 20 0 18) 3
def p_MO_worker : sr_F := fun vs μ => match vs with
  | [.inr (.inr (20, 0)), .inl wo] => some (q_MO_worker μ wo, some (.inl (v_MO_worker μ wo)), μ)
  | _ => none
def e_MO_worker : sr_E := (sr_SM, sr_KS, (fun k => ([(52, 10, 18), (80, 10, 35)] : List (Nat × Nat × Nat)).lookup k, fun _ => none, fun _ => none, fun _ => none, fun k => ([(95, 0, 3, p_MO_in)] : List (Nat × Nat × Nat × sr_F)).lookup k), sr_cd cd_MO_worker, some .int)
set_option maxRecDepth 10000 in
theorem a_MO_worker (μ : sr_M) (wo : Int32) (hq : q_MO_worker μ wo) : sr_AW e_MO_worker (fun r => r = (some (.inl (v_MO_worker μ wo)), μ)) (sr_entry 2 [.inr (.inr (20, 0)), .inl wo] μ) := by
  have q1 : sr_cnt (μ.1 20 0 18) 3 := hq
  refine sr_many 8 (t := (bif decide ((v_MO_in wo 0 ((μ.1 20 0 18) - (1 : Int32))) = 0) then 23 else 14, [some (.inr (.inr (20, 0))), some (.inl wo)], [], μ)) rfl ⟨trivial, trivial, trivial, (show 0 < 1 by decide), trivial, trivial, trivial, trivial, trivial⟩ ?_
  refine sr_brd (fun h1 => ?_) (fun h1 => ?_)
  · refine sr_many 1 (t := (24, [some (.inr (.inr (20, 0))), some (.inl wo)], [.inl (-1)], μ)) rfl ⟨trivial, trivial⟩ ?_
    exact sr_ret rfl rfl rfl trivial (by simp only [v_MO_worker, if_pos h1])
  · refine sr_many 5 (t := (24, [some (.inr (.inr (20, 0))), some (.inl wo)], [.inl (μ.1 40 0 wo.toNatClampNeg)], μ)) rfl ⟨trivial, (show 0 < 1 by decide), trivial, ⟨(show 0 < 1 by decide), (show sr_in wo 3 from sr_wkin q1 h1)⟩, trivial, trivial⟩ ?_
    exact sr_ret rfl rfl rfl trivial (by simp only [v_MO_worker, if_neg h1])
def v_MO_event (μ : sr_M) (k : Int32) : Int32 := if ¬ k = (-1) then (if (v_MO_in k 0 63) = 0 then (-1) else (if (μ.1 20 0 38) ≤ k then (-1) else (μ.1 43 0 (((((μ.1 20 0 38) - (1 : Int32)) - k) &&& (63 : Int32)).toNatClampNeg)))) else (μ.1 20 0 38)
def p_MO_event : sr_F := fun vs μ => match vs with
  | [.inr (.inr (20, 0)), .inl k] => some (True, some (.inl (v_MO_event μ k)), μ)
  | _ => none
def e_MO_event : sr_E := (sr_SM, sr_KS, (fun k => ([(89, 10, 39), (170, 10, 38)] : List (Nat × Nat × Nat)).lookup k, fun _ => none, fun _ => none, fun _ => none, fun k => ([(95, 0, 3, p_MO_in)] : List (Nat × Nat × Nat × sr_F)).lookup k), sr_cd cd_MO_event, some .int)
set_option maxRecDepth 10000 in
theorem a_MO_event (μ : sr_M) (k : Int32) : sr_AW e_MO_event (fun r => r = (some (.inl (v_MO_event μ k)), μ)) (sr_entry 2 [.inr (.inr (20, 0)), .inl k] μ) := by
  have qe : ∀ x : Int32, sr_in (x &&& 63) 64 := fun x => pk_andIn _ 6 (by decide) (by decide)
  refine sr_many 3 (t := (bif decide (¬ k = (-1)) then 10 else 5, [some (.inr (.inr (20, 0))), some (.inl k)], [], μ)) rfl ⟨trivial, trivial, trivial, trivial⟩ ?_
  refine sr_brd (fun h1 => ?_) (fun h1 => ?_)
  · refine sr_many 5 (t := (bif decide ((v_MO_in k 0 63) = 0) then 47 else 20, [some (.inr (.inr (20, 0))), some (.inl k)], [], μ)) rfl ⟨trivial, trivial, trivial, trivial, trivial, trivial⟩ ?_
    refine sr_brd (fun h2 => ?_) (fun h2 => ?_)
    · refine sr_many 1 (t := (48, [some (.inr (.inr (20, 0))), some (.inl k)], [.inl (-1)], μ)) rfl ⟨trivial, trivial⟩ ?_
      exact sr_ret rfl rfl rfl trivial (by simp only [v_MO_event, if_pos h1, if_pos h2])
    · refine sr_many 4 (t := (bif decide ((μ.1 20 0 38) ≤ k) then 47 else 28, [some (.inr (.inr (20, 0))), some (.inl k)], [], μ)) rfl ⟨trivial, trivial, (show 0 < 1 by decide), trivial, trivial⟩ ?_
      refine sr_brd (fun h3 => ?_) (fun h3 => ?_)
      · refine sr_many 1 (t := (48, [some (.inr (.inr (20, 0))), some (.inl k)], [.inl (-1)], μ)) rfl ⟨trivial, trivial⟩ ?_
        exact sr_ret rfl rfl rfl trivial (by simp only [v_MO_event, if_pos h1, if_neg h2, if_pos h3])
      · refine sr_many 12 (t := (48, [some (.inr (.inr (20, 0))), some (.inl k)], [.inl (μ.1 43 0 (((((μ.1 20 0 38) - (1 : Int32)) - k) &&& (63 : Int32)).toNatClampNeg))], μ)) rfl ⟨trivial, (show 0 < 1 by decide), trivial, (show 0 < 1 by decide), trivial, trivial, trivial, trivial, trivial, trivial, ⟨(show 0 < 1 by decide), (show sr_in ((((μ.1 20 0 38) - (1 : Int32)) - k) &&& (63 : Int32)) 64 from qe _)⟩, trivial, trivial⟩ ?_
        exact sr_ret rfl rfl rfl trivial (by simp only [v_MO_event, if_pos h1, if_neg h2, if_neg h3])
  · refine sr_many 2 (t := (9, [some (.inr (.inr (20, 0))), some (.inl k)], [.inl (μ.1 20 0 38)], μ)) rfl ⟨trivial, (show 0 < 1 by decide), trivial⟩ ?_
    exact sr_ret rfl rfl rfl trivial (by simp only [v_MO_event, if_neg h1])

def v_MO_result (μ : sr_M) (m : Int32) (j : Int32) : Int32 := if ¬ (((v_MO_is μ m 8) >>> (((3 : Int32) * (j - j / (10 : Int32) * (10 : Int32))) &&& 31)) &&& (7 : Int32)) = 5 then (if (((v_MO_is μ m 8) >>> (((3 : Int32) * (j - j / (10 : Int32) * (10 : Int32))) &&& 31)) &&& (7 : Int32)) = 0 then (if ¬ (v_MO_is μ m 6) = 0 then (if ¬ (((v_MO_is μ m 8) >>> (((3 : Int32) * (j - j / (10 : Int32) * (10 : Int32))) &&& 31)) &&& (7 : Int32)) = ((v_MO_is μ m 6) + (1 : Int32)) then 2 else 1) else 1) else (if (((v_MO_is μ m 8) >>> (((3 : Int32) * (j - j / (10 : Int32) * (10 : Int32))) &&& 31)) &&& (7 : Int32)) ≤ 5 then (if ¬ (v_MO_is μ m 6) = 0 then (if ¬ (((v_MO_is μ m 8) >>> (((3 : Int32) * (j - j / (10 : Int32) * (10 : Int32))) &&& 31)) &&& (7 : Int32)) = ((v_MO_is μ m 6) + (1 : Int32)) then 2 else 1) else 2) else (if ¬ (v_MO_is μ m 6) = 0 then (if ¬ (((v_MO_is μ m 8) >>> (((3 : Int32) * (j - j / (10 : Int32) * (10 : Int32))) &&& 31)) &&& (7 : Int32)) = ((v_MO_is μ m 6) + (1 : Int32)) then 2 else 1) else 1))) else 3
def q_MO_result (μ : sr_M) (m : Int32) (j : Int32) : Prop := sr_in m 16
def p_MO_result : sr_F := fun vs μ => match vs with
  | [.inr (.inr (20, 0)), .inl m, .inl j] => some (q_MO_result μ m j, some (.inl (v_MO_result μ m j)), μ)
  | _ => none
def e_MO_result : sr_E := (sr_SM, sr_KS, (fun _ => none, fun _ => none, fun _ => none, fun _ => none, fun k => ([(149, 11, 2, p_MO_is)] : List (Nat × Nat × Nat × sr_F)).lookup k), sr_cd cd_MO_result, some .int)
set_option maxRecDepth 10000 in
theorem a_MO_result (μ : sr_M) (m : Int32) (j : Int32) (hq : q_MO_result μ m j) : sr_AW e_MO_result (fun r => r = (some (.inl (v_MO_result μ m j)), μ)) (sr_entry 7 [.inr (.inr (20, 0)), .inl m, .inl j] μ) := by
  have q1 : sr_in m 16 := hq
  refine sr_many 21 (t := (bif decide (¬ (((v_MO_is μ m 8) >>> (((3 : Int32) * (j - j / (10 : Int32) * (10 : Int32))) &&& 31)) &&& (7 : Int32)) = 5) then 34 else 32, [some (.inr (.inr (20, 0))), some (.inl m), some (.inl j), some (.inl (((v_MO_is μ m 8) >>> (((3 : Int32) * (j - j / (10 : Int32) * (10 : Int32))) &&& 31)) &&& (7 : Int32))), some (.inl (v_MO_is μ m 6)), none, none], [], μ)) rfl ⟨trivial, trivial, trivial, ⟨(show 0 < 1 by decide), (show sr_in ((9 : Int32) * m + (8 : Int32)) 144 from sr_is9 q1 8 (by decide))⟩, trivial, trivial, trivial, (show ¬ (10 : Int32) = 0 by decide), trivial, trivial, trivial, trivial, trivial, trivial, trivial, trivial, ⟨(show 0 < 1 by decide), (show sr_in ((9 : Int32) * m + (6 : Int32)) 144 from sr_is9 q1 6 (by decide))⟩, trivial, trivial, trivial, trivial, trivial⟩ ?_
  refine sr_brd (fun h1 => ?_) (fun h1 => ?_)
  · refine sr_many 2 (t := (bif decide ((((v_MO_is μ m 8) >>> (((3 : Int32) * (j - j / (10 : Int32) * (10 : Int32))) &&& 31)) &&& (7 : Int32)) = 0) then 43 else 38, [some (.inr (.inr (20, 0))), some (.inl m), some (.inl j), some (.inl (((v_MO_is μ m 8) >>> (((3 : Int32) * (j - j / (10 : Int32) * (10 : Int32))) &&& 31)) &&& (7 : Int32))), some (.inl (v_MO_is μ m 6)), none, none], [], μ)) rfl ⟨trivial, trivial, trivial⟩ ?_
    refine sr_brd (fun h2 => ?_) (fun h2 => ?_)
    · refine sr_many 5 (t := (bif decide (¬ (v_MO_is μ m 6) = 0) then 60 else 55, [some (.inr (.inr (20, 0))), some (.inl m), some (.inl j), some (.inl (((v_MO_is μ m 8) >>> (((3 : Int32) * (j - j / (10 : Int32) * (10 : Int32))) &&& 31)) &&& (7 : Int32))), some (.inl (v_MO_is μ m 6)), some (.inl 1), none], [], μ)) rfl ⟨trivial, trivial, trivial, trivial, trivial, trivial⟩ ?_
      refine sr_brd (fun h3 => ?_) (fun h3 => ?_)
      · refine sr_many 5 (t := (bif decide (¬ (((v_MO_is μ m 8) >>> (((3 : Int32) * (j - j / (10 : Int32) * (10 : Int32))) &&& 31)) &&& (7 : Int32)) = ((v_MO_is μ m 6) + (1 : Int32))) then 72 else 68, [some (.inr (.inr (20, 0))), some (.inl m), some (.inl j), some (.inl (((v_MO_is μ m 8) >>> (((3 : Int32) * (j - j / (10 : Int32) * (10 : Int32))) &&& 31)) &&& (7 : Int32))), some (.inl (v_MO_is μ m 6)), some (.inl 1), none], [], μ)) rfl ⟨trivial, trivial, trivial, trivial, trivial, trivial⟩ ?_
        refine sr_brd (fun h4 => ?_) (fun h4 => ?_)
        · refine sr_many 5 (t := (85, [some (.inr (.inr (20, 0))), some (.inl m), some (.inl j), some (.inl (((v_MO_is μ m 8) >>> (((3 : Int32) * (j - j / (10 : Int32) * (10 : Int32))) &&& 31)) &&& (7 : Int32))), some (.inl (v_MO_is μ m 6)), some (.inl 1), some (.inl 0)], [.inl 2], μ)) rfl ⟨trivial, trivial, trivial, trivial, trivial, trivial⟩ ?_
          exact sr_ret rfl rfl rfl trivial (by simp only [v_MO_result, if_pos h1, if_pos h2, if_pos h3, if_pos h4])
        · refine sr_many 7 (t := (85, [some (.inr (.inr (20, 0))), some (.inl m), some (.inl j), some (.inl (((v_MO_is μ m 8) >>> (((3 : Int32) * (j - j / (10 : Int32) * (10 : Int32))) &&& 31)) &&& (7 : Int32))), some (.inl (v_MO_is μ m 6)), some (.inl 1), some (.inl 1)], [.inl 1], μ)) rfl ⟨trivial, trivial, trivial, trivial, trivial, trivial, trivial, trivial⟩ ?_
          exact sr_ret rfl rfl rfl trivial (by simp only [v_MO_result, if_pos h1, if_pos h2, if_pos h3, if_neg h4])
      · refine sr_many 7 (t := (85, [some (.inr (.inr (20, 0))), some (.inl m), some (.inl j), some (.inl (((v_MO_is μ m 8) >>> (((3 : Int32) * (j - j / (10 : Int32) * (10 : Int32))) &&& 31)) &&& (7 : Int32))), some (.inl (v_MO_is μ m 6)), some (.inl 1), some (.inl 1)], [.inl 1], μ)) rfl ⟨trivial, trivial, trivial, trivial, trivial, trivial, trivial, trivial⟩ ?_
        exact sr_ret rfl rfl rfl trivial (by simp only [v_MO_result, if_pos h1, if_pos h2, if_neg h3])
    · refine sr_many 3 (t := (bif decide ((((v_MO_is μ m 8) >>> (((3 : Int32) * (j - j / (10 : Int32) * (10 : Int32))) &&& 31)) &&& (7 : Int32)) ≤ 5) then 47 else 43, [some (.inr (.inr (20, 0))), some (.inl m), some (.inl j), some (.inl (((v_MO_is μ m 8) >>> (((3 : Int32) * (j - j / (10 : Int32) * (10 : Int32))) &&& 31)) &&& (7 : Int32))), some (.inl (v_MO_is μ m 6)), none, none], [], μ)) rfl ⟨trivial, trivial, trivial, trivial⟩ ?_
      refine sr_brd (fun h3 => ?_) (fun h3 => ?_)
      · refine sr_many 4 (t := (bif decide (¬ (v_MO_is μ m 6) = 0) then 60 else 55, [some (.inr (.inr (20, 0))), some (.inl m), some (.inl j), some (.inl (((v_MO_is μ m 8) >>> (((3 : Int32) * (j - j / (10 : Int32) * (10 : Int32))) &&& 31)) &&& (7 : Int32))), some (.inl (v_MO_is μ m 6)), some (.inl 0), none], [], μ)) rfl ⟨trivial, trivial, trivial, trivial, trivial⟩ ?_
        refine sr_brd (fun h4 => ?_) (fun h4 => ?_)
        · refine sr_many 5 (t := (bif decide (¬ (((v_MO_is μ m 8) >>> (((3 : Int32) * (j - j / (10 : Int32) * (10 : Int32))) &&& 31)) &&& (7 : Int32)) = ((v_MO_is μ m 6) + (1 : Int32))) then 72 else 68, [some (.inr (.inr (20, 0))), some (.inl m), some (.inl j), some (.inl (((v_MO_is μ m 8) >>> (((3 : Int32) * (j - j / (10 : Int32) * (10 : Int32))) &&& 31)) &&& (7 : Int32))), some (.inl (v_MO_is μ m 6)), some (.inl 0), none], [], μ)) rfl ⟨trivial, trivial, trivial, trivial, trivial, trivial⟩ ?_
          refine sr_brd (fun h5 => ?_) (fun h5 => ?_)
          · refine sr_many 5 (t := (85, [some (.inr (.inr (20, 0))), some (.inl m), some (.inl j), some (.inl (((v_MO_is μ m 8) >>> (((3 : Int32) * (j - j / (10 : Int32) * (10 : Int32))) &&& 31)) &&& (7 : Int32))), some (.inl (v_MO_is μ m 6)), some (.inl 0), some (.inl 0)], [.inl 2], μ)) rfl ⟨trivial, trivial, trivial, trivial, trivial, trivial⟩ ?_
            exact sr_ret rfl rfl rfl trivial (by simp only [v_MO_result, if_pos h1, if_neg h2, if_pos h3, if_pos h4, if_pos h5])
          · refine sr_many 7 (t := (85, [some (.inr (.inr (20, 0))), some (.inl m), some (.inl j), some (.inl (((v_MO_is μ m 8) >>> (((3 : Int32) * (j - j / (10 : Int32) * (10 : Int32))) &&& 31)) &&& (7 : Int32))), some (.inl (v_MO_is μ m 6)), some (.inl 0), some (.inl 1)], [.inl 1], μ)) rfl ⟨trivial, trivial, trivial, trivial, trivial, trivial, trivial, trivial⟩ ?_
            exact sr_ret rfl rfl rfl trivial (by simp only [v_MO_result, if_pos h1, if_neg h2, if_pos h3, if_pos h4, if_neg h5])
        · refine sr_many 6 (t := (85, [some (.inr (.inr (20, 0))), some (.inl m), some (.inl j), some (.inl (((v_MO_is μ m 8) >>> (((3 : Int32) * (j - j / (10 : Int32) * (10 : Int32))) &&& 31)) &&& (7 : Int32))), some (.inl (v_MO_is μ m 6)), some (.inl 0), some (.inl 0)], [.inl 2], μ)) rfl ⟨trivial, trivial, trivial, trivial, trivial, trivial, trivial⟩ ?_
          exact sr_ret rfl rfl rfl trivial (by simp only [v_MO_result, if_pos h1, if_neg h2, if_pos h3, if_neg h4])
      · refine sr_many 5 (t := (bif decide (¬ (v_MO_is μ m 6) = 0) then 60 else 55, [some (.inr (.inr (20, 0))), some (.inl m), some (.inl j), some (.inl (((v_MO_is μ m 8) >>> (((3 : Int32) * (j - j / (10 : Int32) * (10 : Int32))) &&& 31)) &&& (7 : Int32))), some (.inl (v_MO_is μ m 6)), some (.inl 1), none], [], μ)) rfl ⟨trivial, trivial, trivial, trivial, trivial, trivial⟩ ?_
        refine sr_brd (fun h4 => ?_) (fun h4 => ?_)
        · refine sr_many 5 (t := (bif decide (¬ (((v_MO_is μ m 8) >>> (((3 : Int32) * (j - j / (10 : Int32) * (10 : Int32))) &&& 31)) &&& (7 : Int32)) = ((v_MO_is μ m 6) + (1 : Int32))) then 72 else 68, [some (.inr (.inr (20, 0))), some (.inl m), some (.inl j), some (.inl (((v_MO_is μ m 8) >>> (((3 : Int32) * (j - j / (10 : Int32) * (10 : Int32))) &&& 31)) &&& (7 : Int32))), some (.inl (v_MO_is μ m 6)), some (.inl 1), none], [], μ)) rfl ⟨trivial, trivial, trivial, trivial, trivial, trivial⟩ ?_
          refine sr_brd (fun h5 => ?_) (fun h5 => ?_)
          · refine sr_many 5 (t := (85, [some (.inr (.inr (20, 0))), some (.inl m), some (.inl j), some (.inl (((v_MO_is μ m 8) >>> (((3 : Int32) * (j - j / (10 : Int32) * (10 : Int32))) &&& 31)) &&& (7 : Int32))), some (.inl (v_MO_is μ m 6)), some (.inl 1), some (.inl 0)], [.inl 2], μ)) rfl ⟨trivial, trivial, trivial, trivial, trivial, trivial⟩ ?_
            exact sr_ret rfl rfl rfl trivial (by simp only [v_MO_result, if_pos h1, if_neg h2, if_neg h3, if_pos h4, if_pos h5])
          · refine sr_many 7 (t := (85, [some (.inr (.inr (20, 0))), some (.inl m), some (.inl j), some (.inl (((v_MO_is μ m 8) >>> (((3 : Int32) * (j - j / (10 : Int32) * (10 : Int32))) &&& 31)) &&& (7 : Int32))), some (.inl (v_MO_is μ m 6)), some (.inl 1), some (.inl 1)], [.inl 1], μ)) rfl ⟨trivial, trivial, trivial, trivial, trivial, trivial, trivial, trivial⟩ ?_
            exact sr_ret rfl rfl rfl trivial (by simp only [v_MO_result, if_pos h1, if_neg h2, if_neg h3, if_pos h4, if_neg h5])
        · refine sr_many 7 (t := (85, [some (.inr (.inr (20, 0))), some (.inl m), some (.inl j), some (.inl (((v_MO_is μ m 8) >>> (((3 : Int32) * (j - j / (10 : Int32) * (10 : Int32))) &&& 31)) &&& (7 : Int32))), some (.inl (v_MO_is μ m 6)), some (.inl 1), some (.inl 1)], [.inl 1], μ)) rfl ⟨trivial, trivial, trivial, trivial, trivial, trivial, trivial, trivial⟩ ?_
          exact sr_ret rfl rfl rfl trivial (by simp only [v_MO_result, if_pos h1, if_neg h2, if_neg h3, if_neg h4])
  · refine sr_many 1 (t := (33, [some (.inr (.inr (20, 0))), some (.inl m), some (.inl j), some (.inl (((v_MO_is μ m 8) >>> (((3 : Int32) * (j - j / (10 : Int32) * (10 : Int32))) &&& 31)) &&& (7 : Int32))), some (.inl (v_MO_is μ m 6)), none, none], [.inl 3], μ)) rfl ⟨trivial, trivial⟩ ?_
    exact sr_ret rfl rfl rfl trivial (by simp only [v_MO_result, if_neg h1])

