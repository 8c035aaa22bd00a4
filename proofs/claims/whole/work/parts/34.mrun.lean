/-! the reference: what a run rests on -/
theorem sr_cts4 {m w : Int32} (h : sr_in m 16) (h2 : sr_in w 4) (h3 : ¬ w = 0) : sr_in (((4 : Int32) * m + w) - 1) 64 := by
  obtain ⟨k, hk, rfl⟩ := vp_in_of h (by decide)
  obtain ⟨t, ht, rfl⟩ := vp_in_of h2 (by decide)
  have h5 : t ≠ 0 := fun e => h3 (by rw [e]; rfl)
  show sr_in ((nI 4 * nI k + nI t) - 1) 64
  rw [pk_mul, nI_add]
  have e : 4 * k + t = (4 * k + t - 1) + 1 := by omega
  rw [e, nI_pred]
  exact sr_inN 64 (by omega) (by decide)
def f_MO_allOver (μ : sr_M) (set : Int32)  : Nat → Int32 → Int32 := fun k a => if a = 0 then 0 else (if ((set >>> ((nI k) &&& 31)) &&& (1 : Int32)) = 0 then 1 else (if (v_MO_over μ (nI k)) = 0 then 0 else 1))
def v_MO_allOver (μ : sr_M) (set : Int32) : Int32 := (sr_it (f_MO_allOver μ set) 1 16)
def p_MO_allOver : sr_F := fun vs μ => match vs with
  | [.inr (.inr (20, 0)), .inl set] => some (True, some (.inl (v_MO_allOver μ set)), μ)
  | _ => none
def e_MO_allOver : sr_E := (sr_SM, sr_KS, (fun _ => none, fun _ => none, fun _ => none, fun _ => none, fun k => ([(192, 11, 1, p_MO_over)] : List (Nat × Nat × Nat × sr_F)).lookup k), sr_cd cd_MO_allOver, some .boolean)
set_option maxRecDepth 10000 in
theorem a_MO_allOver (μ : sr_M) (set : Int32) : sr_AW e_MO_allOver (fun r => r = (some (.inl (v_MO_allOver μ set)), μ)) (sr_entry 4 [.inr (.inr (20, 0)), .inl set] μ) := by
  refine sr_many 4 (t := (4, [some (.inr (.inr (20, 0))), some (.inl set), some (.inl 1), some (.inl 0)], [], μ)) rfl ⟨trivial, trivial, trivial, trivial, trivial⟩ ?_
  refine sr_forI (α := Int32) (fun k a => (4, [some (.inr (.inr (20, 0))), some (.inl set), some (.inl a), some (.inl (nI k))], [], μ)) (f_MO_allOver μ set) (fun k a => a = 0 ∨ a = 1) 1 16 (Or.inr rfl) (fun k hk a h => by unfold f_MO_allOver; (repeat' split) <;> first | exact h | exact Or.inl rfl | exact Or.inr rfl) (fun k hk a hIk w => ?_) (fun hIk => ?_)
  · have hbk : k < 16 := hk
    have hck : (nI k).toNatClampNeg = k := sr_clN 16 hbk (by decide)
    have hink : sr_in (nI k) 16 := sr_inN 16 hbk (by decide)
    have hcbk : (nI k).toNatClampNeg < 16 := by rw [hck]; exact hbk
    refine sr_many 3 (t := (bif decide (16 ≤ (nI k)) then 42 else 10, [some (.inr (.inr (20, 0))), some (.inl set), some (.inl a), some (.inl (nI k))], [], μ)) rfl ⟨trivial, trivial, trivial, trivial⟩ ?_
    refine sr_brd (fun h => absurd h (show ¬ (16 : Int32) ≤ nI k from nI_ge hk (by decide))) (fun _ => ?_)
    refine sr_many 2 (t := (bif decide (a = 0) then 34 else 14, [some (.inr (.inr (20, 0))), some (.inl set), some (.inl a), some (.inl (nI k))], [], μ)) rfl ⟨trivial, trivial, trivial⟩ ?_
    refine sr_brd (fun h1 => ?_) (fun h1 => ?_)
    · refine sr_many 4 (t := (4, [some (.inr (.inr (20, 0))), some (.inl set), some (.inl 0), some (.inl ((nI k) + 1))], [], μ)) rfl ⟨trivial, trivial, trivial, trivial, trivial⟩ ?_
      try simp only [hck] at h1
      try simp only [hck]
      simp only [f_MO_allOver, if_pos h1, nI_succ] at w
      exact w
    · refine sr_many 6 (t := (bif decide (((set >>> ((nI k) &&& 31)) &&& (1 : Int32)) = 0) then 30 else 22, [some (.inr (.inr (20, 0))), some (.inl set), some (.inl a), some (.inl (nI k))], [], μ)) rfl ⟨trivial, trivial, trivial, trivial, trivial, trivial, trivial⟩ ?_
      refine sr_brd (fun h2 => ?_) (fun h2 => ?_)
      · refine sr_many 5 (t := (4, [some (.inr (.inr (20, 0))), some (.inl set), some (.inl 1), some (.inl ((nI k) + 1))], [], μ)) rfl ⟨trivial, trivial, trivial, trivial, trivial, trivial⟩ ?_
        try simp only [hck] at h1 h2
        try simp only [hck]
        simp only [f_MO_allOver, if_neg h1, if_pos h2, nI_succ] at w
        exact w
      · refine sr_many 4 (t := (bif decide ((v_MO_over μ (nI k)) = 0) then 34 else 30, [some (.inr (.inr (20, 0))), some (.inl set), some (.inl a), some (.inl (nI k))], [], μ)) rfl ⟨trivial, trivial, ⟨(show 0 < 1 by decide), (show sr_in (nI k) 16 from hink)⟩, trivial, trivial⟩ ?_
        refine sr_brd (fun h3 => ?_) (fun h3 => ?_)
        · refine sr_many 4 (t := (4, [some (.inr (.inr (20, 0))), some (.inl set), some (.inl 0), some (.inl ((nI k) + 1))], [], μ)) rfl ⟨trivial, trivial, trivial, trivial, trivial⟩ ?_
          try simp only [hck] at h1 h2 h3
          try simp only [hck]
          simp only [f_MO_allOver, if_neg h1, if_neg h2, if_pos h3, nI_succ] at w
          exact w
        · refine sr_many 5 (t := (4, [some (.inr (.inr (20, 0))), some (.inl set), some (.inl 1), some (.inl ((nI k) + 1))], [], μ)) rfl ⟨trivial, trivial, trivial, trivial, trivial, trivial⟩ ?_
          try simp only [hck] at h1 h2 h3
          try simp only [hck]
          simp only [f_MO_allOver, if_neg h1, if_neg h2, if_neg h3, nI_succ] at w
          exact w
  · skip
    refine sr_many 3 (t := (bif decide (16 ≤ (nI 16)) then 42 else 10, [some (.inr (.inr (20, 0))), some (.inl set), some (.inl (sr_it (f_MO_allOver μ set) 1 16)), some (.inl (nI 16))], [], μ)) rfl ⟨trivial, trivial, trivial, trivial⟩ ?_
    refine sr_brd (fun _ => ?_) (fun h => absurd (show (16 : Int32) ≤ nI 16 by decide) h)
    refine sr_many 1 (t := (43, [some (.inr (.inr (20, 0))), some (.inl set), some (.inl (sr_it (f_MO_allOver μ set) 1 16)), some (.inl (nI 16))], [.inl (sr_it (f_MO_allOver μ set) 1 16)], μ)) rfl ⟨trivial, trivial⟩ ?_
    exact sr_ret rfl rfl rfl (show (sr_it (f_MO_allOver μ set) 1 16) = 0 ∨ (sr_it (f_MO_allOver μ set) 1 16) = 1 by first | exact hIk | assumption) rfl
def f_MO_chosenNow (μ : sr_M)   : Nat → Int32 → Int32 := fun k a => if (μ.1 33 0 (k)) ≤ 0 then a else (a ||| ((1 : Int32) <<< ((nI k) &&& 31)))
def v_MO_chosenNow (μ : sr_M)  : Int32 := (sr_it (f_MO_chosenNow μ) 0 16)
def p_MO_chosenNow : sr_F := fun vs μ => match vs with
  | [.inr (.inr (20, 0))] => some (True, some (.inl (v_MO_chosenNow μ )), μ)
  | _ => none
def e_MO_chosenNow : sr_E := (sr_SM, sr_KS, (fun k => ([(59, 10, 26)] : List (Nat × Nat × Nat)).lookup k, fun _ => none, fun _ => none, fun _ => none, fun _ => none), sr_cd cd_MO_chosenNow, some .int)
set_option maxRecDepth 10000 in
theorem a_MO_chosenNow (μ : sr_M)  : sr_AW e_MO_chosenNow (fun r => r = (some (.inl (v_MO_chosenNow μ )), μ)) (sr_entry 3 [.inr (.inr (20, 0))] μ) := by
  refine sr_many 4 (t := (4, [some (.inr (.inr (20, 0))), some (.inl 0), some (.inl 0)], [], μ)) rfl ⟨trivial, trivial, trivial, trivial, trivial⟩ ?_
  refine sr_forT (α := Int32) (fun k a => (4, [some (.inr (.inr (20, 0))), some (.inl a), some (.inl (nI k))], [], μ)) (f_MO_chosenNow μ) 0 16 (fun k hk a w => ?_) ?_
  · have hbk : k < 16 := hk
    have hck : (nI k).toNatClampNeg = k := sr_clN 16 hbk (by decide)
    have hink : sr_in (nI k) 16 := sr_inN 16 hbk (by decide)
    have hcbk : (nI k).toNatClampNeg < 16 := by rw [hck]; exact hbk
    refine sr_many 3 (t := (bif decide (16 ≤ (nI k)) then 35 else 10, [some (.inr (.inr (20, 0))), some (.inl a), some (.inl (nI k))], [], μ)) rfl ⟨trivial, trivial, trivial, trivial⟩ ?_
    refine sr_brd (fun h => absurd h (show ¬ (16 : Int32) ≤ nI k from nI_ge hk (by decide))) (fun _ => ?_)
    refine sr_many 5 (t := (bif decide ((μ.1 33 0 ((nI k).toNatClampNeg)) ≤ 0) then 27 else 19, [some (.inr (.inr (20, 0))), some (.inl a), some (.inl (nI k))], [], μ)) rfl ⟨trivial, (show 0 < 1 by decide), trivial, ⟨(show 0 < 1 by decide), (show sr_in (nI k) 16 by assumption)⟩, trivial, trivial⟩ ?_
    refine sr_brd (fun h1 => ?_) (fun h1 => ?_)
    · refine sr_many 4 (t := (4, [some (.inr (.inr (20, 0))), some (.inl a), some (.inl ((nI k) + 1))], [], μ)) rfl ⟨trivial, trivial, trivial, trivial, trivial⟩ ?_
      try simp only [hck] at h1
      try simp only [hck]
      simp only [f_MO_chosenNow, if_pos h1, nI_succ] at w
      exact w
    · refine sr_many 9 (t := (4, [some (.inr (.inr (20, 0))), some (.inl (a ||| ((1 : Int32) <<< ((nI k) &&& 31)))), some (.inl ((nI k) + 1))], [], μ)) rfl ⟨trivial, trivial, trivial, trivial, trivial, trivial, trivial, trivial, trivial, trivial⟩ ?_
      try simp only [hck] at h1
      try simp only [hck]
      simp only [f_MO_chosenNow, if_neg h1, nI_succ] at w
      exact w
  · skip
    refine sr_many 3 (t := (bif decide (16 ≤ (nI 16)) then 35 else 10, [some (.inr (.inr (20, 0))), some (.inl (sr_it (f_MO_chosenNow μ) 0 16)), some (.inl (nI 16))], [], μ)) rfl ⟨trivial, trivial, trivial, trivial⟩ ?_
    refine sr_brd (fun _ => ?_) (fun h => absurd (show (16 : Int32) ≤ nI 16 by decide) h)
    refine sr_many 1 (t := (36, [some (.inr (.inr (20, 0))), some (.inl (sr_it (f_MO_chosenNow μ) 0 16)), some (.inl (nI 16))], [.inl (sr_it (f_MO_chosenNow μ) 0 16)], μ)) rfl ⟨trivial, trivial⟩ ?_
    exact sr_ret rfl rfl rfl trivial rfl
def f_MO_busy (μ : sr_M) (wo : Int32) (cls : Int32)  : Nat → Int32 → Int32 := fun k a => if ¬ a = 0 then 1 else (if (nI k) = wo then 0 else (if (μ.1 40 0 (k)) < 0 then 0 else (if ¬ (μ.1 21 0 ((μ.1 40 0 (k)).toNatClampNeg)) = cls then 0 else 1)))
def v_MO_busy (μ : sr_M) (wo : Int32) (cls : Int32) : Int32 := (sr_it (f_MO_busy μ wo cls) 0 3)
def q_MO_busy (μ : sr_M) (wo : Int32) (cls : Int32) : Prop := (∀ v, v < 3 → μ.1 40 0 v < 0 ∨ sr_in (μ.1 40 0 v) 16)
def p_MO_busy : sr_F := fun vs μ => match vs with
  | [.inr (.inr (20, 0)), .inl wo, .inl cls] => some (q_MO_busy μ wo cls, some (.inl (v_MO_busy μ wo cls)), μ)
  | _ => none
def e_MO_busy : sr_E := (sr_SM, sr_KS, (fun k => ([(7, 10, 1), (80, 10, 35)] : List (Nat × Nat × Nat)).lookup k, fun _ => none, fun _ => none, fun _ => none, fun _ => none), sr_cd cd_MO_busy, some .boolean)
set_option maxRecDepth 10000 in
theorem a_MO_busy (μ : sr_M) (wo : Int32) (cls : Int32) (hq : q_MO_busy μ wo cls) : sr_AW e_MO_busy (fun r => r = (some (.inl (v_MO_busy μ wo cls)), μ)) (sr_entry 5 [.inr (.inr (20, 0)), .inl wo, .inl cls] μ) := by
  have q1 : ∀ v, v < 3 → μ.1 40 0 v < 0 ∨ sr_in (μ.1 40 0 v) 16 := hq
  refine sr_many 4 (t := (5, [some (.inr (.inr (20, 0))), some (.inl wo), some (.inl cls), some (.inl 0), some (.inl 0)], [], μ)) rfl ⟨trivial, trivial, trivial, trivial, trivial⟩ ?_
  refine sr_forI (α := Int32) (fun k a => (5, [some (.inr (.inr (20, 0))), some (.inl wo), some (.inl cls), some (.inl a), some (.inl (nI k))], [], μ)) (f_MO_busy μ wo cls) (fun k a => a = 0 ∨ a = 1) 0 3 (Or.inl rfl) (fun k hk a h => by unfold f_MO_busy; (repeat' split) <;> first | exact h | exact Or.inl rfl | exact Or.inr rfl) (fun k hk a hIk w => ?_) (fun hIk => ?_)
  · have hbk : k < 3 := hk
    have hck : (nI k).toNatClampNeg = k := sr_clN 3 hbk (by decide)
    have hink : sr_in (nI k) 3 := sr_inN 3 hbk (by decide)
    have hcbk : (nI k).toNatClampNeg < 3 := by rw [hck]; exact hbk
    have hh := q1 (nI k).toNatClampNeg hcbk
    refine sr_many 3 (t := (bif decide (3 ≤ (nI k)) then 59 else 11, [some (.inr (.inr (20, 0))), some (.inl wo), some (.inl cls), some (.inl a), some (.inl (nI k))], [], μ)) rfl ⟨trivial, trivial, trivial, trivial⟩ ?_
    refine sr_brd (fun h => absurd h (show ¬ (3 : Int32) ≤ nI k from nI_ge hk (by decide))) (fun _ => ?_)
    refine sr_many 2 (t := (bif decide (¬ a = 0) then 47 else 15, [some (.inr (.inr (20, 0))), some (.inl wo), some (.inl cls), some (.inl a), some (.inl (nI k))], [], μ)) rfl ⟨trivial, trivial, trivial⟩ ?_
    refine sr_brd (fun h1 => ?_) (fun h1 => ?_)
    · refine sr_many 5 (t := (5, [some (.inr (.inr (20, 0))), some (.inl wo), some (.inl cls), some (.inl 1), some (.inl ((nI k) + 1))], [], μ)) rfl ⟨trivial, trivial, trivial, trivial, trivial, trivial⟩ ?_
      try simp only [hck] at h1
      try simp only [hck]
      simp only [f_MO_busy, if_pos h1, nI_succ] at w
      exact w
    · refine sr_many 3 (t := (bif decide ((nI k) = wo) then 51 else 21, [some (.inr (.inr (20, 0))), some (.inl wo), some (.inl cls), some (.inl a), some (.inl (nI k))], [], μ)) rfl ⟨trivial, trivial, trivial, trivial⟩ ?_
      refine sr_brd (fun h2 => ?_) (fun h2 => ?_)
      · refine sr_many 4 (t := (5, [some (.inr (.inr (20, 0))), some (.inl wo), some (.inl cls), some (.inl 0), some (.inl ((nI k) + 1))], [], μ)) rfl ⟨trivial, trivial, trivial, trivial, trivial⟩ ?_
        try simp only [hck] at h1 h2
        try simp only [hck]
        simp only [f_MO_busy, if_neg h1, if_pos h2, nI_succ] at w
        exact w
      · refine sr_many 5 (t := (bif decide ((μ.1 40 0 ((nI k).toNatClampNeg)) < 0) then 51 else 31, [some (.inr (.inr (20, 0))), some (.inl wo), some (.inl cls), some (.inl a), some (.inl (nI k))], [], μ)) rfl ⟨trivial, (show 0 < 1 by decide), trivial, ⟨(show 0 < 1 by decide), (show sr_in (nI k) 3 by first | exact hIk | assumption)⟩, trivial, trivial⟩ ?_
        refine sr_brd (fun h3 => ?_) (fun h3 => ?_)
        · refine sr_many 4 (t := (5, [some (.inr (.inr (20, 0))), some (.inl wo), some (.inl cls), some (.inl 0), some (.inl ((nI k) + 1))], [], μ)) rfl ⟨trivial, trivial, trivial, trivial, trivial⟩ ?_
          try simp only [hck] at h1 h2 h3
          try simp only [hck]
          simp only [f_MO_busy, if_neg h1, if_neg h2, if_pos h3, nI_succ] at w
          exact w
        · refine sr_many 9 (t := (bif decide (¬ (μ.1 21 0 ((μ.1 40 0 ((nI k).toNatClampNeg)).toNatClampNeg)) = cls) then 51 else 47, [some (.inr (.inr (20, 0))), some (.inl wo), some (.inl cls), some (.inl a), some (.inl (nI k))], [], μ)) rfl ⟨trivial, (show 0 < 1 by decide), trivial, (show 0 < 1 by decide), trivial, ⟨(show 0 < 1 by decide), (show sr_in (nI k) 3 by first | exact hIk | assumption)⟩, ⟨(show 0 < 1 by decide), (show sr_in (μ.1 40 0 ((nI k).toNatClampNeg)) 16 from hh.resolve_left h3)⟩, trivial, trivial, trivial⟩ ?_
          refine sr_brd (fun h4 => ?_) (fun h4 => ?_)
          · refine sr_many 4 (t := (5, [some (.inr (.inr (20, 0))), some (.inl wo), some (.inl cls), some (.inl 0), some (.inl ((nI k) + 1))], [], μ)) rfl ⟨trivial, trivial, trivial, trivial, trivial⟩ ?_
            try simp only [hck] at h1 h2 h3 h4
            try simp only [hck]
            simp only [f_MO_busy, if_neg h1, if_neg h2, if_neg h3, if_pos h4, nI_succ] at w
            exact w
          · refine sr_many 5 (t := (5, [some (.inr (.inr (20, 0))), some (.inl wo), some (.inl cls), some (.inl 1), some (.inl ((nI k) + 1))], [], μ)) rfl ⟨trivial, trivial, trivial, trivial, trivial, trivial⟩ ?_
            try simp only [hck] at h1 h2 h3 h4
            try simp only [hck]
            simp only [f_MO_busy, if_neg h1, if_neg h2, if_neg h3, if_neg h4, nI_succ] at w
            exact w
  · skip
    refine sr_many 3 (t := (bif decide (3 ≤ (nI 3)) then 59 else 11, [some (.inr (.inr (20, 0))), some (.inl wo), some (.inl cls), some (.inl (sr_it (f_MO_busy μ wo cls) 0 3)), some (.inl (nI 3))], [], μ)) rfl ⟨trivial, trivial, trivial, trivial⟩ ?_
    refine sr_brd (fun _ => ?_) (fun h => absurd (show (3 : Int32) ≤ nI 3 by decide) h)
    refine sr_many 1 (t := (60, [some (.inr (.inr (20, 0))), some (.inl wo), some (.inl cls), some (.inl (sr_it (f_MO_busy μ wo cls) 0 3)), some (.inl (nI 3))], [.inl (sr_it (f_MO_busy μ wo cls) 0 3)], μ)) rfl ⟨trivial, trivial⟩ ?_
    exact sr_ret rfl rfl rfl (show (sr_it (f_MO_busy μ wo cls) 0 3) = 0 ∨ (sr_it (f_MO_busy μ wo cls) 0 3) = 1 by first | exact hIk | assumption) rfl
def m_MO_close (μ : sr_M) (wo : Int32) (res : Int32) : sr_M := (sr_seti (m_MO_note (sr_seti μ 34 0 (((((4 : Int32) * (μ.1 40 0 wo.toNatClampNeg)) + res) - (1 : Int32)).toNatClampNeg) ((μ.1 34 0 (((((4 : Int32) * (μ.1 40 0 wo.toNatClampNeg)) + res) - (1 : Int32)).toNatClampNeg)) + (1 : Int32))) 2 (μ.1 40 0 wo.toNatClampNeg) res) 42 0 wo.toNatClampNeg (((m_MO_note (sr_seti μ 34 0 (((((4 : Int32) * (μ.1 40 0 wo.toNatClampNeg)) + res) - (1 : Int32)).toNatClampNeg) ((μ.1 34 0 (((((4 : Int32) * (μ.1 40 0 wo.toNatClampNeg)) + res) - (1 : Int32)).toNatClampNeg)) + (1 : Int32))) 2 (μ.1 40 0 wo.toNatClampNeg) res).1 42 0 wo.toNatClampNeg) + (1 : Int32)))
def q_MO_close (μ : sr_M) (wo : Int32) (res : Int32) : Prop := sr_in wo 3 ∧ sr_in (μ.1 40 0 wo.toNatClampNeg) 16 ∧ sr_in res 4 ∧ ¬ res = 0
def p_MO_close : sr_F := fun vs μ => match vs with
  | [.inr (.inr (20, 0)), .inl wo, .inl res] => some (q_MO_close μ wo res, none, m_MO_close μ wo res)
  | _ => none
def e_MO_close : sr_E := (sr_SM, sr_KS, (fun k => ([(62, 10, 27), (80, 10, 35), (86, 10, 37)] : List (Nat × Nat × Nat)).lookup k, fun _ => none, fun _ => none, fun _ => none, fun k => ([(176, 11, 3, p_MO_note)] : List (Nat × Nat × Nat × sr_F)).lookup k), sr_cd cd_MO_close, none)
set_option maxRecDepth 10000 in
theorem a_MO_close (μ : sr_M) (wo : Int32) (res : Int32) (hq : q_MO_close μ wo res) : sr_AW e_MO_close (fun r => r = (none, m_MO_close μ wo res)) (sr_entry 4 [.inr (.inr (20, 0)), .inl wo, .inl res] μ) := by
  have hq0 := hq
  obtain ⟨q1, q2, q3, q4⟩ : sr_in wo 3 ∧ sr_in (μ.1 40 0 wo.toNatClampNeg) 16 ∧ sr_in res 4 ∧ ¬ res = 0 := hq
  refine sr_many 32 (t := (40, [some (.inr (.inr (20, 0))), some (.inl wo), some (.inl res), some (.inl (μ.1 40 0 wo.toNatClampNeg))], [], (sr_seti (m_MO_note (sr_seti μ 34 0 (((((4 : Int32) * (μ.1 40 0 wo.toNatClampNeg)) + res) - (1 : Int32)).toNatClampNeg) ((μ.1 34 0 (((((4 : Int32) * (μ.1 40 0 wo.toNatClampNeg)) + res) - (1 : Int32)).toNatClampNeg)) + (1 : Int32))) 2 (μ.1 40 0 wo.toNatClampNeg) res) 42 0 wo.toNatClampNeg (((m_MO_note (sr_seti μ 34 0 (((((4 : Int32) * (μ.1 40 0 wo.toNatClampNeg)) + res) - (1 : Int32)).toNatClampNeg) ((μ.1 34 0 (((((4 : Int32) * (μ.1 40 0 wo.toNatClampNeg)) + res) - (1 : Int32)).toNatClampNeg)) + (1 : Int32))) 2 (μ.1 40 0 wo.toNatClampNeg) res).1 42 0 wo.toNatClampNeg) + (1 : Int32))))) rfl ⟨trivial, (show 0 < 1 by decide), trivial, ⟨(show 0 < 1 by decide), (show sr_in wo 3 from q1)⟩, trivial, trivial, (show 0 < 1 by decide), trivial, trivial, trivial, trivial, trivial, trivial, trivial, trivial, ⟨(show 0 < 1 by decide), (show sr_in ((((4 : Int32) * (μ.1 40 0 wo.toNatClampNeg)) + res) - (1 : Int32)) 64 from sr_cts4 q2 q3 q4)⟩, trivial, trivial, ⟨(show 0 < 1 by decide), (show sr_in ((((4 : Int32) * (μ.1 40 0 wo.toNatClampNeg)) + res) - (1 : Int32)) 64 from sr_cts4 q2 q3 q4)⟩, trivial, trivial, trivial, trivial, ⟨(show 0 < 1 by decide), trivial⟩, trivial, (show 0 < 1 by decide), trivial, trivial, ⟨(show 0 < 1 by decide), (show sr_in wo 3 from q1)⟩, trivial, trivial, ⟨(show 0 < 1 by decide), (show sr_in wo 3 from q1)⟩, trivial⟩ ?_
  exact sr_ret rfl rfl rfl trivial rfl
def v_MO_due (μ : sr_M) (m : Int32) : Int32 := if 0 ≤ (v_MO_is μ m 4) then ((v_MO_is μ m 3) * (μ.1 26 0 ((v_MO_is μ m 4).toNatClampNeg))) else (v_MO_is μ m 3)
def q_MO_due (μ : sr_M) (m : Int32) : Prop := sr_in m 16 ∧ (v_MO_is μ m 4 < 0 ∨ sr_in (v_MO_is μ m 4) 4)
def p_MO_due : sr_F := fun vs μ => match vs with
  | [.inr (.inr (20, 0)), .inl m] => some (q_MO_due μ m, some (.inl (v_MO_due μ m)), μ)
  | _ => none
def e_MO_due : sr_E := (sr_SM, sr_KS, (fun k => ([(26, 10, 6)] : List (Nat × Nat × Nat)).lookup k, fun _ => none, fun _ => none, fun _ => none, fun k => ([(149, 11, 2, p_MO_is)] : List (Nat × Nat × Nat × sr_F)).lookup k), sr_cd cd_MO_due, some .int)
set_option maxRecDepth 10000 in
theorem a_MO_due (μ : sr_M) (m : Int32) (hq : q_MO_due μ m) : sr_AW e_MO_due (fun r => r = (some (.inl (v_MO_due μ m)), μ)) (sr_entry 3 [.inr (.inr (20, 0)), .inl m] μ) := by
  have hq0 := hq
  obtain ⟨q1, q2⟩ : sr_in m 16 ∧ (v_MO_is μ m 4 < 0 ∨ sr_in (v_MO_is μ m 4) 4) := hq
  refine sr_many 7 (t := (bif decide (0 ≤ (v_MO_is μ m 4)) then 20 else 11, [some (.inr (.inr (20, 0))), some (.inl m), some (.inl (v_MO_is μ m 4))], [], μ)) rfl ⟨trivial, trivial, trivial, ⟨(show 0 < 1 by decide), (show sr_in ((9 : Int32) * m + (4 : Int32)) 144 from sr_is9 q1 4 (by decide))⟩, trivial, trivial, trivial, trivial⟩ ?_
  refine sr_brd (fun h1 => ?_) (fun h1 => ?_)
  · refine sr_many 9 (t := (33, [some (.inr (.inr (20, 0))), some (.inl m), some (.inl (v_MO_is μ m 4))], [.inl ((v_MO_is μ m 3) * (μ.1 26 0 ((v_MO_is μ m 4).toNatClampNeg)))], μ)) rfl ⟨trivial, trivial, trivial, ⟨(show 0 < 1 by decide), (show sr_in ((9 : Int32) * m + (3 : Int32)) 144 from sr_is9 q1 3 (by decide))⟩, trivial, (show 0 < 1 by decide), trivial, ⟨(show 0 < 1 by decide), (show sr_in (v_MO_is μ m 4) 4 from q2.resolve_left (Int32.not_lt.mpr h1))⟩, trivial, trivial⟩ ?_
    exact sr_ret rfl rfl rfl trivial (by simp only [v_MO_due, if_pos h1])
  · refine sr_many 5 (t := (33, [some (.inr (.inr (20, 0))), some (.inl m), some (.inl (v_MO_is μ m 4))], [.inl (v_MO_is μ m 3)], μ)) rfl ⟨trivial, trivial, trivial, ⟨(show 0 < 1 by decide), (show sr_in ((9 : Int32) * m + (3 : Int32)) 144 from sr_is9 q1 3 (by decide))⟩, trivial, trivial⟩ ?_
    exact sr_ret rfl rfl rfl trivial (by simp only [v_MO_due, if_neg h1])
def f_MO_blocked (μ : sr_M) (m : Int32)  : Nat → Int32 → Int32 := fun k a => if ¬ a = 0 then 1 else (if (μ.1 39 0 (k)) = 0 then 0 else (if (μ.1 27 0 (k)) = 0 then 1 else (if ¬ (μ.1 29 0 (k)) = (μ.1 21 0 m.toNatClampNeg) then 0 else 1)))
def v_MO_blocked (μ : sr_M) (m : Int32) : Int32 := if (μ.1 20 0 20) = 0 then 0 else (if (sr_it (f_MO_blocked μ m) 0 ((μ.1 20 0 7).toNatClampNeg)) = 0 then 0 else 1)
def q_MO_blocked (μ : sr_M) (m : Int32) : Prop := sr_in m 16 ∧ sr_cnt (μ.1 20 0 7) 8
def p_MO_blocked : sr_F := fun vs μ => match vs with
  | [.inr (.inr (20, 0)), .inl m] => some (q_MO_blocked μ m, some (.inl (v_MO_blocked μ m)), μ)
  | _ => none
def e_MO_blocked : sr_E := (sr_SM, sr_KS, (fun k => ([(7, 10, 1), (29, 10, 8), (36, 10, 10), (55, 10, 20), (77, 10, 32), (118, 10, 7)] : List (Nat × Nat × Nat)).lookup k, fun _ => none, fun _ => none, fun _ => none, fun _ => none), sr_cd cd_MO_blocked, some .boolean)
set_option maxRecDepth 10000 in
theorem a_MO_blocked (μ : sr_M) (m : Int32) (hq : q_MO_blocked μ m) : sr_AW e_MO_blocked (fun r => r = (some (.inl (v_MO_blocked μ m)), μ)) (sr_entry 4 [.inr (.inr (20, 0)), .inl m] μ) := by
  have hq0 := hq
  obtain ⟨q1, q2⟩ : sr_in m 16 ∧ sr_cnt (μ.1 20 0 7) 8 := hq
  have qm := sr_in_lt q1
  refine sr_many 4 (t := (4, [some (.inr (.inr (20, 0))), some (.inl m), some (.inl 0), some (.inl 0)], [], μ)) rfl ⟨trivial, trivial, trivial, trivial, trivial⟩ ?_
  refine sr_forI (α := Int32) (fun k a => (4, [some (.inr (.inr (20, 0))), some (.inl m), some (.inl a), some (.inl (nI k))], [], μ)) (f_MO_blocked μ m) (fun k a => a = 0 ∨ a = 1) 0 ((μ.1 20 0 7).toNatClampNeg) (Or.inl rfl) (fun k hk a h => by unfold f_MO_blocked; (repeat' split) <;> first | exact h | exact Or.inl rfl | exact Or.inr rfl) (fun k hk a hIk w => ?_) (fun hIk => ?_)
  · have hbk : k < 8 := sr_cnt_lt q2 hk
    have hck : (nI k).toNatClampNeg = k := sr_clN 8 hbk (by decide)
    have hink : sr_in (nI k) 8 := sr_inN 8 hbk (by decide)
    have hcbk : (nI k).toNatClampNeg < 8 := by rw [hck]; exact hbk
    refine sr_many 4 (t := (bif decide ((μ.1 20 0 7) ≤ (nI k)) then 61 else 12, [some (.inr (.inr (20, 0))), some (.inl m), some (.inl a), some (.inl (nI k))], [], μ)) rfl ⟨trivial, trivial, (show 0 < 1 by decide), trivial, trivial⟩ ?_
    refine sr_brd (fun h => absurd h (by exact sr_cnt_nlt q2 (by decide) hk)) (fun _ => ?_)
    refine sr_many 2 (t := (bif decide (¬ a = 0) then 49 else 16, [some (.inr (.inr (20, 0))), some (.inl m), some (.inl a), some (.inl (nI k))], [], μ)) rfl ⟨trivial, trivial, trivial⟩ ?_
    refine sr_brd (fun h1 => ?_) (fun h1 => ?_)
    · refine sr_many 5 (t := (4, [some (.inr (.inr (20, 0))), some (.inl m), some (.inl 1), some (.inl ((nI k) + 1))], [], μ)) rfl ⟨trivial, trivial, trivial, trivial, trivial, trivial⟩ ?_
      try simp only [hck] at h1
      try simp only [hck]
      simp only [f_MO_blocked, if_pos h1, nI_succ] at w
      exact w
    · refine sr_many 5 (t := (bif decide ((μ.1 39 0 ((nI k).toNatClampNeg)) = 0) then 53 else 25, [some (.inr (.inr (20, 0))), some (.inl m), some (.inl a), some (.inl (nI k))], [], μ)) rfl ⟨trivial, (show 0 < 1 by decide), trivial, ⟨(show 0 < 1 by decide), (show sr_in (nI k) 8 by first | exact hIk | assumption)⟩, trivial, trivial⟩ ?_
      refine sr_brd (fun h2 => ?_) (fun h2 => ?_)
      · refine sr_many 4 (t := (4, [some (.inr (.inr (20, 0))), some (.inl m), some (.inl 0), some (.inl ((nI k) + 1))], [], μ)) rfl ⟨trivial, trivial, trivial, trivial, trivial⟩ ?_
        try simp only [hck] at h1 h2
        try simp only [hck]
        simp only [f_MO_blocked, if_neg h1, if_pos h2, nI_succ] at w
        exact w
      · refine sr_many 5 (t := (bif decide ((μ.1 27 0 ((nI k).toNatClampNeg)) = 0) then 49 else 34, [some (.inr (.inr (20, 0))), some (.inl m), some (.inl a), some (.inl (nI k))], [], μ)) rfl ⟨trivial, (show 0 < 1 by decide), trivial, ⟨(show 0 < 1 by decide), (show sr_in (nI k) 8 by first | exact hIk | assumption)⟩, trivial, trivial⟩ ?_
        refine sr_brd (fun h3 => ?_) (fun h3 => ?_)
        · refine sr_many 5 (t := (4, [some (.inr (.inr (20, 0))), some (.inl m), some (.inl 1), some (.inl ((nI k) + 1))], [], μ)) rfl ⟨trivial, trivial, trivial, trivial, trivial, trivial⟩ ?_
          try simp only [hck] at h1 h2 h3
          try simp only [hck]
          simp only [f_MO_blocked, if_neg h1, if_neg h2, if_pos h3, nI_succ] at w
          exact w
        · refine sr_many 9 (t := (bif decide (¬ (μ.1 29 0 ((nI k).toNatClampNeg)) = (μ.1 21 0 m.toNatClampNeg)) then 53 else 49, [some (.inr (.inr (20, 0))), some (.inl m), some (.inl a), some (.inl (nI k))], [], μ)) rfl ⟨trivial, (show 0 < 1 by decide), trivial, ⟨(show 0 < 1 by decide), (show sr_in (nI k) 8 by first | exact hIk | assumption)⟩, trivial, (show 0 < 1 by decide), trivial, ⟨(show 0 < 1 by decide), (show sr_in m 16 by first | exact hIk | assumption)⟩, trivial, trivial⟩ ?_
          refine sr_brd (fun h4 => ?_) (fun h4 => ?_)
          · refine sr_many 4 (t := (4, [some (.inr (.inr (20, 0))), some (.inl m), some (.inl 0), some (.inl ((nI k) + 1))], [], μ)) rfl ⟨trivial, trivial, trivial, trivial, trivial⟩ ?_
            try simp only [hck] at h1 h2 h3 h4
            try simp only [hck]
            simp only [f_MO_blocked, if_neg h1, if_neg h2, if_neg h3, if_pos h4, nI_succ] at w
            exact w
          · refine sr_many 5 (t := (4, [some (.inr (.inr (20, 0))), some (.inl m), some (.inl 1), some (.inl ((nI k) + 1))], [], μ)) rfl ⟨trivial, trivial, trivial, trivial, trivial, trivial⟩ ?_
            try simp only [hck] at h1 h2 h3 h4
            try simp only [hck]
            simp only [f_MO_blocked, if_neg h1, if_neg h2, if_neg h3, if_neg h4, nI_succ] at w
            exact w
  · skip
    refine sr_many 4 (t := (bif decide ((μ.1 20 0 7) ≤ (nI ((μ.1 20 0 7).toNatClampNeg))) then 61 else 12, [some (.inr (.inr (20, 0))), some (.inl m), some (.inl (sr_it (f_MO_blocked μ m) 0 ((μ.1 20 0 7).toNatClampNeg))), some (.inl (nI ((μ.1 20 0 7).toNatClampNeg)))], [], μ)) rfl ⟨trivial, trivial, (show 0 < 1 by decide), trivial, trivial⟩ ?_
    refine sr_brd (fun _ => ?_) (fun h => absurd (by exact sr_cnt_le q2) h)
    refine sr_many 3 (t := (bif decide ((μ.1 20 0 20) = 0) then 76 else 68, [some (.inr (.inr (20, 0))), some (.inl m), some (.inl (sr_it (f_MO_blocked μ m) 0 ((μ.1 20 0 7).toNatClampNeg))), some (.inl (nI ((μ.1 20 0 7).toNatClampNeg)))], [], μ)) rfl ⟨trivial, (show 0 < 1 by decide), trivial, trivial⟩ ?_
    refine sr_brd (fun h1 => ?_) (fun h1 => ?_)
    · refine sr_many 1 (t := (77, [some (.inr (.inr (20, 0))), some (.inl m), some (.inl (sr_it (f_MO_blocked μ m) 0 ((μ.1 20 0 7).toNatClampNeg))), some (.inl (nI ((μ.1 20 0 7).toNatClampNeg)))], [.inl 0], μ)) rfl ⟨trivial, trivial⟩ ?_
      exact sr_ret rfl rfl rfl (Or.inl rfl) (by simp only [v_MO_blocked, if_pos h1])
    · refine sr_many 2 (t := (bif decide ((sr_it (f_MO_blocked μ m) 0 ((μ.1 20 0 7).toNatClampNeg)) = 0) then 76 else 72, [some (.inr (.inr (20, 0))), some (.inl m), some (.inl (sr_it (f_MO_blocked μ m) 0 ((μ.1 20 0 7).toNatClampNeg))), some (.inl (nI ((μ.1 20 0 7).toNatClampNeg)))], [], μ)) rfl ⟨trivial, trivial, trivial⟩ ?_
      refine sr_brd (fun h2 => ?_) (fun h2 => ?_)
      · refine sr_many 1 (t := (77, [some (.inr (.inr (20, 0))), some (.inl m), some (.inl (sr_it (f_MO_blocked μ m) 0 ((μ.1 20 0 7).toNatClampNeg))), some (.inl (nI ((μ.1 20 0 7).toNatClampNeg)))], [.inl 0], μ)) rfl ⟨trivial, trivial⟩ ?_
        exact sr_ret rfl rfl rfl (Or.inl rfl) (by simp only [v_MO_blocked, if_neg h1, if_pos h2])
      · refine sr_many 2 (t := (77, [some (.inr (.inr (20, 0))), some (.inl m), some (.inl (sr_it (f_MO_blocked μ m) 0 ((μ.1 20 0 7).toNatClampNeg))), some (.inl (nI ((μ.1 20 0 7).toNatClampNeg)))], [.inl 1], μ)) rfl ⟨trivial, trivial, trivial⟩ ?_
        exact sr_ret rfl rfl rfl (Or.inr rfl) (by simp only [v_MO_blocked, if_neg h1, if_neg h2])
def f_MO_dangles_53 (μ : sr_M) (m : Int32) (ch : Int32) (k : Nat) (a : Int32) : Nat → Int32 → Int32 := fun k2 a2 => if ¬ a2 = 0 then 1 else (if ¬ ((ch >>> ((nI k2) &&& 31)) &&& (1 : Int32)) = 1 then 0 else (if ¬ (((v_MO_is μ (nI k2) 1) >>> ((nI k) &&& 31)) &&& (1 : Int32)) = 1 then 0 else 1))
def f_MO_dangles_22 (μ : sr_M) (m : Int32) (ch : Int32)  : Nat → Int32 → Int32 := fun k a => if ¬ (((μ.1 25 0 m.toNatClampNeg) >>> ((nI k) &&& 31)) &&& (1 : Int32)) = 0 then (if ¬ a = 0 then 1 else (if ¬ (sr_it (f_MO_dangles_53 μ m ch k a) 0 ((μ.1 20 0 0).toNatClampNeg)) = 0 then 0 else 1)) else (if ¬ a = 0 then 1 else (if ¬ (sr_it (f_MO_dangles_53 μ m ch k a) 1 ((μ.1 20 0 0).toNatClampNeg)) = 0 then 0 else 1))
def v_MO_dangles (μ : sr_M) (m : Int32) (ch : Int32) : Int32 := if ((μ.1 24 0 m.toNatClampNeg) &&& (ch ^^^ (-1 : Int32))) = 0 then (sr_it (f_MO_dangles_22 μ m ch) 0 6) else (sr_it (f_MO_dangles_22 μ m ch) 1 6)
def q_MO_dangles (μ : sr_M) (m : Int32) (ch : Int32) : Prop := sr_in m 16 ∧ sr_cnt (μ.1 20 0 0) 16
def p_MO_dangles : sr_F := fun vs μ => match vs with
  | [.inr (.inr (20, 0)), .inl m, .inl ch] => some (q_MO_dangles μ m ch, some (.inl (v_MO_dangles μ m ch)), μ)
  | _ => none
def e_MO_dangles : sr_E := (sr_SM, sr_KS, (fun k => ([(20, 10, 4), (23, 10, 5), (92, 10, 0)] : List (Nat × Nat × Nat)).lookup k, fun _ => none, fun _ => none, fun _ => none, fun k => ([(149, 11, 2, p_MO_is)] : List (Nat × Nat × Nat × sr_F)).lookup k), sr_cd cd_MO_dangles, some .boolean)
set_option maxRecDepth 10000 in
theorem a_MO_dangles (μ : sr_M) (m : Int32) (ch : Int32) (hq : q_MO_dangles μ m ch) : sr_AW e_MO_dangles (fun r => r = (some (.inl (v_MO_dangles μ m ch)), μ)) (sr_entry 7 [.inr (.inr (20, 0)), .inl m, .inl ch] μ) := by
  have hq0 := hq
  obtain ⟨q1, q2⟩ : sr_in m 16 ∧ sr_cnt (μ.1 20 0 0) 16 := hq
  have qm := sr_in_lt q1
  refine sr_many 9 (t := (bif decide (((μ.1 24 0 m.toNatClampNeg) &&& (ch ^^^ (-1 : Int32))) = 0) then 17 else 13, [some (.inr (.inr (20, 0))), some (.inl m), some (.inl ch), none, none, none, none], [], μ)) rfl ⟨trivial, (show 0 < 1 by decide), trivial, ⟨(show 0 < 1 by decide), (show sr_in m 16 by first | exact hIk | assumption)⟩, trivial, trivial, trivial, trivial, trivial, trivial⟩ ?_
  refine sr_brd (fun h1 => ?_) (fun h1 => ?_)
  · refine sr_many 4 (t := (22, [some (.inr (.inr (20, 0))), some (.inl m), some (.inl ch), some (.inl 0), some (.inl 0), none, none], [], μ)) rfl ⟨trivial, trivial, trivial, trivial, trivial⟩ ?_
    refine sr_forI (α := Int32) (fun k a => (22, [some (.inr (.inr (20, 0))), some (.inl m), some (.inl ch), some (.inl a), some (.inl (nI k)), none, none], [], μ)) (f_MO_dangles_22 μ m ch) (fun k a => a = 0 ∨ a = 1) 0 6 (by first | exact Or.inl rfl | exact Or.inr rfl) (fun k hk a h => by unfold f_MO_dangles_22; (repeat' split) <;> first | exact h | exact Or.inl rfl | exact Or.inr rfl) (fun k hk a hIk w => ?_) (fun hIk => ?_)
    · have hbk : k < 6 := hk
      have hck : (nI k).toNatClampNeg = k := sr_clN 6 hbk (by decide)
      have hink : sr_in (nI k) 6 := sr_inN 6 hbk (by decide)
      have hcbk : (nI k).toNatClampNeg < 6 := by rw [hck]; exact hbk
      refine sr_many 3 (t := (bif decide (6 ≤ (nI k)) then 127 else 29, [some (.inr (.inr (20, 0))), some (.inl m), some (.inl ch), some (.inl a), some (.inl (nI k)), none, none], [], μ)) rfl ⟨trivial, trivial, trivial, trivial⟩ ?_
      refine sr_brd (fun h => absurd h (show ¬ (6 : Int32) ≤ nI k from nI_ge hk (by decide))) (fun _ => ?_)
      refine sr_many 9 (t := (bif decide (¬ (((μ.1 25 0 m.toNatClampNeg) >>> ((nI k) &&& 31)) &&& (1 : Int32)) = 0) then 47 else 43, [some (.inr (.inr (20, 0))), some (.inl m), some (.inl ch), some (.inl a), some (.inl (nI k)), none, none], [], μ)) rfl ⟨trivial, (show 0 < 1 by decide), trivial, ⟨(show 0 < 1 by decide), (show sr_in m 16 by first | exact hIk | assumption)⟩, trivial, trivial, trivial, trivial, trivial, trivial⟩ ?_
      refine sr_brd (fun h1 => ?_) (fun h1 => ?_)
      · refine sr_many 4 (t := (53, [some (.inr (.inr (20, 0))), some (.inl m), some (.inl ch), some (.inl a), some (.inl (nI k)), some (.inl 0), some (.inl 0)], [], μ)) rfl ⟨trivial, trivial, trivial, trivial, trivial⟩ ?_
        refine sr_forT (α := Int32) (fun k2 a2 => (53, [some (.inr (.inr (20, 0))), some (.inl m), some (.inl ch), some (.inl a), some (.inl (nI k)), some (.inl a2), some (.inl (nI k2))], [], μ)) (f_MO_dangles_53 μ m ch k a) 0 ((μ.1 20 0 0).toNatClampNeg) (fun k2 hk2 a2 w2 => ?_) ?_
        · have hbk2 : k2 < 16 := sr_cnt_lt q2 hk2
          have hck2 : (nI k2).toNatClampNeg = k2 := sr_clN 16 hbk2 (by decide)
          have hink2 : sr_in (nI k2) 16 := sr_inN 16 hbk2 (by decide)
          have hcbk2 : (nI k2).toNatClampNeg < 16 := by rw [hck2]; exact hbk2
          refine sr_many 4 (t := (bif decide ((μ.1 20 0 0) ≤ (nI k2)) then 106 else 62, [some (.inr (.inr (20, 0))), some (.inl m), some (.inl ch), some (.inl a), some (.inl (nI k)), some (.inl a2), some (.inl (nI k2))], [], μ)) rfl ⟨trivial, trivial, (show 0 < 1 by decide), trivial, trivial⟩ ?_
          refine sr_brd (fun h => absurd h (by exact sr_cnt_nlt q2 (by decide) hk2)) (fun _ => ?_)
          refine sr_many 2 (t := (bif decide (¬ a2 = 0) then 93 else 67, [some (.inr (.inr (20, 0))), some (.inl m), some (.inl ch), some (.inl a), some (.inl (nI k)), some (.inl a2), some (.inl (nI k2))], [], μ)) rfl ⟨trivial, trivial, trivial⟩ ?_
          refine sr_brd (fun h1 => ?_) (fun h1 => ?_)
          · refine sr_many 5 (t := (53, [some (.inr (.inr (20, 0))), some (.inl m), some (.inl ch), some (.inl a), some (.inl (nI k)), some (.inl 1), some (.inl ((nI k2) + 1))], [], μ)) rfl ⟨trivial, trivial, trivial, trivial, trivial, trivial⟩ ?_
            try simp only [hck, hck2] at h1
            try simp only [hck, hck2]
            simp only [f_MO_dangles_53, if_pos h1, nI_succ] at w2
            exact w2
          · refine sr_many 7 (t := (bif decide (¬ ((ch >>> ((nI k2) &&& 31)) &&& (1 : Int32)) = 1) then 97 else 77, [some (.inr (.inr (20, 0))), some (.inl m), some (.inl ch), some (.inl a), some (.inl (nI k)), some (.inl a2), some (.inl (nI k2))], [], μ)) rfl ⟨trivial, trivial, trivial, trivial, trivial, trivial, trivial, trivial⟩ ?_
            refine sr_brd (fun h2 => ?_) (fun h2 => ?_)
            · refine sr_many 4 (t := (53, [some (.inr (.inr (20, 0))), some (.inl m), some (.inl ch), some (.inl a), some (.inl (nI k)), some (.inl 0), some (.inl ((nI k2) + 1))], [], μ)) rfl ⟨trivial, trivial, trivial, trivial, trivial⟩ ?_
              try simp only [hck, hck2] at h1 h2
              try simp only [hck, hck2]
              simp only [f_MO_dangles_53, if_neg h1, if_pos h2, nI_succ] at w2
              exact w2
            · refine sr_many 10 (t := (bif decide (¬ (((v_MO_is μ (nI k2) 1) >>> ((nI k) &&& 31)) &&& (1 : Int32)) = 1) then 97 else 93, [some (.inr (.inr (20, 0))), some (.inl m), some (.inl ch), some (.inl a), some (.inl (nI k)), some (.inl a2), some (.inl (nI k2))], [], μ)) rfl ⟨trivial, trivial, trivial, ⟨(show 0 < 1 by decide), (show sr_in ((9 : Int32) * (nI k2) + (1 : Int32)) 144 from sr_is9 hink2 1 (by decide))⟩, trivial, trivial, trivial, trivial, trivial, trivial, trivial⟩ ?_
              refine sr_brd (fun h3 => ?_) (fun h3 => ?_)
              · refine sr_many 4 (t := (53, [some (.inr (.inr (20, 0))), some (.inl m), some (.inl ch), some (.inl a), some (.inl (nI k)), some (.inl 0), some (.inl ((nI k2) + 1))], [], μ)) rfl ⟨trivial, trivial, trivial, trivial, trivial⟩ ?_
                try simp only [hck, hck2] at h1 h2 h3
                try simp only [hck, hck2]
                simp only [f_MO_dangles_53, if_neg h1, if_neg h2, if_pos h3, nI_succ] at w2
                exact w2
              · refine sr_many 5 (t := (53, [some (.inr (.inr (20, 0))), some (.inl m), some (.inl ch), some (.inl a), some (.inl (nI k)), some (.inl 1), some (.inl ((nI k2) + 1))], [], μ)) rfl ⟨trivial, trivial, trivial, trivial, trivial, trivial⟩ ?_
                try simp only [hck, hck2] at h1 h2 h3
                try simp only [hck, hck2]
                simp only [f_MO_dangles_53, if_neg h1, if_neg h2, if_neg h3, nI_succ] at w2
                exact w2
        · skip
          refine sr_many 4 (t := (bif decide ((μ.1 20 0 0) ≤ (nI ((μ.1 20 0 0).toNatClampNeg))) then 106 else 62, [some (.inr (.inr (20, 0))), some (.inl m), some (.inl ch), some (.inl a), some (.inl (nI k)), some (.inl (sr_it (f_MO_dangles_53 μ m ch k a) 0 ((μ.1 20 0 0).toNatClampNeg))), some (.inl (nI ((μ.1 20 0 0).toNatClampNeg)))], [], μ)) rfl ⟨trivial, trivial, (show 0 < 1 by decide), trivial, trivial⟩ ?_
          refine sr_brd (fun _ => ?_) (fun h => absurd (by exact sr_cnt_le q2) h)
          refine sr_many 2 (t := (bif decide (¬ a = 0) then 115 else 110, [some (.inr (.inr (20, 0))), some (.inl m), some (.inl ch), some (.inl a), some (.inl (nI k)), some (.inl (sr_it (f_MO_dangles_53 μ m ch k a) 0 ((μ.1 20 0 0).toNatClampNeg))), some (.inl (nI ((μ.1 20 0 0).toNatClampNeg)))], [], μ)) rfl ⟨trivial, trivial, trivial⟩ ?_
          refine sr_brd (fun h2 => ?_) (fun h2 => ?_)
          · refine sr_many 5 (t := (22, [some (.inr (.inr (20, 0))), some (.inl m), some (.inl ch), some (.inl 1), some (.inl ((nI k) + 1)), some (.inl (sr_it (f_MO_dangles_53 μ m ch k a) 0 ((μ.1 20 0 0).toNatClampNeg))), some (.inl (nI ((μ.1 20 0 0).toNatClampNeg)))], [], μ)) rfl ⟨trivial, trivial, trivial, trivial, trivial, trivial⟩ ?_
            try simp only [hck] at h1 h2
            try simp only [hck]
            refine sr_forget [some (.inr (.inr (20, 0))), some (.inl m), some (.inl ch), some (.inl 1), some (.inl ((nI k) + 1)), none, none] (by simp [sr_sub]) ?_
            simp only [f_MO_dangles_22, if_pos h1, if_pos h2, nI_succ] at w
            exact w
          · refine sr_many 2 (t := (bif decide (¬ (sr_it (f_MO_dangles_53 μ m ch k a) 0 ((μ.1 20 0 0).toNatClampNeg)) = 0) then 119 else 115, [some (.inr (.inr (20, 0))), some (.inl m), some (.inl ch), some (.inl a), some (.inl (nI k)), some (.inl (sr_it (f_MO_dangles_53 μ m ch k a) 0 ((μ.1 20 0 0).toNatClampNeg))), some (.inl (nI ((μ.1 20 0 0).toNatClampNeg)))], [], μ)) rfl ⟨trivial, trivial, trivial⟩ ?_
            refine sr_brd (fun h3 => ?_) (fun h3 => ?_)
            · refine sr_many 4 (t := (22, [some (.inr (.inr (20, 0))), some (.inl m), some (.inl ch), some (.inl 0), some (.inl ((nI k) + 1)), some (.inl (sr_it (f_MO_dangles_53 μ m ch k a) 0 ((μ.1 20 0 0).toNatClampNeg))), some (.inl (nI ((μ.1 20 0 0).toNatClampNeg)))], [], μ)) rfl ⟨trivial, trivial, trivial, trivial, trivial⟩ ?_
              try simp only [hck] at h1 h2 h3
              try simp only [hck]
              refine sr_forget [some (.inr (.inr (20, 0))), some (.inl m), some (.inl ch), some (.inl 0), some (.inl ((nI k) + 1)), none, none] (by simp [sr_sub]) ?_
              simp only [f_MO_dangles_22, if_pos h1, if_neg h2, if_pos h3, nI_succ] at w
              exact w
            · refine sr_many 5 (t := (22, [some (.inr (.inr (20, 0))), some (.inl m), some (.inl ch), some (.inl 1), some (.inl ((nI k) + 1)), some (.inl (sr_it (f_MO_dangles_53 μ m ch k a) 0 ((μ.1 20 0 0).toNatClampNeg))), some (.inl (nI ((μ.1 20 0 0).toNatClampNeg)))], [], μ)) rfl ⟨trivial, trivial, trivial, trivial, trivial, trivial⟩ ?_
              try simp only [hck] at h1 h2 h3
              try simp only [hck]
              refine sr_forget [some (.inr (.inr (20, 0))), some (.inl m), some (.inl ch), some (.inl 1), some (.inl ((nI k) + 1)), none, none] (by simp [sr_sub]) ?_
              simp only [f_MO_dangles_22, if_pos h1, if_neg h2, if_neg h3, nI_succ] at w
              exact w
      · refine sr_many 5 (t := (53, [some (.inr (.inr (20, 0))), some (.inl m), some (.inl ch), some (.inl a), some (.inl (nI k)), some (.inl 1), some (.inl 0)], [], μ)) rfl ⟨trivial, trivial, trivial, trivial, trivial, trivial⟩ ?_
        refine sr_forT (α := Int32) (fun k2 a2 => (53, [some (.inr (.inr (20, 0))), some (.inl m), some (.inl ch), some (.inl a), some (.inl (nI k)), some (.inl a2), some (.inl (nI k2))], [], μ)) (f_MO_dangles_53 μ m ch k a) 1 ((μ.1 20 0 0).toNatClampNeg) (fun k2 hk2 a2 w2 => ?_) ?_
        · have hbk2 : k2 < 16 := sr_cnt_lt q2 hk2
          have hck2 : (nI k2).toNatClampNeg = k2 := sr_clN 16 hbk2 (by decide)
          have hink2 : sr_in (nI k2) 16 := sr_inN 16 hbk2 (by decide)
          have hcbk2 : (nI k2).toNatClampNeg < 16 := by rw [hck2]; exact hbk2
          refine sr_many 4 (t := (bif decide ((μ.1 20 0 0) ≤ (nI k2)) then 106 else 62, [some (.inr (.inr (20, 0))), some (.inl m), some (.inl ch), some (.inl a), some (.inl (nI k)), some (.inl a2), some (.inl (nI k2))], [], μ)) rfl ⟨trivial, trivial, (show 0 < 1 by decide), trivial, trivial⟩ ?_
          refine sr_brd (fun h => absurd h (by exact sr_cnt_nlt q2 (by decide) hk2)) (fun _ => ?_)
          refine sr_many 2 (t := (bif decide (¬ a2 = 0) then 93 else 67, [some (.inr (.inr (20, 0))), some (.inl m), some (.inl ch), some (.inl a), some (.inl (nI k)), some (.inl a2), some (.inl (nI k2))], [], μ)) rfl ⟨trivial, trivial, trivial⟩ ?_
          refine sr_brd (fun h1 => ?_) (fun h1 => ?_)
          · refine sr_many 5 (t := (53, [some (.inr (.inr (20, 0))), some (.inl m), some (.inl ch), some (.inl a), some (.inl (nI k)), some (.inl 1), some (.inl ((nI k2) + 1))], [], μ)) rfl ⟨trivial, trivial, trivial, trivial, trivial, trivial⟩ ?_
            try simp only [hck, hck2] at h1
            try simp only [hck, hck2]
            simp only [f_MO_dangles_53, if_pos h1, nI_succ] at w2
            exact w2
          · refine sr_many 7 (t := (bif decide (¬ ((ch >>> ((nI k2) &&& 31)) &&& (1 : Int32)) = 1) then 97 else 77, [some (.inr (.inr (20, 0))), some (.inl m), some (.inl ch), some (.inl a), some (.inl (nI k)), some (.inl a2), some (.inl (nI k2))], [], μ)) rfl ⟨trivial, trivial, trivial, trivial, trivial, trivial, trivial, trivial⟩ ?_
            refine sr_brd (fun h2 => ?_) (fun h2 => ?_)
            · refine sr_many 4 (t := (53, [some (.inr (.inr (20, 0))), some (.inl m), some (.inl ch), some (.inl a), some (.inl (nI k)), some (.inl 0), some (.inl ((nI k2) + 1))], [], μ)) rfl ⟨trivial, trivial, trivial, trivial, trivial⟩ ?_
              try simp only [hck, hck2] at h1 h2
              try simp only [hck, hck2]
              simp only [f_MO_dangles_53, if_neg h1, if_pos h2, nI_succ] at w2
              exact w2
            · refine sr_many 10 (t := (bif decide (¬ (((v_MO_is μ (nI k2) 1) >>> ((nI k) &&& 31)) &&& (1 : Int32)) = 1) then 97 else 93, [some (.inr (.inr (20, 0))), some (.inl m), some (.inl ch), some (.inl a), some (.inl (nI k)), some (.inl a2), some (.inl (nI k2))], [], μ)) rfl ⟨trivial, trivial, trivial, ⟨(show 0 < 1 by decide), (show sr_in ((9 : Int32) * (nI k2) + (1 : Int32)) 144 from sr_is9 hink2 1 (by decide))⟩, trivial, trivial, trivial, trivial, trivial, trivial, trivial⟩ ?_
              refine sr_brd (fun h3 => ?_) (fun h3 => ?_)
              · refine sr_many 4 (t := (53, [some (.inr (.inr (20, 0))), some (.inl m), some (.inl ch), some (.inl a), some (.inl (nI k)), some (.inl 0), some (.inl ((nI k2) + 1))], [], μ)) rfl ⟨trivial, trivial, trivial, trivial, trivial⟩ ?_
                try simp only [hck, hck2] at h1 h2 h3
                try simp only [hck, hck2]
                simp only [f_MO_dangles_53, if_neg h1, if_neg h2, if_pos h3, nI_succ] at w2
                exact w2
              · refine sr_many 5 (t := (53, [some (.inr (.inr (20, 0))), some (.inl m), some (.inl ch), some (.inl a), some (.inl (nI k)), some (.inl 1), some (.inl ((nI k2) + 1))], [], μ)) rfl ⟨trivial, trivial, trivial, trivial, trivial, trivial⟩ ?_
                try simp only [hck, hck2] at h1 h2 h3
                try simp only [hck, hck2]
                simp only [f_MO_dangles_53, if_neg h1, if_neg h2, if_neg h3, nI_succ] at w2
                exact w2
        · skip
          refine sr_many 4 (t := (bif decide ((μ.1 20 0 0) ≤ (nI ((μ.1 20 0 0).toNatClampNeg))) then 106 else 62, [some (.inr (.inr (20, 0))), some (.inl m), some (.inl ch), some (.inl a), some (.inl (nI k)), some (.inl (sr_it (f_MO_dangles_53 μ m ch k a) 1 ((μ.1 20 0 0).toNatClampNeg))), some (.inl (nI ((μ.1 20 0 0).toNatClampNeg)))], [], μ)) rfl ⟨trivial, trivial, (show 0 < 1 by decide), trivial, trivial⟩ ?_
          refine sr_brd (fun _ => ?_) (fun h => absurd (by exact sr_cnt_le q2) h)
          refine sr_many 2 (t := (bif decide (¬ a = 0) then 115 else 110, [some (.inr (.inr (20, 0))), some (.inl m), some (.inl ch), some (.inl a), some (.inl (nI k)), some (.inl (sr_it (f_MO_dangles_53 μ m ch k a) 1 ((μ.1 20 0 0).toNatClampNeg))), some (.inl (nI ((μ.1 20 0 0).toNatClampNeg)))], [], μ)) rfl ⟨trivial, trivial, trivial⟩ ?_
          refine sr_brd (fun h2 => ?_) (fun h2 => ?_)
          · refine sr_many 5 (t := (22, [some (.inr (.inr (20, 0))), some (.inl m), some (.inl ch), some (.inl 1), some (.inl ((nI k) + 1)), some (.inl (sr_it (f_MO_dangles_53 μ m ch k a) 1 ((μ.1 20 0 0).toNatClampNeg))), some (.inl (nI ((μ.1 20 0 0).toNatClampNeg)))], [], μ)) rfl ⟨trivial, trivial, trivial, trivial, trivial, trivial⟩ ?_
            try simp only [hck] at h1 h2
            try simp only [hck]
            refine sr_forget [some (.inr (.inr (20, 0))), some (.inl m), some (.inl ch), some (.inl 1), some (.inl ((nI k) + 1)), none, none] (by simp [sr_sub]) ?_
            simp only [f_MO_dangles_22, if_neg h1, if_pos h2, nI_succ] at w
            exact w
          · refine sr_many 2 (t := (bif decide (¬ (sr_it (f_MO_dangles_53 μ m ch k a) 1 ((μ.1 20 0 0).toNatClampNeg)) = 0) then 119 else 115, [some (.inr (.inr (20, 0))), some (.inl m), some (.inl ch), some (.inl a), some (.inl (nI k)), some (.inl (sr_it (f_MO_dangles_53 μ m ch k a) 1 ((μ.1 20 0 0).toNatClampNeg))), some (.inl (nI ((μ.1 20 0 0).toNatClampNeg)))], [], μ)) rfl ⟨trivial, trivial, trivial⟩ ?_
            refine sr_brd (fun h3 => ?_) (fun h3 => ?_)
            · refine sr_many 4 (t := (22, [some (.inr (.inr (20, 0))), some (.inl m), some (.inl ch), some (.inl 0), some (.inl ((nI k) + 1)), some (.inl (sr_it (f_MO_dangles_53 μ m ch k a) 1 ((μ.1 20 0 0).toNatClampNeg))), some (.inl (nI ((μ.1 20 0 0).toNatClampNeg)))], [], μ)) rfl ⟨trivial, trivial, trivial, trivial, trivial⟩ ?_
              try simp only [hck] at h1 h2 h3
              try simp only [hck]
              refine sr_forget [some (.inr (.inr (20, 0))), some (.inl m), some (.inl ch), some (.inl 0), some (.inl ((nI k) + 1)), none, none] (by simp [sr_sub]) ?_
              simp only [f_MO_dangles_22, if_neg h1, if_neg h2, if_pos h3, nI_succ] at w
              exact w
            · refine sr_many 5 (t := (22, [some (.inr (.inr (20, 0))), some (.inl m), some (.inl ch), some (.inl 1), some (.inl ((nI k) + 1)), some (.inl (sr_it (f_MO_dangles_53 μ m ch k a) 1 ((μ.1 20 0 0).toNatClampNeg))), some (.inl (nI ((μ.1 20 0 0).toNatClampNeg)))], [], μ)) rfl ⟨trivial, trivial, trivial, trivial, trivial, trivial⟩ ?_
              try simp only [hck] at h1 h2 h3
              try simp only [hck]
              refine sr_forget [some (.inr (.inr (20, 0))), some (.inl m), some (.inl ch), some (.inl 1), some (.inl ((nI k) + 1)), none, none] (by simp [sr_sub]) ?_
              simp only [f_MO_dangles_22, if_neg h1, if_neg h2, if_neg h3, nI_succ] at w
              exact w
    · skip
      refine sr_many 3 (t := (bif decide (6 ≤ (nI 6)) then 127 else 29, [some (.inr (.inr (20, 0))), some (.inl m), some (.inl ch), some (.inl (sr_it (f_MO_dangles_22 μ m ch) 0 6)), some (.inl (nI 6)), none, none], [], μ)) rfl ⟨trivial, trivial, trivial, trivial⟩ ?_
      refine sr_brd (fun _ => ?_) (fun h => absurd (show (6 : Int32) ≤ nI 6 by decide) h)
      refine sr_many 1 (t := (128, [some (.inr (.inr (20, 0))), some (.inl m), some (.inl ch), some (.inl (sr_it (f_MO_dangles_22 μ m ch) 0 6)), some (.inl (nI 6)), none, none], [.inl (sr_it (f_MO_dangles_22 μ m ch) 0 6)], μ)) rfl ⟨trivial, trivial⟩ ?_
      exact sr_ret rfl rfl rfl (show (sr_it (f_MO_dangles_22 μ m ch) 0 6) = 0 ∨ (sr_it (f_MO_dangles_22 μ m ch) 0 6) = 1 by first | exact hIk | assumption) (by simp only [v_MO_dangles, if_pos h1])
  · refine sr_many 5 (t := (22, [some (.inr (.inr (20, 0))), some (.inl m), some (.inl ch), some (.inl 1), some (.inl 0), none, none], [], μ)) rfl ⟨trivial, trivial, trivial, trivial, trivial, trivial⟩ ?_
    refine sr_forI (α := Int32) (fun k a => (22, [some (.inr (.inr (20, 0))), some (.inl m), some (.inl ch), some (.inl a), some (.inl (nI k)), none, none], [], μ)) (f_MO_dangles_22 μ m ch) (fun k a => a = 0 ∨ a = 1) 1 6 (by first | exact Or.inl rfl | exact Or.inr rfl) (fun k hk a h => by unfold f_MO_dangles_22; (repeat' split) <;> first | exact h | exact Or.inl rfl | exact Or.inr rfl) (fun k hk a hIk w => ?_) (fun hIk => ?_)
    · have hbk : k < 6 := hk
      have hck : (nI k).toNatClampNeg = k := sr_clN 6 hbk (by decide)
      have hink : sr_in (nI k) 6 := sr_inN 6 hbk (by decide)
      have hcbk : (nI k).toNatClampNeg < 6 := by rw [hck]; exact hbk
      refine sr_many 3 (t := (bif decide (6 ≤ (nI k)) then 127 else 29, [some (.inr (.inr (20, 0))), some (.inl m), some (.inl ch), some (.inl a), some (.inl (nI k)), none, none], [], μ)) rfl ⟨trivial, trivial, trivial, trivial⟩ ?_
      refine sr_brd (fun h => absurd h (show ¬ (6 : Int32) ≤ nI k from nI_ge hk (by decide))) (fun _ => ?_)
      refine sr_many 9 (t := (bif decide (¬ (((μ.1 25 0 m.toNatClampNeg) >>> ((nI k) &&& 31)) &&& (1 : Int32)) = 0) then 47 else 43, [some (.inr (.inr (20, 0))), some (.inl m), some (.inl ch), some (.inl a), some (.inl (nI k)), none, none], [], μ)) rfl ⟨trivial, (show 0 < 1 by decide), trivial, ⟨(show 0 < 1 by decide), (show sr_in m 16 by first | exact hIk | assumption)⟩, trivial, trivial, trivial, trivial, trivial, trivial⟩ ?_
      refine sr_brd (fun h1 => ?_) (fun h1 => ?_)
      · refine sr_many 4 (t := (53, [some (.inr (.inr (20, 0))), some (.inl m), some (.inl ch), some (.inl a), some (.inl (nI k)), some (.inl 0), some (.inl 0)], [], μ)) rfl ⟨trivial, trivial, trivial, trivial, trivial⟩ ?_
        refine sr_forT (α := Int32) (fun k2 a2 => (53, [some (.inr (.inr (20, 0))), some (.inl m), some (.inl ch), some (.inl a), some (.inl (nI k)), some (.inl a2), some (.inl (nI k2))], [], μ)) (f_MO_dangles_53 μ m ch k a) 0 ((μ.1 20 0 0).toNatClampNeg) (fun k2 hk2 a2 w2 => ?_) ?_
        · have hbk2 : k2 < 16 := sr_cnt_lt q2 hk2
          have hck2 : (nI k2).toNatClampNeg = k2 := sr_clN 16 hbk2 (by decide)
          have hink2 : sr_in (nI k2) 16 := sr_inN 16 hbk2 (by decide)
          have hcbk2 : (nI k2).toNatClampNeg < 16 := by rw [hck2]; exact hbk2
          refine sr_many 4 (t := (bif decide ((μ.1 20 0 0) ≤ (nI k2)) then 106 else 62, [some (.inr (.inr (20, 0))), some (.inl m), some (.inl ch), some (.inl a), some (.inl (nI k)), some (.inl a2), some (.inl (nI k2))], [], μ)) rfl ⟨trivial, trivial, (show 0 < 1 by decide), trivial, trivial⟩ ?_
          refine sr_brd (fun h => absurd h (by exact sr_cnt_nlt q2 (by decide) hk2)) (fun _ => ?_)
          refine sr_many 2 (t := (bif decide (¬ a2 = 0) then 93 else 67, [some (.inr (.inr (20, 0))), some (.inl m), some (.inl ch), some (.inl a), some (.inl (nI k)), some (.inl a2), some (.inl (nI k2))], [], μ)) rfl ⟨trivial, trivial, trivial⟩ ?_
          refine sr_brd (fun h1 => ?_) (fun h1 => ?_)
          · refine sr_many 5 (t := (53, [some (.inr (.inr (20, 0))), some (.inl m), some (.inl ch), some (.inl a), some (.inl (nI k)), some (.inl 1), some (.inl ((nI k2) + 1))], [], μ)) rfl ⟨trivial, trivial, trivial, trivial, trivial, trivial⟩ ?_
            try simp only [hck, hck2] at h1
            try simp only [hck, hck2]
            simp only [f_MO_dangles_53, if_pos h1, nI_succ] at w2
            exact w2
          · refine sr_many 7 (t := (bif decide (¬ ((ch >>> ((nI k2) &&& 31)) &&& (1 : Int32)) = 1) then 97 else 77, [some (.inr (.inr (20, 0))), some (.inl m), some (.inl ch), some (.inl a), some (.inl (nI k)), some (.inl a2), some (.inl (nI k2))], [], μ)) rfl ⟨trivial, trivial, trivial, trivial, trivial, trivial, trivial, trivial⟩ ?_
            refine sr_brd (fun h2 => ?_) (fun h2 => ?_)
            · refine sr_many 4 (t := (53, [some (.inr (.inr (20, 0))), some (.inl m), some (.inl ch), some (.inl a), some (.inl (nI k)), some (.inl 0), some (.inl ((nI k2) + 1))], [], μ)) rfl ⟨trivial, trivial, trivial, trivial, trivial⟩ ?_
              try simp only [hck, hck2] at h1 h2
              try simp only [hck, hck2]
              simp only [f_MO_dangles_53, if_neg h1, if_pos h2, nI_succ] at w2
              exact w2
            · refine sr_many 10 (t := (bif decide (¬ (((v_MO_is μ (nI k2) 1) >>> ((nI k) &&& 31)) &&& (1 : Int32)) = 1) then 97 else 93, [some (.inr (.inr (20, 0))), some (.inl m), some (.inl ch), some (.inl a), some (.inl (nI k)), some (.inl a2), some (.inl (nI k2))], [], μ)) rfl ⟨trivial, trivial, trivial, ⟨(show 0 < 1 by decide), (show sr_in ((9 : Int32) * (nI k2) + (1 : Int32)) 144 from sr_is9 hink2 1 (by decide))⟩, trivial, trivial, trivial, trivial, trivial, trivial, trivial⟩ ?_
              refine sr_brd (fun h3 => ?_) (fun h3 => ?_)
              · refine sr_many 4 (t := (53, [some (.inr (.inr (20, 0))), some (.inl m), some (.inl ch), some (.inl a), some (.inl (nI k)), some (.inl 0), some (.inl ((nI k2) + 1))], [], μ)) rfl ⟨trivial, trivial, trivial, trivial, trivial⟩ ?_
                try simp only [hck, hck2] at h1 h2 h3
                try simp only [hck, hck2]
                simp only [f_MO_dangles_53, if_neg h1, if_neg h2, if_pos h3, nI_succ] at w2
                exact w2
              · refine sr_many 5 (t := (53, [some (.inr (.inr (20, 0))), some (.inl m), some (.inl ch), some (.inl a), some (.inl (nI k)), some (.inl 1), some (.inl ((nI k2) + 1))], [], μ)) rfl ⟨trivial, trivial, trivial, trivial, trivial, trivial⟩ ?_
                try simp only [hck, hck2] at h1 h2 h3
                try simp only [hck, hck2]
                simp only [f_MO_dangles_53, if_neg h1, if_neg h2, if_neg h3, nI_succ] at w2
                exact w2
        · skip
          refine sr_many 4 (t := (bif decide ((μ.1 20 0 0) ≤ (nI ((μ.1 20 0 0).toNatClampNeg))) then 106 else 62, [some (.inr (.inr (20, 0))), some (.inl m), some (.inl ch), some (.inl a), some (.inl (nI k)), some (.inl (sr_it (f_MO_dangles_53 μ m ch k a) 0 ((μ.1 20 0 0).toNatClampNeg))), some (.inl (nI ((μ.1 20 0 0).toNatClampNeg)))], [], μ)) rfl ⟨trivial, trivial, (show 0 < 1 by decide), trivial, trivial⟩ ?_
          refine sr_brd (fun _ => ?_) (fun h => absurd (by exact sr_cnt_le q2) h)
          refine sr_many 2 (t := (bif decide (¬ a = 0) then 115 else 110, [some (.inr (.inr (20, 0))), some (.inl m), some (.inl ch), some (.inl a), some (.inl (nI k)), some (.inl (sr_it (f_MO_dangles_53 μ m ch k a) 0 ((μ.1 20 0 0).toNatClampNeg))), some (.inl (nI ((μ.1 20 0 0).toNatClampNeg)))], [], μ)) rfl ⟨trivial, trivial, trivial⟩ ?_
          refine sr_brd (fun h2 => ?_) (fun h2 => ?_)
          · refine sr_many 5 (t := (22, [some (.inr (.inr (20, 0))), some (.inl m), some (.inl ch), some (.inl 1), some (.inl ((nI k) + 1)), some (.inl (sr_it (f_MO_dangles_53 μ m ch k a) 0 ((μ.1 20 0 0).toNatClampNeg))), some (.inl (nI ((μ.1 20 0 0).toNatClampNeg)))], [], μ)) rfl ⟨trivial, trivial, trivial, trivial, trivial, trivial⟩ ?_
            try simp only [hck] at h1 h2
            try simp only [hck]
            refine sr_forget [some (.inr (.inr (20, 0))), some (.inl m), some (.inl ch), some (.inl 1), some (.inl ((nI k) + 1)), none, none] (by simp [sr_sub]) ?_
            simp only [f_MO_dangles_22, if_pos h1, if_pos h2, nI_succ] at w
            exact w
          · refine sr_many 2 (t := (bif decide (¬ (sr_it (f_MO_dangles_53 μ m ch k a) 0 ((μ.1 20 0 0).toNatClampNeg)) = 0) then 119 else 115, [some (.inr (.inr (20, 0))), some (.inl m), some (.inl ch), some (.inl a), some (.inl (nI k)), some (.inl (sr_it (f_MO_dangles_53 μ m ch k a) 0 ((μ.1 20 0 0).toNatClampNeg))), some (.inl (nI ((μ.1 20 0 0).toNatClampNeg)))], [], μ)) rfl ⟨trivial, trivial, trivial⟩ ?_
            refine sr_brd (fun h3 => ?_) (fun h3 => ?_)
            · refine sr_many 4 (t := (22, [some (.inr (.inr (20, 0))), some (.inl m), some (.inl ch), some (.inl 0), some (.inl ((nI k) + 1)), some (.inl (sr_it (f_MO_dangles_53 μ m ch k a) 0 ((μ.1 20 0 0).toNatClampNeg))), some (.inl (nI ((μ.1 20 0 0).toNatClampNeg)))], [], μ)) rfl ⟨trivial, trivial, trivial, trivial, trivial⟩ ?_
              try simp only [hck] at h1 h2 h3
              try simp only [hck]
              refine sr_forget [some (.inr (.inr (20, 0))), some (.inl m), some (.inl ch), some (.inl 0), some (.inl ((nI k) + 1)), none, none] (by simp [sr_sub]) ?_
              simp only [f_MO_dangles_22, if_pos h1, if_neg h2, if_pos h3, nI_succ] at w
              exact w
            · refine sr_many 5 (t := (22, [some (.inr (.inr (20, 0))), some (.inl m), some (.inl ch), some (.inl 1), some (.inl ((nI k) + 1)), some (.inl (sr_it (f_MO_dangles_53 μ m ch k a) 0 ((μ.1 20 0 0).toNatClampNeg))), some (.inl (nI ((μ.1 20 0 0).toNatClampNeg)))], [], μ)) rfl ⟨trivial, trivial, trivial, trivial, trivial, trivial⟩ ?_
              try simp only [hck] at h1 h2 h3
              try simp only [hck]
              refine sr_forget [some (.inr (.inr (20, 0))), some (.inl m), some (.inl ch), some (.inl 1), some (.inl ((nI k) + 1)), none, none] (by simp [sr_sub]) ?_
              simp only [f_MO_dangles_22, if_pos h1, if_neg h2, if_neg h3, nI_succ] at w
              exact w
      · refine sr_many 5 (t := (53, [some (.inr (.inr (20, 0))), some (.inl m), some (.inl ch), some (.inl a), some (.inl (nI k)), some (.inl 1), some (.inl 0)], [], μ)) rfl ⟨trivial, trivial, trivial, trivial, trivial, trivial⟩ ?_
        refine sr_forT (α := Int32) (fun k2 a2 => (53, [some (.inr (.inr (20, 0))), some (.inl m), some (.inl ch), some (.inl a), some (.inl (nI k)), some (.inl a2), some (.inl (nI k2))], [], μ)) (f_MO_dangles_53 μ m ch k a) 1 ((μ.1 20 0 0).toNatClampNeg) (fun k2 hk2 a2 w2 => ?_) ?_
        · have hbk2 : k2 < 16 := sr_cnt_lt q2 hk2
          have hck2 : (nI k2).toNatClampNeg = k2 := sr_clN 16 hbk2 (by decide)
          have hink2 : sr_in (nI k2) 16 := sr_inN 16 hbk2 (by decide)
          have hcbk2 : (nI k2).toNatClampNeg < 16 := by rw [hck2]; exact hbk2
          refine sr_many 4 (t := (bif decide ((μ.1 20 0 0) ≤ (nI k2)) then 106 else 62, [some (.inr (.inr (20, 0))), some (.inl m), some (.inl ch), some (.inl a), some (.inl (nI k)), some (.inl a2), some (.inl (nI k2))], [], μ)) rfl ⟨trivial, trivial, (show 0 < 1 by decide), trivial, trivial⟩ ?_
          refine sr_brd (fun h => absurd h (by exact sr_cnt_nlt q2 (by decide) hk2)) (fun _ => ?_)
          refine sr_many 2 (t := (bif decide (¬ a2 = 0) then 93 else 67, [some (.inr (.inr (20, 0))), some (.inl m), some (.inl ch), some (.inl a), some (.inl (nI k)), some (.inl a2), some (.inl (nI k2))], [], μ)) rfl ⟨trivial, trivial, trivial⟩ ?_
          refine sr_brd (fun h1 => ?_) (fun h1 => ?_)
          · refine sr_many 5 (t := (53, [some (.inr (.inr (20, 0))), some (.inl m), some (.inl ch), some (.inl a), some (.inl (nI k)), some (.inl 1), some (.inl ((nI k2) + 1))], [], μ)) rfl ⟨trivial, trivial, trivial, trivial, trivial, trivial⟩ ?_
            try simp only [hck, hck2] at h1
            try simp only [hck, hck2]
            simp only [f_MO_dangles_53, if_pos h1, nI_succ] at w2
            exact w2
          · refine sr_many 7 (t := (bif decide (¬ ((ch >>> ((nI k2) &&& 31)) &&& (1 : Int32)) = 1) then 97 else 77, [some (.inr (.inr (20, 0))), some (.inl m), some (.inl ch), some (.inl a), some (.inl (nI k)), some (.inl a2), some (.inl (nI k2))], [], μ)) rfl ⟨trivial, trivial, trivial, trivial, trivial, trivial, trivial, trivial⟩ ?_
            refine sr_brd (fun h2 => ?_) (fun h2 => ?_)
            · refine sr_many 4 (t := (53, [some (.inr (.inr (20, 0))), some (.inl m), some (.inl ch), some (.inl a), some (.inl (nI k)), some (.inl 0), some (.inl ((nI k2) + 1))], [], μ)) rfl ⟨trivial, trivial, trivial, trivial, trivial⟩ ?_
              try simp only [hck, hck2] at h1 h2
              try simp only [hck, hck2]
              simp only [f_MO_dangles_53, if_neg h1, if_pos h2, nI_succ] at w2
              exact w2
            · refine sr_many 10 (t := (bif decide (¬ (((v_MO_is μ (nI k2) 1) >>> ((nI k) &&& 31)) &&& (1 : Int32)) = 1) then 97 else 93, [some (.inr (.inr (20, 0))), some (.inl m), some (.inl ch), some (.inl a), some (.inl (nI k)), some (.inl a2), some (.inl (nI k2))], [], μ)) rfl ⟨trivial, trivial, trivial, ⟨(show 0 < 1 by decide), (show sr_in ((9 : Int32) * (nI k2) + (1 : Int32)) 144 from sr_is9 hink2 1 (by decide))⟩, trivial, trivial, trivial, trivial, trivial, trivial, trivial⟩ ?_
              refine sr_brd (fun h3 => ?_) (fun h3 => ?_)
              · refine sr_many 4 (t := (53, [some (.inr (.inr (20, 0))), some (.inl m), some (.inl ch), some (.inl a), some (.inl (nI k)), some (.inl 0), some (.inl ((nI k2) + 1))], [], μ)) rfl ⟨trivial, trivial, trivial, trivial, trivial⟩ ?_
                try simp only [hck, hck2] at h1 h2 h3
                try simp only [hck, hck2]
                simp only [f_MO_dangles_53, if_neg h1, if_neg h2, if_pos h3, nI_succ] at w2
                exact w2
              · refine sr_many 5 (t := (53, [some (.inr (.inr (20, 0))), some (.inl m), some (.inl ch), some (.inl a), some (.inl (nI k)), some (.inl 1), some (.inl ((nI k2) + 1))], [], μ)) rfl ⟨trivial, trivial, trivial, trivial, trivial, trivial⟩ ?_
                try simp only [hck, hck2] at h1 h2 h3
                try simp only [hck, hck2]
                simp only [f_MO_dangles_53, if_neg h1, if_neg h2, if_neg h3, nI_succ] at w2
                exact w2
        · skip
          refine sr_many 4 (t := (bif decide ((μ.1 20 0 0) ≤ (nI ((μ.1 20 0 0).toNatClampNeg))) then 106 else 62, [some (.inr (.inr (20, 0))), some (.inl m), some (.inl ch), some (.inl a), some (.inl (nI k)), some (.inl (sr_it (f_MO_dangles_53 μ m ch k a) 1 ((μ.1 20 0 0).toNatClampNeg))), some (.inl (nI ((μ.1 20 0 0).toNatClampNeg)))], [], μ)) rfl ⟨trivial, trivial, (show 0 < 1 by decide), trivial, trivial⟩ ?_
          refine sr_brd (fun _ => ?_) (fun h => absurd (by exact sr_cnt_le q2) h)
          refine sr_many 2 (t := (bif decide (¬ a = 0) then 115 else 110, [some (.inr (.inr (20, 0))), some (.inl m), some (.inl ch), some (.inl a), some (.inl (nI k)), some (.inl (sr_it (f_MO_dangles_53 μ m ch k a) 1 ((μ.1 20 0 0).toNatClampNeg))), some (.inl (nI ((μ.1 20 0 0).toNatClampNeg)))], [], μ)) rfl ⟨trivial, trivial, trivial⟩ ?_
          refine sr_brd (fun h2 => ?_) (fun h2 => ?_)
          · refine sr_many 5 (t := (22, [some (.inr (.inr (20, 0))), some (.inl m), some (.inl ch), some (.inl 1), some (.inl ((nI k) + 1)), some (.inl (sr_it (f_MO_dangles_53 μ m ch k a) 1 ((μ.1 20 0 0).toNatClampNeg))), some (.inl (nI ((μ.1 20 0 0).toNatClampNeg)))], [], μ)) rfl ⟨trivial, trivial, trivial, trivial, trivial, trivial⟩ ?_
            try simp only [hck] at h1 h2
            try simp only [hck]
            refine sr_forget [some (.inr (.inr (20, 0))), some (.inl m), some (.inl ch), some (.inl 1), some (.inl ((nI k) + 1)), none, none] (by simp [sr_sub]) ?_
            simp only [f_MO_dangles_22, if_neg h1, if_pos h2, nI_succ] at w
            exact w
          · refine sr_many 2 (t := (bif decide (¬ (sr_it (f_MO_dangles_53 μ m ch k a) 1 ((μ.1 20 0 0).toNatClampNeg)) = 0) then 119 else 115, [some (.inr (.inr (20, 0))), some (.inl m), some (.inl ch), some (.inl a), some (.inl (nI k)), some (.inl (sr_it (f_MO_dangles_53 μ m ch k a) 1 ((μ.1 20 0 0).toNatClampNeg))), some (.inl (nI ((μ.1 20 0 0).toNatClampNeg)))], [], μ)) rfl ⟨trivial, trivial, trivial⟩ ?_
            refine sr_brd (fun h3 => ?_) (fun h3 => ?_)
            · refine sr_many 4 (t := (22, [some (.inr (.inr (20, 0))), some (.inl m), some (.inl ch), some (.inl 0), some (.inl ((nI k) + 1)), some (.inl (sr_it (f_MO_dangles_53 μ m ch k a) 1 ((μ.1 20 0 0).toNatClampNeg))), some (.inl (nI ((μ.1 20 0 0).toNatClampNeg)))], [], μ)) rfl ⟨trivial, trivial, trivial, trivial, trivial⟩ ?_
              try simp only [hck] at h1 h2 h3
              try simp only [hck]
              refine sr_forget [some (.inr (.inr (20, 0))), some (.inl m), some (.inl ch), some (.inl 0), some (.inl ((nI k) + 1)), none, none] (by simp [sr_sub]) ?_
              simp only [f_MO_dangles_22, if_neg h1, if_neg h2, if_pos h3, nI_succ] at w
              exact w
            · refine sr_many 5 (t := (22, [some (.inr (.inr (20, 0))), some (.inl m), some (.inl ch), some (.inl 1), some (.inl ((nI k) + 1)), some (.inl (sr_it (f_MO_dangles_53 μ m ch k a) 1 ((μ.1 20 0 0).toNatClampNeg))), some (.inl (nI ((μ.1 20 0 0).toNatClampNeg)))], [], μ)) rfl ⟨trivial, trivial, trivial, trivial, trivial, trivial⟩ ?_
              try simp only [hck] at h1 h2 h3
              try simp only [hck]
              refine sr_forget [some (.inr (.inr (20, 0))), some (.inl m), some (.inl ch), some (.inl 1), some (.inl ((nI k) + 1)), none, none] (by simp [sr_sub]) ?_
              simp only [f_MO_dangles_22, if_neg h1, if_neg h2, if_neg h3, nI_succ] at w
              exact w
    · skip
      refine sr_many 3 (t := (bif decide (6 ≤ (nI 6)) then 127 else 29, [some (.inr (.inr (20, 0))), some (.inl m), some (.inl ch), some (.inl (sr_it (f_MO_dangles_22 μ m ch) 1 6)), some (.inl (nI 6)), none, none], [], μ)) rfl ⟨trivial, trivial, trivial, trivial⟩ ?_
      refine sr_brd (fun _ => ?_) (fun h => absurd (show (6 : Int32) ≤ nI 6 by decide) h)
      refine sr_many 1 (t := (128, [some (.inr (.inr (20, 0))), some (.inl m), some (.inl ch), some (.inl (sr_it (f_MO_dangles_22 μ m ch) 1 6)), some (.inl (nI 6)), none, none], [.inl (sr_it (f_MO_dangles_22 μ m ch) 1 6)], μ)) rfl ⟨trivial, trivial⟩ ?_
      exact sr_ret rfl rfl rfl (show (sr_it (f_MO_dangles_22 μ m ch) 1 6) = 0 ∨ (sr_it (f_MO_dangles_22 μ m ch) 1 6) = 1 by first | exact hIk | assumption) (by simp only [v_MO_dangles, if_neg h1])
