/-! the reference: configurations, taking, ending -/
def sr_mc (g j : Nat) : Bool := (33 ≤ g && g ≤ 36) || (38 ≤ g && g ≤ 43) || (g == 20 && (j == 23 || j == 24 || j == 25 || j == 33 || j == 34 || j == 38))
-- what a step of the reference leaves as it is
def sr_mf (μ ν : sr_M) : Prop := (∀ g i j, sr_mc g j = false → ν.1 g i j = μ.1 g i j) ∧ ν.2 = μ.2
theorem sr_mf.rf (μ : sr_M) : sr_mf μ μ := ⟨fun _ _ _ _ => rfl, rfl⟩
theorem sr_mf.trans {μ ν ρ : sr_M} (h1 : sr_mf μ ν) (h2 : sr_mf ν ρ) : sr_mf μ ρ := ⟨fun g i j h => (h2.1 g i j h).trans (h1.1 g i j h), h2.2.trans h1.2⟩
theorem sr_mf.seti {μ ν : sr_M} {g i j : Nat} {x : Int32} (h : sr_mf μ ν) (hg : sr_mc g j = true) : sr_mf μ (sr_seti ν g i j x) := by
  refine ⟨fun a b e ha => ?_, h.2⟩
  show (if a = g ∧ b = i ∧ e = j then x else ν.1 a b e) = _
  rw [if_neg (fun q => by rw [q.1, q.2.2, hg] at ha; cases ha)]
  exact h.1 a b e ha
theorem sr_mc_arr {g : Nat} (h : ((33 ≤ g && g ≤ 36) || (38 ≤ g && g ≤ 43)) = true) (j : Nat) : sr_mc g j = true := by
  unfold sr_mc
  rw [h]
  rfl
theorem sr_mf.arr {μ ν : sr_M} {g i j : Nat} {x : Int32} (h : sr_mf μ ν) (hg : ((33 ≤ g && g ≤ 36) || (38 ≤ g && g ≤ 43)) = true := by decide) : sr_mf μ (sr_seti ν g i j x) := h.seti (sr_mc_arr hg j)
theorem sr_mf.cnt {μ ν : sr_M} {N : Nat} (h : sr_mf μ ν) {g i j : Nat} (q : sr_cnt (μ.1 g i j) N) (hg : sr_mc g j = false := by rfl) : sr_cnt (ν.1 g i j) N := by rw [h.1 g i j hg]; exact q
theorem mf_MO_note (μ : sr_M) (a b c : Int32) : sr_mf μ (m_MO_note μ a b c) := by
  unfold m_MO_note
  exact ((sr_mf.rf μ).arr).seti rfl
def f_MO_configure (μ : sr_M) (lev : Int32) (bef : Int32) (cls : Int32)  : Nat → sr_M → sr_M := fun k a => if ¬ (a.1 27 0 (k)) = lev then a else (if ¬ (a.1 28 0 (k)) = bef then a else (if lev = 0 then (if ¬ (((a.1 30 0 (k)) >>> (((a.1 38 0 (k)) - (a.1 38 0 (k)) / (30 : Int32) * (30 : Int32)) &&& 31)) &&& (1 : Int32)) = 1 then (if ¬ (a.1 39 0 (k)) = 0 then (m_MO_note (sr_seti (sr_seti a 38 0 (k) ((a.1 38 0 (k)) + (1 : Int32))) 39 0 (k) (vp_nar .boolean 1)) 0 (nI k) 1) else (m_MO_note (sr_seti (sr_seti a 38 0 (k) ((a.1 38 0 (k)) + (1 : Int32))) 39 0 (k) (vp_nar .boolean 0)) 0 (nI k) 1)) else (m_MO_note (sr_seti (sr_seti a 38 0 (k) ((a.1 38 0 (k)) + (1 : Int32))) 39 0 (k) (vp_nar .boolean 1)) 0 (nI k) 2)) else (if ¬ (a.1 29 0 (k)) = cls then a else (if ¬ (((a.1 30 0 (k)) >>> (((a.1 38 0 (k)) - (a.1 38 0 (k)) / (30 : Int32) * (30 : Int32)) &&& 31)) &&& (1 : Int32)) = 1 then (if ¬ (a.1 39 0 (k)) = 0 then (m_MO_note (sr_seti (sr_seti a 38 0 (k) ((a.1 38 0 (k)) + (1 : Int32))) 39 0 (k) (vp_nar .boolean 1)) 0 (nI k) 1) else (m_MO_note (sr_seti (sr_seti a 38 0 (k) ((a.1 38 0 (k)) + (1 : Int32))) 39 0 (k) (vp_nar .boolean 0)) 0 (nI k) 1)) else (m_MO_note (sr_seti (sr_seti a 38 0 (k) ((a.1 38 0 (k)) + (1 : Int32))) 39 0 (k) (vp_nar .boolean 1)) 0 (nI k) 2)))))
def m_MO_configure (μ : sr_M) (lev : Int32) (bef : Int32) (cls : Int32) : sr_M := (sr_it (f_MO_configure μ lev bef cls) μ ((μ.1 20 0 7).toNatClampNeg))
def q_MO_configure (μ : sr_M) (lev : Int32) (bef : Int32) (cls : Int32) : Prop := sr_cnt (μ.1 20 0 7) 8
def p_MO_configure : sr_F := fun vs μ => match vs with
  | [.inr (.inr (20, 0)), .inl lev, .inl bef, .inl cls] => some (q_MO_configure μ lev bef cls, none, m_MO_configure μ lev bef cls)
  | _ => none
def e_MO_configure : sr_E := (sr_SM, sr_KS, (fun k => ([(29, 10, 8), (32, 10, 9), (36, 10, 10), (39, 10, 11), (74, 10, 31), (77, 10, 32), (118, 10, 7)] : List (Nat × Nat × Nat)).lookup k, fun _ => none, fun _ => none, fun _ => none, fun k => ([(176, 11, 3, p_MO_note)] : List (Nat × Nat × Nat × sr_F)).lookup k), sr_cd cd_MO_configure, none)
set_option maxRecDepth 10000 in
theorem a_MO_configure (μ : sr_M) (lev : Int32) (bef : Int32) (cls : Int32) (hq : q_MO_configure μ lev bef cls) : sr_AW e_MO_configure (fun r => r = (none, m_MO_configure μ lev bef cls)) (sr_entry 6 [.inr (.inr (20, 0)), .inl lev, .inl bef, .inl cls] μ) := by
  have q1 : sr_cnt (μ.1 20 0 7) 8 := hq
  refine sr_many 2 (t := (3, [some (.inr (.inr (20, 0))), some (.inl lev), some (.inl bef), some (.inl cls), some (.inl 0), none], [], μ)) rfl ⟨trivial, trivial, trivial⟩ ?_
  refine sr_forI (α := sr_M) (fun k a => (3, [some (.inr (.inr (20, 0))), some (.inl lev), some (.inl bef), some (.inl cls), some (.inl (nI k)), none], [], a)) (f_MO_configure μ lev bef cls) (fun k a => a.1 20 0 7 = μ.1 20 0 7 ∧ True) μ ((μ.1 20 0 7).toNatClampNeg) ⟨rfl, trivial⟩ (fun k hk a h => by unfold f_MO_configure; (repeat' split) <;> exact h) (fun k hk a hIk w => ?_) (fun hIk => ?_)
  · have hbk : k < 8 := sr_cnt_lt q1 hk
    have hck : (nI k).toNatClampNeg = k := sr_clN 8 hbk (by decide)
    have hink : sr_in (nI k) 8 := sr_inN 8 hbk (by decide)
    have hcbk : (nI k).toNatClampNeg < 8 := by rw [hck]; exact hbk
    refine sr_many 4 (t := (bif decide ((a.1 20 0 7) ≤ (nI k)) then 141 else 12, [some (.inr (.inr (20, 0))), some (.inl lev), some (.inl bef), some (.inl cls), some (.inl (nI k)), none], [], a)) rfl ⟨trivial, trivial, (show 0 < 1 by decide), trivial, trivial⟩ ?_
    refine sr_brd (fun h => absurd h (by rw [(hIk).1]; exact sr_cnt_nlt q1 (by decide) hk)) (fun _ => ?_)
    refine sr_many 6 (t := (bif decide (¬ (a.1 27 0 ((nI k).toNatClampNeg)) = lev) then 135 else 23, [some (.inr (.inr (20, 0))), some (.inl lev), some (.inl bef), some (.inl cls), some (.inl (nI k)), none], [], a)) rfl ⟨trivial, (show 0 < 1 by decide), trivial, ⟨(show 0 < 1 by decide), (show sr_in (nI k) 8 by assumption)⟩, trivial, trivial, trivial⟩ ?_
    refine sr_brd (fun h1 => ?_) (fun h1 => ?_)
    · refine sr_many 2 (t := (3, [some (.inr (.inr (20, 0))), some (.inl lev), some (.inl bef), some (.inl cls), some (.inl ((nI k) + 1)), none], [], a)) rfl ⟨trivial, trivial, trivial⟩ ?_
      try simp only [hck] at h1
      try simp only [hck]
      simp only [f_MO_configure, if_pos h1, nI_succ] at w
      exact w
    · refine sr_many 6 (t := (bif decide (¬ (a.1 28 0 ((nI k).toNatClampNeg)) = bef) then 135 else 34, [some (.inr (.inr (20, 0))), some (.inl lev), some (.inl bef), some (.inl cls), some (.inl (nI k)), none], [], a)) rfl ⟨trivial, (show 0 < 1 by decide), trivial, ⟨(show 0 < 1 by decide), (show sr_in (nI k) 8 by assumption)⟩, trivial, trivial, trivial⟩ ?_
      refine sr_brd (fun h2 => ?_) (fun h2 => ?_)
      · refine sr_many 2 (t := (3, [some (.inr (.inr (20, 0))), some (.inl lev), some (.inl bef), some (.inl cls), some (.inl ((nI k) + 1)), none], [], a)) rfl ⟨trivial, trivial, trivial⟩ ?_
        try simp only [hck] at h1 h2
        try simp only [hck]
        simp only [f_MO_configure, if_neg h1, if_pos h2, nI_succ] at w
        exact w
      · refine sr_many 2 (t := (bif decide (lev = 0) then 49 else 38, [some (.inr (.inr (20, 0))), some (.inl lev), some (.inl bef), some (.inl cls), some (.inl (nI k)), none], [], a)) rfl ⟨trivial, trivial, trivial⟩ ?_
        refine sr_brd (fun h3 => ?_) (fun h3 => ?_)
        · refine sr_many 15 (t := (bif decide (¬ (((a.1 30 0 ((nI k).toNatClampNeg)) >>> (((a.1 38 0 ((nI k).toNatClampNeg)) - (a.1 38 0 ((nI k).toNatClampNeg)) / (30 : Int32) * (30 : Int32)) &&& 31)) &&& (1 : Int32)) = 1) then 77 else 73, [some (.inr (.inr (20, 0))), some (.inl lev), some (.inl bef), some (.inl cls), some (.inl (nI k)), none], [], a)) rfl ⟨trivial, (show 0 < 1 by decide), trivial, ⟨(show 0 < 1 by decide), (show sr_in (nI k) 8 by assumption)⟩, trivial, (show 0 < 1 by decide), trivial, ⟨(show 0 < 1 by decide), (show sr_in (nI k) 8 by assumption)⟩, trivial, (show ¬ (30 : Int32) = 0 by decide), trivial, trivial, trivial, trivial, trivial, trivial⟩ ?_
          refine sr_brd (fun h4 => ?_) (fun h4 => ?_)
          · refine sr_many 18 (t := (bif decide (¬ (a.1 39 0 ((nI k).toNatClampNeg)) = 0) then 112 else 107, [some (.inr (.inr (20, 0))), some (.inl lev), some (.inl bef), some (.inl cls), some (.inl (nI k)), some (.inl 0)], [.inl (nI k), .inr (.inr (39, 0))], (sr_seti a 38 0 ((nI k).toNatClampNeg) ((a.1 38 0 ((nI k).toNatClampNeg)) + (1 : Int32))))) rfl ⟨trivial, trivial, trivial, (show 0 < 1 by decide), trivial, trivial, ⟨(show 0 < 1 by decide), (show sr_in (nI k) 8 by assumption)⟩, trivial, trivial, ⟨(show 0 < 1 by decide), (show sr_in (nI k) 8 by assumption)⟩, trivial, (show 0 < 1 by decide), trivial, trivial, (show 0 < 1 by decide), trivial, ⟨(show 0 < 1 by decide), (show sr_in (nI k) 8 by assumption)⟩, trivial, trivial⟩ ?_
            refine sr_brd (fun h5 => ?_) (fun h5 => ?_)
            · refine sr_many 12 (t := (3, [some (.inr (.inr (20, 0))), some (.inl lev), some (.inl bef), some (.inl cls), some (.inl ((nI k) + 1)), some (.inl 0)], [], (m_MO_note (sr_seti (sr_seti a 38 0 ((nI k).toNatClampNeg) ((a.1 38 0 ((nI k).toNatClampNeg)) + (1 : Int32))) 39 0 ((nI k).toNatClampNeg) (vp_nar .boolean 1)) 0 (nI k) 1))) rfl ⟨trivial, trivial, ⟨(show 0 < 1 by decide), (show sr_in (nI k) 8 by assumption)⟩, trivial, trivial, trivial, trivial, trivial, trivial, ⟨(show 0 < 1 by decide), trivial⟩, trivial, trivial, trivial⟩ ?_
              try simp only [hck] at h1 h2 h3 h4 h5
              try simp only [hck]
              refine sr_forget [some (.inr (.inr (20, 0))), some (.inl lev), some (.inl bef), some (.inl cls), some (.inl ((nI k) + 1)), none] (by simp [sr_sub]) ?_
              simp only [f_MO_configure, if_neg h1, if_neg h2, if_pos h3, if_pos h4, if_pos h5, nI_succ] at w
              exact w
            · refine sr_many 13 (t := (3, [some (.inr (.inr (20, 0))), some (.inl lev), some (.inl bef), some (.inl cls), some (.inl ((nI k) + 1)), some (.inl 0)], [], (m_MO_note (sr_seti (sr_seti a 38 0 ((nI k).toNatClampNeg) ((a.1 38 0 ((nI k).toNatClampNeg)) + (1 : Int32))) 39 0 ((nI k).toNatClampNeg) (vp_nar .boolean 0)) 0 (nI k) 1))) rfl ⟨trivial, trivial, trivial, ⟨(show 0 < 1 by decide), (show sr_in (nI k) 8 by assumption)⟩, trivial, trivial, trivial, trivial, trivial, trivial, ⟨(show 0 < 1 by decide), trivial⟩, trivial, trivial, trivial⟩ ?_
              try simp only [hck] at h1 h2 h3 h4 h5
              try simp only [hck]
              refine sr_forget [some (.inr (.inr (20, 0))), some (.inl lev), some (.inl bef), some (.inl cls), some (.inl ((nI k) + 1)), none] (by simp [sr_sub]) ?_
              simp only [f_MO_configure, if_neg h1, if_neg h2, if_pos h3, if_pos h4, if_neg h5, nI_succ] at w
              exact w
          · refine sr_many 19 (t := (bif decide (¬ (a.1 39 0 ((nI k).toNatClampNeg)) = 0) then 112 else 107, [some (.inr (.inr (20, 0))), some (.inl lev), some (.inl bef), some (.inl cls), some (.inl (nI k)), some (.inl 1)], [.inl (nI k), .inr (.inr (39, 0))], (sr_seti a 38 0 ((nI k).toNatClampNeg) ((a.1 38 0 ((nI k).toNatClampNeg)) + (1 : Int32))))) rfl ⟨trivial, trivial, trivial, trivial, (show 0 < 1 by decide), trivial, trivial, ⟨(show 0 < 1 by decide), (show sr_in (nI k) 8 by assumption)⟩, trivial, trivial, ⟨(show 0 < 1 by decide), (show sr_in (nI k) 8 by assumption)⟩, trivial, (show 0 < 1 by decide), trivial, trivial, (show 0 < 1 by decide), trivial, ⟨(show 0 < 1 by decide), (show sr_in (nI k) 8 by assumption)⟩, trivial, trivial⟩ ?_
            refine sr_brd (fun h5 => ?_) (fun h5 => ?_)
            · refine sr_many 13 (t := (3, [some (.inr (.inr (20, 0))), some (.inl lev), some (.inl bef), some (.inl cls), some (.inl ((nI k) + 1)), some (.inl 1)], [], (m_MO_note (sr_seti (sr_seti a 38 0 ((nI k).toNatClampNeg) ((a.1 38 0 ((nI k).toNatClampNeg)) + (1 : Int32))) 39 0 ((nI k).toNatClampNeg) (vp_nar .boolean 1)) 0 (nI k) 2))) rfl ⟨trivial, trivial, ⟨(show 0 < 1 by decide), (show sr_in (nI k) 8 by assumption)⟩, trivial, trivial, trivial, trivial, trivial, trivial, trivial, ⟨(show 0 < 1 by decide), trivial⟩, trivial, trivial, trivial⟩ ?_
              try simp only [hck] at h1 h2 h3 h4 h5
              try simp only [hck]
              refine sr_forget [some (.inr (.inr (20, 0))), some (.inl lev), some (.inl bef), some (.inl cls), some (.inl ((nI k) + 1)), none] (by simp [sr_sub]) ?_
              simp only [f_MO_configure, if_neg h1, if_neg h2, if_pos h3, if_neg h4, if_pos h5, nI_succ] at w
              exact w
            · refine sr_many 15 (t := (3, [some (.inr (.inr (20, 0))), some (.inl lev), some (.inl bef), some (.inl cls), some (.inl ((nI k) + 1)), some (.inl 1)], [], (m_MO_note (sr_seti (sr_seti a 38 0 ((nI k).toNatClampNeg) ((a.1 38 0 ((nI k).toNatClampNeg)) + (1 : Int32))) 39 0 ((nI k).toNatClampNeg) (vp_nar .boolean 1)) 0 (nI k) 2))) rfl ⟨trivial, trivial, trivial, trivial, ⟨(show 0 < 1 by decide), (show sr_in (nI k) 8 by assumption)⟩, trivial, trivial, trivial, trivial, trivial, trivial, trivial, ⟨(show 0 < 1 by decide), trivial⟩, trivial, trivial, trivial⟩ ?_
              try simp only [hck] at h1 h2 h3 h4 h5
              try simp only [hck]
              refine sr_forget [some (.inr (.inr (20, 0))), some (.inl lev), some (.inl bef), some (.inl cls), some (.inl ((nI k) + 1)), none] (by simp [sr_sub]) ?_
              simp only [f_MO_configure, if_neg h1, if_neg h2, if_pos h3, if_neg h4, if_neg h5, nI_succ] at w
              exact w
        · refine sr_many 6 (t := (bif decide (¬ (a.1 29 0 ((nI k).toNatClampNeg)) = cls) then 135 else 49, [some (.inr (.inr (20, 0))), some (.inl lev), some (.inl bef), some (.inl cls), some (.inl (nI k)), none], [], a)) rfl ⟨trivial, (show 0 < 1 by decide), trivial, ⟨(show 0 < 1 by decide), (show sr_in (nI k) 8 by assumption)⟩, trivial, trivial, trivial⟩ ?_
          refine sr_brd (fun h4 => ?_) (fun h4 => ?_)
          · refine sr_many 2 (t := (3, [some (.inr (.inr (20, 0))), some (.inl lev), some (.inl bef), some (.inl cls), some (.inl ((nI k) + 1)), none], [], a)) rfl ⟨trivial, trivial, trivial⟩ ?_
            try simp only [hck] at h1 h2 h3 h4
            try simp only [hck]
            simp only [f_MO_configure, if_neg h1, if_neg h2, if_neg h3, if_pos h4, nI_succ] at w
            exact w
          · refine sr_many 15 (t := (bif decide (¬ (((a.1 30 0 ((nI k).toNatClampNeg)) >>> (((a.1 38 0 ((nI k).toNatClampNeg)) - (a.1 38 0 ((nI k).toNatClampNeg)) / (30 : Int32) * (30 : Int32)) &&& 31)) &&& (1 : Int32)) = 1) then 77 else 73, [some (.inr (.inr (20, 0))), some (.inl lev), some (.inl bef), some (.inl cls), some (.inl (nI k)), none], [], a)) rfl ⟨trivial, (show 0 < 1 by decide), trivial, ⟨(show 0 < 1 by decide), (show sr_in (nI k) 8 by assumption)⟩, trivial, (show 0 < 1 by decide), trivial, ⟨(show 0 < 1 by decide), (show sr_in (nI k) 8 by assumption)⟩, trivial, (show ¬ (30 : Int32) = 0 by decide), trivial, trivial, trivial, trivial, trivial, trivial⟩ ?_
            refine sr_brd (fun h5 => ?_) (fun h5 => ?_)
            · refine sr_many 18 (t := (bif decide (¬ (a.1 39 0 ((nI k).toNatClampNeg)) = 0) then 112 else 107, [some (.inr (.inr (20, 0))), some (.inl lev), some (.inl bef), some (.inl cls), some (.inl (nI k)), some (.inl 0)], [.inl (nI k), .inr (.inr (39, 0))], (sr_seti a 38 0 ((nI k).toNatClampNeg) ((a.1 38 0 ((nI k).toNatClampNeg)) + (1 : Int32))))) rfl ⟨trivial, trivial, trivial, (show 0 < 1 by decide), trivial, trivial, ⟨(show 0 < 1 by decide), (show sr_in (nI k) 8 by assumption)⟩, trivial, trivial, ⟨(show 0 < 1 by decide), (show sr_in (nI k) 8 by assumption)⟩, trivial, (show 0 < 1 by decide), trivial, trivial, (show 0 < 1 by decide), trivial, ⟨(show 0 < 1 by decide), (show sr_in (nI k) 8 by assumption)⟩, trivial, trivial⟩ ?_
              refine sr_brd (fun h6 => ?_) (fun h6 => ?_)
              · refine sr_many 12 (t := (3, [some (.inr (.inr (20, 0))), some (.inl lev), some (.inl bef), some (.inl cls), some (.inl ((nI k) + 1)), some (.inl 0)], [], (m_MO_note (sr_seti (sr_seti a 38 0 ((nI k).toNatClampNeg) ((a.1 38 0 ((nI k).toNatClampNeg)) + (1 : Int32))) 39 0 ((nI k).toNatClampNeg) (vp_nar .boolean 1)) 0 (nI k) 1))) rfl ⟨trivial, trivial, ⟨(show 0 < 1 by decide), (show sr_in (nI k) 8 by assumption)⟩, trivial, trivial, trivial, trivial, trivial, trivial, ⟨(show 0 < 1 by decide), trivial⟩, trivial, trivial, trivial⟩ ?_
                try simp only [hck] at h1 h2 h3 h4 h5 h6
                try simp only [hck]
                refine sr_forget [some (.inr (.inr (20, 0))), some (.inl lev), some (.inl bef), some (.inl cls), some (.inl ((nI k) + 1)), none] (by simp [sr_sub]) ?_
                simp only [f_MO_configure, if_neg h1, if_neg h2, if_neg h3, if_neg h4, if_pos h5, if_pos h6, nI_succ] at w
                exact w
              · refine sr_many 13 (t := (3, [some (.inr (.inr (20, 0))), some (.inl lev), some (.inl bef), some (.inl cls), some (.inl ((nI k) + 1)), some (.inl 0)], [], (m_MO_note (sr_seti (sr_seti a 38 0 ((nI k).toNatClampNeg) ((a.1 38 0 ((nI k).toNatClampNeg)) + (1 : Int32))) 39 0 ((nI k).toNatClampNeg) (vp_nar .boolean 0)) 0 (nI k) 1))) rfl ⟨trivial, trivial, trivial, ⟨(show 0 < 1 by decide), (show sr_in (nI k) 8 by assumption)⟩, trivial, trivial, trivial, trivial, trivial, trivial, ⟨(show 0 < 1 by decide), trivial⟩, trivial, trivial, trivial⟩ ?_
                try simp only [hck] at h1 h2 h3 h4 h5 h6
                try simp only [hck]
                refine sr_forget [some (.inr (.inr (20, 0))), some (.inl lev), some (.inl bef), some (.inl cls), some (.inl ((nI k) + 1)), none] (by simp [sr_sub]) ?_
                simp only [f_MO_configure, if_neg h1, if_neg h2, if_neg h3, if_neg h4, if_pos h5, if_neg h6, nI_succ] at w
                exact w
            · refine sr_many 19 (t := (bif decide (¬ (a.1 39 0 ((nI k).toNatClampNeg)) = 0) then 112 else 107, [some (.inr (.inr (20, 0))), some (.inl lev), some (.inl bef), some (.inl cls), some (.inl (nI k)), some (.inl 1)], [.inl (nI k), .inr (.inr (39, 0))], (sr_seti a 38 0 ((nI k).toNatClampNeg) ((a.1 38 0 ((nI k).toNatClampNeg)) + (1 : Int32))))) rfl ⟨trivial, trivial, trivial, trivial, (show 0 < 1 by decide), trivial, trivial, ⟨(show 0 < 1 by decide), (show sr_in (nI k) 8 by assumption)⟩, trivial, trivial, ⟨(show 0 < 1 by decide), (show sr_in (nI k) 8 by assumption)⟩, trivial, (show 0 < 1 by decide), trivial, trivial, (show 0 < 1 by decide), trivial, ⟨(show 0 < 1 by decide), (show sr_in (nI k) 8 by assumption)⟩, trivial, trivial⟩ ?_
              refine sr_brd (fun h6 => ?_) (fun h6 => ?_)
              · refine sr_many 13 (t := (3, [some (.inr (.inr (20, 0))), some (.inl lev), some (.inl bef), some (.inl cls), some (.inl ((nI k) + 1)), some (.inl 1)], [], (m_MO_note (sr_seti (sr_seti a 38 0 ((nI k).toNatClampNeg) ((a.1 38 0 ((nI k).toNatClampNeg)) + (1 : Int32))) 39 0 ((nI k).toNatClampNeg) (vp_nar .boolean 1)) 0 (nI k) 2))) rfl ⟨trivial, trivial, ⟨(show 0 < 1 by decide), (show sr_in (nI k) 8 by assumption)⟩, trivial, trivial, trivial, trivial, trivial, trivial, trivial, ⟨(show 0 < 1 by decide), trivial⟩, trivial, trivial, trivial⟩ ?_
                try simp only [hck] at h1 h2 h3 h4 h5 h6
                try simp only [hck]
                refine sr_forget [some (.inr (.inr (20, 0))), some (.inl lev), some (.inl bef), some (.inl cls), some (.inl ((nI k) + 1)), none] (by simp [sr_sub]) ?_
                simp only [f_MO_configure, if_neg h1, if_neg h2, if_neg h3, if_neg h4, if_neg h5, if_pos h6, nI_succ] at w
                exact w
              · refine sr_many 15 (t := (3, [some (.inr (.inr (20, 0))), some (.inl lev), some (.inl bef), some (.inl cls), some (.inl ((nI k) + 1)), some (.inl 1)], [], (m_MO_note (sr_seti (sr_seti a 38 0 ((nI k).toNatClampNeg) ((a.1 38 0 ((nI k).toNatClampNeg)) + (1 : Int32))) 39 0 ((nI k).toNatClampNeg) (vp_nar .boolean 1)) 0 (nI k) 2))) rfl ⟨trivial, trivial, trivial, trivial, ⟨(show 0 < 1 by decide), (show sr_in (nI k) 8 by assumption)⟩, trivial, trivial, trivial, trivial, trivial, trivial, trivial, ⟨(show 0 < 1 by decide), trivial⟩, trivial, trivial, trivial⟩ ?_
                try simp only [hck] at h1 h2 h3 h4 h5 h6
                try simp only [hck]
                refine sr_forget [some (.inr (.inr (20, 0))), some (.inl lev), some (.inl bef), some (.inl cls), some (.inl ((nI k) + 1)), none] (by simp [sr_sub]) ?_
                simp only [f_MO_configure, if_neg h1, if_neg h2, if_neg h3, if_neg h4, if_neg h5, if_neg h6, nI_succ] at w
                exact w
  · skip
    refine sr_many 4 (t := (bif decide (((sr_it (f_MO_configure μ lev bef cls) μ ((μ.1 20 0 7).toNatClampNeg)).1 20 0 7) ≤ (nI ((μ.1 20 0 7).toNatClampNeg))) then 141 else 12, [some (.inr (.inr (20, 0))), some (.inl lev), some (.inl bef), some (.inl cls), some (.inl (nI ((μ.1 20 0 7).toNatClampNeg))), none], [], (sr_it (f_MO_configure μ lev bef cls) μ ((μ.1 20 0 7).toNatClampNeg)))) rfl ⟨trivial, trivial, (show 0 < 1 by decide), trivial, trivial⟩ ?_
    refine sr_brd (fun _ => ?_) (fun h => absurd (by rw [(hIk).1]; exact sr_cnt_le q1) h)
    exact sr_ret rfl rfl rfl trivial rfl
theorem mf_MO_configure (μ : sr_M) (lev bef cls : Int32) : sr_mf μ (m_MO_configure μ lev bef cls) := by
  unfold m_MO_configure
  refine sr_it_inv (sr_mf μ) (fun k b hb => ?_) (sr_mf.rf μ) _
  unfold f_MO_configure
  (repeat' split) <;> first | exact hb | exact ((hb.arr).arr).trans (mf_MO_note _ _ _ _)
theorem mf_MO_close (μ : sr_M) (wo : Int32) (res : Int32) : sr_mf μ (m_MO_close μ wo res) := by
  unfold m_MO_close
  exact ((((sr_mf.rf μ).arr).trans (mf_MO_note _ _ _ _)).arr)
