/-! the reference: start -/
def f_MO_start_22 (μ : sr_M)   : Nat → Int32 → Int32 := fun k a => if ¬ a = 0 then 1 else (if ¬ (((v_MO_selected μ) >>> ((nI k) &&& 31)) &&& (1 : Int32)) = 1 then 0 else (if (v_MO_dangles μ (nI k) (v_MO_selected μ)) = 0 then 0 else 1))
def f_MO_start_116 (μ : sr_M)   : Nat → sr_M → sr_M := fun k a => (sr_seti (sr_seti a 38 0 (k) 0) 39 0 (k) (vp_nar .boolean 0))
def f_MO_start_148 (μ : sr_M)   : Nat → sr_M → sr_M := fun k a => (sr_seti a 34 0 (k) 0)
def f_MO_start_172 (μ : sr_M)   : Nat → sr_M → sr_M := fun k a => if (a.1 20 0 0) ≤ (nI k) then (sr_seti (sr_seti (sr_seti (sr_seti a 33 0 (k) (((v_MO_selected μ) >>> ((nI k) &&& 31)) &&& (1 : Int32))) 35 0 (k) (-1)) 36 0 (k) (-1)) 37 0 (k) 0) else (if ¬ ((sr_seti a 33 0 (k) (((v_MO_selected μ) >>> ((nI k) &&& 31)) &&& (1 : Int32))).1 33 0 (k)) = 1 then (sr_seti (sr_seti (sr_seti (sr_seti a 33 0 (k) (((v_MO_selected μ) >>> ((nI k) &&& 31)) &&& (1 : Int32))) 35 0 (k) (-1)) 36 0 (k) (-1)) 37 0 (k) 0) else (sr_seti (sr_seti (sr_seti (sr_seti a 33 0 (k) (((v_MO_selected μ) >>> ((nI k) &&& 31)) &&& (1 : Int32))) 35 0 (k) (-1)) 36 0 (k) (-1)) 37 0 (k) (v_MO_needsOf (sr_seti (sr_seti (sr_seti a 33 0 (k) (((v_MO_selected μ) >>> ((nI k) &&& 31)) &&& (1 : Int32))) 35 0 (k) (-1)) 36 0 (k) (-1)) (nI k) (v_MO_selected μ))))
def v_MO_start (μ : sr_M)  : Int32 := if ¬ (μ.1 20 0 23) = 0 then (-1) else (if ¬ (v_MO_selected μ) = 0 then (if (sr_it (f_MO_start_22 μ) 0 ((μ.1 20 0 0).toNatClampNeg)) = 0 then (if (v_MO_circle μ) = 0 then 0 else 2) else (if ¬ (μ.1 20 0 22) = 0 then (if (v_MO_circle μ) = 0 then 0 else 2) else 1)) else (-1))
def m_MO_start (μ : sr_M)  : sr_M := if ¬ (μ.1 20 0 23) = 0 then μ else (if ¬ (v_MO_selected μ) = 0 then (if (sr_it (f_MO_start_22 μ) 0 ((μ.1 20 0 0).toNatClampNeg)) = 0 then (if (v_MO_circle μ) = 0 then (sr_it (f_MO_start_172 μ) (sr_it (f_MO_start_148 μ) (sr_it (f_MO_start_116 μ) (sr_seti (sr_seti (sr_seti (sr_seti (sr_seti μ 20 0 23 1) 20 0 25 0) 20 0 38 0) 20 0 33 0) 20 0 34 0) 8) 64) 16) else μ) else (if ¬ (μ.1 20 0 22) = 0 then (if (v_MO_circle μ) = 0 then (sr_it (f_MO_start_172 μ) (sr_it (f_MO_start_148 μ) (sr_it (f_MO_start_116 μ) (sr_seti (sr_seti (sr_seti (sr_seti (sr_seti μ 20 0 23 1) 20 0 25 0) 20 0 38 0) 20 0 33 0) 20 0 34 0) 8) 64) 16) else μ) else μ)) else μ)
def q_MO_start (μ : sr_M)  : Prop := sr_cnt (μ.1 20 0 0) 16 ∧ sr_cnt (μ.1 32 0 0) 12 ∧ sr_cnt (μ.1 32 0 1) 12
def p_MO_start : sr_F := fun vs μ => match vs with
  | [.inr (.inr (20, 0))] => some (q_MO_start μ , some (.inl (v_MO_start μ )), m_MO_start μ )
  | _ => none
def e_MO_start : sr_E := (sr_SM, sr_KS, (fun k => ([(59, 10, 26), (62, 10, 27), (65, 10, 28), (68, 10, 29), (71, 10, 30), (74, 10, 31), (77, 10, 32), (92, 10, 0), (103, 10, 23), (136, 10, 22), (170, 10, 38), (173, 10, 25), (186, 10, 33), (189, 10, 34)] : List (Nat × Nat × Nat)).lookup k, fun _ => none, fun _ => none, fun _ => none, fun k => ([(160, 11, 0, p_MO_selected), (164, 11, 2, p_MO_needsOf), (180, 11, 2, p_MO_dangles), (183, 11, 0, p_MO_circle)] : List (Nat × Nat × Nat × sr_F)).lookup k), sr_cd cd_MO_start, some .int)
set_option maxRecDepth 10000 in
theorem a_MO_start (μ : sr_M)  (hq : q_MO_start μ ) : sr_AW e_MO_start (fun r => r = (some (.inl (v_MO_start μ )), m_MO_start μ )) (sr_entry 5 [.inr (.inr (20, 0))] μ) := by
  have hq0 := hq
  obtain ⟨q1, q2, q3⟩ : sr_cnt (μ.1 20 0 0) 16 ∧ sr_cnt (μ.1 32 0 0) 12 ∧ sr_cnt (μ.1 32 0 1) 12 := hq
  refine sr_many 6 (t := (bif decide (¬ (μ.1 20 0 23) = 0) then 16 else 12, [some (.inr (.inr (20, 0))), some (.inl (v_MO_selected μ)), none, none, none], [], μ)) rfl ⟨trivial, ⟨(show 0 < 1 by decide), ⟨(show sr_cnt (μ.1 20 0 0) 16 from q1), (show sr_cnt (μ.1 32 0 0) 12 by assumption), (show sr_cnt (μ.1 32 0 1) 12 by assumption)⟩⟩, trivial, trivial, (show 0 < 1 by decide), trivial, trivial⟩ ?_
  refine sr_brd (fun h1 => ?_) (fun h1 => ?_)
  · refine sr_many 1 (t := (17, [some (.inr (.inr (20, 0))), some (.inl (v_MO_selected μ)), none, none, none], [.inl (-1)], μ)) rfl ⟨trivial, trivial⟩ ?_
    exact sr_ret rfl rfl rfl trivial (by simp only [v_MO_start, m_MO_start, if_pos h1])
  · refine sr_many 2 (t := (bif decide (¬ (v_MO_selected μ) = 0) then 18 else 16, [some (.inr (.inr (20, 0))), some (.inl (v_MO_selected μ)), none, none, none], [], μ)) rfl ⟨trivial, trivial, trivial⟩ ?_
    refine sr_brd (fun h2 => ?_) (fun h2 => ?_)
    · refine sr_many 4 (t := (22, [some (.inr (.inr (20, 0))), some (.inl (v_MO_selected μ)), some (.inl 0), some (.inl 0), none], [], μ)) rfl ⟨trivial, trivial, trivial, trivial, trivial⟩ ?_
      refine sr_forT (α := Int32) (fun k a => (22, [some (.inr (.inr (20, 0))), some (.inl (v_MO_selected μ)), some (.inl a), some (.inl (nI k)), none], [], μ)) (f_MO_start_22 μ) 0 ((μ.1 20 0 0).toNatClampNeg) (fun k hk a w => ?_) ?_
      · have hbk : k < 16 := sr_cnt_lt q1 hk
        have hck : (nI k).toNatClampNeg = k := sr_clN 16 hbk (by decide)
        have hink : sr_in (nI k) 16 := sr_inN 16 hbk (by decide)
        have hcbk : (nI k).toNatClampNeg < 16 := by rw [hck]; exact hbk
        refine sr_many 4 (t := (bif decide ((μ.1 20 0 0) ≤ (nI k)) then 64 else 30, [some (.inr (.inr (20, 0))), some (.inl (v_MO_selected μ)), some (.inl a), some (.inl (nI k)), none], [], μ)) rfl ⟨trivial, trivial, (show 0 < 1 by decide), trivial, trivial⟩ ?_
        refine sr_brd (fun h => absurd h (by exact sr_cnt_nlt q1 (by decide) hk)) (fun _ => ?_)
        refine sr_many 2 (t := (bif decide (¬ a = 0) then 52 else 34, [some (.inr (.inr (20, 0))), some (.inl (v_MO_selected μ)), some (.inl a), some (.inl (nI k)), none], [], μ)) rfl ⟨trivial, trivial, trivial⟩ ?_
        refine sr_brd (fun h1 => ?_) (fun h1 => ?_)
        · refine sr_many 5 (t := (22, [some (.inr (.inr (20, 0))), some (.inl (v_MO_selected μ)), some (.inl 1), some (.inl ((nI k) + 1)), none], [], μ)) rfl ⟨trivial, trivial, trivial, trivial, trivial, trivial⟩ ?_
          try simp only [hck] at h1
          try simp only [hck]
          simp only [f_MO_start_22, if_pos h1, nI_succ] at w
          exact w
        · refine sr_many 7 (t := (bif decide (¬ (((v_MO_selected μ) >>> ((nI k) &&& 31)) &&& (1 : Int32)) = 1) then 56 else 43, [some (.inr (.inr (20, 0))), some (.inl (v_MO_selected μ)), some (.inl a), some (.inl (nI k)), none], [], μ)) rfl ⟨trivial, trivial, trivial, trivial, trivial, trivial, trivial, trivial⟩ ?_
          refine sr_brd (fun h2 => ?_) (fun h2 => ?_)
          · refine sr_many 4 (t := (22, [some (.inr (.inr (20, 0))), some (.inl (v_MO_selected μ)), some (.inl 0), some (.inl ((nI k) + 1)), none], [], μ)) rfl ⟨trivial, trivial, trivial, trivial, trivial⟩ ?_
            try simp only [hck] at h1 h2
            try simp only [hck]
            simp only [f_MO_start_22, if_neg h1, if_pos h2, nI_succ] at w
            exact w
          · refine sr_many 5 (t := (bif decide ((v_MO_dangles μ (nI k) (v_MO_selected μ)) = 0) then 56 else 52, [some (.inr (.inr (20, 0))), some (.inl (v_MO_selected μ)), some (.inl a), some (.inl (nI k)), none], [], μ)) rfl ⟨trivial, trivial, trivial, ⟨(show 0 < 1 by decide), ⟨(show sr_in (nI k) 16 from hink), (show sr_cnt (μ.1 20 0 0) 16 from q1)⟩⟩, trivial, trivial⟩ ?_
            refine sr_brd (fun h3 => ?_) (fun h3 => ?_)
            · refine sr_many 4 (t := (22, [some (.inr (.inr (20, 0))), some (.inl (v_MO_selected μ)), some (.inl 0), some (.inl ((nI k) + 1)), none], [], μ)) rfl ⟨trivial, trivial, trivial, trivial, trivial⟩ ?_
              try simp only [hck] at h1 h2 h3
              try simp only [hck]
              simp only [f_MO_start_22, if_neg h1, if_neg h2, if_pos h3, nI_succ] at w
              exact w
            · refine sr_many 5 (t := (22, [some (.inr (.inr (20, 0))), some (.inl (v_MO_selected μ)), some (.inl 1), some (.inl ((nI k) + 1)), none], [], μ)) rfl ⟨trivial, trivial, trivial, trivial, trivial, trivial⟩ ?_
              try simp only [hck] at h1 h2 h3
              try simp only [hck]
              simp only [f_MO_start_22, if_neg h1, if_neg h2, if_neg h3, nI_succ] at w
              exact w
      · skip
        refine sr_many 4 (t := (bif decide ((μ.1 20 0 0) ≤ (nI ((μ.1 20 0 0).toNatClampNeg))) then 64 else 30, [some (.inr (.inr (20, 0))), some (.inl (v_MO_selected μ)), some (.inl (sr_it (f_MO_start_22 μ) 0 ((μ.1 20 0 0).toNatClampNeg))), some (.inl (nI ((μ.1 20 0 0).toNatClampNeg))), none], [], μ)) rfl ⟨trivial, trivial, (show 0 < 1 by decide), trivial, trivial⟩ ?_
        refine sr_brd (fun _ => ?_) (fun h => absurd (by exact sr_cnt_le q1) h)
        refine sr_many 2 (t := (bif decide ((sr_it (f_MO_start_22 μ) 0 ((μ.1 20 0 0).toNatClampNeg)) = 0) then 77 else 68, [some (.inr (.inr (20, 0))), some (.inl (v_MO_selected μ)), some (.inl (sr_it (f_MO_start_22 μ) 0 ((μ.1 20 0 0).toNatClampNeg))), some (.inl (nI ((μ.1 20 0 0).toNatClampNeg))), none], [], μ)) rfl ⟨trivial, trivial, trivial⟩ ?_
        refine sr_brd (fun h3 => ?_) (fun h3 => ?_)
        · refine sr_many 5 (t := (bif decide ((v_MO_circle μ) = 0) then 88 else 86, [some (.inr (.inr (20, 0))), some (.inl (v_MO_selected μ)), some (.inl (sr_it (f_MO_start_22 μ) 0 ((μ.1 20 0 0).toNatClampNeg))), some (.inl (v_MO_circle μ)), none], [], μ)) rfl ⟨trivial, ⟨(show 0 < 1 by decide), ⟨(show sr_cnt (μ.1 20 0 0) 16 from q1), (show sr_cnt (μ.1 32 0 0) 12 by assumption), (show sr_cnt (μ.1 32 0 1) 12 by assumption)⟩⟩, trivial, trivial, trivial, trivial⟩ ?_
          refine sr_brd (fun h4 => ?_) (fun h4 => ?_)
          · refine sr_many 17 (t := (116, [some (.inr (.inr (20, 0))), some (.inl (v_MO_selected μ)), some (.inl (sr_it (f_MO_start_22 μ) 0 ((μ.1 20 0 0).toNatClampNeg))), some (.inl (v_MO_circle μ)), some (.inl 0)], [], (sr_seti (sr_seti (sr_seti (sr_seti (sr_seti μ 20 0 23 1) 20 0 25 0) 20 0 38 0) 20 0 33 0) 20 0 34 0))) rfl ⟨trivial, trivial, ⟨(show 0 < 1 by decide), (Or.inr rfl)⟩, trivial, trivial, (show 0 < 1 by decide), trivial, trivial, (show 0 < 1 by decide), trivial, trivial, ⟨(show 0 < 1 by decide), (Or.inl rfl)⟩, trivial, trivial, (show 0 < 1 by decide), trivial, trivial, trivial⟩ ?_
            refine sr_forI (α := sr_M) (fun k a => (116, [some (.inr (.inr (20, 0))), some (.inl (v_MO_selected μ)), some (.inl (sr_it (f_MO_start_22 μ) 0 ((μ.1 20 0 0).toNatClampNeg))), some (.inl (v_MO_circle μ)), some (.inl (nI k))], [], a)) (f_MO_start_116 μ) (fun k a => a.1 20 0 0 = μ.1 20 0 0 ∧ True) (sr_seti (sr_seti (sr_seti (sr_seti (sr_seti μ 20 0 23 1) 20 0 25 0) 20 0 38 0) 20 0 33 0) 20 0 34 0) 8 ⟨rfl, trivial⟩ (fun k hk a h => by unfold f_MO_start_116; (repeat' split) <;> exact h) (fun k hk a hIk w => ?_) (fun hIk => ?_)
            · have hbk : k < 8 := hk
              have hck : (nI k).toNatClampNeg = k := sr_clN 8 hbk (by decide)
              have hink : sr_in (nI k) 8 := sr_inN 8 hbk (by decide)
              have hcbk : (nI k).toNatClampNeg < 8 := by rw [hck]; exact hbk
              refine sr_many 3 (t := (bif decide (8 ≤ (nI k)) then 145 else 123, [some (.inr (.inr (20, 0))), some (.inl (v_MO_selected μ)), some (.inl (sr_it (f_MO_start_22 μ) 0 ((μ.1 20 0 0).toNatClampNeg))), some (.inl (v_MO_circle μ)), some (.inl (nI k))], [], a)) rfl ⟨trivial, trivial, trivial, trivial⟩ ?_
              refine sr_brd (fun h => absurd h (show ¬ (8 : Int32) ≤ nI k from nI_ge hk (by decide))) (fun _ => ?_)
              refine sr_many 12 (t := (116, [some (.inr (.inr (20, 0))), some (.inl (v_MO_selected μ)), some (.inl (sr_it (f_MO_start_22 μ) 0 ((μ.1 20 0 0).toNatClampNeg))), some (.inl (v_MO_circle μ)), some (.inl ((nI k) + 1))], [], (sr_seti (sr_seti a 38 0 ((nI k).toNatClampNeg) 0) 39 0 ((nI k).toNatClampNeg) (vp_nar .boolean 0)))) rfl ⟨trivial, (show 0 < 1 by decide), trivial, trivial, ⟨(show 0 < 1 by decide), (show sr_in (nI k) 8 by assumption)⟩, trivial, (show 0 < 1 by decide), trivial, trivial, ⟨(show 0 < 1 by decide), (show sr_in (nI k) 8 by assumption)⟩, trivial, trivial, trivial⟩ ?_
              try simp only [hck]
              simp only [f_MO_start_116, nI_succ] at w
              exact w
            · skip
              refine sr_many 3 (t := (bif decide (8 ≤ (nI 8)) then 145 else 123, [some (.inr (.inr (20, 0))), some (.inl (v_MO_selected μ)), some (.inl (sr_it (f_MO_start_22 μ) 0 ((μ.1 20 0 0).toNatClampNeg))), some (.inl (v_MO_circle μ)), some (.inl (nI 8))], [], (sr_it (f_MO_start_116 μ) (sr_seti (sr_seti (sr_seti (sr_seti (sr_seti μ 20 0 23 1) 20 0 25 0) 20 0 38 0) 20 0 33 0) 20 0 34 0) 8))) rfl ⟨trivial, trivial, trivial, trivial⟩ ?_
              refine sr_brd (fun _ => ?_) (fun h => absurd (show (8 : Int32) ≤ nI 8 by decide) h)
              refine sr_many 2 (t := (148, [some (.inr (.inr (20, 0))), some (.inl (v_MO_selected μ)), some (.inl (sr_it (f_MO_start_22 μ) 0 ((μ.1 20 0 0).toNatClampNeg))), some (.inl (v_MO_circle μ)), some (.inl 0)], [], (sr_it (f_MO_start_116 μ) (sr_seti (sr_seti (sr_seti (sr_seti (sr_seti μ 20 0 23 1) 20 0 25 0) 20 0 38 0) 20 0 33 0) 20 0 34 0) 8))) rfl ⟨trivial, trivial, trivial⟩ ?_
              refine sr_forI (α := sr_M) (fun k a => (148, [some (.inr (.inr (20, 0))), some (.inl (v_MO_selected μ)), some (.inl (sr_it (f_MO_start_22 μ) 0 ((μ.1 20 0 0).toNatClampNeg))), some (.inl (v_MO_circle μ)), some (.inl (nI k))], [], a)) (f_MO_start_148 μ) (fun k a => a.1 20 0 0 = μ.1 20 0 0 ∧ True) (sr_it (f_MO_start_116 μ) (sr_seti (sr_seti (sr_seti (sr_seti (sr_seti μ 20 0 23 1) 20 0 25 0) 20 0 38 0) 20 0 33 0) 20 0 34 0) 8) 64 ⟨hIk.1, trivial⟩ (fun k hk a h => by unfold f_MO_start_148; (repeat' split) <;> exact h) (fun k hk a hIk w => ?_) (fun hIk => ?_)
              · have hbk : k < 64 := hk
                have hck : (nI k).toNatClampNeg = k := sr_clN 64 hbk (by decide)
                have hink : sr_in (nI k) 64 := sr_inN 64 hbk (by decide)
                have hcbk : (nI k).toNatClampNeg < 64 := by rw [hck]; exact hbk
                refine sr_many 3 (t := (bif decide (64 ≤ (nI k)) then 169 else 155, [some (.inr (.inr (20, 0))), some (.inl (v_MO_selected μ)), some (.inl (sr_it (f_MO_start_22 μ) 0 ((μ.1 20 0 0).toNatClampNeg))), some (.inl (v_MO_circle μ)), some (.inl (nI k))], [], a)) rfl ⟨trivial, trivial, trivial, trivial⟩ ?_
                refine sr_brd (fun h => absurd h (show ¬ (64 : Int32) ≤ nI k from nI_ge hk (by decide))) (fun _ => ?_)
                refine sr_many 7 (t := (148, [some (.inr (.inr (20, 0))), some (.inl (v_MO_selected μ)), some (.inl (sr_it (f_MO_start_22 μ) 0 ((μ.1 20 0 0).toNatClampNeg))), some (.inl (v_MO_circle μ)), some (.inl ((nI k) + 1))], [], (sr_seti a 34 0 ((nI k).toNatClampNeg) 0))) rfl ⟨trivial, (show 0 < 1 by decide), trivial, trivial, ⟨(show 0 < 1 by decide), (show sr_in (nI k) 64 by assumption)⟩, trivial, trivial, trivial⟩ ?_
                try simp only [hck]
                simp only [f_MO_start_148, nI_succ] at w
                exact w
              · skip
                refine sr_many 3 (t := (bif decide (64 ≤ (nI 64)) then 169 else 155, [some (.inr (.inr (20, 0))), some (.inl (v_MO_selected μ)), some (.inl (sr_it (f_MO_start_22 μ) 0 ((μ.1 20 0 0).toNatClampNeg))), some (.inl (v_MO_circle μ)), some (.inl (nI 64))], [], (sr_it (f_MO_start_148 μ) (sr_it (f_MO_start_116 μ) (sr_seti (sr_seti (sr_seti (sr_seti (sr_seti μ 20 0 23 1) 20 0 25 0) 20 0 38 0) 20 0 33 0) 20 0 34 0) 8) 64))) rfl ⟨trivial, trivial, trivial, trivial⟩ ?_
                refine sr_brd (fun _ => ?_) (fun h => absurd (show (64 : Int32) ≤ nI 64 by decide) h)
                refine sr_many 2 (t := (172, [some (.inr (.inr (20, 0))), some (.inl (v_MO_selected μ)), some (.inl (sr_it (f_MO_start_22 μ) 0 ((μ.1 20 0 0).toNatClampNeg))), some (.inl (v_MO_circle μ)), some (.inl 0)], [], (sr_it (f_MO_start_148 μ) (sr_it (f_MO_start_116 μ) (sr_seti (sr_seti (sr_seti (sr_seti (sr_seti μ 20 0 23 1) 20 0 25 0) 20 0 38 0) 20 0 33 0) 20 0 34 0) 8) 64))) rfl ⟨trivial, trivial, trivial⟩ ?_
                refine sr_forI (α := sr_M) (fun k a => (172, [some (.inr (.inr (20, 0))), some (.inl (v_MO_selected μ)), some (.inl (sr_it (f_MO_start_22 μ) 0 ((μ.1 20 0 0).toNatClampNeg))), some (.inl (v_MO_circle μ)), some (.inl (nI k))], [], a)) (f_MO_start_172 μ) (fun k a => a.1 20 0 0 = μ.1 20 0 0 ∧ True) (sr_it (f_MO_start_148 μ) (sr_it (f_MO_start_116 μ) (sr_seti (sr_seti (sr_seti (sr_seti (sr_seti μ 20 0 23 1) 20 0 25 0) 20 0 38 0) 20 0 33 0) 20 0 34 0) 8) 64) 16 ⟨hIk.1, trivial⟩ (fun k hk a h => by unfold f_MO_start_172; (repeat' split) <;> exact h) (fun k hk a hIk w => ?_) (fun hIk => ?_)
                · have hbk : k < 16 := hk
                  have hck : (nI k).toNatClampNeg = k := sr_clN 16 hbk (by decide)
                  have hink : sr_in (nI k) 16 := sr_inN 16 hbk (by decide)
                  have hcbk : (nI k).toNatClampNeg < 16 := by rw [hck]; exact hbk
                  have qa : sr_cnt (a.1 20 0 0) 16 := by rw [hIk.1]; exact q1
                  refine sr_many 3 (t := (bif decide (16 ≤ (nI k)) then 252 else 179, [some (.inr (.inr (20, 0))), some (.inl (v_MO_selected μ)), some (.inl (sr_it (f_MO_start_22 μ) 0 ((μ.1 20 0 0).toNatClampNeg))), some (.inl (v_MO_circle μ)), some (.inl (nI k))], [], a)) rfl ⟨trivial, trivial, trivial, trivial⟩ ?_
                  refine sr_brd (fun h => absurd h (show ¬ (16 : Int32) ≤ nI k from nI_ge hk (by decide))) (fun _ => ?_)
                  refine sr_many 26 (t := (bif decide ((a.1 20 0 0) ≤ (nI k)) then 244 else 223, [some (.inr (.inr (20, 0))), some (.inl (v_MO_selected μ)), some (.inl (sr_it (f_MO_start_22 μ) 0 ((μ.1 20 0 0).toNatClampNeg))), some (.inl (v_MO_circle μ)), some (.inl (nI k))], [.inl (nI k), .inr (.inr (37, 0))], (sr_seti (sr_seti (sr_seti a 33 0 ((nI k).toNatClampNeg) (((v_MO_selected μ) >>> ((nI k) &&& 31)) &&& (1 : Int32))) 35 0 ((nI k).toNatClampNeg) (-1)) 36 0 ((nI k).toNatClampNeg) (-1)))) rfl ⟨trivial, (show 0 < 1 by decide), trivial, trivial, trivial, trivial, trivial, trivial, ⟨(show 0 < 1 by decide), (show sr_in (nI k) 16 from hink)⟩, trivial, (show 0 < 1 by decide), trivial, trivial, ⟨(show 0 < 1 by decide), (show sr_in (nI k) 16 from hink)⟩, trivial, (show 0 < 1 by decide), trivial, trivial, ⟨(show 0 < 1 by decide), (show sr_in (nI k) 16 from hink)⟩, trivial, (show 0 < 1 by decide), trivial, trivial, trivial, (show 0 < 1 by decide), trivial, trivial⟩ ?_
                  refine sr_brd (fun h1 => ?_) (fun h1 => ?_)
                  · refine sr_many 4 (t := (172, [some (.inr (.inr (20, 0))), some (.inl (v_MO_selected μ)), some (.inl (sr_it (f_MO_start_22 μ) 0 ((μ.1 20 0 0).toNatClampNeg))), some (.inl (v_MO_circle μ)), some (.inl ((nI k) + 1))], [], (sr_seti (sr_seti (sr_seti (sr_seti a 33 0 ((nI k).toNatClampNeg) (((v_MO_selected μ) >>> ((nI k) &&& 31)) &&& (1 : Int32))) 35 0 ((nI k).toNatClampNeg) (-1)) 36 0 ((nI k).toNatClampNeg) (-1)) 37 0 ((nI k).toNatClampNeg) 0))) rfl ⟨trivial, ⟨(show 0 < 1 by decide), (show sr_in (nI k) 16 from hink)⟩, trivial, trivial, trivial⟩ ?_
                    try simp only [hck] at h1
                    try simp only [hck]
                    simp only [f_MO_start_172, if_pos h1, nI_succ] at w
                    exact w
                  · refine sr_many 6 (t := (bif decide (¬ ((sr_seti a 33 0 ((nI k).toNatClampNeg) (((v_MO_selected μ) >>> ((nI k) &&& 31)) &&& (1 : Int32))).1 33 0 ((nI k).toNatClampNeg)) = 1) then 244 else 234, [some (.inr (.inr (20, 0))), some (.inl (v_MO_selected μ)), some (.inl (sr_it (f_MO_start_22 μ) 0 ((μ.1 20 0 0).toNatClampNeg))), some (.inl (v_MO_circle μ)), some (.inl (nI k))], [.inl (nI k), .inr (.inr (37, 0))], (sr_seti (sr_seti (sr_seti a 33 0 ((nI k).toNatClampNeg) (((v_MO_selected μ) >>> ((nI k) &&& 31)) &&& (1 : Int32))) 35 0 ((nI k).toNatClampNeg) (-1)) 36 0 ((nI k).toNatClampNeg) (-1)))) rfl ⟨trivial, (show 0 < 1 by decide), trivial, ⟨(show 0 < 1 by decide), (show sr_in (nI k) 16 from hink)⟩, trivial, trivial, trivial⟩ ?_
                    refine sr_brd (fun h2 => ?_) (fun h2 => ?_)
                    · refine sr_many 4 (t := (172, [some (.inr (.inr (20, 0))), some (.inl (v_MO_selected μ)), some (.inl (sr_it (f_MO_start_22 μ) 0 ((μ.1 20 0 0).toNatClampNeg))), some (.inl (v_MO_circle μ)), some (.inl ((nI k) + 1))], [], (sr_seti (sr_seti (sr_seti (sr_seti a 33 0 ((nI k).toNatClampNeg) (((v_MO_selected μ) >>> ((nI k) &&& 31)) &&& (1 : Int32))) 35 0 ((nI k).toNatClampNeg) (-1)) 36 0 ((nI k).toNatClampNeg) (-1)) 37 0 ((nI k).toNatClampNeg) 0))) rfl ⟨trivial, ⟨(show 0 < 1 by decide), (show sr_in (nI k) 16 from hink)⟩, trivial, trivial, trivial⟩ ?_
                      try simp only [hck] at h1 h2
                      try simp only [hck]
                      simp only [f_MO_start_172, if_neg h1, if_pos h2, nI_succ] at w
                      exact w
                    · refine sr_many 8 (t := (172, [some (.inr (.inr (20, 0))), some (.inl (v_MO_selected μ)), some (.inl (sr_it (f_MO_start_22 μ) 0 ((μ.1 20 0 0).toNatClampNeg))), some (.inl (v_MO_circle μ)), some (.inl ((nI k) + 1))], [], (sr_seti (sr_seti (sr_seti (sr_seti a 33 0 ((nI k).toNatClampNeg) (((v_MO_selected μ) >>> ((nI k) &&& 31)) &&& (1 : Int32))) 35 0 ((nI k).toNatClampNeg) (-1)) 36 0 ((nI k).toNatClampNeg) (-1)) 37 0 ((nI k).toNatClampNeg) (v_MO_needsOf (sr_seti (sr_seti (sr_seti a 33 0 ((nI k).toNatClampNeg) (((v_MO_selected μ) >>> ((nI k) &&& 31)) &&& (1 : Int32))) 35 0 ((nI k).toNatClampNeg) (-1)) 36 0 ((nI k).toNatClampNeg) (-1)) (nI k) (v_MO_selected μ))))) rfl ⟨trivial, trivial, trivial, ⟨(show 0 < 1 by decide), ⟨(show sr_in (nI k) 16 from hink), (show sr_cnt ((sr_seti (sr_seti (sr_seti a 33 0 ((nI k).toNatClampNeg) (((v_MO_selected μ) >>> ((nI k) &&& 31)) &&& (1 : Int32))) 35 0 ((nI k).toNatClampNeg) (-1)) 36 0 ((nI k).toNatClampNeg) (-1)).1 20 0 0) 16 from qa)⟩⟩, trivial, ⟨(show 0 < 1 by decide), (show sr_in (nI k) 16 from hink)⟩, trivial, trivial, trivial⟩ ?_
                      try simp only [hck] at h1 h2
                      try simp only [hck]
                      simp only [f_MO_start_172, if_neg h1, if_neg h2, nI_succ] at w
                      exact w
                · skip
                  refine sr_many 3 (t := (bif decide (16 ≤ (nI 16)) then 252 else 179, [some (.inr (.inr (20, 0))), some (.inl (v_MO_selected μ)), some (.inl (sr_it (f_MO_start_22 μ) 0 ((μ.1 20 0 0).toNatClampNeg))), some (.inl (v_MO_circle μ)), some (.inl (nI 16))], [], (sr_it (f_MO_start_172 μ) (sr_it (f_MO_start_148 μ) (sr_it (f_MO_start_116 μ) (sr_seti (sr_seti (sr_seti (sr_seti (sr_seti μ 20 0 23 1) 20 0 25 0) 20 0 38 0) 20 0 33 0) 20 0 34 0) 8) 64) 16))) rfl ⟨trivial, trivial, trivial, trivial⟩ ?_
                  refine sr_brd (fun _ => ?_) (fun h => absurd (show (16 : Int32) ≤ nI 16 by decide) h)
                  refine sr_many 1 (t := (253, [some (.inr (.inr (20, 0))), some (.inl (v_MO_selected μ)), some (.inl (sr_it (f_MO_start_22 μ) 0 ((μ.1 20 0 0).toNatClampNeg))), some (.inl (v_MO_circle μ)), some (.inl (nI 16))], [.inl 0], (sr_it (f_MO_start_172 μ) (sr_it (f_MO_start_148 μ) (sr_it (f_MO_start_116 μ) (sr_seti (sr_seti (sr_seti (sr_seti (sr_seti μ 20 0 23 1) 20 0 25 0) 20 0 38 0) 20 0 33 0) 20 0 34 0) 8) 64) 16))) rfl ⟨trivial, trivial⟩ ?_
                  exact sr_ret rfl rfl rfl trivial (by simp only [v_MO_start, m_MO_start, if_neg h1, if_pos h2, if_pos h3, if_pos h4])
          · refine sr_many 1 (t := (87, [some (.inr (.inr (20, 0))), some (.inl (v_MO_selected μ)), some (.inl (sr_it (f_MO_start_22 μ) 0 ((μ.1 20 0 0).toNatClampNeg))), some (.inl (v_MO_circle μ)), none], [.inl 2], μ)) rfl ⟨trivial, trivial⟩ ?_
            exact sr_ret rfl rfl rfl trivial (by simp only [v_MO_start, m_MO_start, if_neg h1, if_pos h2, if_pos h3, if_neg h4])
        · refine sr_many 3 (t := (bif decide (¬ (μ.1 20 0 22) = 0) then 77 else 75, [some (.inr (.inr (20, 0))), some (.inl (v_MO_selected μ)), some (.inl (sr_it (f_MO_start_22 μ) 0 ((μ.1 20 0 0).toNatClampNeg))), some (.inl (nI ((μ.1 20 0 0).toNatClampNeg))), none], [], μ)) rfl ⟨trivial, (show 0 < 1 by decide), trivial, trivial⟩ ?_
          refine sr_brd (fun h4 => ?_) (fun h4 => ?_)
          · refine sr_many 5 (t := (bif decide ((v_MO_circle μ) = 0) then 88 else 86, [some (.inr (.inr (20, 0))), some (.inl (v_MO_selected μ)), some (.inl (sr_it (f_MO_start_22 μ) 0 ((μ.1 20 0 0).toNatClampNeg))), some (.inl (v_MO_circle μ)), none], [], μ)) rfl ⟨trivial, ⟨(show 0 < 1 by decide), ⟨(show sr_cnt (μ.1 20 0 0) 16 from q1), (show sr_cnt (μ.1 32 0 0) 12 by assumption), (show sr_cnt (μ.1 32 0 1) 12 by assumption)⟩⟩, trivial, trivial, trivial, trivial⟩ ?_
            refine sr_brd (fun h5 => ?_) (fun h5 => ?_)
            · refine sr_many 17 (t := (116, [some (.inr (.inr (20, 0))), some (.inl (v_MO_selected μ)), some (.inl (sr_it (f_MO_start_22 μ) 0 ((μ.1 20 0 0).toNatClampNeg))), some (.inl (v_MO_circle μ)), some (.inl 0)], [], (sr_seti (sr_seti (sr_seti (sr_seti (sr_seti μ 20 0 23 1) 20 0 25 0) 20 0 38 0) 20 0 33 0) 20 0 34 0))) rfl ⟨trivial, trivial, ⟨(show 0 < 1 by decide), (Or.inr rfl)⟩, trivial, trivial, (show 0 < 1 by decide), trivial, trivial, (show 0 < 1 by decide), trivial, trivial, ⟨(show 0 < 1 by decide), (Or.inl rfl)⟩, trivial, trivial, (show 0 < 1 by decide), trivial, trivial, trivial⟩ ?_
              refine sr_forI (α := sr_M) (fun k a => (116, [some (.inr (.inr (20, 0))), some (.inl (v_MO_selected μ)), some (.inl (sr_it (f_MO_start_22 μ) 0 ((μ.1 20 0 0).toNatClampNeg))), some (.inl (v_MO_circle μ)), some (.inl (nI k))], [], a)) (f_MO_start_116 μ) (fun k a => a.1 20 0 0 = μ.1 20 0 0 ∧ True) (sr_seti (sr_seti (sr_seti (sr_seti (sr_seti μ 20 0 23 1) 20 0 25 0) 20 0 38 0) 20 0 33 0) 20 0 34 0) 8 ⟨rfl, trivial⟩ (fun k hk a h => by unfold f_MO_start_116; (repeat' split) <;> exact h) (fun k hk a hIk w => ?_) (fun hIk => ?_)
              · have hbk : k < 8 := hk
                have hck : (nI k).toNatClampNeg = k := sr_clN 8 hbk (by decide)
                have hink : sr_in (nI k) 8 := sr_inN 8 hbk (by decide)
                have hcbk : (nI k).toNatClampNeg < 8 := by rw [hck]; exact hbk
                refine sr_many 3 (t := (bif decide (8 ≤ (nI k)) then 145 else 123, [some (.inr (.inr (20, 0))), some (.inl (v_MO_selected μ)), some (.inl (sr_it (f_MO_start_22 μ) 0 ((μ.1 20 0 0).toNatClampNeg))), some (.inl (v_MO_circle μ)), some (.inl (nI k))], [], a)) rfl ⟨trivial, trivial, trivial, trivial⟩ ?_
                refine sr_brd (fun h => absurd h (show ¬ (8 : Int32) ≤ nI k from nI_ge hk (by decide))) (fun _ => ?_)
                refine sr_many 12 (t := (116, [some (.inr (.inr (20, 0))), some (.inl (v_MO_selected μ)), some (.inl (sr_it (f_MO_start_22 μ) 0 ((μ.1 20 0 0).toNatClampNeg))), some (.inl (v_MO_circle μ)), some (.inl ((nI k) + 1))], [], (sr_seti (sr_seti a 38 0 ((nI k).toNatClampNeg) 0) 39 0 ((nI k).toNatClampNeg) (vp_nar .boolean 0)))) rfl ⟨trivial, (show 0 < 1 by decide), trivial, trivial, ⟨(show 0 < 1 by decide), (show sr_in (nI k) 8 by assumption)⟩, trivial, (show 0 < 1 by decide), trivial, trivial, ⟨(show 0 < 1 by decide), (show sr_in (nI k) 8 by assumption)⟩, trivial, trivial, trivial⟩ ?_
                try simp only [hck]
                simp only [f_MO_start_116, nI_succ] at w
                exact w
              · skip
                refine sr_many 3 (t := (bif decide (8 ≤ (nI 8)) then 145 else 123, [some (.inr (.inr (20, 0))), some (.inl (v_MO_selected μ)), some (.inl (sr_it (f_MO_start_22 μ) 0 ((μ.1 20 0 0).toNatClampNeg))), some (.inl (v_MO_circle μ)), some (.inl (nI 8))], [], (sr_it (f_MO_start_116 μ) (sr_seti (sr_seti (sr_seti (sr_seti (sr_seti μ 20 0 23 1) 20 0 25 0) 20 0 38 0) 20 0 33 0) 20 0 34 0) 8))) rfl ⟨trivial, trivial, trivial, trivial⟩ ?_
                refine sr_brd (fun _ => ?_) (fun h => absurd (show (8 : Int32) ≤ nI 8 by decide) h)
                refine sr_many 2 (t := (148, [some (.inr (.inr (20, 0))), some (.inl (v_MO_selected μ)), some (.inl (sr_it (f_MO_start_22 μ) 0 ((μ.1 20 0 0).toNatClampNeg))), some (.inl (v_MO_circle μ)), some (.inl 0)], [], (sr_it (f_MO_start_116 μ) (sr_seti (sr_seti (sr_seti (sr_seti (sr_seti μ 20 0 23 1) 20 0 25 0) 20 0 38 0) 20 0 33 0) 20 0 34 0) 8))) rfl ⟨trivial, trivial, trivial⟩ ?_
                refine sr_forI (α := sr_M) (fun k a => (148, [some (.inr (.inr (20, 0))), some (.inl (v_MO_selected μ)), some (.inl (sr_it (f_MO_start_22 μ) 0 ((μ.1 20 0 0).toNatClampNeg))), some (.inl (v_MO_circle μ)), some (.inl (nI k))], [], a)) (f_MO_start_148 μ) (fun k a => a.1 20 0 0 = μ.1 20 0 0 ∧ True) (sr_it (f_MO_start_116 μ) (sr_seti (sr_seti (sr_seti (sr_seti (sr_seti μ 20 0 23 1) 20 0 25 0) 20 0 38 0) 20 0 33 0) 20 0 34 0) 8) 64 ⟨hIk.1, trivial⟩ (fun k hk a h => by unfold f_MO_start_148; (repeat' split) <;> exact h) (fun k hk a hIk w => ?_) (fun hIk => ?_)
                · have hbk : k < 64 := hk
                  have hck : (nI k).toNatClampNeg = k := sr_clN 64 hbk (by decide)
                  have hink : sr_in (nI k) 64 := sr_inN 64 hbk (by decide)
                  have hcbk : (nI k).toNatClampNeg < 64 := by rw [hck]; exact hbk
                  refine sr_many 3 (t := (bif decide (64 ≤ (nI k)) then 169 else 155, [some (.inr (.inr (20, 0))), some (.inl (v_MO_selected μ)), some (.inl (sr_it (f_MO_start_22 μ) 0 ((μ.1 20 0 0).toNatClampNeg))), some (.inl (v_MO_circle μ)), some (.inl (nI k))], [], a)) rfl ⟨trivial, trivial, trivial, trivial⟩ ?_
                  refine sr_brd (fun h => absurd h (show ¬ (64 : Int32) ≤ nI k from nI_ge hk (by decide))) (fun _ => ?_)
                  refine sr_many 7 (t := (148, [some (.inr (.inr (20, 0))), some (.inl (v_MO_selected μ)), some (.inl (sr_it (f_MO_start_22 μ) 0 ((μ.1 20 0 0).toNatClampNeg))), some (.inl (v_MO_circle μ)), some (.inl ((nI k) + 1))], [], (sr_seti a 34 0 ((nI k).toNatClampNeg) 0))) rfl ⟨trivial, (show 0 < 1 by decide), trivial, trivial, ⟨(show 0 < 1 by decide), (show sr_in (nI k) 64 by assumption)⟩, trivial, trivial, trivial⟩ ?_
                  try simp only [hck]
                  simp only [f_MO_start_148, nI_succ] at w
                  exact w
                · skip
                  refine sr_many 3 (t := (bif decide (64 ≤ (nI 64)) then 169 else 155, [some (.inr (.inr (20, 0))), some (.inl (v_MO_selected μ)), some (.inl (sr_it (f_MO_start_22 μ) 0 ((μ.1 20 0 0).toNatClampNeg))), some (.inl (v_MO_circle μ)), some (.inl (nI 64))], [], (sr_it (f_MO_start_148 μ) (sr_it (f_MO_start_116 μ) (sr_seti (sr_seti (sr_seti (sr_seti (sr_seti μ 20 0 23 1) 20 0 25 0) 20 0 38 0) 20 0 33 0) 20 0 34 0) 8) 64))) rfl ⟨trivial, trivial, trivial, trivial⟩ ?_
                  refine sr_brd (fun _ => ?_) (fun h => absurd (show (64 : Int32) ≤ nI 64 by decide) h)
                  refine sr_many 2 (t := (172, [some (.inr (.inr (20, 0))), some (.inl (v_MO_selected μ)), some (.inl (sr_it (f_MO_start_22 μ) 0 ((μ.1 20 0 0).toNatClampNeg))), some (.inl (v_MO_circle μ)), some (.inl 0)], [], (sr_it (f_MO_start_148 μ) (sr_it (f_MO_start_116 μ) (sr_seti (sr_seti (sr_seti (sr_seti (sr_seti μ 20 0 23 1) 20 0 25 0) 20 0 38 0) 20 0 33 0) 20 0 34 0) 8) 64))) rfl ⟨trivial, trivial, trivial⟩ ?_
                  refine sr_forI (α := sr_M) (fun k a => (172, [some (.inr (.inr (20, 0))), some (.inl (v_MO_selected μ)), some (.inl (sr_it (f_MO_start_22 μ) 0 ((μ.1 20 0 0).toNatClampNeg))), some (.inl (v_MO_circle μ)), some (.inl (nI k))], [], a)) (f_MO_start_172 μ) (fun k a => a.1 20 0 0 = μ.1 20 0 0 ∧ True) (sr_it (f_MO_start_148 μ) (sr_it (f_MO_start_116 μ) (sr_seti (sr_seti (sr_seti (sr_seti (sr_seti μ 20 0 23 1) 20 0 25 0) 20 0 38 0) 20 0 33 0) 20 0 34 0) 8) 64) 16 ⟨hIk.1, trivial⟩ (fun k hk a h => by unfold f_MO_start_172; (repeat' split) <;> exact h) (fun k hk a hIk w => ?_) (fun hIk => ?_)
                  · have hbk : k < 16 := hk
                    have hck : (nI k).toNatClampNeg = k := sr_clN 16 hbk (by decide)
                    have hink : sr_in (nI k) 16 := sr_inN 16 hbk (by decide)
                    have hcbk : (nI k).toNatClampNeg < 16 := by rw [hck]; exact hbk
                    have qa : sr_cnt (a.1 20 0 0) 16 := by rw [hIk.1]; exact q1
                    refine sr_many 3 (t := (bif decide (16 ≤ (nI k)) then 252 else 179, [some (.inr (.inr (20, 0))), some (.inl (v_MO_selected μ)), some (.inl (sr_it (f_MO_start_22 μ) 0 ((μ.1 20 0 0).toNatClampNeg))), some (.inl (v_MO_circle μ)), some (.inl (nI k))], [], a)) rfl ⟨trivial, trivial, trivial, trivial⟩ ?_
                    refine sr_brd (fun h => absurd h (show ¬ (16 : Int32) ≤ nI k from nI_ge hk (by decide))) (fun _ => ?_)
                    refine sr_many 26 (t := (bif decide ((a.1 20 0 0) ≤ (nI k)) then 244 else 223, [some (.inr (.inr (20, 0))), some (.inl (v_MO_selected μ)), some (.inl (sr_it (f_MO_start_22 μ) 0 ((μ.1 20 0 0).toNatClampNeg))), some (.inl (v_MO_circle μ)), some (.inl (nI k))], [.inl (nI k), .inr (.inr (37, 0))], (sr_seti (sr_seti (sr_seti a 33 0 ((nI k).toNatClampNeg) (((v_MO_selected μ) >>> ((nI k) &&& 31)) &&& (1 : Int32))) 35 0 ((nI k).toNatClampNeg) (-1)) 36 0 ((nI k).toNatClampNeg) (-1)))) rfl ⟨trivial, (show 0 < 1 by decide), trivial, trivial, trivial, trivial, trivial, trivial, ⟨(show 0 < 1 by decide), (show sr_in (nI k) 16 from hink)⟩, trivial, (show 0 < 1 by decide), trivial, trivial, ⟨(show 0 < 1 by decide), (show sr_in (nI k) 16 from hink)⟩, trivial, (show 0 < 1 by decide), trivial, trivial, ⟨(show 0 < 1 by decide), (show sr_in (nI k) 16 from hink)⟩, trivial, (show 0 < 1 by decide), trivial, trivial, trivial, (show 0 < 1 by decide), trivial, trivial⟩ ?_
                    refine sr_brd (fun h1 => ?_) (fun h1 => ?_)
                    · refine sr_many 4 (t := (172, [some (.inr (.inr (20, 0))), some (.inl (v_MO_selected μ)), some (.inl (sr_it (f_MO_start_22 μ) 0 ((μ.1 20 0 0).toNatClampNeg))), some (.inl (v_MO_circle μ)), some (.inl ((nI k) + 1))], [], (sr_seti (sr_seti (sr_seti (sr_seti a 33 0 ((nI k).toNatClampNeg) (((v_MO_selected μ) >>> ((nI k) &&& 31)) &&& (1 : Int32))) 35 0 ((nI k).toNatClampNeg) (-1)) 36 0 ((nI k).toNatClampNeg) (-1)) 37 0 ((nI k).toNatClampNeg) 0))) rfl ⟨trivial, ⟨(show 0 < 1 by decide), (show sr_in (nI k) 16 from hink)⟩, trivial, trivial, trivial⟩ ?_
                      try simp only [hck] at h1
                      try simp only [hck]
                      simp only [f_MO_start_172, if_pos h1, nI_succ] at w
                      exact w
                    · refine sr_many 6 (t := (bif decide (¬ ((sr_seti a 33 0 ((nI k).toNatClampNeg) (((v_MO_selected μ) >>> ((nI k) &&& 31)) &&& (1 : Int32))).1 33 0 ((nI k).toNatClampNeg)) = 1) then 244 else 234, [some (.inr (.inr (20, 0))), some (.inl (v_MO_selected μ)), some (.inl (sr_it (f_MO_start_22 μ) 0 ((μ.1 20 0 0).toNatClampNeg))), some (.inl (v_MO_circle μ)), some (.inl (nI k))], [.inl (nI k), .inr (.inr (37, 0))], (sr_seti (sr_seti (sr_seti a 33 0 ((nI k).toNatClampNeg) (((v_MO_selected μ) >>> ((nI k) &&& 31)) &&& (1 : Int32))) 35 0 ((nI k).toNatClampNeg) (-1)) 36 0 ((nI k).toNatClampNeg) (-1)))) rfl ⟨trivial, (show 0 < 1 by decide), trivial, ⟨(show 0 < 1 by decide), (show sr_in (nI k) 16 from hink)⟩, trivial, trivial, trivial⟩ ?_
                      refine sr_brd (fun h2 => ?_) (fun h2 => ?_)
                      · refine sr_many 4 (t := (172, [some (.inr (.inr (20, 0))), some (.inl (v_MO_selected μ)), some (.inl (sr_it (f_MO_start_22 μ) 0 ((μ.1 20 0 0).toNatClampNeg))), some (.inl (v_MO_circle μ)), some (.inl ((nI k) + 1))], [], (sr_seti (sr_seti (sr_seti (sr_seti a 33 0 ((nI k).toNatClampNeg) (((v_MO_selected μ) >>> ((nI k) &&& 31)) &&& (1 : Int32))) 35 0 ((nI k).toNatClampNeg) (-1)) 36 0 ((nI k).toNatClampNeg) (-1)) 37 0 ((nI k).toNatClampNeg) 0))) rfl ⟨trivial, ⟨(show 0 < 1 by decide), (show sr_in (nI k) 16 from hink)⟩, trivial, trivial, trivial⟩ ?_
                        try simp only [hck] at h1 h2
                        try simp only [hck]
                        simp only [f_MO_start_172, if_neg h1, if_pos h2, nI_succ] at w
                        exact w
                      · refine sr_many 8 (t := (172, [some (.inr (.inr (20, 0))), some (.inl (v_MO_selected μ)), some (.inl (sr_it (f_MO_start_22 μ) 0 ((μ.1 20 0 0).toNatClampNeg))), some (.inl (v_MO_circle μ)), some (.inl ((nI k) + 1))], [], (sr_seti (sr_seti (sr_seti (sr_seti a 33 0 ((nI k).toNatClampNeg) (((v_MO_selected μ) >>> ((nI k) &&& 31)) &&& (1 : Int32))) 35 0 ((nI k).toNatClampNeg) (-1)) 36 0 ((nI k).toNatClampNeg) (-1)) 37 0 ((nI k).toNatClampNeg) (v_MO_needsOf (sr_seti (sr_seti (sr_seti a 33 0 ((nI k).toNatClampNeg) (((v_MO_selected μ) >>> ((nI k) &&& 31)) &&& (1 : Int32))) 35 0 ((nI k).toNatClampNeg) (-1)) 36 0 ((nI k).toNatClampNeg) (-1)) (nI k) (v_MO_selected μ))))) rfl ⟨trivial, trivial, trivial, ⟨(show 0 < 1 by decide), ⟨(show sr_in (nI k) 16 from hink), (show sr_cnt ((sr_seti (sr_seti (sr_seti a 33 0 ((nI k).toNatClampNeg) (((v_MO_selected μ) >>> ((nI k) &&& 31)) &&& (1 : Int32))) 35 0 ((nI k).toNatClampNeg) (-1)) 36 0 ((nI k).toNatClampNeg) (-1)).1 20 0 0) 16 from qa)⟩⟩, trivial, ⟨(show 0 < 1 by decide), (show sr_in (nI k) 16 from hink)⟩, trivial, trivial, trivial⟩ ?_
                        try simp only [hck] at h1 h2
                        try simp only [hck]
                        simp only [f_MO_start_172, if_neg h1, if_neg h2, nI_succ] at w
                        exact w
                  · skip
                    refine sr_many 3 (t := (bif decide (16 ≤ (nI 16)) then 252 else 179, [some (.inr (.inr (20, 0))), some (.inl (v_MO_selected μ)), some (.inl (sr_it (f_MO_start_22 μ) 0 ((μ.1 20 0 0).toNatClampNeg))), some (.inl (v_MO_circle μ)), some (.inl (nI 16))], [], (sr_it (f_MO_start_172 μ) (sr_it (f_MO_start_148 μ) (sr_it (f_MO_start_116 μ) (sr_seti (sr_seti (sr_seti (sr_seti (sr_seti μ 20 0 23 1) 20 0 25 0) 20 0 38 0) 20 0 33 0) 20 0 34 0) 8) 64) 16))) rfl ⟨trivial, trivial, trivial, trivial⟩ ?_
                    refine sr_brd (fun _ => ?_) (fun h => absurd (show (16 : Int32) ≤ nI 16 by decide) h)
                    refine sr_many 1 (t := (253, [some (.inr (.inr (20, 0))), some (.inl (v_MO_selected μ)), some (.inl (sr_it (f_MO_start_22 μ) 0 ((μ.1 20 0 0).toNatClampNeg))), some (.inl (v_MO_circle μ)), some (.inl (nI 16))], [.inl 0], (sr_it (f_MO_start_172 μ) (sr_it (f_MO_start_148 μ) (sr_it (f_MO_start_116 μ) (sr_seti (sr_seti (sr_seti (sr_seti (sr_seti μ 20 0 23 1) 20 0 25 0) 20 0 38 0) 20 0 33 0) 20 0 34 0) 8) 64) 16))) rfl ⟨trivial, trivial⟩ ?_
                    exact sr_ret rfl rfl rfl trivial (by simp only [v_MO_start, m_MO_start, if_neg h1, if_pos h2, if_neg h3, if_pos h4, if_pos h5])
            · refine sr_many 1 (t := (87, [some (.inr (.inr (20, 0))), some (.inl (v_MO_selected μ)), some (.inl (sr_it (f_MO_start_22 μ) 0 ((μ.1 20 0 0).toNatClampNeg))), some (.inl (v_MO_circle μ)), none], [.inl 2], μ)) rfl ⟨trivial, trivial⟩ ?_
              exact sr_ret rfl rfl rfl trivial (by simp only [v_MO_start, m_MO_start, if_neg h1, if_pos h2, if_neg h3, if_pos h4, if_neg h5])
          · refine sr_many 1 (t := (76, [some (.inr (.inr (20, 0))), some (.inl (v_MO_selected μ)), some (.inl (sr_it (f_MO_start_22 μ) 0 ((μ.1 20 0 0).toNatClampNeg))), some (.inl (nI ((μ.1 20 0 0).toNatClampNeg))), none], [.inl 1], μ)) rfl ⟨trivial, trivial⟩ ?_
            exact sr_ret rfl rfl rfl trivial (by simp only [v_MO_start, m_MO_start, if_neg h1, if_pos h2, if_neg h3, if_neg h4])
    · refine sr_many 1 (t := (17, [some (.inr (.inr (20, 0))), some (.inl (v_MO_selected μ)), none, none, none], [.inl (-1)], μ)) rfl ⟨trivial, trivial⟩ ?_
      exact sr_ret rfl rfl rfl trivial (by simp only [v_MO_start, m_MO_start, if_neg h1, if_neg h2])
