/-! the reference: names, patterns, selection -/
theorem sr_cnt_ngt {x : Int32} {N k : Nat} (h : sr_cnt x N) (hN : N < 2 ^ 31) (hk : k < x.toNatClampNeg + 1) : ¬ x < nI k := by
  have h2 := h.2
  rw [h.1, nI_ltI (by omega) (by omega)]
  omega
theorem sr_cnt_gt {x : Int32} {N : Nat} (h : sr_cnt x N) (hN : N < 2 ^ 31 - 1) : x < nI (x.toNatClampNeg + 1) := by
  have h2 := h.2
  conv => lhs; rw [h.1]
  rw [nI_ltI (by omega) (by omega)]
  omega
theorem sr_k {b : Prop} (h : b) : b := h
def f_MO_isName (nm : Int64)  : Nat → (Int32 × Int32) → Int32 × Int32 := fun k a => if a.2 = 0 then (if ¬ a.1 = 0 then (1, 0) else (if ¬ (lg_cmp ((nm >>> (Int32.toInt64 ((5 : Int32) * (nI k)) &&& 63)) &&& (31 : Int64)) 0) = 0 then (0, 0) else (1, 0))) else (if 0 < (lg_cmp ((nm >>> (Int32.toInt64 ((5 : Int32) * (nI k)) &&& 63)) &&& (31 : Int64)) 26) then (if ¬ a.1 = 0 then (1, 0) else (if ¬ (lg_cmp ((nm >>> (Int32.toInt64 ((5 : Int32) * (nI k)) &&& 63)) &&& (31 : Int64)) 0) = 0 then (0, 0) else (1, 0))) else (if (lg_cmp ((nm >>> (Int32.toInt64 ((5 : Int32) * (nI k)) &&& 63)) &&& (31 : Int64)) 0) = 0 then (if 0 < (lg_cmp ((nm >>> (Int32.toInt64 ((5 : Int32) * (nI k)) &&& 63)) &&& (31 : Int64)) 0) then (1, 1) else (if (nI k) ≤ 0 then (1, 0) else (1, 1))) else (if ¬ a.1 = 0 then (1, 0) else (if 0 < (lg_cmp ((nm >>> (Int32.toInt64 ((5 : Int32) * (nI k)) &&& 63)) &&& (31 : Int64)) 0) then (0, 1) else (if (nI k) ≤ 0 then (0, 0) else (0, 1))))))
def v_MO_isName (nm : Int64) : Int32 := if (lg_cmp nm 0) ≤ 0 then ((sr_it (f_MO_isName nm) (0, 0) 8).2) else (if ¬ (lg_cmp (nm >>> (Int32.toInt64 40 &&& 63)) 0) = 0 then ((sr_it (f_MO_isName nm) (0, 0) 8).2) else ((sr_it (f_MO_isName nm) (0, 1) 8).2))
def p_MO_isName : sr_F := fun vs μ => match vs with
  | [.inr (.inl nm)] => some (True, some (.inl (v_MO_isName nm)), μ)
  | _ => none
def e_MO_isName : sr_E := (sr_SM, sr_KS, (fun _ => none, fun _ => none, fun k => ([(99, 31), (101, 26)] : List (Nat × Int64)).lookup k, fun _ => none, fun _ => none), sr_cd cd_MO_isName, some .boolean)
set_option maxRecDepth 10000 in
theorem a_MO_isName (μ : sr_M) (nm : Int64) : sr_AW e_MO_isName (fun r => r = (some (.inl (v_MO_isName nm)), μ)) (sr_entry 7 [.inr (.inl nm)] μ) := by
  refine sr_many 6 (t := (bif decide ((lg_cmp nm 0) ≤ 0) then 21 else 8, [some (.inr (.inl nm)), none, some (.inl 0), none, none, none, none], [], μ)) rfl ⟨trivial, trivial, trivial, trivial, trivial, trivial, trivial⟩ ?_
  refine sr_brd (fun h1 => ?_) (fun h1 => ?_)
  · refine sr_many 4 (t := (26, [some (.inr (.inl nm)), none, some (.inl 0), some (.inl 0), some (.inl 0), none, none], [], μ)) rfl ⟨trivial, trivial, trivial, trivial, trivial⟩ ?_
    refine sr_forI (α := Int32 × Int32) (fun k a => (26, [some (.inr (.inl nm)), none, some (.inl a.1), some (.inl a.2), some (.inl (nI k)), none, none], [], μ)) (f_MO_isName nm) (fun k a => (a.1 = 0 ∨ a.1 = 1) ∧ (a.2 = 0 ∨ a.2 = 1)) (0, 0) 8 ⟨by decide, by decide⟩ (fun k hk a h => by unfold f_MO_isName; (repeat' split) <;> simp_all) (fun k hk a hIk w => ?_) (fun hIk => ?_)
    · have hbk : k < 8 := hk
      have hck : (nI k).toNatClampNeg = k := sr_clN 8 hbk (by decide)
      have hink : sr_in (nI k) 8 := sr_inN 8 hbk (by decide)
      have hcbk : (nI k).toNatClampNeg < 8 := by rw [hck]; exact hbk
      refine sr_many 3 (t := (bif decide (8 ≤ (nI k)) then 110 else 33, [some (.inr (.inl nm)), none, some (.inl a.1), some (.inl a.2), some (.inl (nI k)), none, none], [], μ)) rfl ⟨trivial, trivial, trivial, trivial⟩ ?_
      refine sr_brd (fun h => absurd h (show ¬ (8 : Int32) ≤ nI k from nI_ge hk (by decide))) (fun _ => ?_)
      refine sr_many 10 (t := (bif decide (a.2 = 0) then 85 else 49, [some (.inr (.inl nm)), none, some (.inl a.1), some (.inl a.2), some (.inl (nI k)), some (.inr (.inl ((nm >>> (Int32.toInt64 ((5 : Int32) * (nI k)) &&& 63)) &&& (31 : Int64)))), none], [], μ)) rfl ⟨trivial, trivial, trivial, trivial, trivial, trivial, trivial, trivial, trivial, trivial, trivial⟩ ?_
      refine sr_brd (fun h1 => ?_) (fun h1 => ?_)
      · refine sr_many 4 (t := (bif decide (¬ a.1 = 0) then 98 else 91, [some (.inr (.inl nm)), none, some (.inl a.1), some (.inl 0), some (.inl (nI k)), some (.inr (.inl ((nm >>> (Int32.toInt64 ((5 : Int32) * (nI k)) &&& 63)) &&& (31 : Int64)))), none], [], μ)) rfl ⟨trivial, trivial, trivial, trivial, trivial⟩ ?_
        refine sr_brd (fun h2 => ?_) (fun h2 => ?_)
        · refine sr_many 5 (t := (26, [some (.inr (.inl nm)), none, some (.inl 1), some (.inl 0), some (.inl ((nI k) + 1)), some (.inr (.inl ((nm >>> (Int32.toInt64 ((5 : Int32) * (nI k)) &&& 63)) &&& (31 : Int64)))), none], [], μ)) rfl ⟨trivial, trivial, trivial, trivial, trivial, trivial⟩ ?_
          try simp only [hck] at h1 h2
          try simp only [hck]
          refine sr_forget [some (.inr (.inl nm)), none, some (.inl 1), some (.inl 0), some (.inl ((nI k) + 1)), none, none] (by simp [sr_sub]) ?_
          simp only [f_MO_isName, if_pos h1, if_pos h2, nI_succ] at w
          exact w
        · refine sr_many 4 (t := (bif decide (¬ (lg_cmp ((nm >>> (Int32.toInt64 ((5 : Int32) * (nI k)) &&& 63)) &&& (31 : Int64)) 0) = 0) then 102 else 98, [some (.inr (.inl nm)), none, some (.inl a.1), some (.inl 0), some (.inl (nI k)), some (.inr (.inl ((nm >>> (Int32.toInt64 ((5 : Int32) * (nI k)) &&& 63)) &&& (31 : Int64)))), none], [], μ)) rfl ⟨trivial, trivial, trivial, trivial, trivial⟩ ?_
          refine sr_brd (fun h3 => ?_) (fun h3 => ?_)
          · refine sr_many 4 (t := (26, [some (.inr (.inl nm)), none, some (.inl 0), some (.inl 0), some (.inl ((nI k) + 1)), some (.inr (.inl ((nm >>> (Int32.toInt64 ((5 : Int32) * (nI k)) &&& 63)) &&& (31 : Int64)))), none], [], μ)) rfl ⟨trivial, trivial, trivial, trivial, trivial⟩ ?_
            try simp only [hck] at h1 h2 h3
            try simp only [hck]
            refine sr_forget [some (.inr (.inl nm)), none, some (.inl 0), some (.inl 0), some (.inl ((nI k) + 1)), none, none] (by simp [sr_sub]) ?_
            simp only [f_MO_isName, if_pos h1, if_neg h2, if_pos h3, nI_succ] at w
            exact w
          · refine sr_many 5 (t := (26, [some (.inr (.inl nm)), none, some (.inl 1), some (.inl 0), some (.inl ((nI k) + 1)), some (.inr (.inl ((nm >>> (Int32.toInt64 ((5 : Int32) * (nI k)) &&& 63)) &&& (31 : Int64)))), none], [], μ)) rfl ⟨trivial, trivial, trivial, trivial, trivial, trivial⟩ ?_
            try simp only [hck] at h1 h2 h3
            try simp only [hck]
            refine sr_forget [some (.inr (.inl nm)), none, some (.inl 1), some (.inl 0), some (.inl ((nI k) + 1)), none, none] (by simp [sr_sub]) ?_
            simp only [f_MO_isName, if_pos h1, if_neg h2, if_neg h3, nI_succ] at w
            exact w
      · refine sr_many 4 (t := (bif decide (0 < (lg_cmp ((nm >>> (Int32.toInt64 ((5 : Int32) * (nI k)) &&& 63)) &&& (31 : Int64)) 26)) then 85 else 58, [some (.inr (.inl nm)), none, some (.inl a.1), some (.inl a.2), some (.inl (nI k)), some (.inr (.inl ((nm >>> (Int32.toInt64 ((5 : Int32) * (nI k)) &&& 63)) &&& (31 : Int64)))), none], [], μ)) rfl ⟨trivial, trivial, trivial, trivial, trivial⟩ ?_
        refine sr_brd (fun h2 => ?_) (fun h2 => ?_)
        · refine sr_many 4 (t := (bif decide (¬ a.1 = 0) then 98 else 91, [some (.inr (.inl nm)), none, some (.inl a.1), some (.inl 0), some (.inl (nI k)), some (.inr (.inl ((nm >>> (Int32.toInt64 ((5 : Int32) * (nI k)) &&& 63)) &&& (31 : Int64)))), none], [], μ)) rfl ⟨trivial, trivial, trivial, trivial, trivial⟩ ?_
          refine sr_brd (fun h3 => ?_) (fun h3 => ?_)
          · refine sr_many 5 (t := (26, [some (.inr (.inl nm)), none, some (.inl 1), some (.inl 0), some (.inl ((nI k) + 1)), some (.inr (.inl ((nm >>> (Int32.toInt64 ((5 : Int32) * (nI k)) &&& 63)) &&& (31 : Int64)))), none], [], μ)) rfl ⟨trivial, trivial, trivial, trivial, trivial, trivial⟩ ?_
            try simp only [hck] at h1 h2 h3
            try simp only [hck]
            refine sr_forget [some (.inr (.inl nm)), none, some (.inl 1), some (.inl 0), some (.inl ((nI k) + 1)), none, none] (by simp [sr_sub]) ?_
            simp only [f_MO_isName, if_neg h1, if_pos h2, if_pos h3, nI_succ] at w
            exact w
          · refine sr_many 4 (t := (bif decide (¬ (lg_cmp ((nm >>> (Int32.toInt64 ((5 : Int32) * (nI k)) &&& 63)) &&& (31 : Int64)) 0) = 0) then 102 else 98, [some (.inr (.inl nm)), none, some (.inl a.1), some (.inl 0), some (.inl (nI k)), some (.inr (.inl ((nm >>> (Int32.toInt64 ((5 : Int32) * (nI k)) &&& 63)) &&& (31 : Int64)))), none], [], μ)) rfl ⟨trivial, trivial, trivial, trivial, trivial⟩ ?_
            refine sr_brd (fun h4 => ?_) (fun h4 => ?_)
            · refine sr_many 4 (t := (26, [some (.inr (.inl nm)), none, some (.inl 0), some (.inl 0), some (.inl ((nI k) + 1)), some (.inr (.inl ((nm >>> (Int32.toInt64 ((5 : Int32) * (nI k)) &&& 63)) &&& (31 : Int64)))), none], [], μ)) rfl ⟨trivial, trivial, trivial, trivial, trivial⟩ ?_
              try simp only [hck] at h1 h2 h3 h4
              try simp only [hck]
              refine sr_forget [some (.inr (.inl nm)), none, some (.inl 0), some (.inl 0), some (.inl ((nI k) + 1)), none, none] (by simp [sr_sub]) ?_
              simp only [f_MO_isName, if_neg h1, if_pos h2, if_neg h3, if_pos h4, nI_succ] at w
              exact w
            · refine sr_many 5 (t := (26, [some (.inr (.inl nm)), none, some (.inl 1), some (.inl 0), some (.inl ((nI k) + 1)), some (.inr (.inl ((nm >>> (Int32.toInt64 ((5 : Int32) * (nI k)) &&& 63)) &&& (31 : Int64)))), none], [], μ)) rfl ⟨trivial, trivial, trivial, trivial, trivial, trivial⟩ ?_
              try simp only [hck] at h1 h2 h3 h4
              try simp only [hck]
              refine sr_forget [some (.inr (.inl nm)), none, some (.inl 1), some (.inl 0), some (.inl ((nI k) + 1)), none, none] (by simp [sr_sub]) ?_
              simp only [f_MO_isName, if_neg h1, if_pos h2, if_neg h3, if_neg h4, nI_succ] at w
              exact w
        · refine sr_many 4 (t := (bif decide ((lg_cmp ((nm >>> (Int32.toInt64 ((5 : Int32) * (nI k)) &&& 63)) &&& (31 : Int64)) 0) = 0) then 69 else 65, [some (.inr (.inl nm)), none, some (.inl a.1), some (.inl a.2), some (.inl (nI k)), some (.inr (.inl ((nm >>> (Int32.toInt64 ((5 : Int32) * (nI k)) &&& 63)) &&& (31 : Int64)))), none], [], μ)) rfl ⟨trivial, trivial, trivial, trivial, trivial⟩ ?_
          refine sr_brd (fun h3 => ?_) (fun h3 => ?_)
          · refine sr_many 4 (t := (bif decide (0 < (lg_cmp ((nm >>> (Int32.toInt64 ((5 : Int32) * (nI k)) &&& 63)) &&& (31 : Int64)) 0)) then 81 else 76, [some (.inr (.inl nm)), none, some (.inl a.1), some (.inl a.2), some (.inl (nI k)), some (.inr (.inl ((nm >>> (Int32.toInt64 ((5 : Int32) * (nI k)) &&& 63)) &&& (31 : Int64)))), none], [], μ)) rfl ⟨trivial, trivial, trivial, trivial, trivial⟩ ?_
            refine sr_brd (fun h4 => ?_) (fun h4 => ?_)
            · refine sr_many 5 (t := (bif decide (¬ a.1 = 0) then 98 else 91, [some (.inr (.inl nm)), none, some (.inl a.1), some (.inl 1), some (.inl (nI k)), some (.inr (.inl ((nm >>> (Int32.toInt64 ((5 : Int32) * (nI k)) &&& 63)) &&& (31 : Int64)))), none], [], μ)) rfl ⟨trivial, trivial, trivial, trivial, trivial, trivial⟩ ?_
              refine sr_brd (fun h5 => ?_) (fun h5 => ?_)
              · refine sr_many 5 (t := (26, [some (.inr (.inl nm)), none, some (.inl 1), some (.inl 1), some (.inl ((nI k) + 1)), some (.inr (.inl ((nm >>> (Int32.toInt64 ((5 : Int32) * (nI k)) &&& 63)) &&& (31 : Int64)))), none], [], μ)) rfl ⟨trivial, trivial, trivial, trivial, trivial, trivial⟩ ?_
                try simp only [hck] at h1 h2 h3 h4 h5
                try simp only [hck]
                refine sr_forget [some (.inr (.inl nm)), none, some (.inl 1), some (.inl 1), some (.inl ((nI k) + 1)), none, none] (by simp [sr_sub]) ?_
                simp only [f_MO_isName, if_neg h1, if_neg h2, if_pos h3, if_pos h4, if_pos h5, nI_succ] at w
                exact w
              · refine sr_many 4 (t := (bif decide (¬ (lg_cmp ((nm >>> (Int32.toInt64 ((5 : Int32) * (nI k)) &&& 63)) &&& (31 : Int64)) 0) = 0) then 102 else 98, [some (.inr (.inl nm)), none, some (.inl a.1), some (.inl 1), some (.inl (nI k)), some (.inr (.inl ((nm >>> (Int32.toInt64 ((5 : Int32) * (nI k)) &&& 63)) &&& (31 : Int64)))), none], [], μ)) rfl ⟨trivial, trivial, trivial, trivial, trivial⟩ ?_
                refine sr_brd (fun h => absurd h3 h) (fun _ => ?_)
                refine sr_many 5 (t := (26, [some (.inr (.inl nm)), none, some (.inl 1), some (.inl 1), some (.inl ((nI k) + 1)), some (.inr (.inl ((nm >>> (Int32.toInt64 ((5 : Int32) * (nI k)) &&& 63)) &&& (31 : Int64)))), none], [], μ)) rfl ⟨trivial, trivial, trivial, trivial, trivial, trivial⟩ ?_
                try simp only [hck] at h1 h2 h3 h4 h5
                try simp only [hck]
                refine sr_forget [some (.inr (.inl nm)), none, some (.inl 1), some (.inl 1), some (.inl ((nI k) + 1)), none, none] (by simp [sr_sub]) ?_
                simp only [f_MO_isName, if_neg h1, if_neg h2, if_pos h3, if_pos h4, if_neg h5, nI_succ] at w
                exact w
            · refine sr_many 2 (t := (bif decide ((nI k) ≤ 0) then 85 else 81, [some (.inr (.inl nm)), none, some (.inl a.1), some (.inl a.2), some (.inl (nI k)), some (.inr (.inl ((nm >>> (Int32.toInt64 ((5 : Int32) * (nI k)) &&& 63)) &&& (31 : Int64)))), none], [], μ)) rfl ⟨trivial, trivial, trivial⟩ ?_
              refine sr_brd (fun h5 => ?_) (fun h5 => ?_)
              · refine sr_many 4 (t := (bif decide (¬ a.1 = 0) then 98 else 91, [some (.inr (.inl nm)), none, some (.inl a.1), some (.inl 0), some (.inl (nI k)), some (.inr (.inl ((nm >>> (Int32.toInt64 ((5 : Int32) * (nI k)) &&& 63)) &&& (31 : Int64)))), none], [], μ)) rfl ⟨trivial, trivial, trivial, trivial, trivial⟩ ?_
                refine sr_brd (fun h6 => ?_) (fun h6 => ?_)
                · refine sr_many 5 (t := (26, [some (.inr (.inl nm)), none, some (.inl 1), some (.inl 0), some (.inl ((nI k) + 1)), some (.inr (.inl ((nm >>> (Int32.toInt64 ((5 : Int32) * (nI k)) &&& 63)) &&& (31 : Int64)))), none], [], μ)) rfl ⟨trivial, trivial, trivial, trivial, trivial, trivial⟩ ?_
                  try simp only [hck] at h1 h2 h3 h4 h5 h6
                  try simp only [hck]
                  refine sr_forget [some (.inr (.inl nm)), none, some (.inl 1), some (.inl 0), some (.inl ((nI k) + 1)), none, none] (by simp [sr_sub]) ?_
                  simp only [f_MO_isName, if_neg h1, if_neg h2, if_pos h3, if_neg h4, if_pos h5, if_pos h6, nI_succ] at w
                  exact w
                · refine sr_many 4 (t := (bif decide (¬ (lg_cmp ((nm >>> (Int32.toInt64 ((5 : Int32) * (nI k)) &&& 63)) &&& (31 : Int64)) 0) = 0) then 102 else 98, [some (.inr (.inl nm)), none, some (.inl a.1), some (.inl 0), some (.inl (nI k)), some (.inr (.inl ((nm >>> (Int32.toInt64 ((5 : Int32) * (nI k)) &&& 63)) &&& (31 : Int64)))), none], [], μ)) rfl ⟨trivial, trivial, trivial, trivial, trivial⟩ ?_
                  refine sr_brd (fun h => absurd h3 h) (fun _ => ?_)
                  refine sr_many 5 (t := (26, [some (.inr (.inl nm)), none, some (.inl 1), some (.inl 0), some (.inl ((nI k) + 1)), some (.inr (.inl ((nm >>> (Int32.toInt64 ((5 : Int32) * (nI k)) &&& 63)) &&& (31 : Int64)))), none], [], μ)) rfl ⟨trivial, trivial, trivial, trivial, trivial, trivial⟩ ?_
                  try simp only [hck] at h1 h2 h3 h4 h5 h6
                  try simp only [hck]
                  refine sr_forget [some (.inr (.inl nm)), none, some (.inl 1), some (.inl 0), some (.inl ((nI k) + 1)), none, none] (by simp [sr_sub]) ?_
                  simp only [f_MO_isName, if_neg h1, if_neg h2, if_pos h3, if_neg h4, if_pos h5, if_neg h6, nI_succ] at w
                  exact w
              · refine sr_many 5 (t := (bif decide (¬ a.1 = 0) then 98 else 91, [some (.inr (.inl nm)), none, some (.inl a.1), some (.inl 1), some (.inl (nI k)), some (.inr (.inl ((nm >>> (Int32.toInt64 ((5 : Int32) * (nI k)) &&& 63)) &&& (31 : Int64)))), none], [], μ)) rfl ⟨trivial, trivial, trivial, trivial, trivial, trivial⟩ ?_
                refine sr_brd (fun h6 => ?_) (fun h6 => ?_)
                · refine sr_many 5 (t := (26, [some (.inr (.inl nm)), none, some (.inl 1), some (.inl 1), some (.inl ((nI k) + 1)), some (.inr (.inl ((nm >>> (Int32.toInt64 ((5 : Int32) * (nI k)) &&& 63)) &&& (31 : Int64)))), none], [], μ)) rfl ⟨trivial, trivial, trivial, trivial, trivial, trivial⟩ ?_
                  try simp only [hck] at h1 h2 h3 h4 h5 h6
                  try simp only [hck]
                  refine sr_forget [some (.inr (.inl nm)), none, some (.inl 1), some (.inl 1), some (.inl ((nI k) + 1)), none, none] (by simp [sr_sub]) ?_
                  simp only [f_MO_isName, if_neg h1, if_neg h2, if_pos h3, if_neg h4, if_neg h5, if_pos h6, nI_succ] at w
                  exact w
                · refine sr_many 4 (t := (bif decide (¬ (lg_cmp ((nm >>> (Int32.toInt64 ((5 : Int32) * (nI k)) &&& 63)) &&& (31 : Int64)) 0) = 0) then 102 else 98, [some (.inr (.inl nm)), none, some (.inl a.1), some (.inl 1), some (.inl (nI k)), some (.inr (.inl ((nm >>> (Int32.toInt64 ((5 : Int32) * (nI k)) &&& 63)) &&& (31 : Int64)))), none], [], μ)) rfl ⟨trivial, trivial, trivial, trivial, trivial⟩ ?_
                  refine sr_brd (fun h => absurd h3 h) (fun _ => ?_)
                  refine sr_many 5 (t := (26, [some (.inr (.inl nm)), none, some (.inl 1), some (.inl 1), some (.inl ((nI k) + 1)), some (.inr (.inl ((nm >>> (Int32.toInt64 ((5 : Int32) * (nI k)) &&& 63)) &&& (31 : Int64)))), none], [], μ)) rfl ⟨trivial, trivial, trivial, trivial, trivial, trivial⟩ ?_
                  try simp only [hck] at h1 h2 h3 h4 h5 h6
                  try simp only [hck]
                  refine sr_forget [some (.inr (.inl nm)), none, some (.inl 1), some (.inl 1), some (.inl ((nI k) + 1)), none, none] (by simp [sr_sub]) ?_
                  simp only [f_MO_isName, if_neg h1, if_neg h2, if_pos h3, if_neg h4, if_neg h5, if_neg h6, nI_succ] at w
                  exact w
          · refine sr_many 2 (t := (bif decide (¬ a.1 = 0) then 85 else 69, [some (.inr (.inl nm)), none, some (.inl a.1), some (.inl a.2), some (.inl (nI k)), some (.inr (.inl ((nm >>> (Int32.toInt64 ((5 : Int32) * (nI k)) &&& 63)) &&& (31 : Int64)))), none], [], μ)) rfl ⟨trivial, trivial, trivial⟩ ?_
            refine sr_brd (fun h4 => ?_) (fun h4 => ?_)
            · refine sr_many 4 (t := (bif decide (¬ a.1 = 0) then 98 else 91, [some (.inr (.inl nm)), none, some (.inl a.1), some (.inl 0), some (.inl (nI k)), some (.inr (.inl ((nm >>> (Int32.toInt64 ((5 : Int32) * (nI k)) &&& 63)) &&& (31 : Int64)))), none], [], μ)) rfl ⟨trivial, trivial, trivial, trivial, trivial⟩ ?_
              refine sr_brd (fun _ => ?_) (fun h => absurd h4 h)
              refine sr_many 5 (t := (26, [some (.inr (.inl nm)), none, some (.inl 1), some (.inl 0), some (.inl ((nI k) + 1)), some (.inr (.inl ((nm >>> (Int32.toInt64 ((5 : Int32) * (nI k)) &&& 63)) &&& (31 : Int64)))), none], [], μ)) rfl ⟨trivial, trivial, trivial, trivial, trivial, trivial⟩ ?_
              try simp only [hck] at h1 h2 h3 h4
              try simp only [hck]
              refine sr_forget [some (.inr (.inl nm)), none, some (.inl 1), some (.inl 0), some (.inl ((nI k) + 1)), none, none] (by simp [sr_sub]) ?_
              simp only [f_MO_isName, if_neg h1, if_neg h2, if_neg h3, if_pos h4, nI_succ] at w
              exact w
            · refine sr_many 4 (t := (bif decide (0 < (lg_cmp ((nm >>> (Int32.toInt64 ((5 : Int32) * (nI k)) &&& 63)) &&& (31 : Int64)) 0)) then 81 else 76, [some (.inr (.inl nm)), none, some (.inl a.1), some (.inl a.2), some (.inl (nI k)), some (.inr (.inl ((nm >>> (Int32.toInt64 ((5 : Int32) * (nI k)) &&& 63)) &&& (31 : Int64)))), none], [], μ)) rfl ⟨trivial, trivial, trivial, trivial, trivial⟩ ?_
              refine sr_brd (fun h5 => ?_) (fun h5 => ?_)
              · refine sr_many 5 (t := (bif decide (¬ a.1 = 0) then 98 else 91, [some (.inr (.inl nm)), none, some (.inl a.1), some (.inl 1), some (.inl (nI k)), some (.inr (.inl ((nm >>> (Int32.toInt64 ((5 : Int32) * (nI k)) &&& 63)) &&& (31 : Int64)))), none], [], μ)) rfl ⟨trivial, trivial, trivial, trivial, trivial, trivial⟩ ?_
                refine sr_brd (fun h => absurd h h4) (fun _ => ?_)
                refine sr_many 4 (t := (bif decide (¬ (lg_cmp ((nm >>> (Int32.toInt64 ((5 : Int32) * (nI k)) &&& 63)) &&& (31 : Int64)) 0) = 0) then 102 else 98, [some (.inr (.inl nm)), none, some (.inl a.1), some (.inl 1), some (.inl (nI k)), some (.inr (.inl ((nm >>> (Int32.toInt64 ((5 : Int32) * (nI k)) &&& 63)) &&& (31 : Int64)))), none], [], μ)) rfl ⟨trivial, trivial, trivial, trivial, trivial⟩ ?_
                refine sr_brd (fun _ => ?_) (fun h => absurd h3 h)
                refine sr_many 4 (t := (26, [some (.inr (.inl nm)), none, some (.inl 0), some (.inl 1), some (.inl ((nI k) + 1)), some (.inr (.inl ((nm >>> (Int32.toInt64 ((5 : Int32) * (nI k)) &&& 63)) &&& (31 : Int64)))), none], [], μ)) rfl ⟨trivial, trivial, trivial, trivial, trivial⟩ ?_
                try simp only [hck] at h1 h2 h3 h4 h5
                try simp only [hck]
                refine sr_forget [some (.inr (.inl nm)), none, some (.inl 0), some (.inl 1), some (.inl ((nI k) + 1)), none, none] (by simp [sr_sub]) ?_
                simp only [f_MO_isName, if_neg h1, if_neg h2, if_neg h3, if_neg h4, if_pos h5, nI_succ] at w
                exact w
              · refine sr_many 2 (t := (bif decide ((nI k) ≤ 0) then 85 else 81, [some (.inr (.inl nm)), none, some (.inl a.1), some (.inl a.2), some (.inl (nI k)), some (.inr (.inl ((nm >>> (Int32.toInt64 ((5 : Int32) * (nI k)) &&& 63)) &&& (31 : Int64)))), none], [], μ)) rfl ⟨trivial, trivial, trivial⟩ ?_
                refine sr_brd (fun h6 => ?_) (fun h6 => ?_)
                · refine sr_many 4 (t := (bif decide (¬ a.1 = 0) then 98 else 91, [some (.inr (.inl nm)), none, some (.inl a.1), some (.inl 0), some (.inl (nI k)), some (.inr (.inl ((nm >>> (Int32.toInt64 ((5 : Int32) * (nI k)) &&& 63)) &&& (31 : Int64)))), none], [], μ)) rfl ⟨trivial, trivial, trivial, trivial, trivial⟩ ?_
                  refine sr_brd (fun h => absurd h h4) (fun _ => ?_)
                  refine sr_many 4 (t := (bif decide (¬ (lg_cmp ((nm >>> (Int32.toInt64 ((5 : Int32) * (nI k)) &&& 63)) &&& (31 : Int64)) 0) = 0) then 102 else 98, [some (.inr (.inl nm)), none, some (.inl a.1), some (.inl 0), some (.inl (nI k)), some (.inr (.inl ((nm >>> (Int32.toInt64 ((5 : Int32) * (nI k)) &&& 63)) &&& (31 : Int64)))), none], [], μ)) rfl ⟨trivial, trivial, trivial, trivial, trivial⟩ ?_
                  refine sr_brd (fun _ => ?_) (fun h => absurd h3 h)
                  refine sr_many 4 (t := (26, [some (.inr (.inl nm)), none, some (.inl 0), some (.inl 0), some (.inl ((nI k) + 1)), some (.inr (.inl ((nm >>> (Int32.toInt64 ((5 : Int32) * (nI k)) &&& 63)) &&& (31 : Int64)))), none], [], μ)) rfl ⟨trivial, trivial, trivial, trivial, trivial⟩ ?_
                  try simp only [hck] at h1 h2 h3 h4 h5 h6
                  try simp only [hck]
                  refine sr_forget [some (.inr (.inl nm)), none, some (.inl 0), some (.inl 0), some (.inl ((nI k) + 1)), none, none] (by simp [sr_sub]) ?_
                  simp only [f_MO_isName, if_neg h1, if_neg h2, if_neg h3, if_neg h4, if_neg h5, if_pos h6, nI_succ] at w
                  exact w
                · refine sr_many 5 (t := (bif decide (¬ a.1 = 0) then 98 else 91, [some (.inr (.inl nm)), none, some (.inl a.1), some (.inl 1), some (.inl (nI k)), some (.inr (.inl ((nm >>> (Int32.toInt64 ((5 : Int32) * (nI k)) &&& 63)) &&& (31 : Int64)))), none], [], μ)) rfl ⟨trivial, trivial, trivial, trivial, trivial, trivial⟩ ?_
                  refine sr_brd (fun h => absurd h h4) (fun _ => ?_)
                  refine sr_many 4 (t := (bif decide (¬ (lg_cmp ((nm >>> (Int32.toInt64 ((5 : Int32) * (nI k)) &&& 63)) &&& (31 : Int64)) 0) = 0) then 102 else 98, [some (.inr (.inl nm)), none, some (.inl a.1), some (.inl 1), some (.inl (nI k)), some (.inr (.inl ((nm >>> (Int32.toInt64 ((5 : Int32) * (nI k)) &&& 63)) &&& (31 : Int64)))), none], [], μ)) rfl ⟨trivial, trivial, trivial, trivial, trivial⟩ ?_
                  refine sr_brd (fun _ => ?_) (fun h => absurd h3 h)
                  refine sr_many 4 (t := (26, [some (.inr (.inl nm)), none, some (.inl 0), some (.inl 1), some (.inl ((nI k) + 1)), some (.inr (.inl ((nm >>> (Int32.toInt64 ((5 : Int32) * (nI k)) &&& 63)) &&& (31 : Int64)))), none], [], μ)) rfl ⟨trivial, trivial, trivial, trivial, trivial⟩ ?_
                  try simp only [hck] at h1 h2 h3 h4 h5 h6
                  try simp only [hck]
                  refine sr_forget [some (.inr (.inl nm)), none, some (.inl 0), some (.inl 1), some (.inl ((nI k) + 1)), none, none] (by simp [sr_sub]) ?_
                  simp only [f_MO_isName, if_neg h1, if_neg h2, if_neg h3, if_neg h4, if_neg h5, if_neg h6, nI_succ] at w
                  exact w
    · skip
      refine sr_many 3 (t := (bif decide (8 ≤ (nI 8)) then 110 else 33, [some (.inr (.inl nm)), none, some (.inl ((sr_it (f_MO_isName nm) (0, 0) 8).1)), some (.inl ((sr_it (f_MO_isName nm) (0, 0) 8).2)), some (.inl (nI 8)), none, none], [], μ)) rfl ⟨trivial, trivial, trivial, trivial⟩ ?_
      refine sr_brd (fun _ => ?_) (fun h => absurd (show (8 : Int32) ≤ nI 8 by decide) h)
      refine sr_many 1 (t := (111, [some (.inr (.inl nm)), none, some (.inl ((sr_it (f_MO_isName nm) (0, 0) 8).1)), some (.inl ((sr_it (f_MO_isName nm) (0, 0) 8).2)), some (.inl (nI 8)), none, none], [.inl ((sr_it (f_MO_isName nm) (0, 0) 8).2)], μ)) rfl ⟨trivial, trivial⟩ ?_
      exact sr_ret rfl rfl rfl (show (sr_it (f_MO_isName nm) (0, 0) 8).2 = 0 ∨ (sr_it (f_MO_isName nm) (0, 0) 8).2 = 1 by exact hIk.2) (by simp only [v_MO_isName, if_pos h1])
  · refine sr_many 6 (t := (bif decide (¬ (lg_cmp (nm >>> (Int32.toInt64 40 &&& 63)) 0) = 0) then 21 else 17, [some (.inr (.inl nm)), none, some (.inl 0), none, none, none, none], [], μ)) rfl ⟨trivial, trivial, trivial, trivial, trivial, trivial, trivial⟩ ?_
    refine sr_brd (fun h2 => ?_) (fun h2 => ?_)
    · refine sr_many 4 (t := (26, [some (.inr (.inl nm)), none, some (.inl 0), some (.inl 0), some (.inl 0), none, none], [], μ)) rfl ⟨trivial, trivial, trivial, trivial, trivial⟩ ?_
      refine sr_forI (α := Int32 × Int32) (fun k a => (26, [some (.inr (.inl nm)), none, some (.inl a.1), some (.inl a.2), some (.inl (nI k)), none, none], [], μ)) (f_MO_isName nm) (fun k a => (a.1 = 0 ∨ a.1 = 1) ∧ (a.2 = 0 ∨ a.2 = 1)) (0, 0) 8 ⟨by decide, by decide⟩ (fun k hk a h => by unfold f_MO_isName; (repeat' split) <;> simp_all) (fun k hk a hIk w => ?_) (fun hIk => ?_)
      · have hbk : k < 8 := hk
        have hck : (nI k).toNatClampNeg = k := sr_clN 8 hbk (by decide)
        have hink : sr_in (nI k) 8 := sr_inN 8 hbk (by decide)
        have hcbk : (nI k).toNatClampNeg < 8 := by rw [hck]; exact hbk
        refine sr_many 3 (t := (bif decide (8 ≤ (nI k)) then 110 else 33, [some (.inr (.inl nm)), none, some (.inl a.1), some (.inl a.2), some (.inl (nI k)), none, none], [], μ)) rfl ⟨trivial, trivial, trivial, trivial⟩ ?_
        refine sr_brd (fun h => absurd h (show ¬ (8 : Int32) ≤ nI k from nI_ge hk (by decide))) (fun _ => ?_)
        refine sr_many 10 (t := (bif decide (a.2 = 0) then 85 else 49, [some (.inr (.inl nm)), none, some (.inl a.1), some (.inl a.2), some (.inl (nI k)), some (.inr (.inl ((nm >>> (Int32.toInt64 ((5 : Int32) * (nI k)) &&& 63)) &&& (31 : Int64)))), none], [], μ)) rfl ⟨trivial, trivial, trivial, trivial, trivial, trivial, trivial, trivial, trivial, trivial, trivial⟩ ?_
        refine sr_brd (fun h1 => ?_) (fun h1 => ?_)
        · refine sr_many 4 (t := (bif decide (¬ a.1 = 0) then 98 else 91, [some (.inr (.inl nm)), none, some (.inl a.1), some (.inl 0), some (.inl (nI k)), some (.inr (.inl ((nm >>> (Int32.toInt64 ((5 : Int32) * (nI k)) &&& 63)) &&& (31 : Int64)))), none], [], μ)) rfl ⟨trivial, trivial, trivial, trivial, trivial⟩ ?_
          refine sr_brd (fun h2 => ?_) (fun h2 => ?_)
          · refine sr_many 5 (t := (26, [some (.inr (.inl nm)), none, some (.inl 1), some (.inl 0), some (.inl ((nI k) + 1)), some (.inr (.inl ((nm >>> (Int32.toInt64 ((5 : Int32) * (nI k)) &&& 63)) &&& (31 : Int64)))), none], [], μ)) rfl ⟨trivial, trivial, trivial, trivial, trivial, trivial⟩ ?_
            try simp only [hck] at h1 h2
            try simp only [hck]
            refine sr_forget [some (.inr (.inl nm)), none, some (.inl 1), some (.inl 0), some (.inl ((nI k) + 1)), none, none] (by simp [sr_sub]) ?_
            simp only [f_MO_isName, if_pos h1, if_pos h2, nI_succ] at w
            exact w
          · refine sr_many 4 (t := (bif decide (¬ (lg_cmp ((nm >>> (Int32.toInt64 ((5 : Int32) * (nI k)) &&& 63)) &&& (31 : Int64)) 0) = 0) then 102 else 98, [some (.inr (.inl nm)), none, some (.inl a.1), some (.inl 0), some (.inl (nI k)), some (.inr (.inl ((nm >>> (Int32.toInt64 ((5 : Int32) * (nI k)) &&& 63)) &&& (31 : Int64)))), none], [], μ)) rfl ⟨trivial, trivial, trivial, trivial, trivial⟩ ?_
            refine sr_brd (fun h3 => ?_) (fun h3 => ?_)
            · refine sr_many 4 (t := (26, [some (.inr (.inl nm)), none, some (.inl 0), some (.inl 0), some (.inl ((nI k) + 1)), some (.inr (.inl ((nm >>> (Int32.toInt64 ((5 : Int32) * (nI k)) &&& 63)) &&& (31 : Int64)))), none], [], μ)) rfl ⟨trivial, trivial, trivial, trivial, trivial⟩ ?_
              try simp only [hck] at h1 h2 h3
              try simp only [hck]
              refine sr_forget [some (.inr (.inl nm)), none, some (.inl 0), some (.inl 0), some (.inl ((nI k) + 1)), none, none] (by simp [sr_sub]) ?_
              simp only [f_MO_isName, if_pos h1, if_neg h2, if_pos h3, nI_succ] at w
              exact w
            · refine sr_many 5 (t := (26, [some (.inr (.inl nm)), none, some (.inl 1), some (.inl 0), some (.inl ((nI k) + 1)), some (.inr (.inl ((nm >>> (Int32.toInt64 ((5 : Int32) * (nI k)) &&& 63)) &&& (31 : Int64)))), none], [], μ)) rfl ⟨trivial, trivial, trivial, trivial, trivial, trivial⟩ ?_
              try simp only [hck] at h1 h2 h3
              try simp only [hck]
              refine sr_forget [some (.inr (.inl nm)), none, some (.inl 1), some (.inl 0), some (.inl ((nI k) + 1)), none, none] (by simp [sr_sub]) ?_
              simp only [f_MO_isName, if_pos h1, if_neg h2, if_neg h3, nI_succ] at w
              exact w
        · refine sr_many 4 (t := (bif decide (0 < (lg_cmp ((nm >>> (Int32.toInt64 ((5 : Int32) * (nI k)) &&& 63)) &&& (31 : Int64)) 26)) then 85 else 58, [some (.inr (.inl nm)), none, some (.inl a.1), some (.inl a.2), some (.inl (nI k)), some (.inr (.inl ((nm >>> (Int32.toInt64 ((5 : Int32) * (nI k)) &&& 63)) &&& (31 : Int64)))), none], [], μ)) rfl ⟨trivial, trivial, trivial, trivial, trivial⟩ ?_
          refine sr_brd (fun h2 => ?_) (fun h2 => ?_)
          · refine sr_many 4 (t := (bif decide (¬ a.1 = 0) then 98 else 91, [some (.inr (.inl nm)), none, some (.inl a.1), some (.inl 0), some (.inl (nI k)), some (.inr (.inl ((nm >>> (Int32.toInt64 ((5 : Int32) * (nI k)) &&& 63)) &&& (31 : Int64)))), none], [], μ)) rfl ⟨trivial, trivial, trivial, trivial, trivial⟩ ?_
            refine sr_brd (fun h3 => ?_) (fun h3 => ?_)
            · refine sr_many 5 (t := (26, [some (.inr (.inl nm)), none, some (.inl 1), some (.inl 0), some (.inl ((nI k) + 1)), some (.inr (.inl ((nm >>> (Int32.toInt64 ((5 : Int32) * (nI k)) &&& 63)) &&& (31 : Int64)))), none], [], μ)) rfl ⟨trivial, trivial, trivial, trivial, trivial, trivial⟩ ?_
              try simp only [hck] at h1 h2 h3
              try simp only [hck]
              refine sr_forget [some (.inr (.inl nm)), none, some (.inl 1), some (.inl 0), some (.inl ((nI k) + 1)), none, none] (by simp [sr_sub]) ?_
              simp only [f_MO_isName, if_neg h1, if_pos h2, if_pos h3, nI_succ] at w
              exact w
            · refine sr_many 4 (t := (bif decide (¬ (lg_cmp ((nm >>> (Int32.toInt64 ((5 : Int32) * (nI k)) &&& 63)) &&& (31 : Int64)) 0) = 0) then 102 else 98, [some (.inr (.inl nm)), none, some (.inl a.1), some (.inl 0), some (.inl (nI k)), some (.inr (.inl ((nm >>> (Int32.toInt64 ((5 : Int32) * (nI k)) &&& 63)) &&& (31 : Int64)))), none], [], μ)) rfl ⟨trivial, trivial, trivial, trivial, trivial⟩ ?_
              refine sr_brd (fun h4 => ?_) (fun h4 => ?_)
              · refine sr_many 4 (t := (26, [some (.inr (.inl nm)), none, some (.inl 0), some (.inl 0), some (.inl ((nI k) + 1)), some (.inr (.inl ((nm >>> (Int32.toInt64 ((5 : Int32) * (nI k)) &&& 63)) &&& (31 : Int64)))), none], [], μ)) rfl ⟨trivial, trivial, trivial, trivial, trivial⟩ ?_
                try simp only [hck] at h1 h2 h3 h4
                try simp only [hck]
                refine sr_forget [some (.inr (.inl nm)), none, some (.inl 0), some (.inl 0), some (.inl ((nI k) + 1)), none, none] (by simp [sr_sub]) ?_
                simp only [f_MO_isName, if_neg h1, if_pos h2, if_neg h3, if_pos h4, nI_succ] at w
                exact w
              · refine sr_many 5 (t := (26, [some (.inr (.inl nm)), none, some (.inl 1), some (.inl 0), some (.inl ((nI k) + 1)), some (.inr (.inl ((nm >>> (Int32.toInt64 ((5 : Int32) * (nI k)) &&& 63)) &&& (31 : Int64)))), none], [], μ)) rfl ⟨trivial, trivial, trivial, trivial, trivial, trivial⟩ ?_
                try simp only [hck] at h1 h2 h3 h4
                try simp only [hck]
                refine sr_forget [some (.inr (.inl nm)), none, some (.inl 1), some (.inl 0), some (.inl ((nI k) + 1)), none, none] (by simp [sr_sub]) ?_
                simp only [f_MO_isName, if_neg h1, if_pos h2, if_neg h3, if_neg h4, nI_succ] at w
                exact w
          · refine sr_many 4 (t := (bif decide ((lg_cmp ((nm >>> (Int32.toInt64 ((5 : Int32) * (nI k)) &&& 63)) &&& (31 : Int64)) 0) = 0) then 69 else 65, [some (.inr (.inl nm)), none, some (.inl a.1), some (.inl a.2), some (.inl (nI k)), some (.inr (.inl ((nm >>> (Int32.toInt64 ((5 : Int32) * (nI k)) &&& 63)) &&& (31 : Int64)))), none], [], μ)) rfl ⟨trivial, trivial, trivial, trivial, trivial⟩ ?_
            refine sr_brd (fun h3 => ?_) (fun h3 => ?_)
            · refine sr_many 4 (t := (bif decide (0 < (lg_cmp ((nm >>> (Int32.toInt64 ((5 : Int32) * (nI k)) &&& 63)) &&& (31 : Int64)) 0)) then 81 else 76, [some (.inr (.inl nm)), none, some (.inl a.1), some (.inl a.2), some (.inl (nI k)), some (.inr (.inl ((nm >>> (Int32.toInt64 ((5 : Int32) * (nI k)) &&& 63)) &&& (31 : Int64)))), none], [], μ)) rfl ⟨trivial, trivial, trivial, trivial, trivial⟩ ?_
              refine sr_brd (fun h4 => ?_) (fun h4 => ?_)
              · refine sr_many 5 (t := (bif decide (¬ a.1 = 0) then 98 else 91, [some (.inr (.inl nm)), none, some (.inl a.1), some (.inl 1), some (.inl (nI k)), some (.inr (.inl ((nm >>> (Int32.toInt64 ((5 : Int32) * (nI k)) &&& 63)) &&& (31 : Int64)))), none], [], μ)) rfl ⟨trivial, trivial, trivial, trivial, trivial, trivial⟩ ?_
                refine sr_brd (fun h5 => ?_) (fun h5 => ?_)
                · refine sr_many 5 (t := (26, [some (.inr (.inl nm)), none, some (.inl 1), some (.inl 1), some (.inl ((nI k) + 1)), some (.inr (.inl ((nm >>> (Int32.toInt64 ((5 : Int32) * (nI k)) &&& 63)) &&& (31 : Int64)))), none], [], μ)) rfl ⟨trivial, trivial, trivial, trivial, trivial, trivial⟩ ?_
                  try simp only [hck] at h1 h2 h3 h4 h5
                  try simp only [hck]
                  refine sr_forget [some (.inr (.inl nm)), none, some (.inl 1), some (.inl 1), some (.inl ((nI k) + 1)), none, none] (by simp [sr_sub]) ?_
                  simp only [f_MO_isName, if_neg h1, if_neg h2, if_pos h3, if_pos h4, if_pos h5, nI_succ] at w
                  exact w
                · refine sr_many 4 (t := (bif decide (¬ (lg_cmp ((nm >>> (Int32.toInt64 ((5 : Int32) * (nI k)) &&& 63)) &&& (31 : Int64)) 0) = 0) then 102 else 98, [some (.inr (.inl nm)), none, some (.inl a.1), some (.inl 1), some (.inl (nI k)), some (.inr (.inl ((nm >>> (Int32.toInt64 ((5 : Int32) * (nI k)) &&& 63)) &&& (31 : Int64)))), none], [], μ)) rfl ⟨trivial, trivial, trivial, trivial, trivial⟩ ?_
                  refine sr_brd (fun h => absurd h3 h) (fun _ => ?_)
                  refine sr_many 5 (t := (26, [some (.inr (.inl nm)), none, some (.inl 1), some (.inl 1), some (.inl ((nI k) + 1)), some (.inr (.inl ((nm >>> (Int32.toInt64 ((5 : Int32) * (nI k)) &&& 63)) &&& (31 : Int64)))), none], [], μ)) rfl ⟨trivial, trivial, trivial, trivial, trivial, trivial⟩ ?_
                  try simp only [hck] at h1 h2 h3 h4 h5
                  try simp only [hck]
                  refine sr_forget [some (.inr (.inl nm)), none, some (.inl 1), some (.inl 1), some (.inl ((nI k) + 1)), none, none] (by simp [sr_sub]) ?_
                  simp only [f_MO_isName, if_neg h1, if_neg h2, if_pos h3, if_pos h4, if_neg h5, nI_succ] at w
                  exact w
              · refine sr_many 2 (t := (bif decide ((nI k) ≤ 0) then 85 else 81, [some (.inr (.inl nm)), none, some (.inl a.1), some (.inl a.2), some (.inl (nI k)), some (.inr (.inl ((nm >>> (Int32.toInt64 ((5 : Int32) * (nI k)) &&& 63)) &&& (31 : Int64)))), none], [], μ)) rfl ⟨trivial, trivial, trivial⟩ ?_
                refine sr_brd (fun h5 => ?_) (fun h5 => ?_)
                · refine sr_many 4 (t := (bif decide (¬ a.1 = 0) then 98 else 91, [some (.inr (.inl nm)), none, some (.inl a.1), some (.inl 0), some (.inl (nI k)), some (.inr (.inl ((nm >>> (Int32.toInt64 ((5 : Int32) * (nI k)) &&& 63)) &&& (31 : Int64)))), none], [], μ)) rfl ⟨trivial, trivial, trivial, trivial, trivial⟩ ?_
                  refine sr_brd (fun h6 => ?_) (fun h6 => ?_)
                  · refine sr_many 5 (t := (26, [some (.inr (.inl nm)), none, some (.inl 1), some (.inl 0), some (.inl ((nI k) + 1)), some (.inr (.inl ((nm >>> (Int32.toInt64 ((5 : Int32) * (nI k)) &&& 63)) &&& (31 : Int64)))), none], [], μ)) rfl ⟨trivial, trivial, trivial, trivial, trivial, trivial⟩ ?_
                    try simp only [hck] at h1 h2 h3 h4 h5 h6
                    try simp only [hck]
                    refine sr_forget [some (.inr (.inl nm)), none, some (.inl 1), some (.inl 0), some (.inl ((nI k) + 1)), none, none] (by simp [sr_sub]) ?_
                    simp only [f_MO_isName, if_neg h1, if_neg h2, if_pos h3, if_neg h4, if_pos h5, if_pos h6, nI_succ] at w
                    exact w
                  · refine sr_many 4 (t := (bif decide (¬ (lg_cmp ((nm >>> (Int32.toInt64 ((5 : Int32) * (nI k)) &&& 63)) &&& (31 : Int64)) 0) = 0) then 102 else 98, [some (.inr (.inl nm)), none, some (.inl a.1), some (.inl 0), some (.inl (nI k)), some (.inr (.inl ((nm >>> (Int32.toInt64 ((5 : Int32) * (nI k)) &&& 63)) &&& (31 : Int64)))), none], [], μ)) rfl ⟨trivial, trivial, trivial, trivial, trivial⟩ ?_
                    refine sr_brd (fun h => absurd h3 h) (fun _ => ?_)
                    refine sr_many 5 (t := (26, [some (.inr (.inl nm)), none, some (.inl 1), some (.inl 0), some (.inl ((nI k) + 1)), some (.inr (.inl ((nm >>> (Int32.toInt64 ((5 : Int32) * (nI k)) &&& 63)) &&& (31 : Int64)))), none], [], μ)) rfl ⟨trivial, trivial, trivial, trivial, trivial, trivial⟩ ?_
                    try simp only [hck] at h1 h2 h3 h4 h5 h6
                    try simp only [hck]
                    refine sr_forget [some (.inr (.inl nm)), none, some (.inl 1), some (.inl 0), some (.inl ((nI k) + 1)), none, none] (by simp [sr_sub]) ?_
                    simp only [f_MO_isName, if_neg h1, if_neg h2, if_pos h3, if_neg h4, if_pos h5, if_neg h6, nI_succ] at w
                    exact w
                · refine sr_many 5 (t := (bif decide (¬ a.1 = 0) then 98 else 91, [some (.inr (.inl nm)), none, some (.inl a.1), some (.inl 1), some (.inl (nI k)), some (.inr (.inl ((nm >>> (Int32.toInt64 ((5 : Int32) * (nI k)) &&& 63)) &&& (31 : Int64)))), none], [], μ)) rfl ⟨trivial, trivial, trivial, trivial, trivial, trivial⟩ ?_
                  refine sr_brd (fun h6 => ?_) (fun h6 => ?_)
                  · refine sr_many 5 (t := (26, [some (.inr (.inl nm)), none, some (.inl 1), some (.inl 1), some (.inl ((nI k) + 1)), some (.inr (.inl ((nm >>> (Int32.toInt64 ((5 : Int32) * (nI k)) &&& 63)) &&& (31 : Int64)))), none], [], μ)) rfl ⟨trivial, trivial, trivial, trivial, trivial, trivial⟩ ?_
                    try simp only [hck] at h1 h2 h3 h4 h5 h6
                    try simp only [hck]
                    refine sr_forget [some (.inr (.inl nm)), none, some (.inl 1), some (.inl 1), some (.inl ((nI k) + 1)), none, none] (by simp [sr_sub]) ?_
                    simp only [f_MO_isName, if_neg h1, if_neg h2, if_pos h3, if_neg h4, if_neg h5, if_pos h6, nI_succ] at w
                    exact w
                  · refine sr_many 4 (t := (bif decide (¬ (lg_cmp ((nm >>> (Int32.toInt64 ((5 : Int32) * (nI k)) &&& 63)) &&& (31 : Int64)) 0) = 0) then 102 else 98, [some (.inr (.inl nm)), none, some (.inl a.1), some (.inl 1), some (.inl (nI k)), some (.inr (.inl ((nm >>> (Int32.toInt64 ((5 : Int32) * (nI k)) &&& 63)) &&& (31 : Int64)))), none], [], μ)) rfl ⟨trivial, trivial, trivial, trivial, trivial⟩ ?_
                    refine sr_brd (fun h => absurd h3 h) (fun _ => ?_)
                    refine sr_many 5 (t := (26, [some (.inr (.inl nm)), none, some (.inl 1), some (.inl 1), some (.inl ((nI k) + 1)), some (.inr (.inl ((nm >>> (Int32.toInt64 ((5 : Int32) * (nI k)) &&& 63)) &&& (31 : Int64)))), none], [], μ)) rfl ⟨trivial, trivial, trivial, trivial, trivial, trivial⟩ ?_
                    try simp only [hck] at h1 h2 h3 h4 h5 h6
                    try simp only [hck]
                    refine sr_forget [some (.inr (.inl nm)), none, some (.inl 1), some (.inl 1), some (.inl ((nI k) + 1)), none, none] (by simp [sr_sub]) ?_
                    simp only [f_MO_isName, if_neg h1, if_neg h2, if_pos h3, if_neg h4, if_neg h5, if_neg h6, nI_succ] at w
                    exact w
            · refine sr_many 2 (t := (bif decide (¬ a.1 = 0) then 85 else 69, [some (.inr (.inl nm)), none, some (.inl a.1), some (.inl a.2), some (.inl (nI k)), some (.inr (.inl ((nm >>> (Int32.toInt64 ((5 : Int32) * (nI k)) &&& 63)) &&& (31 : Int64)))), none], [], μ)) rfl ⟨trivial, trivial, trivial⟩ ?_
              refine sr_brd (fun h4 => ?_) (fun h4 => ?_)
              · refine sr_many 4 (t := (bif decide (¬ a.1 = 0) then 98 else 91, [some (.inr (.inl nm)), none, some (.inl a.1), some (.inl 0), some (.inl (nI k)), some (.inr (.inl ((nm >>> (Int32.toInt64 ((5 : Int32) * (nI k)) &&& 63)) &&& (31 : Int64)))), none], [], μ)) rfl ⟨trivial, trivial, trivial, trivial, trivial⟩ ?_
                refine sr_brd (fun _ => ?_) (fun h => absurd h4 h)
                refine sr_many 5 (t := (26, [some (.inr (.inl nm)), none, some (.inl 1), some (.inl 0), some (.inl ((nI k) + 1)), some (.inr (.inl ((nm >>> (Int32.toInt64 ((5 : Int32) * (nI k)) &&& 63)) &&& (31 : Int64)))), none], [], μ)) rfl ⟨trivial, trivial, trivial, trivial, trivial, trivial⟩ ?_
                try simp only [hck] at h1 h2 h3 h4
                try simp only [hck]
                refine sr_forget [some (.inr (.inl nm)), none, some (.inl 1), some (.inl 0), some (.inl ((nI k) + 1)), none, none] (by simp [sr_sub]) ?_
                simp only [f_MO_isName, if_neg h1, if_neg h2, if_neg h3, if_pos h4, nI_succ] at w
                exact w
              · refine sr_many 4 (t := (bif decide (0 < (lg_cmp ((nm >>> (Int32.toInt64 ((5 : Int32) * (nI k)) &&& 63)) &&& (31 : Int64)) 0)) then 81 else 76, [some (.inr (.inl nm)), none, some (.inl a.1), some (.inl a.2), some (.inl (nI k)), some (.inr (.inl ((nm >>> (Int32.toInt64 ((5 : Int32) * (nI k)) &&& 63)) &&& (31 : Int64)))), none], [], μ)) rfl ⟨trivial, trivial, trivial, trivial, trivial⟩ ?_
                refine sr_brd (fun h5 => ?_) (fun h5 => ?_)
                · refine sr_many 5 (t := (bif decide (¬ a.1 = 0) then 98 else 91, [some (.inr (.inl nm)), none, some (.inl a.1), some (.inl 1), some (.inl (nI k)), some (.inr (.inl ((nm >>> (Int32.toInt64 ((5 : Int32) * (nI k)) &&& 63)) &&& (31 : Int64)))), none], [], μ)) rfl ⟨trivial, trivial, trivial, trivial, trivial, trivial⟩ ?_
                  refine sr_brd (fun h => absurd h h4) (fun _ => ?_)
                  refine sr_many 4 (t := (bif decide (¬ (lg_cmp ((nm >>> (Int32.toInt64 ((5 : Int32) * (nI k)) &&& 63)) &&& (31 : Int64)) 0) = 0) then 102 else 98, [some (.inr (.inl nm)), none, some (.inl a.1), some (.inl 1), some (.inl (nI k)), some (.inr (.inl ((nm >>> (Int32.toInt64 ((5 : Int32) * (nI k)) &&& 63)) &&& (31 : Int64)))), none], [], μ)) rfl ⟨trivial, trivial, trivial, trivial, trivial⟩ ?_
                  refine sr_brd (fun _ => ?_) (fun h => absurd h3 h)
                  refine sr_many 4 (t := (26, [some (.inr (.inl nm)), none, some (.inl 0), some (.inl 1), some (.inl ((nI k) + 1)), some (.inr (.inl ((nm >>> (Int32.toInt64 ((5 : Int32) * (nI k)) &&& 63)) &&& (31 : Int64)))), none], [], μ)) rfl ⟨trivial, trivial, trivial, trivial, trivial⟩ ?_
                  try simp only [hck] at h1 h2 h3 h4 h5
                  try simp only [hck]
                  refine sr_forget [some (.inr (.inl nm)), none, some (.inl 0), some (.inl 1), some (.inl ((nI k) + 1)), none, none] (by simp [sr_sub]) ?_
                  simp only [f_MO_isName, if_neg h1, if_neg h2, if_neg h3, if_neg h4, if_pos h5, nI_succ] at w
                  exact w
                · refine sr_many 2 (t := (bif decide ((nI k) ≤ 0) then 85 else 81, [some (.inr (.inl nm)), none, some (.inl a.1), some (.inl a.2), some (.inl (nI k)), some (.inr (.inl ((nm >>> (Int32.toInt64 ((5 : Int32) * (nI k)) &&& 63)) &&& (31 : Int64)))), none], [], μ)) rfl ⟨trivial, trivial, trivial⟩ ?_
                  refine sr_brd (fun h6 => ?_) (fun h6 => ?_)
                  · refine sr_many 4 (t := (bif decide (¬ a.1 = 0) then 98 else 91, [some (.inr (.inl nm)), none, some (.inl a.1), some (.inl 0), some (.inl (nI k)), some (.inr (.inl ((nm >>> (Int32.toInt64 ((5 : Int32) * (nI k)) &&& 63)) &&& (31 : Int64)))), none], [], μ)) rfl ⟨trivial, trivial, trivial, trivial, trivial⟩ ?_
                    refine sr_brd (fun h => absurd h h4) (fun _ => ?_)
                    refine sr_many 4 (t := (bif decide (¬ (lg_cmp ((nm >>> (Int32.toInt64 ((5 : Int32) * (nI k)) &&& 63)) &&& (31 : Int64)) 0) = 0) then 102 else 98, [some (.inr (.inl nm)), none, some (.inl a.1), some (.inl 0), some (.inl (nI k)), some (.inr (.inl ((nm >>> (Int32.toInt64 ((5 : Int32) * (nI k)) &&& 63)) &&& (31 : Int64)))), none], [], μ)) rfl ⟨trivial, trivial, trivial, trivial, trivial⟩ ?_
                    refine sr_brd (fun _ => ?_) (fun h => absurd h3 h)
                    refine sr_many 4 (t := (26, [some (.inr (.inl nm)), none, some (.inl 0), some (.inl 0), some (.inl ((nI k) + 1)), some (.inr (.inl ((nm >>> (Int32.toInt64 ((5 : Int32) * (nI k)) &&& 63)) &&& (31 : Int64)))), none], [], μ)) rfl ⟨trivial, trivial, trivial, trivial, trivial⟩ ?_
                    try simp only [hck] at h1 h2 h3 h4 h5 h6
                    try simp only [hck]
                    refine sr_forget [some (.inr (.inl nm)), none, some (.inl 0), some (.inl 0), some (.inl ((nI k) + 1)), none, none] (by simp [sr_sub]) ?_
                    simp only [f_MO_isName, if_neg h1, if_neg h2, if_neg h3, if_neg h4, if_neg h5, if_pos h6, nI_succ] at w
                    exact w
                  · refine sr_many 5 (t := (bif decide (¬ a.1 = 0) then 98 else 91, [some (.inr (.inl nm)), none, some (.inl a.1), some (.inl 1), some (.inl (nI k)), some (.inr (.inl ((nm >>> (Int32.toInt64 ((5 : Int32) * (nI k)) &&& 63)) &&& (31 : Int64)))), none], [], μ)) rfl ⟨trivial, trivial, trivial, trivial, trivial, trivial⟩ ?_
                    refine sr_brd (fun h => absurd h h4) (fun _ => ?_)
                    refine sr_many 4 (t := (bif decide (¬ (lg_cmp ((nm >>> (Int32.toInt64 ((5 : Int32) * (nI k)) &&& 63)) &&& (31 : Int64)) 0) = 0) then 102 else 98, [some (.inr (.inl nm)), none, some (.inl a.1), some (.inl 1), some (.inl (nI k)), some (.inr (.inl ((nm >>> (Int32.toInt64 ((5 : Int32) * (nI k)) &&& 63)) &&& (31 : Int64)))), none], [], μ)) rfl ⟨trivial, trivial, trivial, trivial, trivial⟩ ?_
                    refine sr_brd (fun _ => ?_) (fun h => absurd h3 h)
                    refine sr_many 4 (t := (26, [some (.inr (.inl nm)), none, some (.inl 0), some (.inl 1), some (.inl ((nI k) + 1)), some (.inr (.inl ((nm >>> (Int32.toInt64 ((5 : Int32) * (nI k)) &&& 63)) &&& (31 : Int64)))), none], [], μ)) rfl ⟨trivial, trivial, trivial, trivial, trivial⟩ ?_
                    try simp only [hck] at h1 h2 h3 h4 h5 h6
                    try simp only [hck]
                    refine sr_forget [some (.inr (.inl nm)), none, some (.inl 0), some (.inl 1), some (.inl ((nI k) + 1)), none, none] (by simp [sr_sub]) ?_
                    simp only [f_MO_isName, if_neg h1, if_neg h2, if_neg h3, if_neg h4, if_neg h5, if_neg h6, nI_succ] at w
                    exact w
      · skip
        refine sr_many 3 (t := (bif decide (8 ≤ (nI 8)) then 110 else 33, [some (.inr (.inl nm)), none, some (.inl ((sr_it (f_MO_isName nm) (0, 0) 8).1)), some (.inl ((sr_it (f_MO_isName nm) (0, 0) 8).2)), some (.inl (nI 8)), none, none], [], μ)) rfl ⟨trivial, trivial, trivial, trivial⟩ ?_
        refine sr_brd (fun _ => ?_) (fun h => absurd (show (8 : Int32) ≤ nI 8 by decide) h)
        refine sr_many 1 (t := (111, [some (.inr (.inl nm)), none, some (.inl ((sr_it (f_MO_isName nm) (0, 0) 8).1)), some (.inl ((sr_it (f_MO_isName nm) (0, 0) 8).2)), some (.inl (nI 8)), none, none], [.inl ((sr_it (f_MO_isName nm) (0, 0) 8).2)], μ)) rfl ⟨trivial, trivial⟩ ?_
        exact sr_ret rfl rfl rfl (show (sr_it (f_MO_isName nm) (0, 0) 8).2 = 0 ∨ (sr_it (f_MO_isName nm) (0, 0) 8).2 = 1 by exact hIk.2) (by simp only [v_MO_isName, if_neg h1, if_pos h2])
    · refine sr_many 5 (t := (26, [some (.inr (.inl nm)), none, some (.inl 0), some (.inl 1), some (.inl 0), none, none], [], μ)) rfl ⟨trivial, trivial, trivial, trivial, trivial, trivial⟩ ?_
      refine sr_forI (α := Int32 × Int32) (fun k a => (26, [some (.inr (.inl nm)), none, some (.inl a.1), some (.inl a.2), some (.inl (nI k)), none, none], [], μ)) (f_MO_isName nm) (fun k a => (a.1 = 0 ∨ a.1 = 1) ∧ (a.2 = 0 ∨ a.2 = 1)) (0, 1) 8 ⟨by decide, by decide⟩ (fun k hk a h => by unfold f_MO_isName; (repeat' split) <;> simp_all) (fun k hk a hIk w => ?_) (fun hIk => ?_)
      · have hbk : k < 8 := hk
        have hck : (nI k).toNatClampNeg = k := sr_clN 8 hbk (by decide)
        have hink : sr_in (nI k) 8 := sr_inN 8 hbk (by decide)
        have hcbk : (nI k).toNatClampNeg < 8 := by rw [hck]; exact hbk
        refine sr_many 3 (t := (bif decide (8 ≤ (nI k)) then 110 else 33, [some (.inr (.inl nm)), none, some (.inl a.1), some (.inl a.2), some (.inl (nI k)), none, none], [], μ)) rfl ⟨trivial, trivial, trivial, trivial⟩ ?_
        refine sr_brd (fun h => absurd h (show ¬ (8 : Int32) ≤ nI k from nI_ge hk (by decide))) (fun _ => ?_)
        refine sr_many 10 (t := (bif decide (a.2 = 0) then 85 else 49, [some (.inr (.inl nm)), none, some (.inl a.1), some (.inl a.2), some (.inl (nI k)), some (.inr (.inl ((nm >>> (Int32.toInt64 ((5 : Int32) * (nI k)) &&& 63)) &&& (31 : Int64)))), none], [], μ)) rfl ⟨trivial, trivial, trivial, trivial, trivial, trivial, trivial, trivial, trivial, trivial, trivial⟩ ?_
        refine sr_brd (fun h1 => ?_) (fun h1 => ?_)
        · refine sr_many 4 (t := (bif decide (¬ a.1 = 0) then 98 else 91, [some (.inr (.inl nm)), none, some (.inl a.1), some (.inl 0), some (.inl (nI k)), some (.inr (.inl ((nm >>> (Int32.toInt64 ((5 : Int32) * (nI k)) &&& 63)) &&& (31 : Int64)))), none], [], μ)) rfl ⟨trivial, trivial, trivial, trivial, trivial⟩ ?_
          refine sr_brd (fun h2 => ?_) (fun h2 => ?_)
          · refine sr_many 5 (t := (26, [some (.inr (.inl nm)), none, some (.inl 1), some (.inl 0), some (.inl ((nI k) + 1)), some (.inr (.inl ((nm >>> (Int32.toInt64 ((5 : Int32) * (nI k)) &&& 63)) &&& (31 : Int64)))), none], [], μ)) rfl ⟨trivial, trivial, trivial, trivial, trivial, trivial⟩ ?_
            try simp only [hck] at h1 h2
            try simp only [hck]
            refine sr_forget [some (.inr (.inl nm)), none, some (.inl 1), some (.inl 0), some (.inl ((nI k) + 1)), none, none] (by simp [sr_sub]) ?_
            simp only [f_MO_isName, if_pos h1, if_pos h2, nI_succ] at w
            exact w
          · refine sr_many 4 (t := (bif decide (¬ (lg_cmp ((nm >>> (Int32.toInt64 ((5 : Int32) * (nI k)) &&& 63)) &&& (31 : Int64)) 0) = 0) then 102 else 98, [some (.inr (.inl nm)), none, some (.inl a.1), some (.inl 0), some (.inl (nI k)), some (.inr (.inl ((nm >>> (Int32.toInt64 ((5 : Int32) * (nI k)) &&& 63)) &&& (31 : Int64)))), none], [], μ)) rfl ⟨trivial, trivial, trivial, trivial, trivial⟩ ?_
            refine sr_brd (fun h3 => ?_) (fun h3 => ?_)
            · refine sr_many 4 (t := (26, [some (.inr (.inl nm)), none, some (.inl 0), some (.inl 0), some (.inl ((nI k) + 1)), some (.inr (.inl ((nm >>> (Int32.toInt64 ((5 : Int32) * (nI k)) &&& 63)) &&& (31 : Int64)))), none], [], μ)) rfl ⟨trivial, trivial, trivial, trivial, trivial⟩ ?_
              try simp only [hck] at h1 h2 h3
              try simp only [hck]
              refine sr_forget [some (.inr (.inl nm)), none, some (.inl 0), some (.inl 0), some (.inl ((nI k) + 1)), none, none] (by simp [sr_sub]) ?_
              simp only [f_MO_isName, if_pos h1, if_neg h2, if_pos h3, nI_succ] at w
              exact w
            · refine sr_many 5 (t := (26, [some (.inr (.inl nm)), none, some (.inl 1), some (.inl 0), some (.inl ((nI k) + 1)), some (.inr (.inl ((nm >>> (Int32.toInt64 ((5 : Int32) * (nI k)) &&& 63)) &&& (31 : Int64)))), none], [], μ)) rfl ⟨trivial, trivial, trivial, trivial, trivial, trivial⟩ ?_
              try simp only [hck] at h1 h2 h3
              try simp only [hck]
              refine sr_forget [some (.inr (.inl nm)), none, some (.inl 1), some (.inl 0), some (.inl ((nI k) + 1)), none, none] (by simp [sr_sub]) ?_
              simp only [f_MO_isName, if_pos h1, if_neg h2, if_neg h3, nI_succ] at w
              exact w
        · refine sr_many 4 (t := (bif decide (0 < (lg_cmp ((nm >>> (Int32.toInt64 ((5 : Int32) * (nI k)) &&& 63)) &&& (31 : Int64)) 26)) then 85 else 58, [some (.inr (.inl nm)), none, some (.inl a.1), some (.inl a.2), some (.inl (nI k)), some (.inr (.inl ((nm >>> (Int32.toInt64 ((5 : Int32) * (nI k)) &&& 63)) &&& (31 : Int64)))), none], [], μ)) rfl ⟨trivial, trivial, trivial, trivial, trivial⟩ ?_
          refine sr_brd (fun h2 => ?_) (fun h2 => ?_)
          · refine sr_many 4 (t := (bif decide (¬ a.1 = 0) then 98 else 91, [some (.inr (.inl nm)), none, some (.inl a.1), some (.inl 0), some (.inl (nI k)), some (.inr (.inl ((nm >>> (Int32.toInt64 ((5 : Int32) * (nI k)) &&& 63)) &&& (31 : Int64)))), none], [], μ)) rfl ⟨trivial, trivial, trivial, trivial, trivial⟩ ?_
            refine sr_brd (fun h3 => ?_) (fun h3 => ?_)
            · refine sr_many 5 (t := (26, [some (.inr (.inl nm)), none, some (.inl 1), some (.inl 0), some (.inl ((nI k) + 1)), some (.inr (.inl ((nm >>> (Int32.toInt64 ((5 : Int32) * (nI k)) &&& 63)) &&& (31 : Int64)))), none], [], μ)) rfl ⟨trivial, trivial, trivial, trivial, trivial, trivial⟩ ?_
              try simp only [hck] at h1 h2 h3
              try simp only [hck]
              refine sr_forget [some (.inr (.inl nm)), none, some (.inl 1), some (.inl 0), some (.inl ((nI k) + 1)), none, none] (by simp [sr_sub]) ?_
              simp only [f_MO_isName, if_neg h1, if_pos h2, if_pos h3, nI_succ] at w
              exact w
            · refine sr_many 4 (t := (bif decide (¬ (lg_cmp ((nm >>> (Int32.toInt64 ((5 : Int32) * (nI k)) &&& 63)) &&& (31 : Int64)) 0) = 0) then 102 else 98, [some (.inr (.inl nm)), none, some (.inl a.1), some (.inl 0), some (.inl (nI k)), some (.inr (.inl ((nm >>> (Int32.toInt64 ((5 : Int32) * (nI k)) &&& 63)) &&& (31 : Int64)))), none], [], μ)) rfl ⟨trivial, trivial, trivial, trivial, trivial⟩ ?_
              refine sr_brd (fun h4 => ?_) (fun h4 => ?_)
              · refine sr_many 4 (t := (26, [some (.inr (.inl nm)), none, some (.inl 0), some (.inl 0), some (.inl ((nI k) + 1)), some (.inr (.inl ((nm >>> (Int32.toInt64 ((5 : Int32) * (nI k)) &&& 63)) &&& (31 : Int64)))), none], [], μ)) rfl ⟨trivial, trivial, trivial, trivial, trivial⟩ ?_
                try simp only [hck] at h1 h2 h3 h4
                try simp only [hck]
                refine sr_forget [some (.inr (.inl nm)), none, some (.inl 0), some (.inl 0), some (.inl ((nI k) + 1)), none, none] (by simp [sr_sub]) ?_
                simp only [f_MO_isName, if_neg h1, if_pos h2, if_neg h3, if_pos h4, nI_succ] at w
                exact w
              · refine sr_many 5 (t := (26, [some (.inr (.inl nm)), none, some (.inl 1), some (.inl 0), some (.inl ((nI k) + 1)), some (.inr (.inl ((nm >>> (Int32.toInt64 ((5 : Int32) * (nI k)) &&& 63)) &&& (31 : Int64)))), none], [], μ)) rfl ⟨trivial, trivial, trivial, trivial, trivial, trivial⟩ ?_
                try simp only [hck] at h1 h2 h3 h4
                try simp only [hck]
                refine sr_forget [some (.inr (.inl nm)), none, some (.inl 1), some (.inl 0), some (.inl ((nI k) + 1)), none, none] (by simp [sr_sub]) ?_
                simp only [f_MO_isName, if_neg h1, if_pos h2, if_neg h3, if_neg h4, nI_succ] at w
                exact w
          · refine sr_many 4 (t := (bif decide ((lg_cmp ((nm >>> (Int32.toInt64 ((5 : Int32) * (nI k)) &&& 63)) &&& (31 : Int64)) 0) = 0) then 69 else 65, [some (.inr (.inl nm)), none, some (.inl a.1), some (.inl a.2), some (.inl (nI k)), some (.inr (.inl ((nm >>> (Int32.toInt64 ((5 : Int32) * (nI k)) &&& 63)) &&& (31 : Int64)))), none], [], μ)) rfl ⟨trivial, trivial, trivial, trivial, trivial⟩ ?_
            refine sr_brd (fun h3 => ?_) (fun h3 => ?_)
            · refine sr_many 4 (t := (bif decide (0 < (lg_cmp ((nm >>> (Int32.toInt64 ((5 : Int32) * (nI k)) &&& 63)) &&& (31 : Int64)) 0)) then 81 else 76, [some (.inr (.inl nm)), none, some (.inl a.1), some (.inl a.2), some (.inl (nI k)), some (.inr (.inl ((nm >>> (Int32.toInt64 ((5 : Int32) * (nI k)) &&& 63)) &&& (31 : Int64)))), none], [], μ)) rfl ⟨trivial, trivial, trivial, trivial, trivial⟩ ?_
              refine sr_brd (fun h4 => ?_) (fun h4 => ?_)
              · refine sr_many 5 (t := (bif decide (¬ a.1 = 0) then 98 else 91, [some (.inr (.inl nm)), none, some (.inl a.1), some (.inl 1), some (.inl (nI k)), some (.inr (.inl ((nm >>> (Int32.toInt64 ((5 : Int32) * (nI k)) &&& 63)) &&& (31 : Int64)))), none], [], μ)) rfl ⟨trivial, trivial, trivial, trivial, trivial, trivial⟩ ?_
                refine sr_brd (fun h5 => ?_) (fun h5 => ?_)
                · refine sr_many 5 (t := (26, [some (.inr (.inl nm)), none, some (.inl 1), some (.inl 1), some (.inl ((nI k) + 1)), some (.inr (.inl ((nm >>> (Int32.toInt64 ((5 : Int32) * (nI k)) &&& 63)) &&& (31 : Int64)))), none], [], μ)) rfl ⟨trivial, trivial, trivial, trivial, trivial, trivial⟩ ?_
                  try simp only [hck] at h1 h2 h3 h4 h5
                  try simp only [hck]
                  refine sr_forget [some (.inr (.inl nm)), none, some (.inl 1), some (.inl 1), some (.inl ((nI k) + 1)), none, none] (by simp [sr_sub]) ?_
                  simp only [f_MO_isName, if_neg h1, if_neg h2, if_pos h3, if_pos h4, if_pos h5, nI_succ] at w
                  exact w
                · refine sr_many 4 (t := (bif decide (¬ (lg_cmp ((nm >>> (Int32.toInt64 ((5 : Int32) * (nI k)) &&& 63)) &&& (31 : Int64)) 0) = 0) then 102 else 98, [some (.inr (.inl nm)), none, some (.inl a.1), some (.inl 1), some (.inl (nI k)), some (.inr (.inl ((nm >>> (Int32.toInt64 ((5 : Int32) * (nI k)) &&& 63)) &&& (31 : Int64)))), none], [], μ)) rfl ⟨trivial, trivial, trivial, trivial, trivial⟩ ?_
                  refine sr_brd (fun h => absurd h3 h) (fun _ => ?_)
                  refine sr_many 5 (t := (26, [some (.inr (.inl nm)), none, some (.inl 1), some (.inl 1), some (.inl ((nI k) + 1)), some (.inr (.inl ((nm >>> (Int32.toInt64 ((5 : Int32) * (nI k)) &&& 63)) &&& (31 : Int64)))), none], [], μ)) rfl ⟨trivial, trivial, trivial, trivial, trivial, trivial⟩ ?_
                  try simp only [hck] at h1 h2 h3 h4 h5
                  try simp only [hck]
                  refine sr_forget [some (.inr (.inl nm)), none, some (.inl 1), some (.inl 1), some (.inl ((nI k) + 1)), none, none] (by simp [sr_sub]) ?_
                  simp only [f_MO_isName, if_neg h1, if_neg h2, if_pos h3, if_pos h4, if_neg h5, nI_succ] at w
                  exact w
              · refine sr_many 2 (t := (bif decide ((nI k) ≤ 0) then 85 else 81, [some (.inr (.inl nm)), none, some (.inl a.1), some (.inl a.2), some (.inl (nI k)), some (.inr (.inl ((nm >>> (Int32.toInt64 ((5 : Int32) * (nI k)) &&& 63)) &&& (31 : Int64)))), none], [], μ)) rfl ⟨trivial, trivial, trivial⟩ ?_
                refine sr_brd (fun h5 => ?_) (fun h5 => ?_)
                · refine sr_many 4 (t := (bif decide (¬ a.1 = 0) then 98 else 91, [some (.inr (.inl nm)), none, some (.inl a.1), some (.inl 0), some (.inl (nI k)), some (.inr (.inl ((nm >>> (Int32.toInt64 ((5 : Int32) * (nI k)) &&& 63)) &&& (31 : Int64)))), none], [], μ)) rfl ⟨trivial, trivial, trivial, trivial, trivial⟩ ?_
                  refine sr_brd (fun h6 => ?_) (fun h6 => ?_)
                  · refine sr_many 5 (t := (26, [some (.inr (.inl nm)), none, some (.inl 1), some (.inl 0), some (.inl ((nI k) + 1)), some (.inr (.inl ((nm >>> (Int32.toInt64 ((5 : Int32) * (nI k)) &&& 63)) &&& (31 : Int64)))), none], [], μ)) rfl ⟨trivial, trivial, trivial, trivial, trivial, trivial⟩ ?_
                    try simp only [hck] at h1 h2 h3 h4 h5 h6
                    try simp only [hck]
                    refine sr_forget [some (.inr (.inl nm)), none, some (.inl 1), some (.inl 0), some (.inl ((nI k) + 1)), none, none] (by simp [sr_sub]) ?_
                    simp only [f_MO_isName, if_neg h1, if_neg h2, if_pos h3, if_neg h4, if_pos h5, if_pos h6, nI_succ] at w
                    exact w
                  · refine sr_many 4 (t := (bif decide (¬ (lg_cmp ((nm >>> (Int32.toInt64 ((5 : Int32) * (nI k)) &&& 63)) &&& (31 : Int64)) 0) = 0) then 102 else 98, [some (.inr (.inl nm)), none, some (.inl a.1), some (.inl 0), some (.inl (nI k)), some (.inr (.inl ((nm >>> (Int32.toInt64 ((5 : Int32) * (nI k)) &&& 63)) &&& (31 : Int64)))), none], [], μ)) rfl ⟨trivial, trivial, trivial, trivial, trivial⟩ ?_
                    refine sr_brd (fun h => absurd h3 h) (fun _ => ?_)
                    refine sr_many 5 (t := (26, [some (.inr (.inl nm)), none, some (.inl 1), some (.inl 0), some (.inl ((nI k) + 1)), some (.inr (.inl ((nm >>> (Int32.toInt64 ((5 : Int32) * (nI k)) &&& 63)) &&& (31 : Int64)))), none], [], μ)) rfl ⟨trivial, trivial, trivial, trivial, trivial, trivial⟩ ?_
                    try simp only [hck] at h1 h2 h3 h4 h5 h6
                    try simp only [hck]
                    refine sr_forget [some (.inr (.inl nm)), none, some (.inl 1), some (.inl 0), some (.inl ((nI k) + 1)), none, none] (by simp [sr_sub]) ?_
                    simp only [f_MO_isName, if_neg h1, if_neg h2, if_pos h3, if_neg h4, if_pos h5, if_neg h6, nI_succ] at w
                    exact w
                · refine sr_many 5 (t := (bif decide (¬ a.1 = 0) then 98 else 91, [some (.inr (.inl nm)), none, some (.inl a.1), some (.inl 1), some (.inl (nI k)), some (.inr (.inl ((nm >>> (Int32.toInt64 ((5 : Int32) * (nI k)) &&& 63)) &&& (31 : Int64)))), none], [], μ)) rfl ⟨trivial, trivial, trivial, trivial, trivial, trivial⟩ ?_
                  refine sr_brd (fun h6 => ?_) (fun h6 => ?_)
                  · refine sr_many 5 (t := (26, [some (.inr (.inl nm)), none, some (.inl 1), some (.inl 1), some (.inl ((nI k) + 1)), some (.inr (.inl ((nm >>> (Int32.toInt64 ((5 : Int32) * (nI k)) &&& 63)) &&& (31 : Int64)))), none], [], μ)) rfl ⟨trivial, trivial, trivial, trivial, trivial, trivial⟩ ?_
                    try simp only [hck] at h1 h2 h3 h4 h5 h6
                    try simp only [hck]
                    refine sr_forget [some (.inr (.inl nm)), none, some (.inl 1), some (.inl 1), some (.inl ((nI k) + 1)), none, none] (by simp [sr_sub]) ?_
                    simp only [f_MO_isName, if_neg h1, if_neg h2, if_pos h3, if_neg h4, if_neg h5, if_pos h6, nI_succ] at w
                    exact w
                  · refine sr_many 4 (t := (bif decide (¬ (lg_cmp ((nm >>> (Int32.toInt64 ((5 : Int32) * (nI k)) &&& 63)) &&& (31 : Int64)) 0) = 0) then 102 else 98, [some (.inr (.inl nm)), none, some (.inl a.1), some (.inl 1), some (.inl (nI k)), some (.inr (.inl ((nm >>> (Int32.toInt64 ((5 : Int32) * (nI k)) &&& 63)) &&& (31 : Int64)))), none], [], μ)) rfl ⟨trivial, trivial, trivial, trivial, trivial⟩ ?_
                    refine sr_brd (fun h => absurd h3 h) (fun _ => ?_)
                    refine sr_many 5 (t := (26, [some (.inr (.inl nm)), none, some (.inl 1), some (.inl 1), some (.inl ((nI k) + 1)), some (.inr (.inl ((nm >>> (Int32.toInt64 ((5 : Int32) * (nI k)) &&& 63)) &&& (31 : Int64)))), none], [], μ)) rfl ⟨trivial, trivial, trivial, trivial, trivial, trivial⟩ ?_
                    try simp only [hck] at h1 h2 h3 h4 h5 h6
                    try simp only [hck]
                    refine sr_forget [some (.inr (.inl nm)), none, some (.inl 1), some (.inl 1), some (.inl ((nI k) + 1)), none, none] (by simp [sr_sub]) ?_
                    simp only [f_MO_isName, if_neg h1, if_neg h2, if_pos h3, if_neg h4, if_neg h5, if_neg h6, nI_succ] at w
                    exact w
            · refine sr_many 2 (t := (bif decide (¬ a.1 = 0) then 85 else 69, [some (.inr (.inl nm)), none, some (.inl a.1), some (.inl a.2), some (.inl (nI k)), some (.inr (.inl ((nm >>> (Int32.toInt64 ((5 : Int32) * (nI k)) &&& 63)) &&& (31 : Int64)))), none], [], μ)) rfl ⟨trivial, trivial, trivial⟩ ?_
              refine sr_brd (fun h4 => ?_) (fun h4 => ?_)
              · refine sr_many 4 (t := (bif decide (¬ a.1 = 0) then 98 else 91, [some (.inr (.inl nm)), none, some (.inl a.1), some (.inl 0), some (.inl (nI k)), some (.inr (.inl ((nm >>> (Int32.toInt64 ((5 : Int32) * (nI k)) &&& 63)) &&& (31 : Int64)))), none], [], μ)) rfl ⟨trivial, trivial, trivial, trivial, trivial⟩ ?_
                refine sr_brd (fun _ => ?_) (fun h => absurd h4 h)
                refine sr_many 5 (t := (26, [some (.inr (.inl nm)), none, some (.inl 1), some (.inl 0), some (.inl ((nI k) + 1)), some (.inr (.inl ((nm >>> (Int32.toInt64 ((5 : Int32) * (nI k)) &&& 63)) &&& (31 : Int64)))), none], [], μ)) rfl ⟨trivial, trivial, trivial, trivial, trivial, trivial⟩ ?_
                try simp only [hck] at h1 h2 h3 h4
                try simp only [hck]
                refine sr_forget [some (.inr (.inl nm)), none, some (.inl 1), some (.inl 0), some (.inl ((nI k) + 1)), none, none] (by simp [sr_sub]) ?_
                simp only [f_MO_isName, if_neg h1, if_neg h2, if_neg h3, if_pos h4, nI_succ] at w
                exact w
              · refine sr_many 4 (t := (bif decide (0 < (lg_cmp ((nm >>> (Int32.toInt64 ((5 : Int32) * (nI k)) &&& 63)) &&& (31 : Int64)) 0)) then 81 else 76, [some (.inr (.inl nm)), none, some (.inl a.1), some (.inl a.2), some (.inl (nI k)), some (.inr (.inl ((nm >>> (Int32.toInt64 ((5 : Int32) * (nI k)) &&& 63)) &&& (31 : Int64)))), none], [], μ)) rfl ⟨trivial, trivial, trivial, trivial, trivial⟩ ?_
                refine sr_brd (fun h5 => ?_) (fun h5 => ?_)
                · refine sr_many 5 (t := (bif decide (¬ a.1 = 0) then 98 else 91, [some (.inr (.inl nm)), none, some (.inl a.1), some (.inl 1), some (.inl (nI k)), some (.inr (.inl ((nm >>> (Int32.toInt64 ((5 : Int32) * (nI k)) &&& 63)) &&& (31 : Int64)))), none], [], μ)) rfl ⟨trivial, trivial, trivial, trivial, trivial, trivial⟩ ?_
                  refine sr_brd (fun h => absurd h h4) (fun _ => ?_)
                  refine sr_many 4 (t := (bif decide (¬ (lg_cmp ((nm >>> (Int32.toInt64 ((5 : Int32) * (nI k)) &&& 63)) &&& (31 : Int64)) 0) = 0) then 102 else 98, [some (.inr (.inl nm)), none, some (.inl a.1), some (.inl 1), some (.inl (nI k)), some (.inr (.inl ((nm >>> (Int32.toInt64 ((5 : Int32) * (nI k)) &&& 63)) &&& (31 : Int64)))), none], [], μ)) rfl ⟨trivial, trivial, trivial, trivial, trivial⟩ ?_
                  refine sr_brd (fun _ => ?_) (fun h => absurd h3 h)
                  refine sr_many 4 (t := (26, [some (.inr (.inl nm)), none, some (.inl 0), some (.inl 1), some (.inl ((nI k) + 1)), some (.inr (.inl ((nm >>> (Int32.toInt64 ((5 : Int32) * (nI k)) &&& 63)) &&& (31 : Int64)))), none], [], μ)) rfl ⟨trivial, trivial, trivial, trivial, trivial⟩ ?_
                  try simp only [hck] at h1 h2 h3 h4 h5
                  try simp only [hck]
                  refine sr_forget [some (.inr (.inl nm)), none, some (.inl 0), some (.inl 1), some (.inl ((nI k) + 1)), none, none] (by simp [sr_sub]) ?_
                  simp only [f_MO_isName, if_neg h1, if_neg h2, if_neg h3, if_neg h4, if_pos h5, nI_succ] at w
                  exact w
                · refine sr_many 2 (t := (bif decide ((nI k) ≤ 0) then 85 else 81, [some (.inr (.inl nm)), none, some (.inl a.1), some (.inl a.2), some (.inl (nI k)), some (.inr (.inl ((nm >>> (Int32.toInt64 ((5 : Int32) * (nI k)) &&& 63)) &&& (31 : Int64)))), none], [], μ)) rfl ⟨trivial, trivial, trivial⟩ ?_
                  refine sr_brd (fun h6 => ?_) (fun h6 => ?_)
                  · refine sr_many 4 (t := (bif decide (¬ a.1 = 0) then 98 else 91, [some (.inr (.inl nm)), none, some (.inl a.1), some (.inl 0), some (.inl (nI k)), some (.inr (.inl ((nm >>> (Int32.toInt64 ((5 : Int32) * (nI k)) &&& 63)) &&& (31 : Int64)))), none], [], μ)) rfl ⟨trivial, trivial, trivial, trivial, trivial⟩ ?_
                    refine sr_brd (fun h => absurd h h4) (fun _ => ?_)
                    refine sr_many 4 (t := (bif decide (¬ (lg_cmp ((nm >>> (Int32.toInt64 ((5 : Int32) * (nI k)) &&& 63)) &&& (31 : Int64)) 0) = 0) then 102 else 98, [some (.inr (.inl nm)), none, some (.inl a.1), some (.inl 0), some (.inl (nI k)), some (.inr (.inl ((nm >>> (Int32.toInt64 ((5 : Int32) * (nI k)) &&& 63)) &&& (31 : Int64)))), none], [], μ)) rfl ⟨trivial, trivial, trivial, trivial, trivial⟩ ?_
                    refine sr_brd (fun _ => ?_) (fun h => absurd h3 h)
                    refine sr_many 4 (t := (26, [some (.inr (.inl nm)), none, some (.inl 0), some (.inl 0), some (.inl ((nI k) + 1)), some (.inr (.inl ((nm >>> (Int32.toInt64 ((5 : Int32) * (nI k)) &&& 63)) &&& (31 : Int64)))), none], [], μ)) rfl ⟨trivial, trivial, trivial, trivial, trivial⟩ ?_
                    try simp only [hck] at h1 h2 h3 h4 h5 h6
                    try simp only [hck]
                    refine sr_forget [some (.inr (.inl nm)), none, some (.inl 0), some (.inl 0), some (.inl ((nI k) + 1)), none, none] (by simp [sr_sub]) ?_
                    simp only [f_MO_isName, if_neg h1, if_neg h2, if_neg h3, if_neg h4, if_neg h5, if_pos h6, nI_succ] at w
                    exact w
                  · refine sr_many 5 (t := (bif decide (¬ a.1 = 0) then 98 else 91, [some (.inr (.inl nm)), none, some (.inl a.1), some (.inl 1), some (.inl (nI k)), some (.inr (.inl ((nm >>> (Int32.toInt64 ((5 : Int32) * (nI k)) &&& 63)) &&& (31 : Int64)))), none], [], μ)) rfl ⟨trivial, trivial, trivial, trivial, trivial, trivial⟩ ?_
                    refine sr_brd (fun h => absurd h h4) (fun _ => ?_)
                    refine sr_many 4 (t := (bif decide (¬ (lg_cmp ((nm >>> (Int32.toInt64 ((5 : Int32) * (nI k)) &&& 63)) &&& (31 : Int64)) 0) = 0) then 102 else 98, [some (.inr (.inl nm)), none, some (.inl a.1), some (.inl 1), some (.inl (nI k)), some (.inr (.inl ((nm >>> (Int32.toInt64 ((5 : Int32) * (nI k)) &&& 63)) &&& (31 : Int64)))), none], [], μ)) rfl ⟨trivial, trivial, trivial, trivial, trivial⟩ ?_
                    refine sr_brd (fun _ => ?_) (fun h => absurd h3 h)
                    refine sr_many 4 (t := (26, [some (.inr (.inl nm)), none, some (.inl 0), some (.inl 1), some (.inl ((nI k) + 1)), some (.inr (.inl ((nm >>> (Int32.toInt64 ((5 : Int32) * (nI k)) &&& 63)) &&& (31 : Int64)))), none], [], μ)) rfl ⟨trivial, trivial, trivial, trivial, trivial⟩ ?_
                    try simp only [hck] at h1 h2 h3 h4 h5 h6
                    try simp only [hck]
                    refine sr_forget [some (.inr (.inl nm)), none, some (.inl 0), some (.inl 1), some (.inl ((nI k) + 1)), none, none] (by simp [sr_sub]) ?_
                    simp only [f_MO_isName, if_neg h1, if_neg h2, if_neg h3, if_neg h4, if_neg h5, if_neg h6, nI_succ] at w
                    exact w
      · skip
        refine sr_many 3 (t := (bif decide (8 ≤ (nI 8)) then 110 else 33, [some (.inr (.inl nm)), none, some (.inl ((sr_it (f_MO_isName nm) (0, 1) 8).1)), some (.inl ((sr_it (f_MO_isName nm) (0, 1) 8).2)), some (.inl (nI 8)), none, none], [], μ)) rfl ⟨trivial, trivial, trivial, trivial⟩ ?_
        refine sr_brd (fun _ => ?_) (fun h => absurd (show (8 : Int32) ≤ nI 8 by decide) h)
        refine sr_many 1 (t := (111, [some (.inr (.inl nm)), none, some (.inl ((sr_it (f_MO_isName nm) (0, 1) 8).1)), some (.inl ((sr_it (f_MO_isName nm) (0, 1) 8).2)), some (.inl (nI 8)), none, none], [.inl ((sr_it (f_MO_isName nm) (0, 1) 8).2)], μ)) rfl ⟨trivial, trivial⟩ ?_
        exact sr_ret rfl rfl rfl (show (sr_it (f_MO_isName nm) (0, 1) 8).2 = 0 ∨ (sr_it (f_MO_isName nm) (0, 1) 8).2 = 1 by exact hIk.2) (by simp only [v_MO_isName, if_neg h1, if_neg h2])
def g_MO_letters (nm : Int64) : Nat → Unit → Int32 ⊕ Unit := fun k a => if 8 ≤ (nI k) then (.inl (nI k)) else (if (lg_cmp ((nm >>> (Int32.toInt64 ((5 : Int32) * (nI k)) &&& 63)) &&& (31 : Int64)) 0) ≤ 0 then (.inl (nI k)) else (.inr ()))
def v_MO_letters (nm : Int64) : Int32 := (sr_lp (g_MO_letters nm) (8 + 1) 0 ()).getD (0 : Int32)
def p_MO_letters : sr_F := fun vs μ => match vs with
  | [.inr (.inl nm)] => some (True, some (.inl (v_MO_letters nm)), μ)
  | _ => none
def e_MO_letters : sr_E := (sr_SM, sr_KS, (fun _ => none, fun _ => none, fun k => ([(99, 31)] : List (Nat × Int64)).lookup k, fun _ => none, fun _ => none), sr_cd cd_MO_letters, some .int)
set_option maxRecDepth 10000 in
theorem a_MO_letters (μ : sr_M) (nm : Int64) : sr_AW e_MO_letters (fun r => r = (some (.inl (v_MO_letters nm)), μ)) (sr_entry 3 [.inr (.inl nm)] μ) := by
  refine sr_many 2 (t := (2, [some (.inr (.inl nm)), none, some (.inl 0)], [], μ)) rfl ⟨trivial, trivial, trivial⟩ ?_
  have hI : ∀ k a a', (fun k _ => k ≤ 8) k a → (g_MO_letters nm) k a = .inr a' → (fun k _ => k ≤ 8) (k + 1) a' := (fun k a a' h e => by have hk : k ≠ 8 := (fun ek => by subst ek; unfold g_MO_letters at e; rw [if_pos (show (8 : Int32) ≤ nI 8 by decide)] at e; (repeat' split at e) <;> cases e); exact Nat.lt_of_le_of_ne h hk)
  obtain ⟨b, hb⟩ : ∃ b, sr_lp (g_MO_letters nm) (8 + 1) 0 () = some b := sr_lp_some (g_MO_letters nm) 8 (fun k _ => k ≤ 8) hI (fun a _ => by unfold g_MO_letters; rw [if_pos (show (8 : Int32) ≤ nI 8 by decide)]; (repeat' split) <;> exact ⟨_, rfl⟩) 8 0 () (by omega) (Nat.zero_le _)
  have e : ((some (.inl (v_MO_letters nm)), μ) : sr_R) = (fun b => (some (.inl b), μ)) b := by
    unfold v_MO_letters
    rw [hb]
    rfl
  rw [e]
  refine sr_loop (fun b => (some (.inl b), μ)) (fun k a => (2, [some (.inr (.inl nm)), none, some (.inl (nI k))], [], μ)) (g_MO_letters nm) (fun k _ => k ≤ 8) hI (fun K k a hIk hr w => ?_) (8 + 1) 0 () b (Nat.zero_le _) hb
  refine sr_many 3 (t := (bif decide (8 ≤ (nI k)) then 28 else 8, [some (.inr (.inl nm)), none, some (.inl (nI k))], [], μ)) rfl ⟨trivial, trivial, trivial, trivial⟩ ?_
  refine sr_brd (fun h1 => ?_) (fun h1 => ?_)
  · refine sr_many 1 (t := (29, [some (.inr (.inl nm)), none, some (.inl (nI k))], [.inl (nI k)], μ)) rfl ⟨trivial, trivial⟩ ?_
    exact sr_ret rfl rfl rfl trivial (hr (nI k) (by simp only [g_MO_letters, if_pos h1]))
  · refine sr_many 10 (t := (bif decide ((lg_cmp ((nm >>> (Int32.toInt64 ((5 : Int32) * (nI k)) &&& 63)) &&& (31 : Int64)) 0) ≤ 0) then 28 else 22, [some (.inr (.inl nm)), none, some (.inl (nI k))], [], μ)) rfl ⟨trivial, trivial, trivial, trivial, trivial, trivial, trivial, trivial, trivial, trivial, trivial⟩ ?_
    refine sr_brd (fun h2 => ?_) (fun h2 => ?_)
    · refine sr_many 1 (t := (29, [some (.inr (.inl nm)), none, some (.inl (nI k))], [.inl (nI k)], μ)) rfl ⟨trivial, trivial⟩ ?_
      exact sr_ret rfl rfl rfl trivial (hr (nI k) (by simp only [g_MO_letters, if_neg h1, if_pos h2]))
    · refine sr_many 2 (t := (2, [some (.inr (.inl nm)), none, some (.inl ((nI k) + 1))], [], μ)) rfl ⟨trivial, trivial, trivial⟩ ?_
      have w2 := w () (by simp only [g_MO_letters, if_neg h1, if_neg h2])
      try simp only [nI_succ] at w2
      exact w2
def f_MO_through (set : Int32) (c : Int32) (star : Int32) (nm : Int64) (n : Int32)  : Nat → Int32 → Int32 := fun k a => if star = 0 then (if c = 46 then (if ¬ ((set >>> ((nI k) &&& 31)) &&& (1 : Int32)) = 1 then a else (a ||| ((2 : Int32) <<< ((nI k) &&& 31)))) else (if ¬ (lg_cmp ((nm >>> (Int32.toInt64 ((5 : Int32) * (nI k)) &&& 63)) &&& (31 : Int64)) ((Int32.toInt64 c) - (96 : Int64))) = 0 then a else (if ¬ ((set >>> ((nI k) &&& 31)) &&& (1 : Int32)) = 1 then a else (a ||| ((2 : Int32) <<< ((nI k) &&& 31)))))) else (if c = 46 then (if ¬ ((a >>> ((nI k) &&& 31)) &&& (1 : Int32)) = 1 then a else (a ||| ((2 : Int32) <<< ((nI k) &&& 31)))) else (if ¬ (lg_cmp ((nm >>> (Int32.toInt64 ((5 : Int32) * (nI k)) &&& 63)) &&& (31 : Int64)) ((Int32.toInt64 c) - (96 : Int64))) = 0 then a else (if ¬ ((a >>> ((nI k) &&& 31)) &&& (1 : Int32)) = 1 then a else (a ||| ((2 : Int32) <<< ((nI k) &&& 31))))))
def v_MO_through (set : Int32) (c : Int32) (star : Int32) (nm : Int64) (n : Int32) : Int32 := if star = 0 then (sr_it (f_MO_through set c star nm n) 0 n.toNatClampNeg) else (sr_it (f_MO_through set c star nm n) set n.toNatClampNeg)
def q_MO_through (set : Int32) (c : Int32) (star : Int32) (nm : Int64) (n : Int32) : Prop := sr_cnt n 8
def p_MO_through : sr_F := fun vs μ => match vs with
  | [.inl set, .inl c, .inl star, .inr (.inl nm), .inl n] => some (q_MO_through set c star nm n, some (.inl (v_MO_through set c star nm n)), μ)
  | _ => none
def e_MO_through : sr_E := (sr_SM, sr_KS, (fun _ => none, fun _ => none, fun k => ([(99, 31), (147, 96)] : List (Nat × Int64)).lookup k, fun _ => none, fun _ => none), sr_cd cd_MO_through, some .int)
set_option maxRecDepth 10000 in
theorem a_MO_through (μ : sr_M) (set : Int32) (c : Int32) (star : Int32) (nm : Int64) (n : Int32) (hq : q_MO_through set c star nm n) : sr_AW e_MO_through (fun r => r = (some (.inl (v_MO_through set c star nm n)), μ)) (sr_entry 10 [.inl set, .inl c, .inl star, .inr (.inl nm), .inl n] μ) := by
  have q1 : sr_cnt n 8 := hq
  refine sr_many 2 (t := (bif decide (star = 0) then 8 else 4, [some (.inl set), some (.inl c), some (.inl star), some (.inr (.inl nm)), none, some (.inl n), none, none, none, none], [], μ)) rfl ⟨trivial, trivial, trivial⟩ ?_
  refine sr_brd (fun h1 => ?_) (fun h1 => ?_)
  · refine sr_many 4 (t := (14, [some (.inl set), some (.inl c), some (.inl star), some (.inr (.inl nm)), none, some (.inl n), some (.inl 0), some (.inl 0), none, none], [], μ)) rfl ⟨trivial, trivial, trivial, trivial, trivial⟩ ?_
    refine sr_forT (α := Int32) (fun k a => (14, [some (.inl set), some (.inl c), some (.inl star), some (.inr (.inl nm)), none, some (.inl n), some (.inl a), some (.inl (nI k)), none, none], [], μ)) (f_MO_through set c star nm n) 0 n.toNatClampNeg (fun k hk a w => ?_) ?_
    · have hbk : k < 8 := sr_cnt_lt q1 hk
      have hck : (nI k).toNatClampNeg = k := sr_clN 8 hbk (by decide)
      have hink : sr_in (nI k) 8 := sr_inN 8 hbk (by decide)
      have hcbk : (nI k).toNatClampNeg < 8 := by rw [hck]; exact hbk
      refine sr_many 3 (t := (bif decide (n ≤ (nI k)) then 97 else 21, [some (.inl set), some (.inl c), some (.inl star), some (.inr (.inl nm)), none, some (.inl n), some (.inl a), some (.inl (nI k)), none, none], [], μ)) rfl ⟨trivial, trivial, trivial, trivial⟩ ?_
      refine sr_brd (fun h => absurd h (by exact sr_cnt_nlt q1 (by decide) hk)) (fun _ => ?_)
      refine sr_many 2 (t := (bif decide (star = 0) then 30 else 25, [some (.inl set), some (.inl c), some (.inl star), some (.inr (.inl nm)), none, some (.inl n), some (.inl a), some (.inl (nI k)), none, none], [], μ)) rfl ⟨trivial, trivial, trivial⟩ ?_
      refine sr_brd (fun h1 => ?_) (fun h1 => ?_)
      · refine sr_many 5 (t := (bif decide (c = 46) then 59 else 39, [some (.inl set), some (.inl c), some (.inl star), some (.inr (.inl nm)), none, some (.inl n), some (.inl a), some (.inl (nI k)), some (.inl set), none], [], μ)) rfl ⟨trivial, trivial, trivial, trivial, trivial, trivial⟩ ?_
        refine sr_brd (fun h2 => ?_) (fun h2 => ?_)
        · refine sr_many 12 (t := (bif decide (¬ ((set >>> ((nI k) &&& 31)) &&& (1 : Int32)) = 1) then 91 else 82, [some (.inl set), some (.inl c), some (.inl star), some (.inr (.inl nm)), none, some (.inl n), some (.inl a), some (.inl (nI k)), some (.inl set), some (.inl 1)], [], μ)) rfl ⟨trivial, trivial, trivial, trivial, trivial, trivial, trivial, trivial, trivial, trivial, trivial, trivial, trivial⟩ ?_
          refine sr_brd (fun h3 => ?_) (fun h3 => ?_)
          · refine sr_many 2 (t := (14, [some (.inl set), some (.inl c), some (.inl star), some (.inr (.inl nm)), none, some (.inl n), some (.inl a), some (.inl ((nI k) + 1)), some (.inl set), some (.inl 1)], [], μ)) rfl ⟨trivial, trivial, trivial⟩ ?_
            try simp only [hck] at h1 h2 h3
            try simp only [hck]
            refine sr_forget [some (.inl set), some (.inl c), some (.inl star), some (.inr (.inl nm)), none, some (.inl n), some (.inl a), some (.inl ((nI k) + 1)), none, none] (by simp [sr_sub]) ?_
            simp only [f_MO_through, if_pos h1, if_pos h2, if_pos h3, nI_succ] at w
            exact w
          · refine sr_many 8 (t := (14, [some (.inl set), some (.inl c), some (.inl star), some (.inr (.inl nm)), none, some (.inl n), some (.inl (a ||| ((2 : Int32) <<< ((nI k) &&& 31)))), some (.inl ((nI k) + 1)), some (.inl set), some (.inl 1)], [], μ)) rfl ⟨trivial, trivial, trivial, trivial, trivial, trivial, trivial, trivial, trivial⟩ ?_
            try simp only [hck] at h1 h2 h3
            try simp only [hck]
            refine sr_forget [some (.inl set), some (.inl c), some (.inl star), some (.inr (.inl nm)), none, some (.inl n), some (.inl (a ||| ((2 : Int32) <<< ((nI k) &&& 31)))), some (.inl ((nI k) + 1)), none, none] (by simp [sr_sub]) ?_
            simp only [f_MO_through, if_pos h1, if_pos h2, if_neg h3, nI_succ] at w
            exact w
        · refine sr_many 13 (t := (bif decide (¬ (lg_cmp ((nm >>> (Int32.toInt64 ((5 : Int32) * (nI k)) &&& 63)) &&& (31 : Int64)) ((Int32.toInt64 c) - (96 : Int64))) = 0) then 63 else 59, [some (.inl set), some (.inl c), some (.inl star), some (.inr (.inl nm)), none, some (.inl n), some (.inl a), some (.inl (nI k)), some (.inl set), none], [], μ)) rfl ⟨trivial, trivial, trivial, trivial, trivial, trivial, trivial, trivial, trivial, trivial, trivial, trivial, trivial, trivial⟩ ?_
          refine sr_brd (fun h3 => ?_) (fun h3 => ?_)
          · refine sr_many 6 (t := (14, [some (.inl set), some (.inl c), some (.inl star), some (.inr (.inl nm)), none, some (.inl n), some (.inl a), some (.inl ((nI k) + 1)), some (.inl set), some (.inl 0)], [], μ)) rfl ⟨trivial, trivial, trivial, trivial, trivial, trivial, trivial⟩ ?_
            try simp only [hck] at h1 h2 h3
            try simp only [hck]
            refine sr_forget [some (.inl set), some (.inl c), some (.inl star), some (.inr (.inl nm)), none, some (.inl n), some (.inl a), some (.inl ((nI k) + 1)), none, none] (by simp [sr_sub]) ?_
            simp only [f_MO_through, if_pos h1, if_neg h2, if_pos h3, nI_succ] at w
            exact w
          · refine sr_many 12 (t := (bif decide (¬ ((set >>> ((nI k) &&& 31)) &&& (1 : Int32)) = 1) then 91 else 82, [some (.inl set), some (.inl c), some (.inl star), some (.inr (.inl nm)), none, some (.inl n), some (.inl a), some (.inl (nI k)), some (.inl set), some (.inl 1)], [], μ)) rfl ⟨trivial, trivial, trivial, trivial, trivial, trivial, trivial, trivial, trivial, trivial, trivial, trivial, trivial⟩ ?_
            refine sr_brd (fun h4 => ?_) (fun h4 => ?_)
            · refine sr_many 2 (t := (14, [some (.inl set), some (.inl c), some (.inl star), some (.inr (.inl nm)), none, some (.inl n), some (.inl a), some (.inl ((nI k) + 1)), some (.inl set), some (.inl 1)], [], μ)) rfl ⟨trivial, trivial, trivial⟩ ?_
              try simp only [hck] at h1 h2 h3 h4
              try simp only [hck]
              refine sr_forget [some (.inl set), some (.inl c), some (.inl star), some (.inr (.inl nm)), none, some (.inl n), some (.inl a), some (.inl ((nI k) + 1)), none, none] (by simp [sr_sub]) ?_
              simp only [f_MO_through, if_pos h1, if_neg h2, if_neg h3, if_pos h4, nI_succ] at w
              exact w
            · refine sr_many 8 (t := (14, [some (.inl set), some (.inl c), some (.inl star), some (.inr (.inl nm)), none, some (.inl n), some (.inl (a ||| ((2 : Int32) <<< ((nI k) &&& 31)))), some (.inl ((nI k) + 1)), some (.inl set), some (.inl 1)], [], μ)) rfl ⟨trivial, trivial, trivial, trivial, trivial, trivial, trivial, trivial, trivial⟩ ?_
              try simp only [hck] at h1 h2 h3 h4
              try simp only [hck]
              refine sr_forget [some (.inl set), some (.inl c), some (.inl star), some (.inr (.inl nm)), none, some (.inl n), some (.inl (a ||| ((2 : Int32) <<< ((nI k) &&& 31)))), some (.inl ((nI k) + 1)), none, none] (by simp [sr_sub]) ?_
              simp only [f_MO_through, if_pos h1, if_neg h2, if_neg h3, if_neg h4, nI_succ] at w
              exact w
      · refine sr_many 6 (t := (bif decide (c = 46) then 59 else 39, [some (.inl set), some (.inl c), some (.inl star), some (.inr (.inl nm)), none, some (.inl n), some (.inl a), some (.inl (nI k)), some (.inl a), none], [], μ)) rfl ⟨trivial, trivial, trivial, trivial, trivial, trivial, trivial⟩ ?_
        refine sr_brd (fun h2 => ?_) (fun h2 => ?_)
        · refine sr_many 12 (t := (bif decide (¬ ((a >>> ((nI k) &&& 31)) &&& (1 : Int32)) = 1) then 91 else 82, [some (.inl set), some (.inl c), some (.inl star), some (.inr (.inl nm)), none, some (.inl n), some (.inl a), some (.inl (nI k)), some (.inl a), some (.inl 1)], [], μ)) rfl ⟨trivial, trivial, trivial, trivial, trivial, trivial, trivial, trivial, trivial, trivial, trivial, trivial, trivial⟩ ?_
          refine sr_brd (fun h3 => ?_) (fun h3 => ?_)
          · refine sr_many 2 (t := (14, [some (.inl set), some (.inl c), some (.inl star), some (.inr (.inl nm)), none, some (.inl n), some (.inl a), some (.inl ((nI k) + 1)), some (.inl a), some (.inl 1)], [], μ)) rfl ⟨trivial, trivial, trivial⟩ ?_
            try simp only [hck] at h1 h2 h3
            try simp only [hck]
            refine sr_forget [some (.inl set), some (.inl c), some (.inl star), some (.inr (.inl nm)), none, some (.inl n), some (.inl a), some (.inl ((nI k) + 1)), none, none] (by simp [sr_sub]) ?_
            simp only [f_MO_through, if_neg h1, if_pos h2, if_pos h3, nI_succ] at w
            exact w
          · refine sr_many 8 (t := (14, [some (.inl set), some (.inl c), some (.inl star), some (.inr (.inl nm)), none, some (.inl n), some (.inl (a ||| ((2 : Int32) <<< ((nI k) &&& 31)))), some (.inl ((nI k) + 1)), some (.inl a), some (.inl 1)], [], μ)) rfl ⟨trivial, trivial, trivial, trivial, trivial, trivial, trivial, trivial, trivial⟩ ?_
            try simp only [hck] at h1 h2 h3
            try simp only [hck]
            refine sr_forget [some (.inl set), some (.inl c), some (.inl star), some (.inr (.inl nm)), none, some (.inl n), some (.inl (a ||| ((2 : Int32) <<< ((nI k) &&& 31)))), some (.inl ((nI k) + 1)), none, none] (by simp [sr_sub]) ?_
            simp only [f_MO_through, if_neg h1, if_pos h2, if_neg h3, nI_succ] at w
            exact w
        · refine sr_many 13 (t := (bif decide (¬ (lg_cmp ((nm >>> (Int32.toInt64 ((5 : Int32) * (nI k)) &&& 63)) &&& (31 : Int64)) ((Int32.toInt64 c) - (96 : Int64))) = 0) then 63 else 59, [some (.inl set), some (.inl c), some (.inl star), some (.inr (.inl nm)), none, some (.inl n), some (.inl a), some (.inl (nI k)), some (.inl a), none], [], μ)) rfl ⟨trivial, trivial, trivial, trivial, trivial, trivial, trivial, trivial, trivial, trivial, trivial, trivial, trivial, trivial⟩ ?_
          refine sr_brd (fun h3 => ?_) (fun h3 => ?_)
          · refine sr_many 6 (t := (14, [some (.inl set), some (.inl c), some (.inl star), some (.inr (.inl nm)), none, some (.inl n), some (.inl a), some (.inl ((nI k) + 1)), some (.inl a), some (.inl 0)], [], μ)) rfl ⟨trivial, trivial, trivial, trivial, trivial, trivial, trivial⟩ ?_
            try simp only [hck] at h1 h2 h3
            try simp only [hck]
            refine sr_forget [some (.inl set), some (.inl c), some (.inl star), some (.inr (.inl nm)), none, some (.inl n), some (.inl a), some (.inl ((nI k) + 1)), none, none] (by simp [sr_sub]) ?_
            simp only [f_MO_through, if_neg h1, if_neg h2, if_pos h3, nI_succ] at w
            exact w
          · refine sr_many 12 (t := (bif decide (¬ ((a >>> ((nI k) &&& 31)) &&& (1 : Int32)) = 1) then 91 else 82, [some (.inl set), some (.inl c), some (.inl star), some (.inr (.inl nm)), none, some (.inl n), some (.inl a), some (.inl (nI k)), some (.inl a), some (.inl 1)], [], μ)) rfl ⟨trivial, trivial, trivial, trivial, trivial, trivial, trivial, trivial, trivial, trivial, trivial, trivial, trivial⟩ ?_
            refine sr_brd (fun h4 => ?_) (fun h4 => ?_)
            · refine sr_many 2 (t := (14, [some (.inl set), some (.inl c), some (.inl star), some (.inr (.inl nm)), none, some (.inl n), some (.inl a), some (.inl ((nI k) + 1)), some (.inl a), some (.inl 1)], [], μ)) rfl ⟨trivial, trivial, trivial⟩ ?_
              try simp only [hck] at h1 h2 h3 h4
              try simp only [hck]
              refine sr_forget [some (.inl set), some (.inl c), some (.inl star), some (.inr (.inl nm)), none, some (.inl n), some (.inl a), some (.inl ((nI k) + 1)), none, none] (by simp [sr_sub]) ?_
              simp only [f_MO_through, if_neg h1, if_neg h2, if_neg h3, if_pos h4, nI_succ] at w
              exact w
            · refine sr_many 8 (t := (14, [some (.inl set), some (.inl c), some (.inl star), some (.inr (.inl nm)), none, some (.inl n), some (.inl (a ||| ((2 : Int32) <<< ((nI k) &&& 31)))), some (.inl ((nI k) + 1)), some (.inl a), some (.inl 1)], [], μ)) rfl ⟨trivial, trivial, trivial, trivial, trivial, trivial, trivial, trivial, trivial⟩ ?_
              try simp only [hck] at h1 h2 h3 h4
              try simp only [hck]
              refine sr_forget [some (.inl set), some (.inl c), some (.inl star), some (.inr (.inl nm)), none, some (.inl n), some (.inl (a ||| ((2 : Int32) <<< ((nI k) &&& 31)))), some (.inl ((nI k) + 1)), none, none] (by simp [sr_sub]) ?_
              simp only [f_MO_through, if_neg h1, if_neg h2, if_neg h3, if_neg h4, nI_succ] at w
              exact w
    · skip
      refine sr_many 3 (t := (bif decide (n ≤ (nI n.toNatClampNeg)) then 97 else 21, [some (.inl set), some (.inl c), some (.inl star), some (.inr (.inl nm)), none, some (.inl n), some (.inl (sr_it (f_MO_through set c star nm n) 0 n.toNatClampNeg)), some (.inl (nI n.toNatClampNeg)), none, none], [], μ)) rfl ⟨trivial, trivial, trivial, trivial⟩ ?_
      refine sr_brd (fun _ => ?_) (fun h => absurd (by exact sr_cnt_le q1) h)
      refine sr_many 1 (t := (99, [some (.inl set), some (.inl c), some (.inl star), some (.inr (.inl nm)), none, some (.inl n), some (.inl (sr_it (f_MO_through set c star nm n) 0 n.toNatClampNeg)), some (.inl (nI n.toNatClampNeg)), none, none], [.inl (sr_it (f_MO_through set c star nm n) 0 n.toNatClampNeg)], μ)) rfl ⟨trivial, trivial⟩ ?_
      exact sr_ret rfl rfl rfl trivial (by simp only [v_MO_through, if_pos h1])
  · refine sr_many 5 (t := (14, [some (.inl set), some (.inl c), some (.inl star), some (.inr (.inl nm)), none, some (.inl n), some (.inl set), some (.inl 0), none, none], [], μ)) rfl ⟨trivial, trivial, trivial, trivial, trivial, trivial⟩ ?_
    refine sr_forT (α := Int32) (fun k a => (14, [some (.inl set), some (.inl c), some (.inl star), some (.inr (.inl nm)), none, some (.inl n), some (.inl a), some (.inl (nI k)), none, none], [], μ)) (f_MO_through set c star nm n) set n.toNatClampNeg (fun k hk a w => ?_) ?_
    · have hbk : k < 8 := sr_cnt_lt q1 hk
      have hck : (nI k).toNatClampNeg = k := sr_clN 8 hbk (by decide)
      have hink : sr_in (nI k) 8 := sr_inN 8 hbk (by decide)
      have hcbk : (nI k).toNatClampNeg < 8 := by rw [hck]; exact hbk
      refine sr_many 3 (t := (bif decide (n ≤ (nI k)) then 97 else 21, [some (.inl set), some (.inl c), some (.inl star), some (.inr (.inl nm)), none, some (.inl n), some (.inl a), some (.inl (nI k)), none, none], [], μ)) rfl ⟨trivial, trivial, trivial, trivial⟩ ?_
      refine sr_brd (fun h => absurd h (by exact sr_cnt_nlt q1 (by decide) hk)) (fun _ => ?_)
      refine sr_many 2 (t := (bif decide (star = 0) then 30 else 25, [some (.inl set), some (.inl c), some (.inl star), some (.inr (.inl nm)), none, some (.inl n), some (.inl a), some (.inl (nI k)), none, none], [], μ)) rfl ⟨trivial, trivial, trivial⟩ ?_
      refine sr_brd (fun h1 => ?_) (fun h1 => ?_)
      · refine sr_many 5 (t := (bif decide (c = 46) then 59 else 39, [some (.inl set), some (.inl c), some (.inl star), some (.inr (.inl nm)), none, some (.inl n), some (.inl a), some (.inl (nI k)), some (.inl set), none], [], μ)) rfl ⟨trivial, trivial, trivial, trivial, trivial, trivial⟩ ?_
        refine sr_brd (fun h2 => ?_) (fun h2 => ?_)
        · refine sr_many 12 (t := (bif decide (¬ ((set >>> ((nI k) &&& 31)) &&& (1 : Int32)) = 1) then 91 else 82, [some (.inl set), some (.inl c), some (.inl star), some (.inr (.inl nm)), none, some (.inl n), some (.inl a), some (.inl (nI k)), some (.inl set), some (.inl 1)], [], μ)) rfl ⟨trivial, trivial, trivial, trivial, trivial, trivial, trivial, trivial, trivial, trivial, trivial, trivial, trivial⟩ ?_
          refine sr_brd (fun h3 => ?_) (fun h3 => ?_)
          · refine sr_many 2 (t := (14, [some (.inl set), some (.inl c), some (.inl star), some (.inr (.inl nm)), none, some (.inl n), some (.inl a), some (.inl ((nI k) + 1)), some (.inl set), some (.inl 1)], [], μ)) rfl ⟨trivial, trivial, trivial⟩ ?_
            try simp only [hck] at h1 h2 h3
            try simp only [hck]
            refine sr_forget [some (.inl set), some (.inl c), some (.inl star), some (.inr (.inl nm)), none, some (.inl n), some (.inl a), some (.inl ((nI k) + 1)), none, none] (by simp [sr_sub]) ?_
            simp only [f_MO_through, if_pos h1, if_pos h2, if_pos h3, nI_succ] at w
            exact w
          · refine sr_many 8 (t := (14, [some (.inl set), some (.inl c), some (.inl star), some (.inr (.inl nm)), none, some (.inl n), some (.inl (a ||| ((2 : Int32) <<< ((nI k) &&& 31)))), some (.inl ((nI k) + 1)), some (.inl set), some (.inl 1)], [], μ)) rfl ⟨trivial, trivial, trivial, trivial, trivial, trivial, trivial, trivial, trivial⟩ ?_
            try simp only [hck] at h1 h2 h3
            try simp only [hck]
            refine sr_forget [some (.inl set), some (.inl c), some (.inl star), some (.inr (.inl nm)), none, some (.inl n), some (.inl (a ||| ((2 : Int32) <<< ((nI k) &&& 31)))), some (.inl ((nI k) + 1)), none, none] (by simp [sr_sub]) ?_
            simp only [f_MO_through, if_pos h1, if_pos h2, if_neg h3, nI_succ] at w
            exact w
        · refine sr_many 13 (t := (bif decide (¬ (lg_cmp ((nm >>> (Int32.toInt64 ((5 : Int32) * (nI k)) &&& 63)) &&& (31 : Int64)) ((Int32.toInt64 c) - (96 : Int64))) = 0) then 63 else 59, [some (.inl set), some (.inl c), some (.inl star), some (.inr (.inl nm)), none, some (.inl n), some (.inl a), some (.inl (nI k)), some (.inl set), none], [], μ)) rfl ⟨trivial, trivial, trivial, trivial, trivial, trivial, trivial, trivial, trivial, trivial, trivial, trivial, trivial, trivial⟩ ?_
          refine sr_brd (fun h3 => ?_) (fun h3 => ?_)
          · refine sr_many 6 (t := (14, [some (.inl set), some (.inl c), some (.inl star), some (.inr (.inl nm)), none, some (.inl n), some (.inl a), some (.inl ((nI k) + 1)), some (.inl set), some (.inl 0)], [], μ)) rfl ⟨trivial, trivial, trivial, trivial, trivial, trivial, trivial⟩ ?_
            try simp only [hck] at h1 h2 h3
            try simp only [hck]
            refine sr_forget [some (.inl set), some (.inl c), some (.inl star), some (.inr (.inl nm)), none, some (.inl n), some (.inl a), some (.inl ((nI k) + 1)), none, none] (by simp [sr_sub]) ?_
            simp only [f_MO_through, if_pos h1, if_neg h2, if_pos h3, nI_succ] at w
            exact w
          · refine sr_many 12 (t := (bif decide (¬ ((set >>> ((nI k) &&& 31)) &&& (1 : Int32)) = 1) then 91 else 82, [some (.inl set), some (.inl c), some (.inl star), some (.inr (.inl nm)), none, some (.inl n), some (.inl a), some (.inl (nI k)), some (.inl set), some (.inl 1)], [], μ)) rfl ⟨trivial, trivial, trivial, trivial, trivial, trivial, trivial, trivial, trivial, trivial, trivial, trivial, trivial⟩ ?_
            refine sr_brd (fun h4 => ?_) (fun h4 => ?_)
            · refine sr_many 2 (t := (14, [some (.inl set), some (.inl c), some (.inl star), some (.inr (.inl nm)), none, some (.inl n), some (.inl a), some (.inl ((nI k) + 1)), some (.inl set), some (.inl 1)], [], μ)) rfl ⟨trivial, trivial, trivial⟩ ?_
              try simp only [hck] at h1 h2 h3 h4
              try simp only [hck]
              refine sr_forget [some (.inl set), some (.inl c), some (.inl star), some (.inr (.inl nm)), none, some (.inl n), some (.inl a), some (.inl ((nI k) + 1)), none, none] (by simp [sr_sub]) ?_
              simp only [f_MO_through, if_pos h1, if_neg h2, if_neg h3, if_pos h4, nI_succ] at w
              exact w
            · refine sr_many 8 (t := (14, [some (.inl set), some (.inl c), some (.inl star), some (.inr (.inl nm)), none, some (.inl n), some (.inl (a ||| ((2 : Int32) <<< ((nI k) &&& 31)))), some (.inl ((nI k) + 1)), some (.inl set), some (.inl 1)], [], μ)) rfl ⟨trivial, trivial, trivial, trivial, trivial, trivial, trivial, trivial, trivial⟩ ?_
              try simp only [hck] at h1 h2 h3 h4
              try simp only [hck]
              refine sr_forget [some (.inl set), some (.inl c), some (.inl star), some (.inr (.inl nm)), none, some (.inl n), some (.inl (a ||| ((2 : Int32) <<< ((nI k) &&& 31)))), some (.inl ((nI k) + 1)), none, none] (by simp [sr_sub]) ?_
              simp only [f_MO_through, if_pos h1, if_neg h2, if_neg h3, if_neg h4, nI_succ] at w
              exact w
      · refine sr_many 6 (t := (bif decide (c = 46) then 59 else 39, [some (.inl set), some (.inl c), some (.inl star), some (.inr (.inl nm)), none, some (.inl n), some (.inl a), some (.inl (nI k)), some (.inl a), none], [], μ)) rfl ⟨trivial, trivial, trivial, trivial, trivial, trivial, trivial⟩ ?_
        refine sr_brd (fun h2 => ?_) (fun h2 => ?_)
        · refine sr_many 12 (t := (bif decide (¬ ((a >>> ((nI k) &&& 31)) &&& (1 : Int32)) = 1) then 91 else 82, [some (.inl set), some (.inl c), some (.inl star), some (.inr (.inl nm)), none, some (.inl n), some (.inl a), some (.inl (nI k)), some (.inl a), some (.inl 1)], [], μ)) rfl ⟨trivial, trivial, trivial, trivial, trivial, trivial, trivial, trivial, trivial, trivial, trivial, trivial, trivial⟩ ?_
          refine sr_brd (fun h3 => ?_) (fun h3 => ?_)
          · refine sr_many 2 (t := (14, [some (.inl set), some (.inl c), some (.inl star), some (.inr (.inl nm)), none, some (.inl n), some (.inl a), some (.inl ((nI k) + 1)), some (.inl a), some (.inl 1)], [], μ)) rfl ⟨trivial, trivial, trivial⟩ ?_
            try simp only [hck] at h1 h2 h3
            try simp only [hck]
            refine sr_forget [some (.inl set), some (.inl c), some (.inl star), some (.inr (.inl nm)), none, some (.inl n), some (.inl a), some (.inl ((nI k) + 1)), none, none] (by simp [sr_sub]) ?_
            simp only [f_MO_through, if_neg h1, if_pos h2, if_pos h3, nI_succ] at w
            exact w
          · refine sr_many 8 (t := (14, [some (.inl set), some (.inl c), some (.inl star), some (.inr (.inl nm)), none, some (.inl n), some (.inl (a ||| ((2 : Int32) <<< ((nI k) &&& 31)))), some (.inl ((nI k) + 1)), some (.inl a), some (.inl 1)], [], μ)) rfl ⟨trivial, trivial, trivial, trivial, trivial, trivial, trivial, trivial, trivial⟩ ?_
            try simp only [hck] at h1 h2 h3
            try simp only [hck]
            refine sr_forget [some (.inl set), some (.inl c), some (.inl star), some (.inr (.inl nm)), none, some (.inl n), some (.inl (a ||| ((2 : Int32) <<< ((nI k) &&& 31)))), some (.inl ((nI k) + 1)), none, none] (by simp [sr_sub]) ?_
            simp only [f_MO_through, if_neg h1, if_pos h2, if_neg h3, nI_succ] at w
            exact w
        · refine sr_many 13 (t := (bif decide (¬ (lg_cmp ((nm >>> (Int32.toInt64 ((5 : Int32) * (nI k)) &&& 63)) &&& (31 : Int64)) ((Int32.toInt64 c) - (96 : Int64))) = 0) then 63 else 59, [some (.inl set), some (.inl c), some (.inl star), some (.inr (.inl nm)), none, some (.inl n), some (.inl a), some (.inl (nI k)), some (.inl a), none], [], μ)) rfl ⟨trivial, trivial, trivial, trivial, trivial, trivial, trivial, trivial, trivial, trivial, trivial, trivial, trivial, trivial⟩ ?_
          refine sr_brd (fun h3 => ?_) (fun h3 => ?_)
          · refine sr_many 6 (t := (14, [some (.inl set), some (.inl c), some (.inl star), some (.inr (.inl nm)), none, some (.inl n), some (.inl a), some (.inl ((nI k) + 1)), some (.inl a), some (.inl 0)], [], μ)) rfl ⟨trivial, trivial, trivial, trivial, trivial, trivial, trivial⟩ ?_
            try simp only [hck] at h1 h2 h3
            try simp only [hck]
            refine sr_forget [some (.inl set), some (.inl c), some (.inl star), some (.inr (.inl nm)), none, some (.inl n), some (.inl a), some (.inl ((nI k) + 1)), none, none] (by simp [sr_sub]) ?_
            simp only [f_MO_through, if_neg h1, if_neg h2, if_pos h3, nI_succ] at w
            exact w
          · refine sr_many 12 (t := (bif decide (¬ ((a >>> ((nI k) &&& 31)) &&& (1 : Int32)) = 1) then 91 else 82, [some (.inl set), some (.inl c), some (.inl star), some (.inr (.inl nm)), none, some (.inl n), some (.inl a), some (.inl (nI k)), some (.inl a), some (.inl 1)], [], μ)) rfl ⟨trivial, trivial, trivial, trivial, trivial, trivial, trivial, trivial, trivial, trivial, trivial, trivial, trivial⟩ ?_
            refine sr_brd (fun h4 => ?_) (fun h4 => ?_)
            · refine sr_many 2 (t := (14, [some (.inl set), some (.inl c), some (.inl star), some (.inr (.inl nm)), none, some (.inl n), some (.inl a), some (.inl ((nI k) + 1)), some (.inl a), some (.inl 1)], [], μ)) rfl ⟨trivial, trivial, trivial⟩ ?_
              try simp only [hck] at h1 h2 h3 h4
              try simp only [hck]
              refine sr_forget [some (.inl set), some (.inl c), some (.inl star), some (.inr (.inl nm)), none, some (.inl n), some (.inl a), some (.inl ((nI k) + 1)), none, none] (by simp [sr_sub]) ?_
              simp only [f_MO_through, if_neg h1, if_neg h2, if_neg h3, if_pos h4, nI_succ] at w
              exact w
            · refine sr_many 8 (t := (14, [some (.inl set), some (.inl c), some (.inl star), some (.inr (.inl nm)), none, some (.inl n), some (.inl (a ||| ((2 : Int32) <<< ((nI k) &&& 31)))), some (.inl ((nI k) + 1)), some (.inl a), some (.inl 1)], [], μ)) rfl ⟨trivial, trivial, trivial, trivial, trivial, trivial, trivial, trivial, trivial⟩ ?_
              try simp only [hck] at h1 h2 h3 h4
              try simp only [hck]
              refine sr_forget [some (.inl set), some (.inl c), some (.inl star), some (.inr (.inl nm)), none, some (.inl n), some (.inl (a ||| ((2 : Int32) <<< ((nI k) &&& 31)))), some (.inl ((nI k) + 1)), none, none] (by simp [sr_sub]) ?_
              simp only [f_MO_through, if_neg h1, if_neg h2, if_neg h3, if_neg h4, nI_succ] at w
              exact w
    · skip
      refine sr_many 3 (t := (bif decide (n ≤ (nI n.toNatClampNeg)) then 97 else 21, [some (.inl set), some (.inl c), some (.inl star), some (.inr (.inl nm)), none, some (.inl n), some (.inl (sr_it (f_MO_through set c star nm n) set n.toNatClampNeg)), some (.inl (nI n.toNatClampNeg)), none, none], [], μ)) rfl ⟨trivial, trivial, trivial, trivial⟩ ?_
      refine sr_brd (fun _ => ?_) (fun h => absurd (by exact sr_cnt_le q1) h)
      refine sr_many 1 (t := (99, [some (.inl set), some (.inl c), some (.inl star), some (.inr (.inl nm)), none, some (.inl n), some (.inl (sr_it (f_MO_through set c star nm n) set n.toNatClampNeg)), some (.inl (nI n.toNatClampNeg)), none, none], [.inl (sr_it (f_MO_through set c star nm n) set n.toNatClampNeg)], μ)) rfl ⟨trivial, trivial⟩ ?_
      exact sr_ret rfl rfl rfl trivial (by simp only [v_MO_through, if_neg h1])
def g_MO_lesser (nm : Int64) (om : Int64) : Nat → Unit → Int32 ⊕ Unit := fun k a => if 8 ≤ (nI k) then (.inl 0) else (if (lg_cmp ((nm >>> (Int32.toInt64 ((5 : Int32) * (nI k)) &&& 63)) &&& (31 : Int64)) ((om >>> (Int32.toInt64 ((5 : Int32) * (nI k)) &&& 63)) &&& (31 : Int64))) = 0 then (.inr ()) else (if 0 ≤ (lg_cmp ((nm >>> (Int32.toInt64 ((5 : Int32) * (nI k)) &&& 63)) &&& (31 : Int64)) ((om >>> (Int32.toInt64 ((5 : Int32) * (nI k)) &&& 63)) &&& (31 : Int64))) then (.inl 0) else (.inl 1)))
def v_MO_lesser (nm : Int64) (om : Int64) : Int32 := (sr_lp (g_MO_lesser nm om) (8 + 1) 0 ()).getD (0 : Int32)
def p_MO_lesser : sr_F := fun vs μ => match vs with
  | [.inr (.inl nm), .inr (.inl om)] => some (True, some (.inl (v_MO_lesser nm om)), μ)
  | _ => none
def e_MO_lesser : sr_E := (sr_SM, sr_KS, (fun _ => none, fun _ => none, fun k => ([(99, 31)] : List (Nat × Int64)).lookup k, fun _ => none, fun _ => none), sr_cd cd_MO_lesser, some .boolean)
set_option maxRecDepth 10000 in
theorem a_MO_lesser (μ : sr_M) (nm : Int64) (om : Int64) : sr_AW e_MO_lesser (fun r => r = (some (.inl (v_MO_lesser nm om)), μ)) (sr_entry 9 [.inr (.inl nm), .inr (.inl om)] μ) := by
  refine sr_many 2 (t := (3, [some (.inr (.inl nm)), none, some (.inr (.inl om)), none, some (.inl 0), none, none, none, none], [], μ)) rfl ⟨trivial, trivial, trivial⟩ ?_
  have hI : ∀ k a a', (fun k _ => k ≤ 8) k a → (g_MO_lesser nm om) k a = .inr a' → (fun k _ => k ≤ 8) (k + 1) a' := (fun k a a' h e => by have hk : k ≠ 8 := (fun ek => by subst ek; unfold g_MO_lesser at e; rw [if_pos (show (8 : Int32) ≤ nI 8 by decide)] at e; (repeat' split at e) <;> cases e); exact Nat.lt_of_le_of_ne h hk)
  obtain ⟨b, hb⟩ : ∃ b, sr_lp (g_MO_lesser nm om) (8 + 1) 0 () = some b := sr_lp_some (g_MO_lesser nm om) 8 (fun k _ => k ≤ 8) hI (fun a _ => by unfold g_MO_lesser; rw [if_pos (show (8 : Int32) ≤ nI 8 by decide)]; (repeat' split) <;> exact ⟨_, rfl⟩) 8 0 () (by omega) (Nat.zero_le _)
  have e : ((some (.inl (v_MO_lesser nm om)), μ) : sr_R) = (fun b => (some (.inl b), μ)) b := by
    unfold v_MO_lesser
    rw [hb]
    rfl
  rw [e]
  refine sr_loop (fun b => (some (.inl b), μ)) (fun k a => (3, [some (.inr (.inl nm)), none, some (.inr (.inl om)), none, some (.inl (nI k)), none, none, none, none], [], μ)) (g_MO_lesser nm om) (fun k _ => k ≤ 8) hI (fun K k a hIk hr w => ?_) (8 + 1) 0 () b (Nat.zero_le _) hb
  refine sr_many 3 (t := (bif decide (8 ≤ (nI k)) then 62 else 10, [some (.inr (.inl nm)), none, some (.inr (.inl om)), none, some (.inl (nI k)), none, none, none, none], [], μ)) rfl ⟨trivial, trivial, trivial, trivial⟩ ?_
  refine sr_brd (fun h1 => ?_) (fun h1 => ?_)
  · refine sr_many 1 (t := (63, [some (.inr (.inl nm)), none, some (.inr (.inl om)), none, some (.inl (nI k)), none, none, none, none], [.inl 0], μ)) rfl ⟨trivial, trivial⟩ ?_
    exact sr_ret rfl rfl rfl (Or.inl rfl) (hr 0 (by simp only [g_MO_lesser, if_pos h1]))
  · refine sr_many 20 (t := (bif decide ((lg_cmp ((nm >>> (Int32.toInt64 ((5 : Int32) * (nI k)) &&& 63)) &&& (31 : Int64)) ((om >>> (Int32.toInt64 ((5 : Int32) * (nI k)) &&& 63)) &&& (31 : Int64))) = 0) then 56 else 42, [some (.inr (.inl nm)), none, some (.inr (.inl om)), none, some (.inl (nI k)), some (.inr (.inl ((nm >>> (Int32.toInt64 ((5 : Int32) * (nI k)) &&& 63)) &&& (31 : Int64)))), none, some (.inr (.inl ((om >>> (Int32.toInt64 ((5 : Int32) * (nI k)) &&& 63)) &&& (31 : Int64)))), none], [], μ)) rfl ⟨trivial, trivial, trivial, trivial, trivial, trivial, trivial, trivial, trivial, trivial, trivial, trivial, trivial, trivial, trivial, trivial, trivial, trivial, trivial, trivial, trivial⟩ ?_
    refine sr_brd (fun h2 => ?_) (fun h2 => ?_)
    · refine sr_many 2 (t := (3, [some (.inr (.inl nm)), none, some (.inr (.inl om)), none, some (.inl ((nI k) + 1)), some (.inr (.inl ((nm >>> (Int32.toInt64 ((5 : Int32) * (nI k)) &&& 63)) &&& (31 : Int64)))), none, some (.inr (.inl ((om >>> (Int32.toInt64 ((5 : Int32) * (nI k)) &&& 63)) &&& (31 : Int64)))), none], [], μ)) rfl ⟨trivial, trivial, trivial⟩ ?_
      refine sr_forget [some (.inr (.inl nm)), none, some (.inr (.inl om)), none, some (.inl ((nI k) + 1)), none, none, none, none] (by simp [sr_sub]) ?_
      have w2 := w () (by simp only [g_MO_lesser, if_neg h1, if_pos h2])
      try simp only [nI_succ] at w2
      exact w2
    · refine sr_many 4 (t := (bif decide (0 ≤ (lg_cmp ((nm >>> (Int32.toInt64 ((5 : Int32) * (nI k)) &&& 63)) &&& (31 : Int64)) ((om >>> (Int32.toInt64 ((5 : Int32) * (nI k)) &&& 63)) &&& (31 : Int64)))) then 54 else 50, [some (.inr (.inl nm)), none, some (.inr (.inl om)), none, some (.inl (nI k)), some (.inr (.inl ((nm >>> (Int32.toInt64 ((5 : Int32) * (nI k)) &&& 63)) &&& (31 : Int64)))), none, some (.inr (.inl ((om >>> (Int32.toInt64 ((5 : Int32) * (nI k)) &&& 63)) &&& (31 : Int64)))), none], [], μ)) rfl ⟨trivial, trivial, trivial, trivial, trivial⟩ ?_
      refine sr_brd (fun h3 => ?_) (fun h3 => ?_)
      · refine sr_many 1 (t := (55, [some (.inr (.inl nm)), none, some (.inr (.inl om)), none, some (.inl (nI k)), some (.inr (.inl ((nm >>> (Int32.toInt64 ((5 : Int32) * (nI k)) &&& 63)) &&& (31 : Int64)))), none, some (.inr (.inl ((om >>> (Int32.toInt64 ((5 : Int32) * (nI k)) &&& 63)) &&& (31 : Int64)))), none], [.inl 0], μ)) rfl ⟨trivial, trivial⟩ ?_
        exact sr_ret rfl rfl rfl (Or.inl rfl) (hr 0 (by simp only [g_MO_lesser, if_neg h1, if_neg h2, if_pos h3]))
      · refine sr_many 2 (t := (55, [some (.inr (.inl nm)), none, some (.inr (.inl om)), none, some (.inl (nI k)), some (.inr (.inl ((nm >>> (Int32.toInt64 ((5 : Int32) * (nI k)) &&& 63)) &&& (31 : Int64)))), none, some (.inr (.inl ((om >>> (Int32.toInt64 ((5 : Int32) * (nI k)) &&& 63)) &&& (31 : Int64)))), none], [.inl 1], μ)) rfl ⟨trivial, trivial, trivial⟩ ?_
        exact sr_ret rfl rfl rfl (Or.inr rfl) (hr 1 (by simp only [g_MO_lesser, if_neg h1, if_neg h2, if_neg h3]))
