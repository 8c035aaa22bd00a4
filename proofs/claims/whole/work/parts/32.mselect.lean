/-! the reference: selection, needs, circles -/
theorem sr_mlen_cnt (nm : Int64) : sr_cnt (v_MO_letters nm) 8 := by
  have key : ∀ (n k : Nat), n + k = 9 → ∃ j : Nat, j ≤ 8 ∧ (sr_lp (g_MO_letters nm) n k ()).getD (0 : Int32) = nI j := by
    intro n
    induction n with
    | zero => intro k _; exact ⟨0, by decide, rfl⟩
    | succ n ih =>
      intro k hk
      unfold sr_lp
      cases hg : g_MO_letters nm k () with
      | inr a => exact ih (k + 1) (by omega)
      | inl b =>
        refine ⟨k, by omega, ?_⟩
        unfold g_MO_letters at hg
        split at hg
        · cases hg; rfl
        · split at hg
          · cases hg; rfl
          · cases hg
  obtain ⟨j, h1, h2⟩ := key 9 0 rfl
  have h3 : v_MO_letters nm = nI j := h2
  unfold sr_cnt
  rw [h3, nI_clamp (by omega)]
  exact ⟨rfl, h1⟩
theorem sr_sg {p x : Int32} {k : Nat} (h : sr_in p 2) (q : sr_cnt x 12) (hk : k < 13) (hn : ¬ x ≤ nI k) : sr_in ((12 : Int32) * p + nI k) 24 := by
  obtain ⟨j, hj, rfl⟩ := vp_in_of h (by decide)
  rw [sr_cnt_iff q (by decide) (by omega)] at hn
  have := q.2
  show sr_in (nI 12 * nI j + nI k) 24
  rw [pk_mul, nI_add]
  exact sr_inN 24 (by omega) (by decide)
theorem sr_sg1 {p x : Int32} {k : Nat} (h : sr_in p 2) (q : sr_cnt x 12) (hk : k < 13) (hn : ¬ x ≤ nI k + 1) : sr_in (((12 : Int32) * p + nI k) + 1) 24 := by
  obtain ⟨j, hj, rfl⟩ := vp_in_of h (by decide)
  rw [← nI_succ, sr_cnt_iff q (by decide) (by omega)] at hn
  have := q.2
  show sr_in ((nI 12 * nI j + nI k) + 1) 24
  rw [pk_mul, nI_add, ← nI_succ]
  exact sr_inN 24 (by omega) (by decide)
theorem sr_isk {k : Nat} (t : Nat) (hk : k < 16) (ht : t < 9) : sr_in ((9 : Int32) * nI k + nI t) 144 := sr_is9 (sr_inN 16 hk (by decide)) t ht
def f_MO_matches (μ : sr_M) (p : Int32) (nm : Int64)  : Nat → (Int32 × Int32) → Int32 × Int32 := fun k a => if (μ.1 32 0 p.toNatClampNeg) ≤ (nI k) then (if ¬ a.2 = 0 then (1, 1) else (if ¬ ((a.1 >>> ((v_MO_letters nm) &&& 31)) &&& (1 : Int32)) = 1 then (1, 0) else (1, 1))) else (if ¬ (μ.1 31 0 ((((12 : Int32) * p) + (nI k)).toNatClampNeg)) = 124 then (if (μ.1 31 0 ((((12 : Int32) * p) + (nI k)).toNatClampNeg)) = 42 then (a.1, a.2) else (if (μ.1 32 0 p.toNatClampNeg) ≤ ((nI k) + (1 : Int32)) then (v_MO_through a.1 (μ.1 31 0 ((((12 : Int32) * p) + (nI k)).toNatClampNeg)) 0 nm (v_MO_letters nm), a.2) else (if ¬ (μ.1 31 0 (((((12 : Int32) * p) + (nI k)) + (1 : Int32)).toNatClampNeg)) = 42 then (v_MO_through a.1 (μ.1 31 0 ((((12 : Int32) * p) + (nI k)).toNatClampNeg)) 0 nm (v_MO_letters nm), a.2) else (v_MO_through a.1 (μ.1 31 0 ((((12 : Int32) * p) + (nI k)).toNatClampNeg)) 1 nm (v_MO_letters nm), a.2)))) else (if ¬ a.2 = 0 then (1, 1) else (if ¬ ((a.1 >>> ((v_MO_letters nm) &&& 31)) &&& (1 : Int32)) = 1 then (1, 0) else (1, 1))))
def v_MO_matches (μ : sr_M) (p : Int32) (nm : Int64) : Int32 := (sr_it (f_MO_matches μ p nm) (1, 0) ((μ.1 32 0 p.toNatClampNeg).toNatClampNeg + 1)).2
def q_MO_matches (μ : sr_M) (p : Int32) (nm : Int64) : Prop := sr_in p 2 ∧ sr_cnt (μ.1 32 0 p.toNatClampNeg) 12
def p_MO_matches : sr_F := fun vs μ => match vs with
  | [.inr (.inr (20, 0)), .inl p, .inr (.inl nm)] => some (q_MO_matches μ p nm, some (.inl (v_MO_matches μ p nm)), μ)
  | _ => none
def e_MO_matches : sr_E := (sr_SM, sr_KS, (fun k => ([(42, 10, 12), (45, 10, 13)] : List (Nat × Nat × Nat)).lookup k, fun _ => none, fun _ => none, fun _ => none, fun k => ([(139, 0, 1, p_MO_letters), (143, 0, 5, p_MO_through)] : List (Nat × Nat × Nat × sr_F)).lookup k), sr_cd cd_MO_matches, some .boolean)
set_option maxRecDepth 10000 in
theorem a_MO_matches (μ : sr_M) (p : Int32) (nm : Int64) (hq : q_MO_matches μ p nm) : sr_AW e_MO_matches (fun r => r = (some (.inl (v_MO_matches μ p nm)), μ)) (sr_entry 10 [.inr (.inr (20, 0)), .inl p, .inr (.inl nm)] μ) := by
  have hq0 := hq
  obtain ⟨q1, q2⟩ : sr_in p 2 ∧ sr_cnt (μ.1 32 0 p.toNatClampNeg) 12 := hq
  have qp := sr_in_lt q1
  have q3 := sr_mlen_cnt nm
  refine sr_many 9 (t := (15, [some (.inr (.inr (20, 0))), some (.inl p), some (.inr (.inl nm)), none, some (.inl (v_MO_letters nm)), some (.inl 1), some (.inl 0), some (.inl 0), none, none], [], μ)) rfl ⟨trivial, trivial, trivial, trivial, trivial, trivial, trivial, trivial, trivial, trivial⟩ ?_
  refine sr_forI (α := Int32 × Int32) (fun k a => (15, [some (.inr (.inr (20, 0))), some (.inl p), some (.inr (.inl nm)), none, some (.inl (v_MO_letters nm)), some (.inl a.1), some (.inl a.2), some (.inl (nI k)), none, none], [], μ)) (f_MO_matches μ p nm) (fun k a => a.2 = 0 ∨ a.2 = 1) (1, 0) ((μ.1 32 0 p.toNatClampNeg).toNatClampNeg + 1) (Or.inl rfl) (fun k hk a h => by unfold f_MO_matches; (repeat' split) <;> first | exact h | exact Or.inl rfl | exact Or.inr rfl) (fun k hk a hIk w => ?_) (fun hIk => ?_)
  · have hbk : k < 13 := Nat.lt_of_lt_of_le hk (Nat.succ_le_succ q2.2)
    have hck : (nI k).toNatClampNeg = k := sr_clN 13 hbk (by decide)
    have hink : sr_in (nI k) 13 := sr_inN 13 hbk (by decide)
    have hcbk : (nI k).toNatClampNeg < 13 := by rw [hck]; exact hbk
    refine sr_many 6 (t := (bif decide ((μ.1 32 0 p.toNatClampNeg) < (nI k)) then 158 else 26, [some (.inr (.inr (20, 0))), some (.inl p), some (.inr (.inl nm)), none, some (.inl (v_MO_letters nm)), some (.inl a.1), some (.inl a.2), some (.inl (nI k)), none, none], [], μ)) rfl ⟨trivial, trivial, (show 0 < 1 by decide), trivial, ⟨(show 0 < 1 by decide), (show sr_in p 2 from q1)⟩, trivial, trivial⟩ ?_
    refine sr_brd (fun h => absurd h (by exact sr_cnt_ngt q2 (by decide) hk)) (fun _ => ?_)
    refine sr_many 6 (t := (bif decide ((μ.1 32 0 p.toNatClampNeg) ≤ (nI k)) then 52 else 37, [some (.inr (.inr (20, 0))), some (.inl p), some (.inr (.inl nm)), none, some (.inl (v_MO_letters nm)), some (.inl a.1), some (.inl a.2), some (.inl (nI k)), none, none], [], μ)) rfl ⟨trivial, trivial, (show 0 < 1 by decide), trivial, ⟨(show 0 < 1 by decide), (show sr_in p 2 from q1)⟩, trivial, trivial⟩ ?_
    refine sr_brd (fun h1 => ?_) (fun h1 => ?_)
    · refine sr_many 7 (t := (bif decide (¬ a.2 = 0) then 79 else 68, [some (.inr (.inr (20, 0))), some (.inl p), some (.inr (.inl nm)), none, some (.inl (v_MO_letters nm)), some (.inl a.1), some (.inl a.2), some (.inl (nI k)), some (.inl 124), none], [], μ)) rfl ⟨trivial, trivial, trivial, trivial, trivial, trivial, trivial, trivial⟩ ?_
      refine sr_brd (fun h2 => ?_) (fun h2 => ?_)
      · refine sr_many 8 (t := (15, [some (.inr (.inr (20, 0))), some (.inl p), some (.inr (.inl nm)), none, some (.inl (v_MO_letters nm)), some (.inl 1), some (.inl 1), some (.inl ((nI k) + 1)), some (.inl 124), none], [], μ)) rfl ⟨trivial, trivial, trivial, trivial, trivial, trivial, trivial, trivial, trivial⟩ ?_
        try simp only [hck] at h1 h2
        try simp only [hck]
        refine sr_forget [some (.inr (.inr (20, 0))), some (.inl p), some (.inr (.inl nm)), none, some (.inl (v_MO_letters nm)), some (.inl 1), some (.inl 1), some (.inl ((nI k) + 1)), none, none] (by simp [sr_sub]) ?_
        simp only [f_MO_matches, if_pos h1, if_pos h2, nI_succ] at w
        exact w
      · refine sr_many 7 (t := (bif decide (¬ ((a.1 >>> ((v_MO_letters nm) &&& 31)) &&& (1 : Int32)) = 1) then 83 else 79, [some (.inr (.inr (20, 0))), some (.inl p), some (.inr (.inl nm)), none, some (.inl (v_MO_letters nm)), some (.inl a.1), some (.inl a.2), some (.inl (nI k)), some (.inl 124), none], [], μ)) rfl ⟨trivial, trivial, trivial, trivial, trivial, trivial, trivial, trivial⟩ ?_
        refine sr_brd (fun h3 => ?_) (fun h3 => ?_)
        · refine sr_many 7 (t := (15, [some (.inr (.inr (20, 0))), some (.inl p), some (.inr (.inl nm)), none, some (.inl (v_MO_letters nm)), some (.inl 1), some (.inl 0), some (.inl ((nI k) + 1)), some (.inl 124), none], [], μ)) rfl ⟨trivial, trivial, trivial, trivial, trivial, trivial, trivial, trivial⟩ ?_
          try simp only [hck] at h1 h2 h3
          try simp only [hck]
          refine sr_forget [some (.inr (.inr (20, 0))), some (.inl p), some (.inr (.inl nm)), none, some (.inl (v_MO_letters nm)), some (.inl 1), some (.inl 0), some (.inl ((nI k) + 1)), none, none] (by simp [sr_sub]) ?_
          simp only [f_MO_matches, if_pos h1, if_neg h2, if_pos h3, nI_succ] at w
          exact w
        · refine sr_many 8 (t := (15, [some (.inr (.inr (20, 0))), some (.inl p), some (.inr (.inl nm)), none, some (.inl (v_MO_letters nm)), some (.inl 1), some (.inl 1), some (.inl ((nI k) + 1)), some (.inl 124), none], [], μ)) rfl ⟨trivial, trivial, trivial, trivial, trivial, trivial, trivial, trivial, trivial⟩ ?_
          try simp only [hck] at h1 h2 h3
          try simp only [hck]
          refine sr_forget [some (.inr (.inr (20, 0))), some (.inl p), some (.inr (.inl nm)), none, some (.inl (v_MO_letters nm)), some (.inl 1), some (.inl 1), some (.inl ((nI k) + 1)), none, none] (by simp [sr_sub]) ?_
          simp only [f_MO_matches, if_pos h1, if_neg h2, if_neg h3, nI_succ] at w
          exact w
    · refine sr_many 13 (t := (bif decide (¬ (μ.1 31 0 ((((12 : Int32) * p) + (nI k)).toNatClampNeg)) = 124) then 92 else 63, [some (.inr (.inr (20, 0))), some (.inl p), some (.inr (.inl nm)), none, some (.inl (v_MO_letters nm)), some (.inl a.1), some (.inl a.2), some (.inl (nI k)), some (.inl (μ.1 31 0 ((((12 : Int32) * p) + (nI k)).toNatClampNeg))), none], [], μ)) rfl ⟨trivial, (show 0 < 1 by decide), trivial, trivial, trivial, trivial, trivial, ⟨(show 0 < 1 by decide), (show sr_in (((12 : Int32) * p) + (nI k)) 24 from sr_sg q1 q2 hbk h1)⟩, trivial, trivial, trivial, trivial, trivial, trivial⟩ ?_
      refine sr_brd (fun h2 => ?_) (fun h2 => ?_)
      · refine sr_many 3 (t := (bif decide ((μ.1 31 0 ((((12 : Int32) * p) + (nI k)).toNatClampNeg)) = 42) then 152 else 99, [some (.inr (.inr (20, 0))), some (.inl p), some (.inr (.inl nm)), none, some (.inl (v_MO_letters nm)), some (.inl a.1), some (.inl a.2), some (.inl (nI k)), some (.inl (μ.1 31 0 ((((12 : Int32) * p) + (nI k)).toNatClampNeg))), none], [], μ)) rfl ⟨trivial, trivial, trivial, trivial⟩ ?_
        refine sr_brd (fun h3 => ?_) (fun h3 => ?_)
        · refine sr_many 2 (t := (15, [some (.inr (.inr (20, 0))), some (.inl p), some (.inr (.inl nm)), none, some (.inl (v_MO_letters nm)), some (.inl a.1), some (.inl a.2), some (.inl ((nI k) + 1)), some (.inl (μ.1 31 0 ((((12 : Int32) * p) + (nI k)).toNatClampNeg))), none], [], μ)) rfl ⟨trivial, trivial, trivial⟩ ?_
          try simp only [hck] at h1 h2 h3
          try simp only [hck]
          refine sr_forget [some (.inr (.inr (20, 0))), some (.inl p), some (.inr (.inl nm)), none, some (.inl (v_MO_letters nm)), some (.inl a.1), some (.inl a.2), some (.inl ((nI k) + 1)), none, none] (by simp [sr_sub]) ?_
          simp only [f_MO_matches, if_neg h1, if_pos h2, if_pos h3, nI_succ] at w
          exact w
        · refine sr_many 8 (t := (bif decide ((μ.1 32 0 p.toNatClampNeg) ≤ ((nI k) + (1 : Int32))) then 135 else 112, [some (.inr (.inr (20, 0))), some (.inl p), some (.inr (.inl nm)), none, some (.inl (v_MO_letters nm)), some (.inl a.1), some (.inl a.2), some (.inl (nI k)), some (.inl (μ.1 31 0 ((((12 : Int32) * p) + (nI k)).toNatClampNeg))), none], [], μ)) rfl ⟨trivial, trivial, trivial, trivial, (show 0 < 1 by decide), trivial, ⟨(show 0 < 1 by decide), (show sr_in p 2 from q1)⟩, trivial, trivial⟩ ?_
          refine sr_brd (fun h4 => ?_) (fun h4 => ?_)
          · refine sr_many 11 (t := (15, [some (.inr (.inr (20, 0))), some (.inl p), some (.inr (.inl nm)), none, some (.inl (v_MO_letters nm)), some (.inl (v_MO_through a.1 (μ.1 31 0 ((((12 : Int32) * p) + (nI k)).toNatClampNeg)) 0 nm (v_MO_letters nm))), some (.inl a.2), some (.inl ((nI k) + 1)), some (.inl (μ.1 31 0 ((((12 : Int32) * p) + (nI k)).toNatClampNeg))), some (.inl 0)], [], μ)) rfl ⟨trivial, trivial, trivial, trivial, trivial, trivial, trivial, (show sr_cnt (v_MO_letters nm) 8 by first | exact hIk | assumption), trivial, trivial, trivial, trivial⟩ ?_
            try simp only [hck] at h1 h2 h3 h4
            try simp only [hck]
            refine sr_forget [some (.inr (.inr (20, 0))), some (.inl p), some (.inr (.inl nm)), none, some (.inl (v_MO_letters nm)), some (.inl (v_MO_through a.1 (μ.1 31 0 ((((12 : Int32) * p) + (nI k)).toNatClampNeg)) 0 nm (v_MO_letters nm))), some (.inl a.2), some (.inl ((nI k) + 1)), none, none] (by simp [sr_sub]) ?_
            simp only [f_MO_matches, if_neg h1, if_pos h2, if_neg h3, if_pos h4, nI_succ] at w
            exact w
          · refine sr_many 12 (t := (bif decide (¬ (μ.1 31 0 (((((12 : Int32) * p) + (nI k)) + (1 : Int32)).toNatClampNeg)) = 42) then 135 else 131, [some (.inr (.inr (20, 0))), some (.inl p), some (.inr (.inl nm)), none, some (.inl (v_MO_letters nm)), some (.inl a.1), some (.inl a.2), some (.inl (nI k)), some (.inl (μ.1 31 0 ((((12 : Int32) * p) + (nI k)).toNatClampNeg))), none], [], μ)) rfl ⟨trivial, (show 0 < 1 by decide), trivial, trivial, trivial, trivial, trivial, trivial, trivial, ⟨(show 0 < 1 by decide), (show sr_in ((((12 : Int32) * p) + (nI k)) + (1 : Int32)) 24 from sr_sg1 q1 q2 hbk h4)⟩, trivial, trivial, trivial⟩ ?_
            refine sr_brd (fun h5 => ?_) (fun h5 => ?_)
            · refine sr_many 11 (t := (15, [some (.inr (.inr (20, 0))), some (.inl p), some (.inr (.inl nm)), none, some (.inl (v_MO_letters nm)), some (.inl (v_MO_through a.1 (μ.1 31 0 ((((12 : Int32) * p) + (nI k)).toNatClampNeg)) 0 nm (v_MO_letters nm))), some (.inl a.2), some (.inl ((nI k) + 1)), some (.inl (μ.1 31 0 ((((12 : Int32) * p) + (nI k)).toNatClampNeg))), some (.inl 0)], [], μ)) rfl ⟨trivial, trivial, trivial, trivial, trivial, trivial, trivial, (show sr_cnt (v_MO_letters nm) 8 by first | exact hIk | assumption), trivial, trivial, trivial, trivial⟩ ?_
              try simp only [hck] at h1 h2 h3 h4 h5
              try simp only [hck]
              refine sr_forget [some (.inr (.inr (20, 0))), some (.inl p), some (.inr (.inl nm)), none, some (.inl (v_MO_letters nm)), some (.inl (v_MO_through a.1 (μ.1 31 0 ((((12 : Int32) * p) + (nI k)).toNatClampNeg)) 0 nm (v_MO_letters nm))), some (.inl a.2), some (.inl ((nI k) + 1)), none, none] (by simp [sr_sub]) ?_
              simp only [f_MO_matches, if_neg h1, if_pos h2, if_neg h3, if_neg h4, if_pos h5, nI_succ] at w
              exact w
            · refine sr_many 12 (t := (15, [some (.inr (.inr (20, 0))), some (.inl p), some (.inr (.inl nm)), none, some (.inl (v_MO_letters nm)), some (.inl (v_MO_through a.1 (μ.1 31 0 ((((12 : Int32) * p) + (nI k)).toNatClampNeg)) 1 nm (v_MO_letters nm))), some (.inl a.2), some (.inl ((nI k) + 1)), some (.inl (μ.1 31 0 ((((12 : Int32) * p) + (nI k)).toNatClampNeg))), some (.inl 1)], [], μ)) rfl ⟨trivial, trivial, trivial, trivial, trivial, trivial, trivial, trivial, (show sr_cnt (v_MO_letters nm) 8 by first | exact hIk | assumption), trivial, trivial, trivial, trivial⟩ ?_
              try simp only [hck] at h1 h2 h3 h4 h5
              try simp only [hck]
              refine sr_forget [some (.inr (.inr (20, 0))), some (.inl p), some (.inr (.inl nm)), none, some (.inl (v_MO_letters nm)), some (.inl (v_MO_through a.1 (μ.1 31 0 ((((12 : Int32) * p) + (nI k)).toNatClampNeg)) 1 nm (v_MO_letters nm))), some (.inl a.2), some (.inl ((nI k) + 1)), none, none] (by simp [sr_sub]) ?_
              simp only [f_MO_matches, if_neg h1, if_pos h2, if_neg h3, if_neg h4, if_neg h5, nI_succ] at w
              exact w
      · refine sr_many 2 (t := (bif decide (¬ a.2 = 0) then 79 else 68, [some (.inr (.inr (20, 0))), some (.inl p), some (.inr (.inl nm)), none, some (.inl (v_MO_letters nm)), some (.inl a.1), some (.inl a.2), some (.inl (nI k)), some (.inl (μ.1 31 0 ((((12 : Int32) * p) + (nI k)).toNatClampNeg))), none], [], μ)) rfl ⟨trivial, trivial, trivial⟩ ?_
        refine sr_brd (fun h3 => ?_) (fun h3 => ?_)
        · refine sr_many 8 (t := (15, [some (.inr (.inr (20, 0))), some (.inl p), some (.inr (.inl nm)), none, some (.inl (v_MO_letters nm)), some (.inl 1), some (.inl 1), some (.inl ((nI k) + 1)), some (.inl (μ.1 31 0 ((((12 : Int32) * p) + (nI k)).toNatClampNeg))), none], [], μ)) rfl ⟨trivial, trivial, trivial, trivial, trivial, trivial, trivial, trivial, trivial⟩ ?_
          try simp only [hck] at h1 h2 h3
          try simp only [hck]
          refine sr_forget [some (.inr (.inr (20, 0))), some (.inl p), some (.inr (.inl nm)), none, some (.inl (v_MO_letters nm)), some (.inl 1), some (.inl 1), some (.inl ((nI k) + 1)), none, none] (by simp [sr_sub]) ?_
          simp only [f_MO_matches, if_neg h1, if_neg h2, if_pos h3, nI_succ] at w
          exact w
        · refine sr_many 7 (t := (bif decide (¬ ((a.1 >>> ((v_MO_letters nm) &&& 31)) &&& (1 : Int32)) = 1) then 83 else 79, [some (.inr (.inr (20, 0))), some (.inl p), some (.inr (.inl nm)), none, some (.inl (v_MO_letters nm)), some (.inl a.1), some (.inl a.2), some (.inl (nI k)), some (.inl (μ.1 31 0 ((((12 : Int32) * p) + (nI k)).toNatClampNeg))), none], [], μ)) rfl ⟨trivial, trivial, trivial, trivial, trivial, trivial, trivial, trivial⟩ ?_
          refine sr_brd (fun h4 => ?_) (fun h4 => ?_)
          · refine sr_many 7 (t := (15, [some (.inr (.inr (20, 0))), some (.inl p), some (.inr (.inl nm)), none, some (.inl (v_MO_letters nm)), some (.inl 1), some (.inl 0), some (.inl ((nI k) + 1)), some (.inl (μ.1 31 0 ((((12 : Int32) * p) + (nI k)).toNatClampNeg))), none], [], μ)) rfl ⟨trivial, trivial, trivial, trivial, trivial, trivial, trivial, trivial⟩ ?_
            try simp only [hck] at h1 h2 h3 h4
            try simp only [hck]
            refine sr_forget [some (.inr (.inr (20, 0))), some (.inl p), some (.inr (.inl nm)), none, some (.inl (v_MO_letters nm)), some (.inl 1), some (.inl 0), some (.inl ((nI k) + 1)), none, none] (by simp [sr_sub]) ?_
            simp only [f_MO_matches, if_neg h1, if_neg h2, if_neg h3, if_pos h4, nI_succ] at w
            exact w
          · refine sr_many 8 (t := (15, [some (.inr (.inr (20, 0))), some (.inl p), some (.inr (.inl nm)), none, some (.inl (v_MO_letters nm)), some (.inl 1), some (.inl 1), some (.inl ((nI k) + 1)), some (.inl (μ.1 31 0 ((((12 : Int32) * p) + (nI k)).toNatClampNeg))), none], [], μ)) rfl ⟨trivial, trivial, trivial, trivial, trivial, trivial, trivial, trivial, trivial⟩ ?_
            try simp only [hck] at h1 h2 h3 h4
            try simp only [hck]
            refine sr_forget [some (.inr (.inr (20, 0))), some (.inl p), some (.inr (.inl nm)), none, some (.inl (v_MO_letters nm)), some (.inl 1), some (.inl 1), some (.inl ((nI k) + 1)), none, none] (by simp [sr_sub]) ?_
            simp only [f_MO_matches, if_neg h1, if_neg h2, if_neg h3, if_neg h4, nI_succ] at w
            exact w
  · skip
    refine sr_many 6 (t := (bif decide ((μ.1 32 0 p.toNatClampNeg) < (nI ((μ.1 32 0 p.toNatClampNeg).toNatClampNeg + 1))) then 158 else 26, [some (.inr (.inr (20, 0))), some (.inl p), some (.inr (.inl nm)), none, some (.inl (v_MO_letters nm)), some (.inl ((sr_it (f_MO_matches μ p nm) (1, 0) ((μ.1 32 0 p.toNatClampNeg).toNatClampNeg + 1)).1)), some (.inl ((sr_it (f_MO_matches μ p nm) (1, 0) ((μ.1 32 0 p.toNatClampNeg).toNatClampNeg + 1)).2)), some (.inl (nI ((μ.1 32 0 p.toNatClampNeg).toNatClampNeg + 1))), none, none], [], μ)) rfl ⟨trivial, trivial, (show 0 < 1 by decide), trivial, ⟨(show 0 < 1 by decide), (show sr_in p 2 from q1)⟩, trivial, trivial⟩ ?_
    refine sr_brd (fun _ => ?_) (fun h => absurd (by exact sr_cnt_gt q2 (by decide)) h)
    refine sr_many 1 (t := (160, [some (.inr (.inr (20, 0))), some (.inl p), some (.inr (.inl nm)), none, some (.inl (v_MO_letters nm)), some (.inl ((sr_it (f_MO_matches μ p nm) (1, 0) ((μ.1 32 0 p.toNatClampNeg).toNatClampNeg + 1)).1)), some (.inl ((sr_it (f_MO_matches μ p nm) (1, 0) ((μ.1 32 0 p.toNatClampNeg).toNatClampNeg + 1)).2)), some (.inl (nI ((μ.1 32 0 p.toNatClampNeg).toNatClampNeg + 1))), none, none], [.inl ((sr_it (f_MO_matches μ p nm) (1, 0) ((μ.1 32 0 p.toNatClampNeg).toNatClampNeg + 1)).2)], μ)) rfl ⟨trivial, trivial⟩ ?_
    exact sr_ret rfl rfl rfl (show (sr_it (f_MO_matches μ p nm) (1, 0) ((μ.1 32 0 p.toNatClampNeg).toNatClampNeg + 1)).2 = 0 ∨ (sr_it (f_MO_matches μ p nm) (1, 0) ((μ.1 32 0 p.toNatClampNeg).toNatClampNeg + 1)).2 = 1 by first | exact hIk | assumption) rfl
def v_MO_isSelected (μ : sr_M) (m : Int32) : Int32 := if ¬ (((μ.1 20 0 14) >>> ((μ.1 21 0 m.toNatClampNeg) &&& 31)) &&& (1 : Int32)) = 1 then 0 else (if ¬ ((v_MO_is μ m 1) &&& (μ.1 20 0 16)) = 0 then 0 else (if (μ.1 20 0 15) = 0 then (if (μ.1 32 0 0) = 0 then (if (μ.1 32 0 1) = 0 then (if (μ.1 20 0 17) = 0 then 1 else (if ¬ (((μ.1 20 0 17) >>> (m &&& 31)) &&& (1 : Int32)) = 1 then 0 else 1)) else (if ¬ (v_MO_matches μ 1 (μ.2 22 0 m.toNatClampNeg)) = 0 then 0 else (if (μ.1 20 0 17) = 0 then 1 else (if ¬ (((μ.1 20 0 17) >>> (m &&& 31)) &&& (1 : Int32)) = 1 then 0 else 1)))) else (if (v_MO_matches μ 0 (μ.2 22 0 m.toNatClampNeg)) = 0 then 0 else (if (μ.1 32 0 1) = 0 then (if (μ.1 20 0 17) = 0 then 1 else (if ¬ (((μ.1 20 0 17) >>> (m &&& 31)) &&& (1 : Int32)) = 1 then 0 else 1)) else (if ¬ (v_MO_matches μ 1 (μ.2 22 0 m.toNatClampNeg)) = 0 then 0 else (if (μ.1 20 0 17) = 0 then 1 else (if ¬ (((μ.1 20 0 17) >>> (m &&& 31)) &&& (1 : Int32)) = 1 then 0 else 1)))))) else (if ((v_MO_is μ m 1) &&& (μ.1 20 0 15)) = 0 then 0 else (if (μ.1 32 0 0) = 0 then (if (μ.1 32 0 1) = 0 then (if (μ.1 20 0 17) = 0 then 1 else (if ¬ (((μ.1 20 0 17) >>> (m &&& 31)) &&& (1 : Int32)) = 1 then 0 else 1)) else (if ¬ (v_MO_matches μ 1 (μ.2 22 0 m.toNatClampNeg)) = 0 then 0 else (if (μ.1 20 0 17) = 0 then 1 else (if ¬ (((μ.1 20 0 17) >>> (m &&& 31)) &&& (1 : Int32)) = 1 then 0 else 1)))) else (if (v_MO_matches μ 0 (μ.2 22 0 m.toNatClampNeg)) = 0 then 0 else (if (μ.1 32 0 1) = 0 then (if (μ.1 20 0 17) = 0 then 1 else (if ¬ (((μ.1 20 0 17) >>> (m &&& 31)) &&& (1 : Int32)) = 1 then 0 else 1)) else (if ¬ (v_MO_matches μ 1 (μ.2 22 0 m.toNatClampNeg)) = 0 then 0 else (if (μ.1 20 0 17) = 0 then 1 else (if ¬ (((μ.1 20 0 17) >>> (m &&& 31)) &&& (1 : Int32)) = 1 then 0 else 1)))))))))
def q_MO_isSelected (μ : sr_M) (m : Int32) : Prop := sr_in m 16 ∧ sr_cnt (μ.1 32 0 0) 12 ∧ sr_cnt (μ.1 32 0 1) 12
def p_MO_isSelected : sr_F := fun vs μ => match vs with
  | [.inr (.inr (20, 0)), .inl m] => some (q_MO_isSelected μ m, some (.inl (v_MO_isSelected μ m)), μ)
  | _ => none
def e_MO_isSelected : sr_E := (sr_SM, sr_KS, (fun k => ([(7, 10, 1), (13, 10, 2), (45, 10, 13), (48, 10, 14), (121, 10, 15), (124, 10, 16), (127, 10, 17)] : List (Nat × Nat × Nat)).lookup k, fun _ => none, fun _ => none, fun _ => none, fun k => ([(149, 11, 2, p_MO_is), (153, 11, 2, p_MO_matches)] : List (Nat × Nat × Nat × sr_F)).lookup k), sr_cd cd_MO_isSelected, some .boolean)
set_option maxRecDepth 10000 in
theorem a_MO_isSelected (μ : sr_M) (m : Int32) (hq : q_MO_isSelected μ m) : sr_AW e_MO_isSelected (fun r => r = (some (.inl (v_MO_isSelected μ m)), μ)) (sr_entry 4 [.inr (.inr (20, 0)), .inl m] μ) := by
  have hq0 := hq
  obtain ⟨q1, q2, q3⟩ : sr_in m 16 ∧ sr_cnt (μ.1 32 0 0) 12 ∧ sr_cnt (μ.1 32 0 1) 12 := hq
  have qm := sr_in_lt q1
  refine sr_many 16 (t := (bif decide (¬ (((μ.1 20 0 14) >>> ((μ.1 21 0 m.toNatClampNeg) &&& 31)) &&& (1 : Int32)) = 1) then 53 else 24, [some (.inr (.inr (20, 0))), some (.inl m), some (.inl (v_MO_is μ m 1)), none], [], μ)) rfl ⟨trivial, trivial, trivial, ⟨(show 0 < 1 by decide), (show sr_in ((9 : Int32) * m + (1 : Int32)) 144 from sr_is9 q1 1 (by decide))⟩, trivial, trivial, (show 0 < 1 by decide), trivial, (show 0 < 1 by decide), trivial, ⟨(show 0 < 1 by decide), (show sr_in m 16 by assumption)⟩, trivial, trivial, trivial, trivial, trivial, trivial⟩ ?_
  refine sr_brd (fun h1 => ?_) (fun h1 => ?_)
  · refine sr_many 9 (t := (139, [some (.inr (.inr (20, 0))), some (.inl m), some (.inl (v_MO_is μ m 1)), some (.inl 0)], [.inl 0], μ)) rfl ⟨trivial, trivial, trivial, trivial, trivial, trivial, trivial, trivial, trivial, trivial⟩ ?_
    exact sr_ret rfl rfl rfl (Or.inl rfl) (by simp only [v_MO_isSelected, if_pos h1])
  · refine sr_many 5 (t := (bif decide (¬ ((v_MO_is μ m 1) &&& (μ.1 20 0 16)) = 0) then 53 else 33, [some (.inr (.inr (20, 0))), some (.inl m), some (.inl (v_MO_is μ m 1)), none], [], μ)) rfl ⟨trivial, trivial, (show 0 < 1 by decide), trivial, trivial, trivial⟩ ?_
    refine sr_brd (fun h2 => ?_) (fun h2 => ?_)
    · refine sr_many 9 (t := (139, [some (.inr (.inr (20, 0))), some (.inl m), some (.inl (v_MO_is μ m 1)), some (.inl 0)], [.inl 0], μ)) rfl ⟨trivial, trivial, trivial, trivial, trivial, trivial, trivial, trivial, trivial, trivial⟩ ?_
      exact sr_ret rfl rfl rfl (Or.inl rfl) (by simp only [v_MO_isSelected, if_neg h1, if_pos h2])
    · refine sr_many 3 (t := (bif decide ((μ.1 20 0 15) = 0) then 49 else 40, [some (.inr (.inr (20, 0))), some (.inl m), some (.inl (v_MO_is μ m 1)), none], [], μ)) rfl ⟨trivial, (show 0 < 1 by decide), trivial, trivial⟩ ?_
      refine sr_brd (fun h3 => ?_) (fun h3 => ?_)
      · refine sr_many 10 (t := (bif decide ((μ.1 32 0 0) = 0) then 82 else 68, [some (.inr (.inr (20, 0))), some (.inl m), some (.inl (v_MO_is μ m 1)), some (.inl 1)], [], μ)) rfl ⟨trivial, trivial, trivial, trivial, trivial, trivial, (show 0 < 1 by decide), trivial, ⟨(show 0 < 1 by decide), (show sr_in 0 2 by decide)⟩, trivial, trivial⟩ ?_
        refine sr_brd (fun h4 => ?_) (fun h4 => ?_)
        · refine sr_many 5 (t := (bif decide ((μ.1 32 0 1) = 0) then 105 else 91, [some (.inr (.inr (20, 0))), some (.inl m), some (.inl (v_MO_is μ m 1)), some (.inl 1)], [], μ)) rfl ⟨trivial, (show 0 < 1 by decide), trivial, ⟨(show 0 < 1 by decide), (show sr_in 1 2 by decide)⟩, trivial, trivial⟩ ?_
          refine sr_brd (fun h5 => ?_) (fun h5 => ?_)
          · refine sr_many 8 (t := (bif decide ((μ.1 20 0 17) = 0) then 134 else 122, [some (.inr (.inr (20, 0))), some (.inl m), some (.inl (v_MO_is μ m 1)), some (.inl 1)], [], μ)) rfl ⟨trivial, trivial, trivial, trivial, trivial, trivial, (show 0 < 1 by decide), trivial, trivial⟩ ?_
            refine sr_brd (fun h6 => ?_) (fun h6 => ?_)
            · refine sr_many 2 (t := (139, [some (.inr (.inr (20, 0))), some (.inl m), some (.inl (v_MO_is μ m 1)), some (.inl 1)], [.inl 1], μ)) rfl ⟨trivial, trivial, trivial⟩ ?_
              exact sr_ret rfl rfl rfl (Or.inr rfl) (by simp only [v_MO_isSelected, if_neg h1, if_neg h2, if_pos h3, if_pos h4, if_pos h5, if_pos h6])
            · refine sr_many 8 (t := (bif decide (¬ (((μ.1 20 0 17) >>> (m &&& 31)) &&& (1 : Int32)) = 1) then 138 else 134, [some (.inr (.inr (20, 0))), some (.inl m), some (.inl (v_MO_is μ m 1)), some (.inl 1)], [], μ)) rfl ⟨trivial, (show 0 < 1 by decide), trivial, trivial, trivial, trivial, trivial, trivial, trivial⟩ ?_
              refine sr_brd (fun h7 => ?_) (fun h7 => ?_)
              · refine sr_many 1 (t := (139, [some (.inr (.inr (20, 0))), some (.inl m), some (.inl (v_MO_is μ m 1)), some (.inl 1)], [.inl 0], μ)) rfl ⟨trivial, trivial⟩ ?_
                exact sr_ret rfl rfl rfl (Or.inl rfl) (by simp only [v_MO_isSelected, if_neg h1, if_neg h2, if_pos h3, if_pos h4, if_pos h5, if_neg h6, if_pos h7])
              · refine sr_many 2 (t := (139, [some (.inr (.inr (20, 0))), some (.inl m), some (.inl (v_MO_is μ m 1)), some (.inl 1)], [.inl 1], μ)) rfl ⟨trivial, trivial, trivial⟩ ?_
                exact sr_ret rfl rfl rfl (Or.inr rfl) (by simp only [v_MO_isSelected, if_neg h1, if_neg h2, if_pos h3, if_pos h4, if_pos h5, if_neg h6, if_neg h7])
          · refine sr_many 8 (t := (bif decide (¬ (v_MO_matches μ 1 (μ.2 22 0 m.toNatClampNeg)) = 0) then 109 else 105, [some (.inr (.inr (20, 0))), some (.inl m), some (.inl (v_MO_is μ m 1)), some (.inl 1)], [], μ)) rfl ⟨trivial, trivial, trivial, (show 0 < 1 by decide), trivial, ⟨(show 0 < 1 by decide), (show sr_in m 16 by assumption)⟩, ⟨(show 0 < 1 by decide), ⟨(show sr_in (1 : Int32) 2 from by decide), (show sr_cnt (μ.1 32 0 (1 : Int32).toNatClampNeg) 12 from q3)⟩⟩, trivial, trivial⟩ ?_
            refine sr_brd (fun h6 => ?_) (fun h6 => ?_)
            · refine sr_many 5 (t := (139, [some (.inr (.inr (20, 0))), some (.inl m), some (.inl (v_MO_is μ m 1)), some (.inl 0)], [.inl 0], μ)) rfl ⟨trivial, trivial, trivial, trivial, trivial, trivial⟩ ?_
              exact sr_ret rfl rfl rfl (Or.inl rfl) (by simp only [v_MO_isSelected, if_neg h1, if_neg h2, if_pos h3, if_pos h4, if_neg h5, if_pos h6])
            · refine sr_many 8 (t := (bif decide ((μ.1 20 0 17) = 0) then 134 else 122, [some (.inr (.inr (20, 0))), some (.inl m), some (.inl (v_MO_is μ m 1)), some (.inl 1)], [], μ)) rfl ⟨trivial, trivial, trivial, trivial, trivial, trivial, (show 0 < 1 by decide), trivial, trivial⟩ ?_
              refine sr_brd (fun h7 => ?_) (fun h7 => ?_)
              · refine sr_many 2 (t := (139, [some (.inr (.inr (20, 0))), some (.inl m), some (.inl (v_MO_is μ m 1)), some (.inl 1)], [.inl 1], μ)) rfl ⟨trivial, trivial, trivial⟩ ?_
                exact sr_ret rfl rfl rfl (Or.inr rfl) (by simp only [v_MO_isSelected, if_neg h1, if_neg h2, if_pos h3, if_pos h4, if_neg h5, if_neg h6, if_pos h7])
              · refine sr_many 8 (t := (bif decide (¬ (((μ.1 20 0 17) >>> (m &&& 31)) &&& (1 : Int32)) = 1) then 138 else 134, [some (.inr (.inr (20, 0))), some (.inl m), some (.inl (v_MO_is μ m 1)), some (.inl 1)], [], μ)) rfl ⟨trivial, (show 0 < 1 by decide), trivial, trivial, trivial, trivial, trivial, trivial, trivial⟩ ?_
                refine sr_brd (fun h8 => ?_) (fun h8 => ?_)
                · refine sr_many 1 (t := (139, [some (.inr (.inr (20, 0))), some (.inl m), some (.inl (v_MO_is μ m 1)), some (.inl 1)], [.inl 0], μ)) rfl ⟨trivial, trivial⟩ ?_
                  exact sr_ret rfl rfl rfl (Or.inl rfl) (by simp only [v_MO_isSelected, if_neg h1, if_neg h2, if_pos h3, if_pos h4, if_neg h5, if_neg h6, if_neg h7, if_pos h8])
                · refine sr_many 2 (t := (139, [some (.inr (.inr (20, 0))), some (.inl m), some (.inl (v_MO_is μ m 1)), some (.inl 1)], [.inl 1], μ)) rfl ⟨trivial, trivial, trivial⟩ ?_
                  exact sr_ret rfl rfl rfl (Or.inr rfl) (by simp only [v_MO_isSelected, if_neg h1, if_neg h2, if_pos h3, if_pos h4, if_neg h5, if_neg h6, if_neg h7, if_neg h8])
        · refine sr_many 8 (t := (bif decide ((v_MO_matches μ 0 (μ.2 22 0 m.toNatClampNeg)) = 0) then 109 else 82, [some (.inr (.inr (20, 0))), some (.inl m), some (.inl (v_MO_is μ m 1)), some (.inl 1)], [], μ)) rfl ⟨trivial, trivial, trivial, (show 0 < 1 by decide), trivial, ⟨(show 0 < 1 by decide), (show sr_in m 16 by assumption)⟩, ⟨(show 0 < 1 by decide), ⟨(show sr_in (0 : Int32) 2 from by decide), (show sr_cnt (μ.1 32 0 (0 : Int32).toNatClampNeg) 12 from q2)⟩⟩, trivial, trivial⟩ ?_
          refine sr_brd (fun h5 => ?_) (fun h5 => ?_)
          · refine sr_many 5 (t := (139, [some (.inr (.inr (20, 0))), some (.inl m), some (.inl (v_MO_is μ m 1)), some (.inl 0)], [.inl 0], μ)) rfl ⟨trivial, trivial, trivial, trivial, trivial, trivial⟩ ?_
            exact sr_ret rfl rfl rfl (Or.inl rfl) (by simp only [v_MO_isSelected, if_neg h1, if_neg h2, if_pos h3, if_neg h4, if_pos h5])
          · refine sr_many 5 (t := (bif decide ((μ.1 32 0 1) = 0) then 105 else 91, [some (.inr (.inr (20, 0))), some (.inl m), some (.inl (v_MO_is μ m 1)), some (.inl 1)], [], μ)) rfl ⟨trivial, (show 0 < 1 by decide), trivial, ⟨(show 0 < 1 by decide), (show sr_in 1 2 by decide)⟩, trivial, trivial⟩ ?_
            refine sr_brd (fun h6 => ?_) (fun h6 => ?_)
            · refine sr_many 8 (t := (bif decide ((μ.1 20 0 17) = 0) then 134 else 122, [some (.inr (.inr (20, 0))), some (.inl m), some (.inl (v_MO_is μ m 1)), some (.inl 1)], [], μ)) rfl ⟨trivial, trivial, trivial, trivial, trivial, trivial, (show 0 < 1 by decide), trivial, trivial⟩ ?_
              refine sr_brd (fun h7 => ?_) (fun h7 => ?_)
              · refine sr_many 2 (t := (139, [some (.inr (.inr (20, 0))), some (.inl m), some (.inl (v_MO_is μ m 1)), some (.inl 1)], [.inl 1], μ)) rfl ⟨trivial, trivial, trivial⟩ ?_
                exact sr_ret rfl rfl rfl (Or.inr rfl) (by simp only [v_MO_isSelected, if_neg h1, if_neg h2, if_pos h3, if_neg h4, if_neg h5, if_pos h6, if_pos h7])
              · refine sr_many 8 (t := (bif decide (¬ (((μ.1 20 0 17) >>> (m &&& 31)) &&& (1 : Int32)) = 1) then 138 else 134, [some (.inr (.inr (20, 0))), some (.inl m), some (.inl (v_MO_is μ m 1)), some (.inl 1)], [], μ)) rfl ⟨trivial, (show 0 < 1 by decide), trivial, trivial, trivial, trivial, trivial, trivial, trivial⟩ ?_
                refine sr_brd (fun h8 => ?_) (fun h8 => ?_)
                · refine sr_many 1 (t := (139, [some (.inr (.inr (20, 0))), some (.inl m), some (.inl (v_MO_is μ m 1)), some (.inl 1)], [.inl 0], μ)) rfl ⟨trivial, trivial⟩ ?_
                  exact sr_ret rfl rfl rfl (Or.inl rfl) (by simp only [v_MO_isSelected, if_neg h1, if_neg h2, if_pos h3, if_neg h4, if_neg h5, if_pos h6, if_neg h7, if_pos h8])
                · refine sr_many 2 (t := (139, [some (.inr (.inr (20, 0))), some (.inl m), some (.inl (v_MO_is μ m 1)), some (.inl 1)], [.inl 1], μ)) rfl ⟨trivial, trivial, trivial⟩ ?_
                  exact sr_ret rfl rfl rfl (Or.inr rfl) (by simp only [v_MO_isSelected, if_neg h1, if_neg h2, if_pos h3, if_neg h4, if_neg h5, if_pos h6, if_neg h7, if_neg h8])
            · refine sr_many 8 (t := (bif decide (¬ (v_MO_matches μ 1 (μ.2 22 0 m.toNatClampNeg)) = 0) then 109 else 105, [some (.inr (.inr (20, 0))), some (.inl m), some (.inl (v_MO_is μ m 1)), some (.inl 1)], [], μ)) rfl ⟨trivial, trivial, trivial, (show 0 < 1 by decide), trivial, ⟨(show 0 < 1 by decide), (show sr_in m 16 by assumption)⟩, ⟨(show 0 < 1 by decide), ⟨(show sr_in (1 : Int32) 2 from by decide), (show sr_cnt (μ.1 32 0 (1 : Int32).toNatClampNeg) 12 from q3)⟩⟩, trivial, trivial⟩ ?_
              refine sr_brd (fun h7 => ?_) (fun h7 => ?_)
              · refine sr_many 5 (t := (139, [some (.inr (.inr (20, 0))), some (.inl m), some (.inl (v_MO_is μ m 1)), some (.inl 0)], [.inl 0], μ)) rfl ⟨trivial, trivial, trivial, trivial, trivial, trivial⟩ ?_
                exact sr_ret rfl rfl rfl (Or.inl rfl) (by simp only [v_MO_isSelected, if_neg h1, if_neg h2, if_pos h3, if_neg h4, if_neg h5, if_neg h6, if_pos h7])
              · refine sr_many 8 (t := (bif decide ((μ.1 20 0 17) = 0) then 134 else 122, [some (.inr (.inr (20, 0))), some (.inl m), some (.inl (v_MO_is μ m 1)), some (.inl 1)], [], μ)) rfl ⟨trivial, trivial, trivial, trivial, trivial, trivial, (show 0 < 1 by decide), trivial, trivial⟩ ?_
                refine sr_brd (fun h8 => ?_) (fun h8 => ?_)
                · refine sr_many 2 (t := (139, [some (.inr (.inr (20, 0))), some (.inl m), some (.inl (v_MO_is μ m 1)), some (.inl 1)], [.inl 1], μ)) rfl ⟨trivial, trivial, trivial⟩ ?_
                  exact sr_ret rfl rfl rfl (Or.inr rfl) (by simp only [v_MO_isSelected, if_neg h1, if_neg h2, if_pos h3, if_neg h4, if_neg h5, if_neg h6, if_neg h7, if_pos h8])
                · refine sr_many 8 (t := (bif decide (¬ (((μ.1 20 0 17) >>> (m &&& 31)) &&& (1 : Int32)) = 1) then 138 else 134, [some (.inr (.inr (20, 0))), some (.inl m), some (.inl (v_MO_is μ m 1)), some (.inl 1)], [], μ)) rfl ⟨trivial, (show 0 < 1 by decide), trivial, trivial, trivial, trivial, trivial, trivial, trivial⟩ ?_
                  refine sr_brd (fun h9 => ?_) (fun h9 => ?_)
                  · refine sr_many 1 (t := (139, [some (.inr (.inr (20, 0))), some (.inl m), some (.inl (v_MO_is μ m 1)), some (.inl 1)], [.inl 0], μ)) rfl ⟨trivial, trivial⟩ ?_
                    exact sr_ret rfl rfl rfl (Or.inl rfl) (by simp only [v_MO_isSelected, if_neg h1, if_neg h2, if_pos h3, if_neg h4, if_neg h5, if_neg h6, if_neg h7, if_neg h8, if_pos h9])
                  · refine sr_many 2 (t := (139, [some (.inr (.inr (20, 0))), some (.inl m), some (.inl (v_MO_is μ m 1)), some (.inl 1)], [.inl 1], μ)) rfl ⟨trivial, trivial, trivial⟩ ?_
                    exact sr_ret rfl rfl rfl (Or.inr rfl) (by simp only [v_MO_isSelected, if_neg h1, if_neg h2, if_pos h3, if_neg h4, if_neg h5, if_neg h6, if_neg h7, if_neg h8, if_neg h9])
      · refine sr_many 5 (t := (bif decide (((v_MO_is μ m 1) &&& (μ.1 20 0 15)) = 0) then 53 else 49, [some (.inr (.inr (20, 0))), some (.inl m), some (.inl (v_MO_is μ m 1)), none], [], μ)) rfl ⟨trivial, trivial, (show 0 < 1 by decide), trivial, trivial, trivial⟩ ?_
        refine sr_brd (fun h4 => ?_) (fun h4 => ?_)
        · refine sr_many 9 (t := (139, [some (.inr (.inr (20, 0))), some (.inl m), some (.inl (v_MO_is μ m 1)), some (.inl 0)], [.inl 0], μ)) rfl ⟨trivial, trivial, trivial, trivial, trivial, trivial, trivial, trivial, trivial, trivial⟩ ?_
          exact sr_ret rfl rfl rfl (Or.inl rfl) (by simp only [v_MO_isSelected, if_neg h1, if_neg h2, if_neg h3, if_pos h4])
        · refine sr_many 10 (t := (bif decide ((μ.1 32 0 0) = 0) then 82 else 68, [some (.inr (.inr (20, 0))), some (.inl m), some (.inl (v_MO_is μ m 1)), some (.inl 1)], [], μ)) rfl ⟨trivial, trivial, trivial, trivial, trivial, trivial, (show 0 < 1 by decide), trivial, ⟨(show 0 < 1 by decide), (show sr_in 0 2 by decide)⟩, trivial, trivial⟩ ?_
          refine sr_brd (fun h5 => ?_) (fun h5 => ?_)
          · refine sr_many 5 (t := (bif decide ((μ.1 32 0 1) = 0) then 105 else 91, [some (.inr (.inr (20, 0))), some (.inl m), some (.inl (v_MO_is μ m 1)), some (.inl 1)], [], μ)) rfl ⟨trivial, (show 0 < 1 by decide), trivial, ⟨(show 0 < 1 by decide), (show sr_in 1 2 by decide)⟩, trivial, trivial⟩ ?_
            refine sr_brd (fun h6 => ?_) (fun h6 => ?_)
            · refine sr_many 8 (t := (bif decide ((μ.1 20 0 17) = 0) then 134 else 122, [some (.inr (.inr (20, 0))), some (.inl m), some (.inl (v_MO_is μ m 1)), some (.inl 1)], [], μ)) rfl ⟨trivial, trivial, trivial, trivial, trivial, trivial, (show 0 < 1 by decide), trivial, trivial⟩ ?_
              refine sr_brd (fun h7 => ?_) (fun h7 => ?_)
              · refine sr_many 2 (t := (139, [some (.inr (.inr (20, 0))), some (.inl m), some (.inl (v_MO_is μ m 1)), some (.inl 1)], [.inl 1], μ)) rfl ⟨trivial, trivial, trivial⟩ ?_
                exact sr_ret rfl rfl rfl (Or.inr rfl) (by simp only [v_MO_isSelected, if_neg h1, if_neg h2, if_neg h3, if_neg h4, if_pos h5, if_pos h6, if_pos h7])
              · refine sr_many 8 (t := (bif decide (¬ (((μ.1 20 0 17) >>> (m &&& 31)) &&& (1 : Int32)) = 1) then 138 else 134, [some (.inr (.inr (20, 0))), some (.inl m), some (.inl (v_MO_is μ m 1)), some (.inl 1)], [], μ)) rfl ⟨trivial, (show 0 < 1 by decide), trivial, trivial, trivial, trivial, trivial, trivial, trivial⟩ ?_
                refine sr_brd (fun h8 => ?_) (fun h8 => ?_)
                · refine sr_many 1 (t := (139, [some (.inr (.inr (20, 0))), some (.inl m), some (.inl (v_MO_is μ m 1)), some (.inl 1)], [.inl 0], μ)) rfl ⟨trivial, trivial⟩ ?_
                  exact sr_ret rfl rfl rfl (Or.inl rfl) (by simp only [v_MO_isSelected, if_neg h1, if_neg h2, if_neg h3, if_neg h4, if_pos h5, if_pos h6, if_neg h7, if_pos h8])
                · refine sr_many 2 (t := (139, [some (.inr (.inr (20, 0))), some (.inl m), some (.inl (v_MO_is μ m 1)), some (.inl 1)], [.inl 1], μ)) rfl ⟨trivial, trivial, trivial⟩ ?_
                  exact sr_ret rfl rfl rfl (Or.inr rfl) (by simp only [v_MO_isSelected, if_neg h1, if_neg h2, if_neg h3, if_neg h4, if_pos h5, if_pos h6, if_neg h7, if_neg h8])
            · refine sr_many 8 (t := (bif decide (¬ (v_MO_matches μ 1 (μ.2 22 0 m.toNatClampNeg)) = 0) then 109 else 105, [some (.inr (.inr (20, 0))), some (.inl m), some (.inl (v_MO_is μ m 1)), some (.inl 1)], [], μ)) rfl ⟨trivial, trivial, trivial, (show 0 < 1 by decide), trivial, ⟨(show 0 < 1 by decide), (show sr_in m 16 by assumption)⟩, ⟨(show 0 < 1 by decide), ⟨(show sr_in (1 : Int32) 2 from by decide), (show sr_cnt (μ.1 32 0 (1 : Int32).toNatClampNeg) 12 from q3)⟩⟩, trivial, trivial⟩ ?_
              refine sr_brd (fun h7 => ?_) (fun h7 => ?_)
              · refine sr_many 5 (t := (139, [some (.inr (.inr (20, 0))), some (.inl m), some (.inl (v_MO_is μ m 1)), some (.inl 0)], [.inl 0], μ)) rfl ⟨trivial, trivial, trivial, trivial, trivial, trivial⟩ ?_
                exact sr_ret rfl rfl rfl (Or.inl rfl) (by simp only [v_MO_isSelected, if_neg h1, if_neg h2, if_neg h3, if_neg h4, if_pos h5, if_neg h6, if_pos h7])
              · refine sr_many 8 (t := (bif decide ((μ.1 20 0 17) = 0) then 134 else 122, [some (.inr (.inr (20, 0))), some (.inl m), some (.inl (v_MO_is μ m 1)), some (.inl 1)], [], μ)) rfl ⟨trivial, trivial, trivial, trivial, trivial, trivial, (show 0 < 1 by decide), trivial, trivial⟩ ?_
                refine sr_brd (fun h8 => ?_) (fun h8 => ?_)
                · refine sr_many 2 (t := (139, [some (.inr (.inr (20, 0))), some (.inl m), some (.inl (v_MO_is μ m 1)), some (.inl 1)], [.inl 1], μ)) rfl ⟨trivial, trivial, trivial⟩ ?_
                  exact sr_ret rfl rfl rfl (Or.inr rfl) (by simp only [v_MO_isSelected, if_neg h1, if_neg h2, if_neg h3, if_neg h4, if_pos h5, if_neg h6, if_neg h7, if_pos h8])
                · refine sr_many 8 (t := (bif decide (¬ (((μ.1 20 0 17) >>> (m &&& 31)) &&& (1 : Int32)) = 1) then 138 else 134, [some (.inr (.inr (20, 0))), some (.inl m), some (.inl (v_MO_is μ m 1)), some (.inl 1)], [], μ)) rfl ⟨trivial, (show 0 < 1 by decide), trivial, trivial, trivial, trivial, trivial, trivial, trivial⟩ ?_
                  refine sr_brd (fun h9 => ?_) (fun h9 => ?_)
                  · refine sr_many 1 (t := (139, [some (.inr (.inr (20, 0))), some (.inl m), some (.inl (v_MO_is μ m 1)), some (.inl 1)], [.inl 0], μ)) rfl ⟨trivial, trivial⟩ ?_
                    exact sr_ret rfl rfl rfl (Or.inl rfl) (by simp only [v_MO_isSelected, if_neg h1, if_neg h2, if_neg h3, if_neg h4, if_pos h5, if_neg h6, if_neg h7, if_neg h8, if_pos h9])
                  · refine sr_many 2 (t := (139, [some (.inr (.inr (20, 0))), some (.inl m), some (.inl (v_MO_is μ m 1)), some (.inl 1)], [.inl 1], μ)) rfl ⟨trivial, trivial, trivial⟩ ?_
                    exact sr_ret rfl rfl rfl (Or.inr rfl) (by simp only [v_MO_isSelected, if_neg h1, if_neg h2, if_neg h3, if_neg h4, if_pos h5, if_neg h6, if_neg h7, if_neg h8, if_neg h9])
          · refine sr_many 8 (t := (bif decide ((v_MO_matches μ 0 (μ.2 22 0 m.toNatClampNeg)) = 0) then 109 else 82, [some (.inr (.inr (20, 0))), some (.inl m), some (.inl (v_MO_is μ m 1)), some (.inl 1)], [], μ)) rfl ⟨trivial, trivial, trivial, (show 0 < 1 by decide), trivial, ⟨(show 0 < 1 by decide), (show sr_in m 16 by assumption)⟩, ⟨(show 0 < 1 by decide), ⟨(show sr_in (0 : Int32) 2 from by decide), (show sr_cnt (μ.1 32 0 (0 : Int32).toNatClampNeg) 12 from q2)⟩⟩, trivial, trivial⟩ ?_
            refine sr_brd (fun h6 => ?_) (fun h6 => ?_)
            · refine sr_many 5 (t := (139, [some (.inr (.inr (20, 0))), some (.inl m), some (.inl (v_MO_is μ m 1)), some (.inl 0)], [.inl 0], μ)) rfl ⟨trivial, trivial, trivial, trivial, trivial, trivial⟩ ?_
              exact sr_ret rfl rfl rfl (Or.inl rfl) (by simp only [v_MO_isSelected, if_neg h1, if_neg h2, if_neg h3, if_neg h4, if_neg h5, if_pos h6])
            · refine sr_many 5 (t := (bif decide ((μ.1 32 0 1) = 0) then 105 else 91, [some (.inr (.inr (20, 0))), some (.inl m), some (.inl (v_MO_is μ m 1)), some (.inl 1)], [], μ)) rfl ⟨trivial, (show 0 < 1 by decide), trivial, ⟨(show 0 < 1 by decide), (show sr_in 1 2 by decide)⟩, trivial, trivial⟩ ?_
              refine sr_brd (fun h7 => ?_) (fun h7 => ?_)
              · refine sr_many 8 (t := (bif decide ((μ.1 20 0 17) = 0) then 134 else 122, [some (.inr (.inr (20, 0))), some (.inl m), some (.inl (v_MO_is μ m 1)), some (.inl 1)], [], μ)) rfl ⟨trivial, trivial, trivial, trivial, trivial, trivial, (show 0 < 1 by decide), trivial, trivial⟩ ?_
                refine sr_brd (fun h8 => ?_) (fun h8 => ?_)
                · refine sr_many 2 (t := (139, [some (.inr (.inr (20, 0))), some (.inl m), some (.inl (v_MO_is μ m 1)), some (.inl 1)], [.inl 1], μ)) rfl ⟨trivial, trivial, trivial⟩ ?_
                  exact sr_ret rfl rfl rfl (Or.inr rfl) (by simp only [v_MO_isSelected, if_neg h1, if_neg h2, if_neg h3, if_neg h4, if_neg h5, if_neg h6, if_pos h7, if_pos h8])
                · refine sr_many 8 (t := (bif decide (¬ (((μ.1 20 0 17) >>> (m &&& 31)) &&& (1 : Int32)) = 1) then 138 else 134, [some (.inr (.inr (20, 0))), some (.inl m), some (.inl (v_MO_is μ m 1)), some (.inl 1)], [], μ)) rfl ⟨trivial, (show 0 < 1 by decide), trivial, trivial, trivial, trivial, trivial, trivial, trivial⟩ ?_
                  refine sr_brd (fun h9 => ?_) (fun h9 => ?_)
                  · refine sr_many 1 (t := (139, [some (.inr (.inr (20, 0))), some (.inl m), some (.inl (v_MO_is μ m 1)), some (.inl 1)], [.inl 0], μ)) rfl ⟨trivial, trivial⟩ ?_
                    exact sr_ret rfl rfl rfl (Or.inl rfl) (by simp only [v_MO_isSelected, if_neg h1, if_neg h2, if_neg h3, if_neg h4, if_neg h5, if_neg h6, if_pos h7, if_neg h8, if_pos h9])
                  · refine sr_many 2 (t := (139, [some (.inr (.inr (20, 0))), some (.inl m), some (.inl (v_MO_is μ m 1)), some (.inl 1)], [.inl 1], μ)) rfl ⟨trivial, trivial, trivial⟩ ?_
                    exact sr_ret rfl rfl rfl (Or.inr rfl) (by simp only [v_MO_isSelected, if_neg h1, if_neg h2, if_neg h3, if_neg h4, if_neg h5, if_neg h6, if_pos h7, if_neg h8, if_neg h9])
              · refine sr_many 8 (t := (bif decide (¬ (v_MO_matches μ 1 (μ.2 22 0 m.toNatClampNeg)) = 0) then 109 else 105, [some (.inr (.inr (20, 0))), some (.inl m), some (.inl (v_MO_is μ m 1)), some (.inl 1)], [], μ)) rfl ⟨trivial, trivial, trivial, (show 0 < 1 by decide), trivial, ⟨(show 0 < 1 by decide), (show sr_in m 16 by assumption)⟩, ⟨(show 0 < 1 by decide), ⟨(show sr_in (1 : Int32) 2 from by decide), (show sr_cnt (μ.1 32 0 (1 : Int32).toNatClampNeg) 12 from q3)⟩⟩, trivial, trivial⟩ ?_
                refine sr_brd (fun h8 => ?_) (fun h8 => ?_)
                · refine sr_many 5 (t := (139, [some (.inr (.inr (20, 0))), some (.inl m), some (.inl (v_MO_is μ m 1)), some (.inl 0)], [.inl 0], μ)) rfl ⟨trivial, trivial, trivial, trivial, trivial, trivial⟩ ?_
                  exact sr_ret rfl rfl rfl (Or.inl rfl) (by simp only [v_MO_isSelected, if_neg h1, if_neg h2, if_neg h3, if_neg h4, if_neg h5, if_neg h6, if_neg h7, if_pos h8])
                · refine sr_many 8 (t := (bif decide ((μ.1 20 0 17) = 0) then 134 else 122, [some (.inr (.inr (20, 0))), some (.inl m), some (.inl (v_MO_is μ m 1)), some (.inl 1)], [], μ)) rfl ⟨trivial, trivial, trivial, trivial, trivial, trivial, (show 0 < 1 by decide), trivial, trivial⟩ ?_
                  refine sr_brd (fun h9 => ?_) (fun h9 => ?_)
                  · refine sr_many 2 (t := (139, [some (.inr (.inr (20, 0))), some (.inl m), some (.inl (v_MO_is μ m 1)), some (.inl 1)], [.inl 1], μ)) rfl ⟨trivial, trivial, trivial⟩ ?_
                    exact sr_ret rfl rfl rfl (Or.inr rfl) (by simp only [v_MO_isSelected, if_neg h1, if_neg h2, if_neg h3, if_neg h4, if_neg h5, if_neg h6, if_neg h7, if_neg h8, if_pos h9])
                  · refine sr_many 8 (t := (bif decide (¬ (((μ.1 20 0 17) >>> (m &&& 31)) &&& (1 : Int32)) = 1) then 138 else 134, [some (.inr (.inr (20, 0))), some (.inl m), some (.inl (v_MO_is μ m 1)), some (.inl 1)], [], μ)) rfl ⟨trivial, (show 0 < 1 by decide), trivial, trivial, trivial, trivial, trivial, trivial, trivial⟩ ?_
                    refine sr_brd (fun h10 => ?_) (fun h10 => ?_)
                    · refine sr_many 1 (t := (139, [some (.inr (.inr (20, 0))), some (.inl m), some (.inl (v_MO_is μ m 1)), some (.inl 1)], [.inl 0], μ)) rfl ⟨trivial, trivial⟩ ?_
                      exact sr_ret rfl rfl rfl (Or.inl rfl) (by simp only [v_MO_isSelected, if_neg h1, if_neg h2, if_neg h3, if_neg h4, if_neg h5, if_neg h6, if_neg h7, if_neg h8, if_neg h9, if_pos h10])
                    · refine sr_many 2 (t := (139, [some (.inr (.inr (20, 0))), some (.inl m), some (.inl (v_MO_is μ m 1)), some (.inl 1)], [.inl 1], μ)) rfl ⟨trivial, trivial, trivial⟩ ?_
                      exact sr_ret rfl rfl rfl (Or.inr rfl) (by simp only [v_MO_isSelected, if_neg h1, if_neg h2, if_neg h3, if_neg h4, if_neg h5, if_neg h6, if_neg h7, if_neg h8, if_neg h9, if_neg h10])
def f_MO_selected (μ : sr_M)   : Nat → Int32 → Int32 := fun k a => if (v_MO_isSelected μ (nI k)) = 0 then a else (a ||| ((1 : Int32) <<< ((nI k) &&& 31)))
def v_MO_selected (μ : sr_M)  : Int32 := (sr_it (f_MO_selected μ) 0 ((μ.1 20 0 0).toNatClampNeg))
def q_MO_selected (μ : sr_M)  : Prop := sr_cnt (μ.1 20 0 0) 16 ∧ sr_cnt (μ.1 32 0 0) 12 ∧ sr_cnt (μ.1 32 0 1) 12
def p_MO_selected : sr_F := fun vs μ => match vs with
  | [.inr (.inr (20, 0))] => some (q_MO_selected μ , some (.inl (v_MO_selected μ )), μ)
  | _ => none
def e_MO_selected : sr_E := (sr_SM, sr_KS, (fun k => ([(92, 10, 0)] : List (Nat × Nat × Nat)).lookup k, fun _ => none, fun _ => none, fun _ => none, fun k => ([(157, 11, 1, p_MO_isSelected)] : List (Nat × Nat × Nat × sr_F)).lookup k), sr_cd cd_MO_selected, some .int)
set_option maxRecDepth 10000 in
theorem a_MO_selected (μ : sr_M)  (hq : q_MO_selected μ ) : sr_AW e_MO_selected (fun r => r = (some (.inl (v_MO_selected μ )), μ)) (sr_entry 3 [.inr (.inr (20, 0))] μ) := by
  have hq0 := hq
  obtain ⟨q1, q2, q3⟩ : sr_cnt (μ.1 20 0 0) 16 ∧ sr_cnt (μ.1 32 0 0) 12 ∧ sr_cnt (μ.1 32 0 1) 12 := hq
  refine sr_many 4 (t := (4, [some (.inr (.inr (20, 0))), some (.inl 0), some (.inl 0)], [], μ)) rfl ⟨trivial, trivial, trivial, trivial, trivial⟩ ?_
  refine sr_forT (α := Int32) (fun k a => (4, [some (.inr (.inr (20, 0))), some (.inl a), some (.inl (nI k))], [], μ)) (f_MO_selected μ) 0 ((μ.1 20 0 0).toNatClampNeg) (fun k hk a w => ?_) ?_
  · have hbk : k < 16 := sr_cnt_lt q1 hk
    have hck : (nI k).toNatClampNeg = k := sr_clN 16 hbk (by decide)
    have hink : sr_in (nI k) 16 := sr_inN 16 hbk (by decide)
    have hcbk : (nI k).toNatClampNeg < 16 := by rw [hck]; exact hbk
    refine sr_many 4 (t := (bif decide ((μ.1 20 0 0) ≤ (nI k)) then 36 else 12, [some (.inr (.inr (20, 0))), some (.inl a), some (.inl (nI k))], [], μ)) rfl ⟨trivial, trivial, (show 0 < 1 by decide), trivial, trivial⟩ ?_
    refine sr_brd (fun h => absurd h (by exact sr_cnt_nlt q1 (by decide) hk)) (fun _ => ?_)
    refine sr_many 4 (t := (bif decide ((v_MO_isSelected μ (nI k)) = 0) then 28 else 20, [some (.inr (.inr (20, 0))), some (.inl a), some (.inl (nI k))], [], μ)) rfl ⟨trivial, trivial, ⟨(show 0 < 1 by decide), ⟨(show sr_in (nI k) 16 by assumption), (show sr_cnt (μ.1 32 0 0) 12 by assumption), (show sr_cnt (μ.1 32 0 1) 12 by assumption)⟩⟩, trivial, trivial⟩ ?_
    refine sr_brd (fun h1 => ?_) (fun h1 => ?_)
    · refine sr_many 4 (t := (4, [some (.inr (.inr (20, 0))), some (.inl a), some (.inl ((nI k) + 1))], [], μ)) rfl ⟨trivial, trivial, trivial, trivial, trivial⟩ ?_
      try simp only [hck] at h1
      try simp only [hck]
      simp only [f_MO_selected, if_pos h1, nI_succ] at w
      exact w
    · refine sr_many 9 (t := (4, [some (.inr (.inr (20, 0))), some (.inl (a ||| ((1 : Int32) <<< ((nI k) &&& 31)))), some (.inl ((nI k) + 1))], [], μ)) rfl ⟨trivial, trivial, trivial, trivial, trivial, trivial, trivial, trivial, trivial, trivial⟩ ?_
      try simp only [hck] at h1
      try simp only [hck]
      simp only [f_MO_selected, if_neg h1, nI_succ] at w
      exact w
  · skip
    refine sr_many 4 (t := (bif decide ((μ.1 20 0 0) ≤ (nI ((μ.1 20 0 0).toNatClampNeg))) then 36 else 12, [some (.inr (.inr (20, 0))), some (.inl (sr_it (f_MO_selected μ) 0 ((μ.1 20 0 0).toNatClampNeg))), some (.inl (nI ((μ.1 20 0 0).toNatClampNeg)))], [], μ)) rfl ⟨trivial, trivial, (show 0 < 1 by decide), trivial, trivial⟩ ?_
    refine sr_brd (fun _ => ?_) (fun h => absurd (by exact sr_cnt_le q1) h)
    refine sr_many 1 (t := (37, [some (.inr (.inr (20, 0))), some (.inl (sr_it (f_MO_selected μ) 0 ((μ.1 20 0 0).toNatClampNeg))), some (.inl (nI ((μ.1 20 0 0).toNatClampNeg)))], [.inl (sr_it (f_MO_selected μ) 0 ((μ.1 20 0 0).toNatClampNeg))], μ)) rfl ⟨trivial, trivial⟩ ?_
    exact sr_ret rfl rfl rfl trivial rfl
def f_MO_needsOf (μ : sr_M) (m : Int32) (ch : Int32)  : Nat → Int32 → Int32 := fun k a => if ¬ ((ch >>> ((nI k) &&& 31)) &&& (1 : Int32)) = 1 then a else (if ((v_MO_is μ (nI k) 1) &&& (μ.1 25 0 m.toNatClampNeg)) = 0 then a else (a ||| ((1 : Int32) <<< ((nI k) &&& 31))))
def v_MO_needsOf (μ : sr_M) (m : Int32) (ch : Int32) : Int32 := (sr_it (f_MO_needsOf μ m ch) ((μ.1 24 0 m.toNatClampNeg) &&& ch) ((μ.1 20 0 0).toNatClampNeg))
def q_MO_needsOf (μ : sr_M) (m : Int32) (ch : Int32) : Prop := sr_in m 16 ∧ sr_cnt (μ.1 20 0 0) 16
def p_MO_needsOf : sr_F := fun vs μ => match vs with
  | [.inr (.inr (20, 0)), .inl m, .inl ch] => some (q_MO_needsOf μ m ch, some (.inl (v_MO_needsOf μ m ch)), μ)
  | _ => none
def e_MO_needsOf : sr_E := (sr_SM, sr_KS, (fun k => ([(20, 10, 4), (23, 10, 5), (92, 10, 0)] : List (Nat × Nat × Nat)).lookup k, fun _ => none, fun _ => none, fun _ => none, fun k => ([(149, 11, 2, p_MO_is)] : List (Nat × Nat × Nat × sr_F)).lookup k), sr_cd cd_MO_needsOf, some .int)
set_option maxRecDepth 10000 in
theorem a_MO_needsOf (μ : sr_M) (m : Int32) (ch : Int32) (hq : q_MO_needsOf μ m ch) : sr_AW e_MO_needsOf (fun r => r = (some (.inl (v_MO_needsOf μ m ch)), μ)) (sr_entry 5 [.inr (.inr (20, 0)), .inl m, .inl ch] μ) := by
  have hq0 := hq
  obtain ⟨q1, q2⟩ : sr_in m 16 ∧ sr_cnt (μ.1 20 0 0) 16 := hq
  have qm := sr_in_lt q1
  refine sr_many 9 (t := (12, [some (.inr (.inr (20, 0))), some (.inl m), some (.inl ch), some (.inl ((μ.1 24 0 m.toNatClampNeg) &&& ch)), some (.inl 0)], [], μ)) rfl ⟨trivial, (show 0 < 1 by decide), trivial, ⟨(show 0 < 1 by decide), (show sr_in m 16 by assumption)⟩, trivial, trivial, trivial, trivial, trivial, trivial⟩ ?_
  refine sr_forT (α := Int32) (fun k a => (12, [some (.inr (.inr (20, 0))), some (.inl m), some (.inl ch), some (.inl a), some (.inl (nI k))], [], μ)) (f_MO_needsOf μ m ch) ((μ.1 24 0 m.toNatClampNeg) &&& ch) ((μ.1 20 0 0).toNatClampNeg) (fun k hk a w => ?_) ?_
  · have hbk : k < 16 := sr_cnt_lt q2 hk
    have hck : (nI k).toNatClampNeg = k := sr_clN 16 hbk (by decide)
    have hink : sr_in (nI k) 16 := sr_inN 16 hbk (by decide)
    have hcbk : (nI k).toNatClampNeg < 16 := by rw [hck]; exact hbk
    refine sr_many 4 (t := (bif decide ((μ.1 20 0 0) ≤ (nI k)) then 61 else 21, [some (.inr (.inr (20, 0))), some (.inl m), some (.inl ch), some (.inl a), some (.inl (nI k))], [], μ)) rfl ⟨trivial, trivial, (show 0 < 1 by decide), trivial, trivial⟩ ?_
    refine sr_brd (fun h => absurd h (by exact sr_cnt_nlt q2 (by decide) hk)) (fun _ => ?_)
    refine sr_many 7 (t := (bif decide (¬ ((ch >>> ((nI k) &&& 31)) &&& (1 : Int32)) = 1) then 55 else 31, [some (.inr (.inr (20, 0))), some (.inl m), some (.inl ch), some (.inl a), some (.inl (nI k))], [], μ)) rfl ⟨trivial, trivial, trivial, trivial, trivial, trivial, trivial, trivial⟩ ?_
    refine sr_brd (fun h1 => ?_) (fun h1 => ?_)
    · refine sr_many 2 (t := (12, [some (.inr (.inr (20, 0))), some (.inl m), some (.inl ch), some (.inl a), some (.inl ((nI k) + 1))], [], μ)) rfl ⟨trivial, trivial, trivial⟩ ?_
      try simp only [hck] at h1
      try simp only [hck]
      simp only [f_MO_needsOf, if_pos h1, nI_succ] at w
      exact w
    · refine sr_many 10 (t := (bif decide (((v_MO_is μ (nI k) 1) &&& (μ.1 25 0 m.toNatClampNeg)) = 0) then 55 else 48, [some (.inr (.inr (20, 0))), some (.inl m), some (.inl ch), some (.inl a), some (.inl (nI k))], [], μ)) rfl ⟨trivial, trivial, trivial, ⟨(show 0 < 1 by decide), (show sr_in ((9 : Int32) * (nI k) + (1 : Int32)) 144 from sr_is9 hink 1 (by decide))⟩, trivial, (show 0 < 1 by decide), trivial, ⟨(show 0 < 1 by decide), (show sr_in m 16 by assumption)⟩, trivial, trivial, trivial⟩ ?_
      refine sr_brd (fun h2 => ?_) (fun h2 => ?_)
      · refine sr_many 2 (t := (12, [some (.inr (.inr (20, 0))), some (.inl m), some (.inl ch), some (.inl a), some (.inl ((nI k) + 1))], [], μ)) rfl ⟨trivial, trivial, trivial⟩ ?_
        try simp only [hck] at h1 h2
        try simp only [hck]
        simp only [f_MO_needsOf, if_neg h1, if_pos h2, nI_succ] at w
        exact w
      · refine sr_many 8 (t := (12, [some (.inr (.inr (20, 0))), some (.inl m), some (.inl ch), some (.inl (a ||| ((1 : Int32) <<< ((nI k) &&& 31)))), some (.inl ((nI k) + 1))], [], μ)) rfl ⟨trivial, trivial, trivial, trivial, trivial, trivial, trivial, trivial, trivial⟩ ?_
        try simp only [hck] at h1 h2
        try simp only [hck]
        simp only [f_MO_needsOf, if_neg h1, if_neg h2, nI_succ] at w
        exact w
  · skip
    refine sr_many 4 (t := (bif decide ((μ.1 20 0 0) ≤ (nI ((μ.1 20 0 0).toNatClampNeg))) then 61 else 21, [some (.inr (.inr (20, 0))), some (.inl m), some (.inl ch), some (.inl (sr_it (f_MO_needsOf μ m ch) ((μ.1 24 0 m.toNatClampNeg) &&& ch) ((μ.1 20 0 0).toNatClampNeg))), some (.inl (nI ((μ.1 20 0 0).toNatClampNeg)))], [], μ)) rfl ⟨trivial, trivial, (show 0 < 1 by decide), trivial, trivial⟩ ?_
    refine sr_brd (fun _ => ?_) (fun h => absurd (by exact sr_cnt_le q2) h)
    refine sr_many 1 (t := (62, [some (.inr (.inr (20, 0))), some (.inl m), some (.inl ch), some (.inl (sr_it (f_MO_needsOf μ m ch) ((μ.1 24 0 m.toNatClampNeg) &&& ch) ((μ.1 20 0 0).toNatClampNeg))), some (.inl (nI ((μ.1 20 0 0).toNatClampNeg)))], [.inl (sr_it (f_MO_needsOf μ m ch) ((μ.1 24 0 m.toNatClampNeg) &&& ch) ((μ.1 20 0 0).toNatClampNeg))], μ)) rfl ⟨trivial, trivial⟩ ?_
    exact sr_ret rfl rfl rfl trivial rfl
def v_MO_edges (μ : sr_M) (m : Int32) : Int32 := if (v_MO_isMethod μ m) = 0 then 0 else (if ¬ (((v_MO_selected μ) >>> (m &&& 31)) &&& (1 : Int32)) = 1 then 0 else (v_MO_needsOf μ m (v_MO_selected μ)))
def q_MO_edges (μ : sr_M) (m : Int32) : Prop := sr_cnt (μ.1 20 0 0) 16 ∧ sr_cnt (μ.1 32 0 0) 12 ∧ sr_cnt (μ.1 32 0 1) 12
def p_MO_edges : sr_F := fun vs μ => match vs with
  | [.inr (.inr (20, 0)), .inl m] => some (q_MO_edges μ m, some (.inl (v_MO_edges μ m)), μ)
  | _ => none
def e_MO_edges : sr_E := (sr_SM, sr_KS, (fun _ => none, fun _ => none, fun _ => none, fun _ => none, fun k => ([(110, 11, 1, p_MO_isMethod), (160, 11, 0, p_MO_selected), (164, 11, 2, p_MO_needsOf)] : List (Nat × Nat × Nat × sr_F)).lookup k), sr_cd cd_MO_edges, some .int)
set_option maxRecDepth 10000 in
theorem a_MO_edges (μ : sr_M) (m : Int32) (hq : q_MO_edges μ m) : sr_AW e_MO_edges (fun r => r = (some (.inl (v_MO_edges μ m)), μ)) (sr_entry 3 [.inr (.inr (20, 0)), .inl m] μ) := by
  have hq0 := hq
  obtain ⟨q1, q2, q3⟩ : sr_cnt (μ.1 20 0 0) 16 ∧ sr_cnt (μ.1 32 0 0) 12 ∧ sr_cnt (μ.1 32 0 1) 12 := hq
  refine sr_many 7 (t := (bif decide ((v_MO_isMethod μ m) = 0) then 31 else 13, [some (.inr (.inr (20, 0))), some (.inl m), some (.inl (v_MO_selected μ))], [], μ)) rfl ⟨trivial, ⟨(show 0 < 1 by decide), ⟨(show sr_cnt (μ.1 20 0 0) 16 by assumption), (show sr_cnt (μ.1 32 0 0) 12 by assumption), (show sr_cnt (μ.1 32 0 1) 12 by assumption)⟩⟩, trivial, trivial, trivial, ⟨(show 0 < 1 by decide), trivial⟩, trivial, trivial⟩ ?_
  refine sr_brd (fun h1 => ?_) (fun h1 => ?_)
  · refine sr_many 1 (t := (32, [some (.inr (.inr (20, 0))), some (.inl m), some (.inl (v_MO_selected μ))], [.inl 0], μ)) rfl ⟨trivial, trivial⟩ ?_
    exact sr_ret rfl rfl rfl trivial (by simp only [v_MO_edges, if_pos h1])
  · refine sr_many 7 (t := (bif decide (¬ (((v_MO_selected μ) >>> (m &&& 31)) &&& (1 : Int32)) = 1) then 31 else 22, [some (.inr (.inr (20, 0))), some (.inl m), some (.inl (v_MO_selected μ))], [], μ)) rfl ⟨trivial, trivial, trivial, trivial, trivial, trivial, trivial, trivial⟩ ?_
    refine sr_brd (fun h2 => ?_) (fun h2 => ?_)
    · refine sr_many 1 (t := (32, [some (.inr (.inr (20, 0))), some (.inl m), some (.inl (v_MO_selected μ))], [.inl 0], μ)) rfl ⟨trivial, trivial⟩ ?_
      exact sr_ret rfl rfl rfl trivial (by simp only [v_MO_edges, if_neg h1, if_pos h2])
    · refine sr_many 5 (t := (32, [some (.inr (.inr (20, 0))), some (.inl m), some (.inl (v_MO_selected μ))], [.inl (v_MO_needsOf μ m (v_MO_selected μ))], μ)) rfl ⟨trivial, trivial, trivial, ⟨(show 0 < 1 by decide), ⟨(show sr_in m 16 from sr_mhas q1 h1), (show sr_cnt (μ.1 20 0 0) 16 by assumption)⟩⟩, trivial, trivial⟩ ?_
      exact sr_ret rfl rfl rfl trivial (by simp only [v_MO_edges, if_neg h1, if_neg h2])
