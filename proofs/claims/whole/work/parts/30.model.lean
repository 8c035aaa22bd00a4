/-! the reference: pictures and runs -/
theorem sr_is9 {m : Int32} (h : sr_in m 16) (t : Nat) (ht : t < 9) : sr_in ((9 : Int32) * m + nI t) 144 := by
  obtain ⟨k, hk, rfl⟩ := vp_in_of h (by decide)
  show sr_in (nI 9 * nI k + nI t) 144
  rw [pk_mul, nI_add]
  exact sr_inN 144 (by omega) (by decide)
theorem sr_is4 {m : Int32} (h : sr_in m 16) (t : Nat) (ht : t < 4) : sr_in ((4 : Int32) * m + nI t) 64 := by
  obtain ⟨k, hk, rfl⟩ := vp_in_of h (by decide)
  show sr_in (nI 4 * nI k + nI t) 64
  rw [pk_mul, nI_add]
  exact sr_inN 64 (by omega) (by decide)
theorem sr_min {x : Int32} {lo : Int32} {hi : Int32} (n : Nat) (hn : n < 2 ^ 31) (hlo : lo = 0) (hh : hi.toInt < n) (h : ¬ v_MO_in x lo hi = 0) : sr_in x n := by
  unfold v_MO_in at h
  subst hlo
  (repeat' split at h)
  all_goals first | exact absurd rfl h | skip
  rename_i h1 h2
  refine vp_in_iff.mpr ⟨?_, ?_⟩
  · simp only [Int32.lt_iff_toInt_lt] at h1
    have : (0 : Int32).toInt = 0 := rfl
    omega
  · simp only [Int32.lt_iff_toInt_lt, Int32.le_iff_toInt_le] at h2
    omega
theorem sr_mhas {μ : sr_M} {m : Int32} (q : sr_cnt (μ.1 20 0 0) 16) (h : ¬ v_MO_isMethod μ m = 0) : sr_in m 16 := by
  unfold v_MO_isMethod at h
  refine sr_min 16 (by decide) rfl ?_ h
  have h2 := q.2
  rw [q.1]
  by_cases e : (μ.1 20 0 0).toNatClampNeg = 0
  · rw [e]; decide
  · have : nI (μ.1 20 0 0).toNatClampNeg - 1 = nI ((μ.1 20 0 0).toNatClampNeg - 1) := by
      have h3 : (μ.1 20 0 0).toNatClampNeg = (μ.1 20 0 0).toNatClampNeg - 1 + 1 := by omega
      conv => lhs; rw [h3]
      exact nI_pred _
    rw [this, nI_toInt (by omega)]
    omega
def v_MO_needs (μ : sr_M) (m : Int32) (n : Int32) : Int32 := if ¬ (μ.1 20 0 23) = 0 then 0 else (if (v_MO_isMethod μ m) = 0 then 0 else (if (v_MO_isMethod μ n) = 0 then 0 else (if ¬ (((μ.1 24 0 m.toNatClampNeg) >>> (n &&& 31)) &&& (1 : Int32)) = 1 then 1 else 0)))
def m_MO_needs (μ : sr_M) (m : Int32) (n : Int32) : sr_M := if ¬ (μ.1 20 0 23) = 0 then μ else (if (v_MO_isMethod μ m) = 0 then μ else (if (v_MO_isMethod μ n) = 0 then μ else (if ¬ (((μ.1 24 0 m.toNatClampNeg) >>> (n &&& 31)) &&& (1 : Int32)) = 1 then (sr_seti μ 24 0 m.toNatClampNeg ((μ.1 24 0 m.toNatClampNeg) ||| ((1 : Int32) <<< (n &&& 31)))) else μ)))
def q_MO_needs (μ : sr_M) (m : Int32) (n : Int32) : Prop := sr_cnt (μ.1 20 0 0) 16
def p_MO_needs : sr_F := fun vs μ => match vs with
  | [.inr (.inr (20, 0)), .inl m, .inl n] => some (q_MO_needs μ m n, some (.inl (v_MO_needs μ m n)), m_MO_needs μ m n)
  | _ => none
def e_MO_needs : sr_E := (sr_SM, sr_KS, (fun k => ([(20, 10, 4), (103, 10, 23)] : List (Nat × Nat × Nat)).lookup k, fun _ => none, fun _ => none, fun _ => none, fun k => ([(110, 11, 1, p_MO_isMethod)] : List (Nat × Nat × Nat × sr_F)).lookup k), sr_cd cd_MO_needs, some .boolean)
theorem b_MO_needs (μ : sr_M) (m : Int32) (n : Int32) : v_MO_needs μ m n = 0 ∨ v_MO_needs μ m n = 1 := by
  unfold v_MO_needs
  repeat' split
  all_goals first | exact Or.inl rfl | exact Or.inr rfl | exact Or.inl rfl
set_option maxRecDepth 10000 in
theorem a_MO_needs (μ : sr_M) (m : Int32) (n : Int32) (hq : q_MO_needs μ m n) : sr_AW e_MO_needs (fun r => r = (some (.inl (v_MO_needs μ m n)), m_MO_needs μ m n)) (sr_entry 3 [.inr (.inr (20, 0)), .inl m, .inl n] μ) := by
  have q1 : sr_cnt (μ.1 20 0 0) 16 := hq
  refine sr_many 3 (t := (bif decide (¬ (μ.1 20 0 23) = 0) then 37 else 7, [some (.inr (.inr (20, 0))), some (.inl m), some (.inl n)], [], μ)) rfl ⟨trivial, (show 0 < 1 by decide), trivial, trivial⟩ ?_
  refine sr_brd (fun h1 => ?_) (fun h1 => ?_)
  · refine sr_many 1 (t := (38, [some (.inr (.inr (20, 0))), some (.inl m), some (.inl n)], [.inl 0], μ)) rfl ⟨trivial, trivial⟩ ?_
    exact sr_ret rfl rfl rfl (Or.inl rfl) (by simp only [v_MO_needs, m_MO_needs, if_pos h1])
  · refine sr_many 4 (t := (bif decide ((v_MO_isMethod μ m) = 0) then 37 else 15, [some (.inr (.inr (20, 0))), some (.inl m), some (.inl n)], [], μ)) rfl ⟨trivial, trivial, ⟨(show 0 < 1 by decide), trivial⟩, trivial, trivial⟩ ?_
    refine sr_brd (fun h2 => ?_) (fun h2 => ?_)
    · refine sr_many 1 (t := (38, [some (.inr (.inr (20, 0))), some (.inl m), some (.inl n)], [.inl 0], μ)) rfl ⟨trivial, trivial⟩ ?_
      exact sr_ret rfl rfl rfl (Or.inl rfl) (by simp only [v_MO_needs, m_MO_needs, if_neg h1, if_pos h2])
    · refine sr_many 4 (t := (bif decide ((v_MO_isMethod μ n) = 0) then 37 else 23, [some (.inr (.inr (20, 0))), some (.inl m), some (.inl n)], [], μ)) rfl ⟨trivial, trivial, ⟨(show 0 < 1 by decide), trivial⟩, trivial, trivial⟩ ?_
      refine sr_brd (fun h3 => ?_) (fun h3 => ?_)
      · refine sr_many 1 (t := (38, [some (.inr (.inr (20, 0))), some (.inl m), some (.inl n)], [.inl 0], μ)) rfl ⟨trivial, trivial⟩ ?_
        exact sr_ret rfl rfl rfl (Or.inl rfl) (by simp only [v_MO_needs, m_MO_needs, if_neg h1, if_neg h2, if_pos h3])
      · refine sr_many 10 (t := (bif decide (¬ (((μ.1 24 0 m.toNatClampNeg) >>> (n &&& 31)) &&& (1 : Int32)) = 1) then 39 else 37, [some (.inr (.inr (20, 0))), some (.inl m), some (.inl n)], [], μ)) rfl ⟨trivial, (show 0 < 1 by decide), trivial, ⟨(show 0 < 1 by decide), (show sr_in m 16 by first | assumption | exact sr_mhas q1 h2 | exact sr_in_lt (sr_mhas q1 h2) | exact sr_mhas q1 h3 | exact sr_in_lt (sr_mhas q1 h3))⟩, trivial, trivial, trivial, trivial, trivial, trivial, trivial⟩ ?_
        refine sr_brd (fun h4 => ?_) (fun h4 => ?_)
        · refine sr_many 13 (t := (56, [some (.inr (.inr (20, 0))), some (.inl m), some (.inl n)], [.inl 1], (sr_seti μ 24 0 m.toNatClampNeg ((μ.1 24 0 m.toNatClampNeg) ||| ((1 : Int32) <<< (n &&& 31)))))) rfl ⟨trivial, (show 0 < 1 by decide), trivial, trivial, (show 0 < 1 by decide), trivial, ⟨(show 0 < 1 by decide), (show sr_in m 16 by first | assumption | exact sr_mhas q1 h2 | exact sr_in_lt (sr_mhas q1 h2) | exact sr_mhas q1 h3 | exact sr_in_lt (sr_mhas q1 h3))⟩, trivial, trivial, trivial, trivial, ⟨(show 0 < 1 by decide), (show sr_in m 16 by first | assumption | exact sr_mhas q1 h2 | exact sr_in_lt (sr_mhas q1 h2) | exact sr_mhas q1 h3 | exact sr_in_lt (sr_mhas q1 h3))⟩, trivial, trivial⟩ ?_
          exact sr_ret rfl rfl rfl (Or.inr rfl) (by simp only [v_MO_needs, m_MO_needs, if_neg h1, if_neg h2, if_neg h3, if_pos h4])
        · refine sr_many 1 (t := (38, [some (.inr (.inr (20, 0))), some (.inl m), some (.inl n)], [.inl 0], μ)) rfl ⟨trivial, trivial⟩ ?_
          exact sr_ret rfl rfl rfl (Or.inl rfl) (by simp only [v_MO_needs, m_MO_needs, if_neg h1, if_neg h2, if_neg h3, if_neg h4])
def v_MO_needsGroup (μ : sr_M) (m : Int32) (g : Int32) : Int32 := if ¬ (μ.1 20 0 23) = 0 then 0 else (if (v_MO_isMethod μ m) = 0 then 0 else (if (v_MO_in g 0 5) = 0 then 0 else (if ¬ (((μ.1 25 0 m.toNatClampNeg) >>> (g &&& 31)) &&& (1 : Int32)) = 1 then 1 else 0)))
def m_MO_needsGroup (μ : sr_M) (m : Int32) (g : Int32) : sr_M := if ¬ (μ.1 20 0 23) = 0 then μ else (if (v_MO_isMethod μ m) = 0 then μ else (if (v_MO_in g 0 5) = 0 then μ else (if ¬ (((μ.1 25 0 m.toNatClampNeg) >>> (g &&& 31)) &&& (1 : Int32)) = 1 then (sr_seti μ 25 0 m.toNatClampNeg ((μ.1 25 0 m.toNatClampNeg) ||| ((1 : Int32) <<< (g &&& 31)))) else μ)))
def q_MO_needsGroup (μ : sr_M) (m : Int32) (g : Int32) : Prop := sr_cnt (μ.1 20 0 0) 16
def p_MO_needsGroup : sr_F := fun vs μ => match vs with
  | [.inr (.inr (20, 0)), .inl m, .inl g] => some (q_MO_needsGroup μ m g, some (.inl (v_MO_needsGroup μ m g)), m_MO_needsGroup μ m g)
  | _ => none
def e_MO_needsGroup : sr_E := (sr_SM, sr_KS, (fun k => ([(23, 10, 5), (103, 10, 23)] : List (Nat × Nat × Nat)).lookup k, fun _ => none, fun _ => none, fun _ => none, fun k => ([(95, 0, 3, p_MO_in), (110, 11, 1, p_MO_isMethod)] : List (Nat × Nat × Nat × sr_F)).lookup k), sr_cd cd_MO_needsGroup, some .boolean)
theorem b_MO_needsGroup (μ : sr_M) (m : Int32) (g : Int32) : v_MO_needsGroup μ m g = 0 ∨ v_MO_needsGroup μ m g = 1 := by
  unfold v_MO_needsGroup
  repeat' split
  all_goals first | exact Or.inl rfl | exact Or.inr rfl | exact Or.inl rfl
set_option maxRecDepth 10000 in
theorem a_MO_needsGroup (μ : sr_M) (m : Int32) (g : Int32) (hq : q_MO_needsGroup μ m g) : sr_AW e_MO_needsGroup (fun r => r = (some (.inl (v_MO_needsGroup μ m g)), m_MO_needsGroup μ m g)) (sr_entry 3 [.inr (.inr (20, 0)), .inl m, .inl g] μ) := by
  have q1 : sr_cnt (μ.1 20 0 0) 16 := hq
  refine sr_many 3 (t := (bif decide (¬ (μ.1 20 0 23) = 0) then 38 else 7, [some (.inr (.inr (20, 0))), some (.inl m), some (.inl g)], [], μ)) rfl ⟨trivial, (show 0 < 1 by decide), trivial, trivial⟩ ?_
  refine sr_brd (fun h1 => ?_) (fun h1 => ?_)
  · refine sr_many 1 (t := (39, [some (.inr (.inr (20, 0))), some (.inl m), some (.inl g)], [.inl 0], μ)) rfl ⟨trivial, trivial⟩ ?_
    exact sr_ret rfl rfl rfl (Or.inl rfl) (by simp only [v_MO_needsGroup, m_MO_needsGroup, if_pos h1])
  · refine sr_many 4 (t := (bif decide ((v_MO_isMethod μ m) = 0) then 38 else 15, [some (.inr (.inr (20, 0))), some (.inl m), some (.inl g)], [], μ)) rfl ⟨trivial, trivial, ⟨(show 0 < 1 by decide), trivial⟩, trivial, trivial⟩ ?_
    refine sr_brd (fun h2 => ?_) (fun h2 => ?_)
    · refine sr_many 1 (t := (39, [some (.inr (.inr (20, 0))), some (.inl m), some (.inl g)], [.inl 0], μ)) rfl ⟨trivial, trivial⟩ ?_
      exact sr_ret rfl rfl rfl (Or.inl rfl) (by simp only [v_MO_needsGroup, m_MO_needsGroup, if_neg h1, if_pos h2])
    · refine sr_many 5 (t := (bif decide ((v_MO_in g 0 5) = 0) then 38 else 24, [some (.inr (.inr (20, 0))), some (.inl m), some (.inl g)], [], μ)) rfl ⟨trivial, trivial, trivial, trivial, trivial, trivial⟩ ?_
      refine sr_brd (fun h3 => ?_) (fun h3 => ?_)
      · refine sr_many 1 (t := (39, [some (.inr (.inr (20, 0))), some (.inl m), some (.inl g)], [.inl 0], μ)) rfl ⟨trivial, trivial⟩ ?_
        exact sr_ret rfl rfl rfl (Or.inl rfl) (by simp only [v_MO_needsGroup, m_MO_needsGroup, if_neg h1, if_neg h2, if_pos h3])
      · refine sr_many 10 (t := (bif decide (¬ (((μ.1 25 0 m.toNatClampNeg) >>> (g &&& 31)) &&& (1 : Int32)) = 1) then 40 else 38, [some (.inr (.inr (20, 0))), some (.inl m), some (.inl g)], [], μ)) rfl ⟨trivial, (show 0 < 1 by decide), trivial, ⟨(show 0 < 1 by decide), (show sr_in m 16 by first | assumption | exact sr_mhas q1 h2 | exact sr_in_lt (sr_mhas q1 h2) | exact sr_mhas q1 h3 | exact sr_in_lt (sr_mhas q1 h3))⟩, trivial, trivial, trivial, trivial, trivial, trivial, trivial⟩ ?_
        refine sr_brd (fun h4 => ?_) (fun h4 => ?_)
        · refine sr_many 13 (t := (57, [some (.inr (.inr (20, 0))), some (.inl m), some (.inl g)], [.inl 1], (sr_seti μ 25 0 m.toNatClampNeg ((μ.1 25 0 m.toNatClampNeg) ||| ((1 : Int32) <<< (g &&& 31)))))) rfl ⟨trivial, (show 0 < 1 by decide), trivial, trivial, (show 0 < 1 by decide), trivial, ⟨(show 0 < 1 by decide), (show sr_in m 16 by first | assumption | exact sr_mhas q1 h2 | exact sr_in_lt (sr_mhas q1 h2) | exact sr_mhas q1 h3 | exact sr_in_lt (sr_mhas q1 h3))⟩, trivial, trivial, trivial, trivial, ⟨(show 0 < 1 by decide), (show sr_in m 16 by first | assumption | exact sr_mhas q1 h2 | exact sr_in_lt (sr_mhas q1 h2) | exact sr_mhas q1 h3 | exact sr_in_lt (sr_mhas q1 h3))⟩, trivial, trivial⟩ ?_
          exact sr_ret rfl rfl rfl (Or.inr rfl) (by simp only [v_MO_needsGroup, m_MO_needsGroup, if_neg h1, if_neg h2, if_neg h3, if_pos h4])
        · refine sr_many 1 (t := (39, [some (.inr (.inr (20, 0))), some (.inl m), some (.inl g)], [.inl 0], μ)) rfl ⟨trivial, trivial⟩ ?_
          exact sr_ret rfl rfl rfl (Or.inl rfl) (by simp only [v_MO_needsGroup, m_MO_needsGroup, if_neg h1, if_neg h2, if_neg h3, if_neg h4])
def v_MO_provider (μ : sr_M) (p : Int32) (n : Int32) : Int32 := if ¬ (μ.1 20 0 23) = 0 then 0 else (if (v_MO_in p 0 3) = 0 then 0 else (if ¬ (v_MO_in n (-1) 4) = 0 then 1 else 0))
def m_MO_provider (μ : sr_M) (p : Int32) (n : Int32) : sr_M := if ¬ (μ.1 20 0 23) = 0 then μ else (if (v_MO_in p 0 3) = 0 then μ else (if ¬ (v_MO_in n (-1) 4) = 0 then (sr_seti μ 26 0 p.toNatClampNeg n) else μ))
def p_MO_provider : sr_F := fun vs μ => match vs with
  | [.inr (.inr (20, 0)), .inl p, .inl n] => some (True, some (.inl (v_MO_provider μ p n)), m_MO_provider μ p n)
  | _ => none
def e_MO_provider : sr_E := (sr_SM, sr_KS, (fun k => ([(26, 10, 6), (103, 10, 23)] : List (Nat × Nat × Nat)).lookup k, fun _ => none, fun _ => none, fun _ => none, fun k => ([(95, 0, 3, p_MO_in)] : List (Nat × Nat × Nat × sr_F)).lookup k), sr_cd cd_MO_provider, some .boolean)
theorem b_MO_provider (μ : sr_M) (p : Int32) (n : Int32) : v_MO_provider μ p n = 0 ∨ v_MO_provider μ p n = 1 := by
  unfold v_MO_provider
  repeat' split
  all_goals first | exact Or.inl rfl | exact Or.inr rfl | exact Or.inl rfl
set_option maxRecDepth 10000 in
theorem a_MO_provider (μ : sr_M) (p : Int32) (n : Int32) : sr_AW e_MO_provider (fun r => r = (some (.inl (v_MO_provider μ p n)), m_MO_provider μ p n)) (sr_entry 3 [.inr (.inr (20, 0)), .inl p, .inl n] μ) := by
  refine sr_many 3 (t := (bif decide (¬ (μ.1 20 0 23) = 0) then 25 else 7, [some (.inr (.inr (20, 0))), some (.inl p), some (.inl n)], [], μ)) rfl ⟨trivial, (show 0 < 1 by decide), trivial, trivial⟩ ?_
  refine sr_brd (fun h1 => ?_) (fun h1 => ?_)
  · refine sr_many 1 (t := (26, [some (.inr (.inr (20, 0))), some (.inl p), some (.inl n)], [.inl 0], μ)) rfl ⟨trivial, trivial⟩ ?_
    exact sr_ret rfl rfl rfl (Or.inl rfl) (by simp only [v_MO_provider, m_MO_provider, if_pos h1])
  · refine sr_many 5 (t := (bif decide ((v_MO_in p 0 3) = 0) then 25 else 16, [some (.inr (.inr (20, 0))), some (.inl p), some (.inl n)], [], μ)) rfl ⟨trivial, trivial, trivial, trivial, trivial, trivial⟩ ?_
    refine sr_brd (fun h2 => ?_) (fun h2 => ?_)
    · refine sr_many 1 (t := (26, [some (.inr (.inr (20, 0))), some (.inl p), some (.inl n)], [.inl 0], μ)) rfl ⟨trivial, trivial⟩ ?_
      exact sr_ret rfl rfl rfl (Or.inl rfl) (by simp only [v_MO_provider, m_MO_provider, if_neg h1, if_pos h2])
    · refine sr_many 5 (t := (bif decide (¬ (v_MO_in n (-1) 4) = 0) then 27 else 25, [some (.inr (.inr (20, 0))), some (.inl p), some (.inl n)], [], μ)) rfl ⟨trivial, trivial, trivial, trivial, trivial, trivial⟩ ?_
      refine sr_brd (fun h3 => ?_) (fun h3 => ?_)
      · refine sr_many 6 (t := (35, [some (.inr (.inr (20, 0))), some (.inl p), some (.inl n)], [.inl 1], (sr_seti μ 26 0 p.toNatClampNeg n))) rfl ⟨trivial, (show 0 < 1 by decide), trivial, trivial, ⟨(show 0 < 1 by decide), (show sr_in p 4 by exact sr_min 4 (by decide) rfl (by decide) h2)⟩, trivial, trivial⟩ ?_
        exact sr_ret rfl rfl rfl (Or.inr rfl) (by simp only [v_MO_provider, m_MO_provider, if_neg h1, if_neg h2, if_pos h3])
      · refine sr_many 1 (t := (26, [some (.inr (.inr (20, 0))), some (.inl p), some (.inl n)], [.inl 0], μ)) rfl ⟨trivial, trivial⟩ ?_
        exact sr_ret rfl rfl rfl (Or.inl rfl) (by simp only [v_MO_provider, m_MO_provider, if_neg h1, if_neg h2, if_neg h3])
def v_MO_options (μ : sr_M) (wk : Int32) (bc : Int32) (sk : Int32) (pg : Int32) (ig : Int32) : Int32 := if ¬ (μ.1 20 0 23) = 0 then 0 else (if ¬ (v_MO_in wk 1 3) = 0 then 1 else 0)
def m_MO_options (μ : sr_M) (wk : Int32) (bc : Int32) (sk : Int32) (pg : Int32) (ig : Int32) : sr_M := if ¬ (μ.1 20 0 23) = 0 then μ else (if ¬ (v_MO_in wk 1 3) = 0 then (sr_seti (sr_seti (sr_seti (sr_seti (sr_seti μ 20 0 18 wk) 20 0 19 bc) 20 0 20 sk) 20 0 21 pg) 20 0 22 ig) else μ)
def q_MO_options (μ : sr_M) (wk : Int32) (bc : Int32) (sk : Int32) (pg : Int32) (ig : Int32) : Prop := (bc = 0 ∨ bc = 1) ∧ (sk = 0 ∨ sk = 1) ∧ (pg = 0 ∨ pg = 1) ∧ (ig = 0 ∨ ig = 1)
def p_MO_options : sr_F := fun vs μ => match vs with
  | [.inr (.inr (20, 0)), .inl wk, .inl bc, .inl sk, .inl pg, .inl ig] => some (q_MO_options μ wk bc sk pg ig, some (.inl (v_MO_options μ wk bc sk pg ig)), m_MO_options μ wk bc sk pg ig)
  | _ => none
def e_MO_options : sr_E := (sr_SM, sr_KS, (fun k => ([(52, 10, 18), (55, 10, 20), (103, 10, 23), (130, 10, 19), (133, 10, 21), (136, 10, 22)] : List (Nat × Nat × Nat)).lookup k, fun _ => none, fun _ => none, fun _ => none, fun k => ([(95, 0, 3, p_MO_in)] : List (Nat × Nat × Nat × sr_F)).lookup k), sr_cd cd_MO_options, some .boolean)
theorem b_MO_options (μ : sr_M) (wk : Int32) (bc : Int32) (sk : Int32) (pg : Int32) (ig : Int32) : v_MO_options μ wk bc sk pg ig = 0 ∨ v_MO_options μ wk bc sk pg ig = 1 := by
  unfold v_MO_options
  repeat' split
  all_goals first | exact Or.inl rfl | exact Or.inr rfl | exact Or.inl rfl
set_option maxRecDepth 10000 in
theorem a_MO_options (μ : sr_M) (wk : Int32) (bc : Int32) (sk : Int32) (pg : Int32) (ig : Int32) (hq : q_MO_options μ wk bc sk pg ig) : sr_AW e_MO_options (fun r => r = (some (.inl (v_MO_options μ wk bc sk pg ig)), m_MO_options μ wk bc sk pg ig)) (sr_entry 6 [.inr (.inr (20, 0)), .inl wk, .inl bc, .inl sk, .inl pg, .inl ig] μ) := by
  have hq0 := hq
  obtain ⟨q1, q2, q3, q4⟩ : (bc = 0 ∨ bc = 1) ∧ (sk = 0 ∨ sk = 1) ∧ (pg = 0 ∨ pg = 1) ∧ (ig = 0 ∨ ig = 1) := hq
  refine sr_many 3 (t := (bif decide (¬ (μ.1 20 0 23) = 0) then 16 else 7, [some (.inr (.inr (20, 0))), some (.inl wk), some (.inl bc), some (.inl sk), some (.inl pg), some (.inl ig)], [], μ)) rfl ⟨trivial, (show 0 < 1 by decide), trivial, trivial⟩ ?_
  refine sr_brd (fun h1 => ?_) (fun h1 => ?_)
  · refine sr_many 1 (t := (17, [some (.inr (.inr (20, 0))), some (.inl wk), some (.inl bc), some (.inl sk), some (.inl pg), some (.inl ig)], [.inl 0], μ)) rfl ⟨trivial, trivial⟩ ?_
    exact sr_ret rfl rfl rfl (Or.inl rfl) (by simp only [v_MO_options, m_MO_options, if_pos h1])
  · refine sr_many 5 (t := (bif decide (¬ (v_MO_in wk 1 3) = 0) then 18 else 16, [some (.inr (.inr (20, 0))), some (.inl wk), some (.inl bc), some (.inl sk), some (.inl pg), some (.inl ig)], [], μ)) rfl ⟨trivial, trivial, trivial, trivial, trivial, trivial⟩ ?_
    refine sr_brd (fun h2 => ?_) (fun h2 => ?_)
    · refine sr_many 16 (t := (46, [some (.inr (.inr (20, 0))), some (.inl wk), some (.inl bc), some (.inl sk), some (.inl pg), some (.inl ig)], [.inl 1], (sr_seti (sr_seti (sr_seti (sr_seti (sr_seti μ 20 0 18 wk) 20 0 19 bc) 20 0 20 sk) 20 0 21 pg) 20 0 22 ig))) rfl ⟨trivial, trivial, (show 0 < 1 by decide), trivial, trivial, ⟨(show 0 < 1 by decide), (show bc = 0 ∨ bc = 1 by assumption)⟩, trivial, trivial, ⟨(show 0 < 1 by decide), (show sk = 0 ∨ sk = 1 by assumption)⟩, trivial, trivial, ⟨(show 0 < 1 by decide), (show pg = 0 ∨ pg = 1 by assumption)⟩, trivial, trivial, ⟨(show 0 < 1 by decide), (show ig = 0 ∨ ig = 1 by assumption)⟩, trivial, trivial⟩ ?_
      exact sr_ret rfl rfl rfl (Or.inr rfl) (by simp only [v_MO_options, m_MO_options, if_neg h1, if_pos h2])
    · refine sr_many 1 (t := (17, [some (.inr (.inr (20, 0))), some (.inl wk), some (.inl bc), some (.inl sk), some (.inl pg), some (.inl ig)], [.inl 0], μ)) rfl ⟨trivial, trivial⟩ ?_
      exact sr_ret rfl rfl rfl (Or.inl rfl) (by simp only [v_MO_options, m_MO_options, if_neg h1, if_neg h2])

