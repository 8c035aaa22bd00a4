/-! pictures and runs: methods without loops -/
def sr_K50 (j : Nat) : Int32 := ([0, 0, 0, 1, -1, 1, 0, 100, 0] : List Int32).getD j 0
def sr_K51 (j : Nat) : Int32 := ([-9, 0, 0, 1, -1, 1, 0, 1, -2147483648] : List Int32).getD j 0
def sr_K52 (j : Nat) : Int32 := ([9, 63, 1, 4, 3, 9, 3, 100, 2147483647] : List Int32).getD j 0
def sr_KS : sr_K := fun g => match g with
  | 50 => some (9, sr_K50)
  | 51 => some (9, sr_K51)
  | 52 => some (9, sr_K52)
  | _ => none
def v_SR_isWithin (a1 : Int32) (a2 : Int32) : Int32 := if a1 < 0 then 0 else (if a2 ≤ a1 then 0 else 1)
def p_SR_isWithin : sr_F := fun vs μ => match vs with
  | [.inl a1, .inl a2] => some (True, some (.inl (v_SR_isWithin a1 a2)), μ)
  | _ => none
def e_SR_isWithin : sr_E := (sr_SC, sr_KS, (fun _ => none, fun _ => none, fun _ => none, fun _ => none, fun _ => none), sr_cd cd_SR_isWithin, some .boolean)
theorem b_SR_isWithin (a1 : Int32) (a2 : Int32) : v_SR_isWithin a1 a2 = 0 ∨ v_SR_isWithin a1 a2 = 1 := by
  unfold v_SR_isWithin
  repeat' split
  all_goals first | exact Or.inl rfl | exact Or.inr rfl | exact Or.inl rfl
set_option maxRecDepth 10000 in
theorem a_SR_isWithin (μ : sr_M) (a1 : Int32) (a2 : Int32) : sr_AW e_SR_isWithin (fun r => r = (some (.inl (v_SR_isWithin a1 a2)), μ)) (sr_entry 2 [.inl a1, .inl a2] μ) := by
  refine sr_many 2 (t := (bif decide (a1 < 0) then 13 else 4, [some (.inl a1), some (.inl a2)], [], μ)) rfl ⟨trivial, trivial, trivial⟩ ?_
  refine sr_brd (fun h1 => ?_) (fun h1 => ?_)
  · refine sr_many 1 (t := (14, [some (.inl a1), some (.inl a2)], [.inl 0], μ)) rfl ⟨trivial, trivial⟩ ?_
    exact sr_ret rfl rfl rfl (Or.inl rfl) (by simp only [v_SR_isWithin, if_pos h1])
  · refine sr_many 3 (t := (bif decide (a2 ≤ a1) then 13 else 9, [some (.inl a1), some (.inl a2)], [], μ)) rfl ⟨trivial, trivial, trivial, trivial⟩ ?_
    refine sr_brd (fun h2 => ?_) (fun h2 => ?_)
    · refine sr_many 1 (t := (14, [some (.inl a1), some (.inl a2)], [.inl 0], μ)) rfl ⟨trivial, trivial⟩ ?_
      exact sr_ret rfl rfl rfl (Or.inl rfl) (by simp only [v_SR_isWithin, if_neg h1, if_pos h2])
    · refine sr_many 2 (t := (14, [some (.inl a1), some (.inl a2)], [.inl 1], μ)) rfl ⟨trivial, trivial, trivial⟩ ?_
      exact sr_ret rfl rfl rfl (Or.inr rfl) (by simp only [v_SR_isWithin, if_neg h1, if_neg h2])
theorem sr_within_in {w : Int32} (h : ¬ v_SR_isWithin w 9 = 0) : sr_in w 9 := by
  unfold v_SR_isWithin at h
  split at h
  · exact absurd rfl h
  · rename_i h1
    split at h
    · exact absurd rfl h
    · rename_i h2
      rw [Int32.le_iff_toInt_le] at h2
      rw [Int32.lt_iff_toInt_lt] at h1
      refine vp_in_iff.mpr ⟨?_, ?_⟩
      · have : (0 : Int32).toInt = 0 := rfl
        omega
      · have : (9 : Int32).toInt = 9 := rfl
        omega
def v_SR_holds (a1 : Int32) (a2 : Int32) : Int32 := if ¬ ((a1 >>> (a2 &&& 31)) &&& (1 : Int32)) = 1 then 0 else 1
def p_SR_holds : sr_F := fun vs μ => match vs with
  | [.inl a1, .inl a2] => some (True, some (.inl (v_SR_holds a1 a2)), μ)
  | _ => none
def e_SR_holds : sr_E := (sr_SC, sr_KS, (fun _ => none, fun _ => none, fun _ => none, fun _ => none, fun _ => none), sr_cd cd_SR_holds, some .boolean)
theorem b_SR_holds (a1 : Int32) (a2 : Int32) : v_SR_holds a1 a2 = 0 ∨ v_SR_holds a1 a2 = 1 := by
  unfold v_SR_holds
  repeat' split
  all_goals first | exact Or.inl rfl | exact Or.inr rfl | exact Or.inl rfl
set_option maxRecDepth 10000 in
theorem a_SR_holds (μ : sr_M) (a1 : Int32) (a2 : Int32) : sr_AW e_SR_holds (fun r => r = (some (.inl (v_SR_holds a1 a2)), μ)) (sr_entry 2 [.inl a1, .inl a2] μ) := by
  refine sr_many 7 (t := (bif decide (¬ ((a1 >>> (a2 &&& 31)) &&& (1 : Int32)) = 1) then 13 else 9, [some (.inl a1), some (.inl a2)], [], μ)) rfl ⟨trivial, trivial, trivial, trivial, trivial, trivial, trivial, trivial⟩ ?_
  refine sr_brd (fun h1 => ?_) (fun h1 => ?_)
  · refine sr_many 1 (t := (14, [some (.inl a1), some (.inl a2)], [.inl 0], μ)) rfl ⟨trivial, trivial⟩ ?_
    exact sr_ret rfl rfl rfl (Or.inl rfl) (by simp only [v_SR_holds, if_pos h1])
  · refine sr_many 2 (t := (14, [some (.inl a1), some (.inl a2)], [.inl 1], μ)) rfl ⟨trivial, trivial, trivial⟩ ?_
    exact sr_ret rfl rfl rfl (Or.inr rfl) (by simp only [v_SR_holds, if_neg h1])
def v_TM_letterAt (nm : Int64) (k : Int32) : Int32 := (Int64.toInt32 (((Int64.toUInt64 nm) >>> ((Int32.toInt64 ((5 : Int32) * k)).toUInt64 &&& Int64.toUInt64 63)).toInt64)) &&& (31 : Int32)
def p_TM_letterAt : sr_F := fun vs μ => match vs with
  | [.inr (.inl nm), .inl k] => some (True, some (.inl (v_TM_letterAt nm k)), μ)
  | _ => none
def e_TM_letterAt : sr_E := (sr_SC, sr_KS, (fun _ => none, fun _ => none, fun _ => none, fun _ => none, fun _ => none), sr_cd cd_TM_letterAt, some .int)
set_option maxRecDepth 10000 in
theorem a_TM_letterAt (μ : sr_M) (nm : Int64) (k : Int32) : sr_AW e_TM_letterAt (fun r => r = (some (.inl (v_TM_letterAt nm k)), μ)) (sr_entry 3 [.inr (.inl nm), .inl k] μ) := by
  refine sr_many 8 (t := (9, [some (.inr (.inl nm)), none, some (.inl k)], [.inl ((Int64.toInt32 (((Int64.toUInt64 nm) >>> ((Int32.toInt64 ((5 : Int32) * k)).toUInt64 &&& Int64.toUInt64 63)).toInt64)) &&& (31 : Int32))], μ)) rfl ⟨trivial, trivial, trivial, trivial, trivial, trivial, trivial, trivial, trivial⟩ ?_
  exact sr_ret rfl rfl rfl trivial rfl
def v_TM_allows (w : Int32) (v : Int32) : Int32 := if (v_SR_isWithin w 9) = 0 then 0 else (if v < (sr_K51 w.toNatClampNeg) then 0 else (if (sr_K52 w.toNatClampNeg) < v then 0 else 1))
def p_TM_allows : sr_F := fun vs μ => match vs with
  | [.inl w, .inl v] => some (True, some (.inl (v_TM_allows w v)), μ)
  | _ => none
def e_TM_allows : sr_E := (sr_SC, sr_KS, (fun _ => none, fun _ => none, fun _ => none, fun k => ([(27, 51), (30, 52)] : List (Nat × Nat)).lookup k, fun k => ([(23, 0, 2, p_SR_isWithin)] : List (Nat × Nat × Nat × sr_F)).lookup k), sr_cd cd_TM_allows, some .boolean)
theorem b_TM_allows (w : Int32) (v : Int32) : v_TM_allows w v = 0 ∨ v_TM_allows w v = 1 := by
  unfold v_TM_allows
  repeat' split
  all_goals first | exact Or.inl rfl | exact Or.inr rfl | exact Or.inl rfl
set_option maxRecDepth 10000 in
theorem a_TM_allows (μ : sr_M) (w : Int32) (v : Int32) : sr_AW e_TM_allows (fun r => r = (some (.inl (v_TM_allows w v)), μ)) (sr_entry 2 [.inl w, .inl v] μ) := by
  refine sr_many 4 (t := (bif decide ((v_SR_isWithin w 9) = 0) then 31 else 9, [some (.inl w), some (.inl v)], [], μ)) rfl ⟨trivial, trivial, trivial, trivial, trivial⟩ ?_
  refine sr_brd (fun h1 => ?_) (fun h1 => ?_)
  · refine sr_many 1 (t := (32, [some (.inl w), some (.inl v)], [.inl 0], μ)) rfl ⟨trivial, trivial⟩ ?_
    exact sr_ret rfl rfl rfl (Or.inl rfl) (by simp only [v_TM_allows, if_pos h1])
  · refine sr_many 5 (t := (bif decide (v < (sr_K51 w.toNatClampNeg)) then 31 else 18, [some (.inl w), some (.inl v)], [], μ)) rfl ⟨trivial, trivial, trivial, ⟨rfl, (show sr_in w 9 by exact sr_within_in h1)⟩, trivial, trivial⟩ ?_
    refine sr_brd (fun h2 => ?_) (fun h2 => ?_)
    · refine sr_many 1 (t := (32, [some (.inl w), some (.inl v)], [.inl 0], μ)) rfl ⟨trivial, trivial⟩ ?_
      exact sr_ret rfl rfl rfl (Or.inl rfl) (by simp only [v_TM_allows, if_neg h1, if_pos h2])
    · refine sr_many 5 (t := (bif decide ((sr_K52 w.toNatClampNeg) < v) then 31 else 27, [some (.inl w), some (.inl v)], [], μ)) rfl ⟨trivial, trivial, trivial, ⟨rfl, (show sr_in w 9 by exact sr_within_in h1)⟩, trivial, trivial⟩ ?_
      refine sr_brd (fun h3 => ?_) (fun h3 => ?_)
      · refine sr_many 1 (t := (32, [some (.inl w), some (.inl v)], [.inl 0], μ)) rfl ⟨trivial, trivial⟩ ?_
        exact sr_ret rfl rfl rfl (Or.inl rfl) (by simp only [v_TM_allows, if_neg h1, if_neg h2, if_pos h3])
      · refine sr_many 2 (t := (32, [some (.inl w), some (.inl v)], [.inl 1], μ)) rfl ⟨trivial, trivial, trivial⟩ ?_
        exact sr_ret rfl rfl rfl (Or.inr rfl) (by simp only [v_TM_allows, if_neg h1, if_neg h2, if_neg h3])
def v_CF_isOf (μ : sr_M) (i : Nat) (lev : Int32) (bef : Int32) (cls : Int32) : Int32 := if ¬ (μ.1 6 i 0) = lev then 0 else (if ¬ (μ.1 6 i 1) = bef then 0 else (if (μ.1 6 i 0) = 0 then 1 else (if ¬ (μ.1 6 i 2) = cls then 0 else 1)))
def q_CF_isOf (μ : sr_M) (i : Nat) (lev : Int32) (bef : Int32) (cls : Int32) : Prop := i < 8
def p_CF_isOf : sr_F := fun vs μ => match vs with
  | [.inr (.inr (6, i)), .inl lev, .inl bef, .inl cls] => some (q_CF_isOf μ i lev bef cls, some (.inl (v_CF_isOf μ i lev bef cls)), μ)
  | _ => none
def e_CF_isOf : sr_E := (sr_SC, sr_KS, (fun k => ([(9, 4, 0), (15, 4, 1), (19, 4, 2)] : List (Nat × Nat × Nat)).lookup k, fun _ => none, fun _ => none, fun _ => none, fun _ => none), sr_cd cd_CF_isOf, some .boolean)
theorem b_CF_isOf (μ : sr_M) (i : Nat) (lev : Int32) (bef : Int32) (cls : Int32) : v_CF_isOf μ i lev bef cls = 0 ∨ v_CF_isOf μ i lev bef cls = 1 := by
  unfold v_CF_isOf
  repeat' split
  all_goals first | exact Or.inl rfl | exact Or.inr rfl | exact Or.inl rfl
set_option maxRecDepth 10000 in
theorem a_CF_isOf (μ : sr_M) (i : Nat) (lev : Int32) (bef : Int32) (cls : Int32) (hq : q_CF_isOf μ i lev bef cls) : sr_AW e_CF_isOf (fun r => r = (some (.inl (v_CF_isOf μ i lev bef cls)), μ)) (sr_entry 4 [.inr (.inr (6, i)), .inl lev, .inl bef, .inl cls] μ) := by
  have q1 : i < 8 := hq
  refine sr_many 4 (t := (bif decide (¬ (μ.1 6 i 0) = lev) then 35 else 8, [some (.inr (.inr (6, i))), some (.inl lev), some (.inl bef), some (.inl cls)], [], μ)) rfl ⟨trivial, (show i < 8 by assumption), trivial, trivial, trivial⟩ ?_
  refine sr_brd (fun h1 => ?_) (fun h1 => ?_)
  · refine sr_many 1 (t := (36, [some (.inr (.inr (6, i))), some (.inl lev), some (.inl bef), some (.inl cls)], [.inl 0], μ)) rfl ⟨trivial, trivial⟩ ?_
    exact sr_ret rfl rfl rfl (Or.inl rfl) (by simp only [v_CF_isOf, if_pos h1])
  · refine sr_many 4 (t := (bif decide (¬ (μ.1 6 i 1) = bef) then 35 else 16, [some (.inr (.inr (6, i))), some (.inl lev), some (.inl bef), some (.inl cls)], [], μ)) rfl ⟨trivial, (show i < 8 by assumption), trivial, trivial, trivial⟩ ?_
    refine sr_brd (fun h2 => ?_) (fun h2 => ?_)
    · refine sr_many 1 (t := (36, [some (.inr (.inr (6, i))), some (.inl lev), some (.inl bef), some (.inl cls)], [.inl 0], μ)) rfl ⟨trivial, trivial⟩ ?_
      exact sr_ret rfl rfl rfl (Or.inl rfl) (by simp only [v_CF_isOf, if_neg h1, if_pos h2])
    · refine sr_many 3 (t := (bif decide ((μ.1 6 i 0) = 0) then 31 else 23, [some (.inr (.inr (6, i))), some (.inl lev), some (.inl bef), some (.inl cls)], [], μ)) rfl ⟨trivial, (show i < 8 by assumption), trivial, trivial⟩ ?_
      refine sr_brd (fun h3 => ?_) (fun h3 => ?_)
      · refine sr_many 2 (t := (36, [some (.inr (.inr (6, i))), some (.inl lev), some (.inl bef), some (.inl cls)], [.inl 1], μ)) rfl ⟨trivial, trivial, trivial⟩ ?_
        exact sr_ret rfl rfl rfl (Or.inr rfl) (by simp only [v_CF_isOf, if_neg h1, if_neg h2, if_pos h3])
      · refine sr_many 4 (t := (bif decide (¬ (μ.1 6 i 2) = cls) then 35 else 31, [some (.inr (.inr (6, i))), some (.inl lev), some (.inl bef), some (.inl cls)], [], μ)) rfl ⟨trivial, (show i < 8 by assumption), trivial, trivial, trivial⟩ ?_
        refine sr_brd (fun h4 => ?_) (fun h4 => ?_)
        · refine sr_many 1 (t := (36, [some (.inr (.inr (6, i))), some (.inl lev), some (.inl bef), some (.inl cls)], [.inl 0], μ)) rfl ⟨trivial, trivial⟩ ?_
          exact sr_ret rfl rfl rfl (Or.inl rfl) (by simp only [v_CF_isOf, if_neg h1, if_neg h2, if_neg h3, if_pos h4])
        · refine sr_many 2 (t := (36, [some (.inr (.inr (6, i))), some (.inl lev), some (.inl bef), some (.inl cls)], [.inl 1], μ)) rfl ⟨trivial, trivial, trivial⟩ ?_
          exact sr_ret rfl rfl rfl (Or.inr rfl) (by simp only [v_CF_isOf, if_neg h1, if_neg h2, if_neg h3, if_neg h4])
def v_CF_failsNow (μ : sr_M) (i : Nat) : Int32 := if ¬ (((μ.1 6 i 3) >>> (((μ.1 6 i 4) - (μ.1 6 i 4) / (30 : Int32) * (30 : Int32)) &&& 31)) &&& (1 : Int32)) = 1 then 0 else 1
def m_CF_failsNow (μ : sr_M) (i : Nat) : sr_M := (sr_seti μ 6 i 4 ((μ.1 6 i 4) + (1 : Int32)))
def q_CF_failsNow (μ : sr_M) (i : Nat) : Prop := i < 8
def p_CF_failsNow : sr_F := fun vs μ => match vs with
  | [.inr (.inr (6, i))] => some (q_CF_failsNow μ i, some (.inl (v_CF_failsNow μ i)), m_CF_failsNow μ i)
  | _ => none
def e_CF_failsNow : sr_E := (sr_SC, sr_KS, (fun k => ([(22, 4, 3), (25, 4, 4)] : List (Nat × Nat × Nat)).lookup k, fun _ => none, fun _ => none, fun _ => none, fun _ => none), sr_cd cd_CF_failsNow, some .boolean)
theorem b_CF_failsNow (μ : sr_M) (i : Nat) : v_CF_failsNow μ i = 0 ∨ v_CF_failsNow μ i = 1 := by
  unfold v_CF_failsNow
  repeat' split
  all_goals first | exact Or.inl rfl | exact Or.inr rfl | exact Or.inl rfl
set_option maxRecDepth 10000 in
theorem a_CF_failsNow (μ : sr_M) (i : Nat) (hq : q_CF_failsNow μ i) : sr_AW e_CF_failsNow (fun r => r = (some (.inl (v_CF_failsNow μ i)), m_CF_failsNow μ i)) (sr_entry 2 [.inr (.inr (6, i))] μ) := by
  have q1 : i < 8 := hq
  refine sr_many 11 (t := (bif decide (¬ (((μ.1 6 i 3) >>> (((μ.1 6 i 4) - (μ.1 6 i 4) / (30 : Int32) * (30 : Int32)) &&& 31)) &&& (1 : Int32)) = 1) then 22 else 18, [some (.inr (.inr (6, i))), none], [], μ)) rfl ⟨trivial, (show i < 8 by assumption), trivial, (show i < 8 by assumption), trivial, (show ¬ (30 : Int32) = 0 by decide), trivial, trivial, trivial, trivial, trivial, trivial⟩ ?_
  refine sr_brd (fun h1 => ?_) (fun h1 => ?_)
  · refine sr_many 9 (t := (35, [some (.inr (.inr (6, i))), some (.inl 0)], [.inl 0], (sr_seti μ 6 i 4 ((μ.1 6 i 4) + (1 : Int32))))) rfl ⟨trivial, trivial, trivial, trivial, (show i < 8 by assumption), trivial, trivial, (show i < 8 by assumption), trivial, trivial⟩ ?_
    exact sr_ret rfl rfl rfl (Or.inl rfl) (by simp only [v_CF_failsNow, m_CF_failsNow, if_pos h1])
  · refine sr_many 10 (t := (35, [some (.inr (.inr (6, i))), some (.inl 1)], [.inl 1], (sr_seti μ 6 i 4 ((μ.1 6 i 4) + (1 : Int32))))) rfl ⟨trivial, trivial, trivial, trivial, trivial, (show i < 8 by assumption), trivial, trivial, (show i < 8 by assumption), trivial, trivial⟩ ?_
    exact sr_ret rfl rfl rfl (Or.inr rfl) (by simp only [v_CF_failsNow, m_CF_failsNow, if_neg h1])
def m_LG_clear (μ : sr_M)  : sr_M := (sr_seti μ 11 0 1 0)
def p_LG_clear : sr_F := fun vs μ => match vs with
  | [.inr (.inr (11, 0))] => some (True, none, m_LG_clear μ)
  | _ => none
def e_LG_clear : sr_E := (sr_SC, sr_KS, (fun k => ([(15, 6, 1)] : List (Nat × Nat × Nat)).lookup k, fun _ => none, fun _ => none, fun _ => none, fun _ => none), sr_cd cd_LG_clear, none)
set_option maxRecDepth 10000 in
theorem a_LG_clear (μ : sr_M)  : sr_AW e_LG_clear (fun r => r = (none, m_LG_clear μ)) (sr_entry 1 [.inr (.inr (11, 0))] μ) := by
  refine sr_many 3 (t := (5, [some (.inr (.inr (11, 0)))], [], (sr_seti μ 11 0 1 0))) rfl ⟨trivial, trivial, (show 0 < 1 by decide), trivial⟩ ?_
  exact sr_ret rfl rfl rfl trivial rfl
def m_LG_add (μ : sr_M) (kind : Int32) (num : Int32) (res : Int32) (tim : Int32) : sr_M := (sr_seti (sr_seti μ 12 0 (((μ.1 11 0 1) - (μ.1 11 0 1) / (64 : Int32) * (64 : Int32)).toNatClampNeg) (((kind + ((8 : Int32) * num)) + ((128 : Int32) * res)) + ((2048 : Int32) * tim))) 11 0 1 ((μ.1 11 0 1) + (1 : Int32)))
def q_LG_add (μ : sr_M) (kind : Int32) (num : Int32) (res : Int32) (tim : Int32) : Prop := sr_in (μ.1 11 0 1 - μ.1 11 0 1 / (64 : Int32) * (64 : Int32)) 64
def p_LG_add : sr_F := fun vs μ => match vs with
  | [.inr (.inr (11, 0)), .inl kind, .inl num, .inl res, .inl tim] => some (q_LG_add μ kind num res tim, none, m_LG_add μ kind num res tim)
  | _ => none
def e_LG_add : sr_E := (sr_SC, sr_KS, (fun k => ([(11, 6, 0), (15, 6, 1)] : List (Nat × Nat × Nat)).lookup k, fun _ => none, fun _ => none, fun _ => none, fun _ => none), sr_cd cd_LG_add, none)
set_option maxRecDepth 10000 in
theorem a_LG_add (μ : sr_M) (kind : Int32) (num : Int32) (res : Int32) (tim : Int32) (hq : q_LG_add μ kind num res tim) : sr_AW e_LG_add (fun r => r = (none, m_LG_add μ kind num res tim)) (sr_entry 5 [.inr (.inr (11, 0)), .inl kind, .inl num, .inl res, .inl tim] μ) := by
  have q1 : sr_in (μ.1 11 0 1 - μ.1 11 0 1 / (64 : Int32) * (64 : Int32)) 64 := hq
  refine sr_many 26 (t := (41, [some (.inr (.inr (11, 0))), some (.inl kind), some (.inl num), some (.inl res), some (.inl tim)], [], (sr_seti (sr_seti μ 12 0 (((μ.1 11 0 1) - (μ.1 11 0 1) / (64 : Int32) * (64 : Int32)).toNatClampNeg) (((kind + ((8 : Int32) * num)) + ((128 : Int32) * res)) + ((2048 : Int32) * tim))) 11 0 1 ((μ.1 11 0 1) + (1 : Int32))))) rfl ⟨trivial, (show 0 < 1 by decide), trivial, (show 0 < 1 by decide), trivial, (show ¬ (64 : Int32) = 0 by decide), trivial, trivial, trivial, trivial, trivial, trivial, trivial, trivial, trivial, trivial, trivial, trivial, trivial, ⟨(show 0 < 1 by decide), (show sr_in ((μ.1 11 0 1) - (μ.1 11 0 1) / (64 : Int32) * (64 : Int32)) 64 by assumption)⟩, trivial, trivial, (show 0 < 1 by decide), trivial, trivial, (show 0 < 1 by decide), trivial⟩ ?_
  exact sr_ret rfl rfl rfl trivial rfl
def m_PT_clear (μ : sr_M) (i : Nat) : sr_M := (sr_seti μ 18 i 1 0)
def q_PT_clear (μ : sr_M) (i : Nat) : Prop := i < 2
def p_PT_clear : sr_F := fun vs μ => match vs with
  | [.inr (.inr (18, i))] => some (q_PT_clear μ i, none, m_PT_clear μ i)
  | _ => none
def e_PT_clear : sr_E := (sr_SC, sr_KS, (fun k => ([(13, 9, 1)] : List (Nat × Nat × Nat)).lookup k, fun _ => none, fun _ => none, fun _ => none, fun _ => none), sr_cd cd_PT_clear, none)
set_option maxRecDepth 10000 in
theorem a_PT_clear (μ : sr_M) (i : Nat) (hq : q_PT_clear μ i) : sr_AW e_PT_clear (fun r => r = (none, m_PT_clear μ i)) (sr_entry 1 [.inr (.inr (18, i))] μ) := by
  have q1 : i < 2 := hq
  refine sr_many 3 (t := (5, [some (.inr (.inr (18, i)))], [], (sr_seti μ 18 i 1 0))) rfl ⟨trivial, trivial, (show i < 2 by assumption), trivial⟩ ?_
  exact sr_ret rfl rfl rfl trivial rfl
def v_PT_isEmpty (μ : sr_M) (i : Nat) : Int32 := if ¬ (μ.1 18 i 1) = 0 then 0 else 1
def q_PT_isEmpty (μ : sr_M) (i : Nat) : Prop := i < 2
def p_PT_isEmpty : sr_F := fun vs μ => match vs with
  | [.inr (.inr (18, i))] => some (q_PT_isEmpty μ i, some (.inl (v_PT_isEmpty μ i)), μ)
  | _ => none
def e_PT_isEmpty : sr_E := (sr_SC, sr_KS, (fun k => ([(13, 9, 1)] : List (Nat × Nat × Nat)).lookup k, fun _ => none, fun _ => none, fun _ => none, fun _ => none), sr_cd cd_PT_isEmpty, some .boolean)
theorem b_PT_isEmpty (μ : sr_M) (i : Nat) : v_PT_isEmpty μ i = 0 ∨ v_PT_isEmpty μ i = 1 := by
  unfold v_PT_isEmpty
  repeat' split
  all_goals first | exact Or.inl rfl | exact Or.inr rfl | exact Or.inl rfl
set_option maxRecDepth 10000 in
theorem a_PT_isEmpty (μ : sr_M) (i : Nat) (hq : q_PT_isEmpty μ i) : sr_AW e_PT_isEmpty (fun r => r = (some (.inl (v_PT_isEmpty μ i)), μ)) (sr_entry 1 [.inr (.inr (18, i))] μ) := by
  have q1 : i < 2 := hq
  refine sr_many 3 (t := (bif decide (¬ (μ.1 18 i 1) = 0) then 11 else 7, [some (.inr (.inr (18, i)))], [], μ)) rfl ⟨trivial, (show i < 2 by assumption), trivial, trivial⟩ ?_
  refine sr_brd (fun h1 => ?_) (fun h1 => ?_)
  · refine sr_many 1 (t := (12, [some (.inr (.inr (18, i)))], [.inl 0], μ)) rfl ⟨trivial, trivial⟩ ?_
    exact sr_ret rfl rfl rfl (Or.inl rfl) (by simp only [v_PT_isEmpty, if_pos h1])
  · refine sr_many 2 (t := (12, [some (.inr (.inr (18, i)))], [.inl 1], μ)) rfl ⟨trivial, trivial, trivial⟩ ?_
    exact sr_ret rfl rfl rfl (Or.inr rfl) (by simp only [v_PT_isEmpty, if_neg h1])
def m_PR_enter (μ : sr_M) (i : Nat) (dur : Int32) : sr_M := (sr_seti (sr_seti μ 13 i 5 dur) 13 i 9 (((sr_seti μ 13 i 5 dur).1 13 i 9) + (1 : Int32)))
def q_PR_enter (μ : sr_M) (i : Nat) (dur : Int32) : Prop := i < 16
def p_PR_enter : sr_F := fun vs μ => match vs with
  | [.inr (.inr (13, i)), .inl dur] => some (q_PR_enter μ i dur, none, m_PR_enter μ i dur)
  | _ => none
def e_PR_enter : sr_E := (sr_SC, sr_KS, (fun k => ([(27, 7, 5), (39, 7, 9)] : List (Nat × Nat × Nat)).lookup k, fun _ => none, fun _ => none, fun _ => none, fun _ => none), sr_cd cd_PR_enter, none)
set_option maxRecDepth 10000 in
theorem a_PR_enter (μ : sr_M) (i : Nat) (dur : Int32) (hq : q_PR_enter μ i dur) : sr_AW e_PR_enter (fun r => r = (none, m_PR_enter μ i dur)) (sr_entry 2 [.inr (.inr (13, i)), .inl dur] μ) := by
  have q1 : i < 16 := hq
  refine sr_many 9 (t := (15, [some (.inr (.inr (13, i))), some (.inl dur)], [], (sr_seti (sr_seti μ 13 i 5 dur) 13 i 9 (((sr_seti μ 13 i 5 dur).1 13 i 9) + (1 : Int32))))) rfl ⟨trivial, trivial, (show i < 16 by assumption), trivial, trivial, (show i < 16 by assumption), trivial, trivial, (show i < 16 by assumption), trivial⟩ ?_
  exact sr_ret rfl rfl rfl trivial rfl
def m_PR_count (μ : sr_M) (i : Nat) (res : Int32) : sr_M := if ¬ res = 1 then (if ¬ res = 2 then (sr_seti μ 13 i 8 ((μ.1 13 i 8) + (1 : Int32))) else (sr_seti μ 13 i 7 ((μ.1 13 i 7) + (1 : Int32)))) else (sr_seti μ 13 i 6 ((μ.1 13 i 6) + (1 : Int32)))
def q_PR_count (μ : sr_M) (i : Nat) (res : Int32) : Prop := i < 16
def p_PR_count : sr_F := fun vs μ => match vs with
  | [.inr (.inr (13, i)), .inl res] => some (q_PR_count μ i res, none, m_PR_count μ i res)
  | _ => none
def e_PR_count : sr_E := (sr_SC, sr_KS, (fun k => ([(30, 7, 6), (33, 7, 7), (36, 7, 8)] : List (Nat × Nat × Nat)).lookup k, fun _ => none, fun _ => none, fun _ => none, fun _ => none), sr_cd cd_PR_count, none)
set_option maxRecDepth 10000 in
theorem a_PR_count (μ : sr_M) (i : Nat) (res : Int32) (hq : q_PR_count μ i res) : sr_AW e_PR_count (fun r => r = (none, m_PR_count μ i res)) (sr_entry 2 [.inr (.inr (13, i)), .inl res] μ) := by
  have q1 : i < 16 := hq
  refine sr_many 3 (t := (bif decide (¬ res = 1) then 18 else 5, [some (.inr (.inr (13, i))), some (.inl res)], [], μ)) rfl ⟨trivial, trivial, trivial, trivial⟩ ?_
  refine sr_brd (fun h1 => ?_) (fun h1 => ?_)
  · refine sr_many 3 (t := (bif decide (¬ res = 2) then 36 else 23, [some (.inr (.inr (13, i))), some (.inl res)], [], μ)) rfl ⟨trivial, trivial, trivial, trivial⟩ ?_
    refine sr_brd (fun h2 => ?_) (fun h2 => ?_)
    · refine sr_many 6 (t := (46, [some (.inr (.inr (13, i))), some (.inl res)], [], (sr_seti μ 13 i 8 ((μ.1 13 i 8) + (1 : Int32))))) rfl ⟨trivial, trivial, (show i < 16 by assumption), trivial, trivial, (show i < 16 by assumption), trivial⟩ ?_
      exact sr_ret rfl rfl rfl trivial (by simp only [m_PR_count, if_pos h1, if_pos h2])
    · refine sr_many 7 (t := (46, [some (.inr (.inr (13, i))), some (.inl res)], [], (sr_seti μ 13 i 7 ((μ.1 13 i 7) + (1 : Int32))))) rfl ⟨trivial, trivial, (show i < 16 by assumption), trivial, trivial, (show i < 16 by assumption), trivial, trivial⟩ ?_
      exact sr_ret rfl rfl rfl trivial (by simp only [m_PR_count, if_pos h1, if_neg h2])
  · refine sr_many 7 (t := (46, [some (.inr (.inr (13, i))), some (.inl res)], [], (sr_seti μ 13 i 6 ((μ.1 13 i 6) + (1 : Int32))))) rfl ⟨trivial, trivial, (show i < 16 by assumption), trivial, trivial, (show i < 16 by assumption), trivial, trivial⟩ ?_
    exact sr_ret rfl rfl rfl trivial (by simp only [m_PR_count, if_neg h1])
def v_PR_verdict (μ : sr_M) (i : Nat) (pct : Int32) : Int32 := if (μ.1 13 i 8) ≤ 0 then (if (μ.1 13 i 7) ≤ 0 then 3 else (if (pct * ((μ.1 13 i 6) + (μ.1 13 i 7))) ≤ ((100 : Int32) * (μ.1 13 i 6)) then 3 else 4)) else (if ¬ ((μ.1 13 i 6) + (μ.1 13 i 7)) = 0 then (if (μ.1 13 i 7) ≤ 0 then 3 else (if (pct * ((μ.1 13 i 6) + (μ.1 13 i 7))) ≤ ((100 : Int32) * (μ.1 13 i 6)) then 3 else 4)) else 5)
def q_PR_verdict (μ : sr_M) (i : Nat) (pct : Int32) : Prop := i < 16
def p_PR_verdict : sr_F := fun vs μ => match vs with
  | [.inr (.inr (13, i)), .inl pct] => some (q_PR_verdict μ i pct, some (.inl (v_PR_verdict μ i pct)), μ)
  | _ => none
def e_PR_verdict : sr_E := (sr_SC, sr_KS, (fun k => ([(30, 7, 6), (33, 7, 7), (36, 7, 8)] : List (Nat × Nat × Nat)).lookup k, fun _ => none, fun _ => none, fun _ => none, fun _ => none), sr_cd cd_PR_verdict, some .int)
set_option maxRecDepth 10000 in
theorem a_PR_verdict (μ : sr_M) (i : Nat) (pct : Int32) (hq : q_PR_verdict μ i pct) : sr_AW e_PR_verdict (fun r => r = (some (.inl (v_PR_verdict μ i pct)), μ)) (sr_entry 3 [.inr (.inr (13, i)), .inl pct] μ) := by
  have q1 : i < 16 := hq
  refine sr_many 9 (t := (bif decide ((μ.1 13 i 8) ≤ 0) then 23 else 17, [some (.inr (.inr (13, i))), some (.inl pct), some (.inl ((μ.1 13 i 6) + (μ.1 13 i 7)))], [], μ)) rfl ⟨trivial, (show i < 16 by assumption), trivial, (show i < 16 by assumption), trivial, trivial, trivial, (show i < 16 by assumption), trivial, trivial⟩ ?_
  refine sr_brd (fun h1 => ?_) (fun h1 => ?_)
  · refine sr_many 3 (t := (bif decide ((μ.1 13 i 7) ≤ 0) then 47 else 30, [some (.inr (.inr (13, i))), some (.inl pct), some (.inl ((μ.1 13 i 6) + (μ.1 13 i 7)))], [], μ)) rfl ⟨trivial, (show i < 16 by assumption), trivial, trivial⟩ ?_
    refine sr_brd (fun h2 => ?_) (fun h2 => ?_)
    · refine sr_many 1 (t := (48, [some (.inr (.inr (13, i))), some (.inl pct), some (.inl ((μ.1 13 i 6) + (μ.1 13 i 7)))], [.inl 3], μ)) rfl ⟨trivial, trivial⟩ ?_
      exact sr_ret rfl rfl rfl trivial (by simp only [v_PR_verdict, if_pos h1, if_pos h2])
    · refine sr_many 8 (t := (bif decide ((pct * ((μ.1 13 i 6) + (μ.1 13 i 7))) ≤ ((100 : Int32) * (μ.1 13 i 6))) then 47 else 43, [some (.inr (.inr (13, i))), some (.inl pct), some (.inl ((μ.1 13 i 6) + (μ.1 13 i 7)))], [], μ)) rfl ⟨trivial, trivial, (show i < 16 by assumption), trivial, trivial, trivial, trivial, trivial, trivial⟩ ?_
      refine sr_brd (fun h3 => ?_) (fun h3 => ?_)
      · refine sr_many 1 (t := (48, [some (.inr (.inr (13, i))), some (.inl pct), some (.inl ((μ.1 13 i 6) + (μ.1 13 i 7)))], [.inl 3], μ)) rfl ⟨trivial, trivial⟩ ?_
        exact sr_ret rfl rfl rfl trivial (by simp only [v_PR_verdict, if_pos h1, if_neg h2, if_pos h3])
      · refine sr_many 2 (t := (48, [some (.inr (.inr (13, i))), some (.inl pct), some (.inl ((μ.1 13 i 6) + (μ.1 13 i 7)))], [.inl 4], μ)) rfl ⟨trivial, trivial, trivial⟩ ?_
        exact sr_ret rfl rfl rfl trivial (by simp only [v_PR_verdict, if_pos h1, if_neg h2, if_neg h3])
  · refine sr_many 2 (t := (bif decide (¬ ((μ.1 13 i 6) + (μ.1 13 i 7)) = 0) then 23 else 21, [some (.inr (.inr (13, i))), some (.inl pct), some (.inl ((μ.1 13 i 6) + (μ.1 13 i 7)))], [], μ)) rfl ⟨trivial, trivial, trivial⟩ ?_
    refine sr_brd (fun h2 => ?_) (fun h2 => ?_)
    · refine sr_many 3 (t := (bif decide ((μ.1 13 i 7) ≤ 0) then 47 else 30, [some (.inr (.inr (13, i))), some (.inl pct), some (.inl ((μ.1 13 i 6) + (μ.1 13 i 7)))], [], μ)) rfl ⟨trivial, (show i < 16 by assumption), trivial, trivial⟩ ?_
      refine sr_brd (fun h3 => ?_) (fun h3 => ?_)
      · refine sr_many 1 (t := (48, [some (.inr (.inr (13, i))), some (.inl pct), some (.inl ((μ.1 13 i 6) + (μ.1 13 i 7)))], [.inl 3], μ)) rfl ⟨trivial, trivial⟩ ?_
        exact sr_ret rfl rfl rfl trivial (by simp only [v_PR_verdict, if_neg h1, if_pos h2, if_pos h3])
      · refine sr_many 8 (t := (bif decide ((pct * ((μ.1 13 i 6) + (μ.1 13 i 7))) ≤ ((100 : Int32) * (μ.1 13 i 6))) then 47 else 43, [some (.inr (.inr (13, i))), some (.inl pct), some (.inl ((μ.1 13 i 6) + (μ.1 13 i 7)))], [], μ)) rfl ⟨trivial, trivial, (show i < 16 by assumption), trivial, trivial, trivial, trivial, trivial, trivial⟩ ?_
        refine sr_brd (fun h4 => ?_) (fun h4 => ?_)
        · refine sr_many 1 (t := (48, [some (.inr (.inr (13, i))), some (.inl pct), some (.inl ((μ.1 13 i 6) + (μ.1 13 i 7)))], [.inl 3], μ)) rfl ⟨trivial, trivial⟩ ?_
          exact sr_ret rfl rfl rfl trivial (by simp only [v_PR_verdict, if_neg h1, if_pos h2, if_neg h3, if_pos h4])
        · refine sr_many 2 (t := (48, [some (.inr (.inr (13, i))), some (.inl pct), some (.inl ((μ.1 13 i 6) + (μ.1 13 i 7)))], [.inl 4], μ)) rfl ⟨trivial, trivial, trivial⟩ ?_
          exact sr_ret rfl rfl rfl trivial (by simp only [v_PR_verdict, if_neg h1, if_pos h2, if_neg h3, if_neg h4])
    · refine sr_many 1 (t := (22, [some (.inr (.inr (13, i))), some (.inl pct), some (.inl ((μ.1 13 i 6) + (μ.1 13 i 7)))], [.inl 5], μ)) rfl ⟨trivial, trivial⟩ ?_
      exact sr_ret rfl rfl rfl trivial (by simp only [v_PR_verdict, if_neg h1, if_neg h2])
def m_PR_reset (μ : sr_M) (i : Nat) (fst : Int32) : sr_M := (sr_seti (sr_seti (sr_seti (sr_seti (sr_seti (sr_seti (sr_seti (sr_seti (sr_seti (sr_seti μ 13 i 0 fst) 13 i 1 (-1)) 13 i 2 (-1)) 13 i 3 0) 13 i 4 0) 13 i 5 0) 13 i 6 0) 13 i 7 0) 13 i 8 0) 13 i 9 0)
def q_PR_reset (μ : sr_M) (i : Nat) (fst : Int32) : Prop := i < 16
def p_PR_reset : sr_F := fun vs μ => match vs with
  | [.inr (.inr (13, i)), .inl fst] => some (q_PR_reset μ i fst, none, m_PR_reset μ i fst)
  | _ => none
def e_PR_reset : sr_E := (sr_SC, sr_KS, (fun k => ([(9, 7, 1), (15, 7, 2), (18, 7, 0), (21, 7, 3), (24, 7, 4), (27, 7, 5), (30, 7, 6), (33, 7, 7), (36, 7, 8), (39, 7, 9)] : List (Nat × Nat × Nat)).lookup k, fun _ => none, fun _ => none, fun _ => none, fun _ => none), sr_cd cd_PR_reset, none)
set_option maxRecDepth 10000 in
theorem a_PR_reset (μ : sr_M) (i : Nat) (fst : Int32) (hq : q_PR_reset μ i fst) : sr_AW e_PR_reset (fun r => r = (none, m_PR_reset μ i fst)) (sr_entry 2 [.inr (.inr (13, i)), .inl fst] μ) := by
  have q1 : i < 16 := hq
  refine sr_many 30 (t := (50, [some (.inr (.inr (13, i))), some (.inl fst)], [], (sr_seti (sr_seti (sr_seti (sr_seti (sr_seti (sr_seti (sr_seti (sr_seti (sr_seti (sr_seti μ 13 i 0 fst) 13 i 1 (-1)) 13 i 2 (-1)) 13 i 3 0) 13 i 4 0) 13 i 5 0) 13 i 6 0) 13 i 7 0) 13 i 8 0) 13 i 9 0))) rfl ⟨trivial, trivial, (show i < 16 by assumption), trivial, trivial, (show i < 16 by assumption), trivial, trivial, (show i < 16 by assumption), trivial, trivial, (show i < 16 by assumption), trivial, trivial, (show i < 16 by assumption), trivial, trivial, (show i < 16 by assumption), trivial, trivial, (show i < 16 by assumption), trivial, trivial, (show i < 16 by assumption), trivial, trivial, (show i < 16 by assumption), trivial, trivial, (show i < 16 by assumption), trivial⟩ ?_
  exact sr_ret rfl rfl rfl trivial rfl
def v_RN_placeOf (lev : Int32) (cls : Int32) : Int32 := if ¬ lev = 0 then ((1 : Int32) <<< (cls &&& 31)) else 16
def p_RN_placeOf : sr_F := fun vs μ => match vs with
  | [.inl lev, .inl cls] => some (True, some (.inl (v_RN_placeOf lev cls)), μ)
  | _ => none
def e_RN_placeOf : sr_E := (sr_SC, sr_KS, (fun _ => none, fun _ => none, fun _ => none, fun _ => none, fun _ => none), sr_cd cd_RN_placeOf, some .int)
set_option maxRecDepth 10000 in
theorem a_RN_placeOf (μ : sr_M) (lev : Int32) (cls : Int32) : sr_AW e_RN_placeOf (fun r => r = (some (.inl (v_RN_placeOf lev cls)), μ)) (sr_entry 2 [.inl lev, .inl cls] μ) := by
  refine sr_many 2 (t := (bif decide (¬ lev = 0) then 9 else 4, [some (.inl lev), some (.inl cls)], [], μ)) rfl ⟨trivial, trivial, trivial⟩ ?_
  refine sr_brd (fun h1 => ?_) (fun h1 => ?_)
  · refine sr_many 3 (t := (12, [some (.inl lev), some (.inl cls)], [.inl ((1 : Int32) <<< (cls &&& 31))], μ)) rfl ⟨trivial, trivial, trivial, trivial⟩ ?_
    exact sr_ret rfl rfl rfl trivial (by simp only [v_RN_placeOf, if_pos h1])
  · refine sr_many 2 (t := (12, [some (.inl lev), some (.inl cls)], [.inl 16], μ)) rfl ⟨trivial, trivial, trivial⟩ ?_
    exact sr_ret rfl rfl rfl trivial (by simp only [v_RN_placeOf, if_neg h1])
def v_CT_hasMethod (μ : sr_M) (m : Int32) : Int32 := v_SR_isWithin m (μ.1 2 0 1)
def p_CT_hasMethod : sr_F := fun vs μ => match vs with
  | [.inr (.inr (2, 0)), .inl m] => some (True, some (.inl (v_CT_hasMethod μ m)), μ)
  | _ => none
def e_CT_hasMethod : sr_E := (sr_SC, sr_KS, (fun k => ([(32, 2, 1)] : List (Nat × Nat × Nat)).lookup k, fun _ => none, fun _ => none, fun _ => none, fun k => ([(36, 0, 2, p_SR_isWithin)] : List (Nat × Nat × Nat × sr_F)).lookup k), sr_cd cd_CT_hasMethod, some .boolean)
theorem b_CT_hasMethod (μ : sr_M) (m : Int32) : v_CT_hasMethod μ m = 0 ∨ v_CT_hasMethod μ m = 1 := by
  unfold v_CT_hasMethod
  repeat' split
  all_goals first | exact Or.inl rfl | exact Or.inr rfl | exact (b_SR_isWithin _ _)
set_option maxRecDepth 10000 in
theorem a_CT_hasMethod (μ : sr_M) (m : Int32) : sr_AW e_CT_hasMethod (fun r => r = (some (.inl (v_CT_hasMethod μ m)), μ)) (sr_entry 2 [.inr (.inr (2, 0)), .inl m] μ) := by
  refine sr_many 4 (t := (8, [some (.inr (.inr (2, 0))), some (.inl m)], [.inl (v_SR_isWithin m (μ.1 2 0 1))], μ)) rfl ⟨trivial, trivial, (show 0 < 1 by decide), trivial, trivial⟩ ?_
  exact sr_ret rfl rfl rfl (b_SR_isWithin _ _) rfl
def v_RN_isBlocked (μ : sr_M) (cls : Int32) : Int32 := if (μ.1 10 0 2) = 0 then 0 else (if ((μ.1 1 0 13) &&& ((16 : Int32) ||| ((1 : Int32) <<< (cls &&& 31)))) = 0 then 0 else 1)
def p_RN_isBlocked : sr_F := fun vs μ => match vs with
  | [.inr (.inr (1, 0)), .inl cls] => some (True, some (.inl (v_RN_isBlocked μ cls)), μ)
  | _ => none
def e_RN_isBlocked : sr_E := (sr_SC, sr_KS, (fun k => ([(21, 1, 1), (66, 1, 13), (209, 5, 2)] : List (Nat × Nat × Nat)).lookup k, fun _ => none, fun _ => none, fun _ => none, fun _ => none), sr_cd cd_RN_isBlocked, some .boolean)
theorem b_RN_isBlocked (μ : sr_M) (cls : Int32) : v_RN_isBlocked μ cls = 0 ∨ v_RN_isBlocked μ cls = 1 := by
  unfold v_RN_isBlocked
  repeat' split
  all_goals first | exact Or.inl rfl | exact Or.inr rfl | exact Or.inl rfl
set_option maxRecDepth 10000 in
theorem a_RN_isBlocked (μ : sr_M) (cls : Int32) : sr_AW e_RN_isBlocked (fun r => r = (some (.inl (v_RN_isBlocked μ cls)), μ)) (sr_entry 2 [.inr (.inr (1, 0)), .inl cls] μ) := by
  refine sr_many 4 (t := (bif decide ((μ.1 10 0 2) = 0) then 28 else 10, [some (.inr (.inr (1, 0))), some (.inl cls)], [], μ)) rfl ⟨trivial, (show 0 < 1 by decide), (show 0 < 1 by decide), trivial, trivial⟩ ?_
  refine sr_brd (fun h1 => ?_) (fun h1 => ?_)
  · refine sr_many 1 (t := (29, [some (.inr (.inr (1, 0))), some (.inl cls)], [.inl 0], μ)) rfl ⟨trivial, trivial⟩ ?_
    exact sr_ret rfl rfl rfl (Or.inl rfl) (by simp only [v_RN_isBlocked, if_pos h1])
  · refine sr_many 9 (t := (bif decide (((μ.1 1 0 13) &&& ((16 : Int32) ||| ((1 : Int32) <<< (cls &&& 31)))) = 0) then 28 else 24, [some (.inr (.inr (1, 0))), some (.inl cls)], [], μ)) rfl ⟨trivial, (show 0 < 1 by decide), trivial, trivial, trivial, trivial, trivial, trivial, trivial, trivial⟩ ?_
    refine sr_brd (fun h2 => ?_) (fun h2 => ?_)
    · refine sr_many 1 (t := (29, [some (.inr (.inr (1, 0))), some (.inl cls)], [.inl 0], μ)) rfl ⟨trivial, trivial⟩ ?_
      exact sr_ret rfl rfl rfl (Or.inl rfl) (by simp only [v_RN_isBlocked, if_neg h1, if_pos h2])
    · refine sr_many 2 (t := (29, [some (.inr (.inr (1, 0))), some (.inl cls)], [.inl 1], μ)) rfl ⟨trivial, trivial, trivial⟩ ?_
      exact sr_ret rfl rfl rfl (Or.inr rfl) (by simp only [v_RN_isBlocked, if_neg h1, if_neg h2])
def m_SE_pick (μ : sr_M) (cl : Int32) (inc : Int32) (exc : Int32) : sr_M := (sr_seti (m_PT_clear (m_PT_clear (sr_seti (sr_seti (sr_seti μ 17 0 3 cl) 17 0 4 inc) 17 0 5 exc) 0) 1) 17 0 2 0)
def p_SE_pick : sr_F := fun vs μ => match vs with
  | [.inr (.inr (17, 0)), .inl cl, .inl inc, .inl exc] => some (True, none, m_SE_pick μ cl inc exc)
  | _ => none
def e_SE_pick : sr_E := (sr_SC, sr_KS, (fun k => ([(12, 8, 0), (18, 8, 1), (21, 8, 3), (25, 8, 4), (28, 8, 5), (34, 8, 2)] : List (Nat × Nat × Nat)).lookup k, fun _ => none, fun _ => none, fun _ => none, fun k => ([(31, 10, 0, p_PT_clear)] : List (Nat × Nat × Nat × sr_F)).lookup k), sr_cd cd_SE_pick, none)
set_option maxRecDepth 10000 in
theorem a_SE_pick (μ : sr_M) (cl : Int32) (inc : Int32) (exc : Int32) : sr_AW e_SE_pick (fun r => r = (none, m_SE_pick μ cl inc exc)) (sr_entry 4 [.inr (.inr (17, 0)), .inl cl, .inl inc, .inl exc] μ) := by
  refine sr_many 18 (t := (34, [some (.inr (.inr (17, 0))), some (.inl cl), some (.inl inc), some (.inl exc)], [], (sr_seti (m_PT_clear (m_PT_clear (sr_seti (sr_seti (sr_seti μ 17 0 3 cl) 17 0 4 inc) 17 0 5 exc) 0) 1) 17 0 2 0))) rfl ⟨trivial, trivial, (show 0 < 1 by decide), trivial, trivial, (show 0 < 1 by decide), trivial, trivial, (show 0 < 1 by decide), trivial, (show 0 < 1 by decide), ⟨(show 0 < 2 by decide), (show 0 <  2 by decide)⟩, trivial, (show 0 < 1 by decide), ⟨(show 1 < 2 by decide), (show 1 <  2 by decide)⟩, trivial, trivial, (show 0 < 1 by decide), trivial⟩ ?_
  exact sr_ret rfl rfl rfl trivial rfl
def v_SR_running (μ : sr_M)  : Int32 := μ.1 1 0 5
def q_SR_running (μ : sr_M)  : Prop := (μ.1 1 0 5 = 0 ∨ μ.1 1 0 5 = 1)
def p_SR_running : sr_F := fun vs μ => match vs with
  | [.inr (.inr (0, 0))] => some (q_SR_running μ, some (.inl (v_SR_running μ)), μ)
  | _ => none
def e_SR_running : sr_E := (sr_SC, sr_KS, (fun k => ([(10, 0, 0), (28, 1, 5)] : List (Nat × Nat × Nat)).lookup k, fun _ => none, fun _ => none, fun _ => none, fun _ => none), sr_cd cd_SR_running, some .boolean)
set_option maxRecDepth 10000 in
theorem a_SR_running (μ : sr_M)  (hq : q_SR_running μ) : sr_AW e_SR_running (fun r => r = (some (.inl (v_SR_running μ)), μ)) (sr_entry 1 [.inr (.inr (0, 0))] μ) := by
  have q1 : μ.1 1 0 5 = 0 ∨ μ.1 1 0 5 = 1 := hq
  refine sr_many 3 (t := (7, [some (.inr (.inr (0, 0)))], [.inl (μ.1 1 0 5)], μ)) rfl ⟨trivial, (show 0 < 1 by decide), (show 0 < 1 by decide), trivial⟩ ?_
  exact sr_ret rfl rfl rfl (show μ.1 1 0 5 = 0 ∨ μ.1 1 0 5 = 1 by assumption) rfl
def v_MO_in (x : Int32) (lo : Int32) (hi : Int32) : Int32 := if x < lo then 0 else (if hi < x then 0 else 1)
def p_MO_in : sr_F := fun vs μ => match vs with
  | [.inl x, .inl lo, .inl hi] => some (True, some (.inl (v_MO_in x lo hi)), μ)
  | _ => none
def e_MO_in : sr_E := (sr_SM, sr_KS, (fun _ => none, fun _ => none, fun _ => none, fun _ => none, fun _ => none), sr_cd cd_MO_in, some .boolean)
theorem b_MO_in (x : Int32) (lo : Int32) (hi : Int32) : v_MO_in x lo hi = 0 ∨ v_MO_in x lo hi = 1 := by
  unfold v_MO_in
  repeat' split
  all_goals first | exact Or.inl rfl | exact Or.inr rfl | exact Or.inl rfl
set_option maxRecDepth 10000 in
theorem a_MO_in (μ : sr_M) (x : Int32) (lo : Int32) (hi : Int32) : sr_AW e_MO_in (fun r => r = (some (.inl (v_MO_in x lo hi)), μ)) (sr_entry 3 [.inl x, .inl lo, .inl hi] μ) := by
  refine sr_many 3 (t := (bif decide (x < lo) then 14 else 5, [some (.inl x), some (.inl lo), some (.inl hi)], [], μ)) rfl ⟨trivial, trivial, trivial, trivial⟩ ?_
  refine sr_brd (fun h1 => ?_) (fun h1 => ?_)
  · refine sr_many 1 (t := (15, [some (.inl x), some (.inl lo), some (.inl hi)], [.inl 0], μ)) rfl ⟨trivial, trivial⟩ ?_
    exact sr_ret rfl rfl rfl (Or.inl rfl) (by simp only [v_MO_in, if_pos h1])
  · refine sr_many 3 (t := (bif decide (hi < x) then 14 else 10, [some (.inl x), some (.inl lo), some (.inl hi)], [], μ)) rfl ⟨trivial, trivial, trivial, trivial⟩ ?_
    refine sr_brd (fun h2 => ?_) (fun h2 => ?_)
    · refine sr_many 1 (t := (15, [some (.inl x), some (.inl lo), some (.inl hi)], [.inl 0], μ)) rfl ⟨trivial, trivial⟩ ?_
      exact sr_ret rfl rfl rfl (Or.inl rfl) (by simp only [v_MO_in, if_neg h1, if_pos h2])
    · refine sr_many 2 (t := (15, [some (.inl x), some (.inl lo), some (.inl hi)], [.inl 1], μ)) rfl ⟨trivial, trivial, trivial⟩ ?_
      exact sr_ret rfl rfl rfl (Or.inr rfl) (by simp only [v_MO_in, if_neg h1, if_neg h2])
def v_MO_isMethod (μ : sr_M) (m : Int32) : Int32 := v_MO_in m 0 ((μ.1 20 0 0) - (1 : Int32))
def p_MO_isMethod : sr_F := fun vs μ => match vs with
  | [.inr (.inr (20, 0)), .inl m] => some (True, some (.inl (v_MO_isMethod μ m)), μ)
  | _ => none
def e_MO_isMethod : sr_E := (sr_SM, sr_KS, (fun k => ([(92, 10, 0)] : List (Nat × Nat × Nat)).lookup k, fun _ => none, fun _ => none, fun _ => none, fun k => ([(95, 0, 3, p_MO_in)] : List (Nat × Nat × Nat × sr_F)).lookup k), sr_cd cd_MO_isMethod, some .boolean)
theorem b_MO_isMethod (μ : sr_M) (m : Int32) : v_MO_isMethod μ m = 0 ∨ v_MO_isMethod μ m = 1 := by
  unfold v_MO_isMethod
  repeat' split
  all_goals first | exact Or.inl rfl | exact Or.inr rfl | exact (b_MO_in _ _ _)
set_option maxRecDepth 10000 in
theorem a_MO_isMethod (μ : sr_M) (m : Int32) : sr_AW e_MO_isMethod (fun r => r = (some (.inl (v_MO_isMethod μ m)), μ)) (sr_entry 2 [.inr (.inr (20, 0)), .inl m] μ) := by
  refine sr_many 7 (t := (11, [some (.inr (.inr (20, 0))), some (.inl m)], [.inl (v_MO_in m 0 ((μ.1 20 0 0) - (1 : Int32)))], μ)) rfl ⟨trivial, trivial, trivial, (show 0 < 1 by decide), trivial, trivial, trivial, trivial⟩ ?_
  exact sr_ret rfl rfl rfl (b_MO_in _ _ _) rfl
def v_MO_is (μ : sr_M) (m : Int32) (t : Int32) : Int32 := μ.1 23 0 ((((9 : Int32) * m) + t).toNatClampNeg)
def q_MO_is (μ : sr_M) (m : Int32) (t : Int32) : Prop := sr_in ((9 : Int32) * m + t) 144
def p_MO_is : sr_F := fun vs μ => match vs with
  | [.inr (.inr (20, 0)), .inl m, .inl t] => some (q_MO_is μ m t, some (.inl (v_MO_is μ m t)), μ)
  | _ => none
def e_MO_is : sr_E := (sr_SM, sr_KS, (fun k => ([(17, 10, 3)] : List (Nat × Nat × Nat)).lookup k, fun _ => none, fun _ => none, fun _ => none, fun _ => none), sr_cd cd_MO_is, some .int)
set_option maxRecDepth 10000 in
theorem a_MO_is (μ : sr_M) (m : Int32) (t : Int32) (hq : q_MO_is μ m t) : sr_AW e_MO_is (fun r => r = (some (.inl (v_MO_is μ m t)), μ)) (sr_entry 3 [.inr (.inr (20, 0)), .inl m, .inl t] μ) := by
  have q1 : sr_in ((9 : Int32) * m + t) 144 := hq
  refine sr_many 8 (t := (11, [some (.inr (.inr (20, 0))), some (.inl m), some (.inl t)], [.inl (μ.1 23 0 ((((9 : Int32) * m) + t).toNatClampNeg))], μ)) rfl ⟨trivial, (show 0 < 1 by decide), trivial, trivial, trivial, trivial, trivial, ⟨(show 0 < 1 by decide), (show sr_in (((9 : Int32) * m) + t) 144 by assumption)⟩, trivial⟩ ?_
  exact sr_ret rfl rfl rfl trivial rfl
def v_MO_over (μ : sr_M) (m : Int32) : Int32 := if (μ.1 33 0 m.toNatClampNeg) ≤ 2 then 0 else 1
def q_MO_over (μ : sr_M) (m : Int32) : Prop := sr_in m 16
def p_MO_over : sr_F := fun vs μ => match vs with
  | [.inr (.inr (20, 0)), .inl m] => some (q_MO_over μ m, some (.inl (v_MO_over μ m)), μ)
  | _ => none
def e_MO_over : sr_E := (sr_SM, sr_KS, (fun k => ([(59, 10, 26)] : List (Nat × Nat × Nat)).lookup k, fun _ => none, fun _ => none, fun _ => none, fun _ => none), sr_cd cd_MO_over, some .boolean)
theorem b_MO_over (μ : sr_M) (m : Int32) : v_MO_over μ m = 0 ∨ v_MO_over μ m = 1 := by
  unfold v_MO_over
  repeat' split
  all_goals first | exact Or.inl rfl | exact Or.inr rfl | exact Or.inl rfl
set_option maxRecDepth 10000 in
theorem a_MO_over (μ : sr_M) (m : Int32) (hq : q_MO_over μ m) : sr_AW e_MO_over (fun r => r = (some (.inl (v_MO_over μ m)), μ)) (sr_entry 2 [.inr (.inr (20, 0)), .inl m] μ) := by
  have q1 : sr_in m 16 := hq
  refine sr_many 6 (t := (bif decide ((μ.1 33 0 m.toNatClampNeg) ≤ 2) then 14 else 10, [some (.inr (.inr (20, 0))), some (.inl m)], [], μ)) rfl ⟨trivial, (show 0 < 1 by decide), trivial, ⟨(show 0 < 1 by decide), (show sr_in m 16 by assumption)⟩, trivial, trivial, trivial⟩ ?_
  refine sr_brd (fun h1 => ?_) (fun h1 => ?_)
  · refine sr_many 1 (t := (15, [some (.inr (.inr (20, 0))), some (.inl m)], [.inl 0], μ)) rfl ⟨trivial, trivial⟩ ?_
    exact sr_ret rfl rfl rfl (Or.inl rfl) (by simp only [v_MO_over, if_pos h1])
  · refine sr_many 2 (t := (15, [some (.inr (.inr (20, 0))), some (.inl m)], [.inl 1], μ)) rfl ⟨trivial, trivial, trivial⟩ ?_
    exact sr_ret rfl rfl rfl (Or.inr rfl) (by simp only [v_MO_over, if_neg h1])
def v_MO_running (μ : sr_M)  : Int32 := μ.1 20 0 23
def q_MO_running (μ : sr_M)  : Prop := (μ.1 20 0 23 = 0 ∨ μ.1 20 0 23 = 1)
def p_MO_running : sr_F := fun vs μ => match vs with
  | [.inr (.inr (20, 0))] => some (q_MO_running μ, some (.inl (v_MO_running μ)), μ)
  | _ => none
def e_MO_running : sr_E := (sr_SM, sr_KS, (fun k => ([(103, 10, 23)] : List (Nat × Nat × Nat)).lookup k, fun _ => none, fun _ => none, fun _ => none, fun _ => none), sr_cd cd_MO_running, some .boolean)
set_option maxRecDepth 10000 in
theorem a_MO_running (μ : sr_M)  (hq : q_MO_running μ) : sr_AW e_MO_running (fun r => r = (some (.inl (v_MO_running μ)), μ)) (sr_entry 1 [.inr (.inr (20, 0))] μ) := by
  have q1 : μ.1 20 0 23 = 0 ∨ μ.1 20 0 23 = 1 := hq
  refine sr_many 2 (t := (4, [some (.inr (.inr (20, 0)))], [.inl (μ.1 20 0 23)], μ)) rfl ⟨trivial, (show 0 < 1 by decide), trivial⟩ ?_
  exact sr_ret rfl rfl rfl (show μ.1 20 0 23 = 0 ∨ μ.1 20 0 23 = 1 by assumption) rfl
def m_MO_note (μ : sr_M) (kind : Int32) (num : Int32) (res : Int32) : sr_M := (sr_seti (sr_seti μ 43 0 (((μ.1 20 0 38) &&& (63 : Int32)).toNatClampNeg) (((kind + ((8 : Int32) * num)) + ((128 : Int32) * res)) + ((2048 : Int32) * (μ.1 20 0 25)))) 20 0 38 ((μ.1 20 0 38) + (1 : Int32)))
def p_MO_note : sr_F := fun vs μ => match vs with
  | [.inr (.inr (20, 0)), .inl kind, .inl num, .inl res] => some (True, none, m_MO_note μ kind num res)
  | _ => none
def e_MO_note : sr_E := (sr_SM, sr_KS, (fun k => ([(89, 10, 39), (170, 10, 38), (173, 10, 25)] : List (Nat × Nat × Nat)).lookup k, fun _ => none, fun _ => none, fun _ => none, fun _ => none), sr_cd cd_MO_note, none)
set_option maxRecDepth 10000 in
theorem a_MO_note (μ : sr_M) (kind : Int32) (num : Int32) (res : Int32) : sr_AW e_MO_note (fun r => r = (none, m_MO_note μ kind num res)) (sr_entry 4 [.inr (.inr (20, 0)), .inl kind, .inl num, .inl res] μ) := by
  have qn : sr_in (μ.1 20 0 38 &&& (63 : Int32)) 64 := pk_andIn _ 6 (by decide) (by decide)
  refine sr_many 27 (t := (43, [some (.inr (.inr (20, 0))), some (.inl kind), some (.inl num), some (.inl res)], [], (sr_seti (sr_seti μ 43 0 (((μ.1 20 0 38) &&& (63 : Int32)).toNatClampNeg) (((kind + ((8 : Int32) * num)) + ((128 : Int32) * res)) + ((2048 : Int32) * (μ.1 20 0 25)))) 20 0 38 ((μ.1 20 0 38) + (1 : Int32))))) rfl ⟨trivial, (show 0 < 1 by decide), trivial, (show 0 < 1 by decide), trivial, trivial, trivial, trivial, trivial, trivial, trivial, trivial, trivial, trivial, trivial, trivial, trivial, (show 0 < 1 by decide), trivial, trivial, ⟨(show 0 < 1 by decide), (show sr_in ((μ.1 20 0 38) &&& (63 : Int32)) 64 by assumption)⟩, trivial, trivial, (show 0 < 1 by decide), trivial, trivial, (show 0 < 1 by decide), trivial⟩ ?_
  exact sr_ret rfl rfl rfl trivial rfl
def v_MO_select (μ : sr_M) (sel : Int32) (inn : Int32) (out : Int32) : Int32 := if (μ.1 20 0 23) = 0 then 1 else 0
def m_MO_select (μ : sr_M) (sel : Int32) (inn : Int32) (out : Int32) : sr_M := if (μ.1 20 0 23) = 0 then (sr_seti (sr_seti (sr_seti (sr_seti (sr_seti (sr_seti μ 20 0 14 (sel &&& (15 : Int32))) 20 0 15 (inn &&& (63 : Int32))) 20 0 16 (out &&& (63 : Int32))) 32 0 0 0) 32 0 1 0) 20 0 17 0) else μ
def p_MO_select : sr_F := fun vs μ => match vs with
  | [.inr (.inr (20, 0)), .inl sel, .inl inn, .inl out] => some (True, some (.inl (v_MO_select μ sel inn out)), m_MO_select μ sel inn out)
  | _ => none
def e_MO_select : sr_E := (sr_SM, sr_KS, (fun k => ([(45, 10, 13), (48, 10, 14), (103, 10, 23), (121, 10, 15), (124, 10, 16), (127, 10, 17)] : List (Nat × Nat × Nat)).lookup k, fun _ => none, fun _ => none, fun _ => none, fun _ => none), sr_cd cd_MO_select, some .boolean)
theorem b_MO_select (μ : sr_M) (sel : Int32) (inn : Int32) (out : Int32) : v_MO_select μ sel inn out = 0 ∨ v_MO_select μ sel inn out = 1 := by
  unfold v_MO_select
  repeat' split
  all_goals first | exact Or.inl rfl | exact Or.inr rfl | exact Or.inl rfl
set_option maxRecDepth 10000 in
theorem a_MO_select (μ : sr_M) (sel : Int32) (inn : Int32) (out : Int32) : sr_AW e_MO_select (fun r => r = (some (.inl (v_MO_select μ sel inn out)), m_MO_select μ sel inn out)) (sr_entry 4 [.inr (.inr (20, 0)), .inl sel, .inl inn, .inl out] μ) := by
  refine sr_many 3 (t := (bif decide ((μ.1 20 0 23) = 0) then 9 else 7, [some (.inr (.inr (20, 0))), some (.inl sel), some (.inl inn), some (.inl out)], [], μ)) rfl ⟨trivial, (show 0 < 1 by decide), trivial, trivial⟩ ?_
  refine sr_brd (fun h1 => ?_) (fun h1 => ?_)
  · refine sr_many 29 (t := (53, [some (.inr (.inr (20, 0))), some (.inl sel), some (.inl inn), some (.inl out)], [.inl 1], (sr_seti (sr_seti (sr_seti (sr_seti (sr_seti (sr_seti μ 20 0 14 (sel &&& (15 : Int32))) 20 0 15 (inn &&& (63 : Int32))) 20 0 16 (out &&& (63 : Int32))) 32 0 0 0) 32 0 1 0) 20 0 17 0))) rfl ⟨trivial, trivial, trivial, trivial, (show 0 < 1 by decide), trivial, trivial, trivial, trivial, (show 0 < 1 by decide), trivial, trivial, trivial, trivial, (show 0 < 1 by decide), trivial, (show 0 < 1 by decide), trivial, trivial, ⟨(show 0 < 1 by decide), (show sr_in 0 2 by decide)⟩, trivial, (show 0 < 1 by decide), trivial, trivial, ⟨(show 0 < 1 by decide), (show sr_in 1 2 by decide)⟩, trivial, trivial, (show 0 < 1 by decide), trivial, trivial⟩ ?_
    exact sr_ret rfl rfl rfl (Or.inr rfl) (by simp only [v_MO_select, m_MO_select, if_pos h1])
  · refine sr_many 1 (t := (8, [some (.inr (.inr (20, 0))), some (.inl sel), some (.inl inn), some (.inl out)], [.inl 0], μ)) rfl ⟨trivial, trivial⟩ ?_
    exact sr_ret rfl rfl rfl (Or.inl rfl) (by simp only [v_MO_select, m_MO_select, if_neg h1])
