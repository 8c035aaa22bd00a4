/-! pictures and runs: selection, reach, the log's reading, figures -/
theorem sr_it_inv {α : Type} {f : Nat → α → α} (P : α → Prop) (h : ∀ k a, P a → P (f k a)) {a : α} (h0 : P a) : ∀ n, P (sr_it f a n)
  | 0 => h0
  | n + 1 => h n _ (sr_it_inv P h h0 n)
theorem sr_within_of {w : Int32} (n : Nat) (hn : n < 2 ^ 31) (h : ¬ v_SR_isWithin w (nI n) = 0) : ∃ j : Nat, j < n ∧ w = nI j := vp_in_of (sr_within n hn h) hn
theorem sr_latest {x k : Int32} (q : sr_cnt x 2000000000) (h1 : ¬ v_SR_isWithin k 64 = 0) (h2 : ¬ x ≤ k) : sr_in (((x - 1) - k) - ((x - 1) - k) / (64 : Int32) * (64 : Int32)) 64 := by
  obtain ⟨j, hj, rfl⟩ := sr_within_of 64 (by decide) h1
  have h3 := q.2
  rw [q.1, nI_leI (by omega) (by omega)] at h2
  rw [q.1]
  generalize x.toNatClampNeg = n at h2 h3 ⊢
  have e1 : nI n - 1 = nI (n - 1) := by
    have : n = (n - 1) + 1 := by omega
    rw [this]
    exact nI_pred _
  rw [e1, pk_sub (by omega)]
  show sr_in (nI (n - 1 - j) - nI (n - 1 - j) / nI 64 * nI 64) 64
  rw [pk_rem (by omega) (by decide) (by decide)]
  exact sr_inN 64 (Nat.mod_lt _ (by decide)) (by decide)
theorem sr_sw7 {x : Int32} {tg : Nat} {d : Int} {offs : Array Int} {pc : Nat} (h0 : ¬ x = 0) (h1 : ¬ x = 1) (h2 : ¬ x = 2) (h3 : ¬ x = 3) (h4 : ¬ x = 4) (h5 : ¬ x = 5) (h6 : ¬ x = 6) (e : sr_tgt pc d = tg := by decide) : sr_tgt pc (sr_swt d 0 6 offs x.toInt) = tg := by
  rw [show sr_swt d 0 6 offs x.toInt = d from if_pos ?_]
  · exact e
  · have n0 := lv_neT (a := 0) h0 rfl
    have n1 := lv_neT (a := 1) h1 rfl
    have n2 := lv_neT (a := 2) h2 rfl
    have n3 := lv_neT (a := 3) h3 rfl
    have n4 := lv_neT (a := 4) h4 rfl
    have n5 := lv_neT (a := 5) h5 rfl
    have n6 := lv_neT (a := 6) h6 rfl
    omega
def v_LG_latest (μ : sr_M) (k : Int32) : Int32 := if (v_SR_isWithin k 64) = 0 then (-1) else (if (μ.1 11 0 1) ≤ k then (-1) else (μ.1 12 0 (((((μ.1 11 0 1) - (1 : Int32)) - k) - (((μ.1 11 0 1) - (1 : Int32)) - k) / (64 : Int32) * (64 : Int32)).toNatClampNeg)))
def q_LG_latest (μ : sr_M) (k : Int32) : Prop := sr_cnt (μ.1 11 0 1) 2000000000
def p_LG_latest : sr_F := fun vs μ => match vs with
  | [.inr (.inr (11, 0)), .inl k] => some (q_LG_latest μ k, some (.inl (v_LG_latest μ k)), μ)
  | _ => none
def e_LG_latest : sr_E := (sr_SC, sr_KS, (fun k => ([(11, 6, 0), (15, 6, 1)] : List (Nat × Nat × Nat)).lookup k, fun _ => none, fun _ => none, fun _ => none, fun k => ([(19, 0, 2, p_SR_isWithin)] : List (Nat × Nat × Nat × sr_F)).lookup k), sr_cd cd_LG_latest, some .int)
set_option maxRecDepth 10000 in
theorem a_LG_latest (μ : sr_M) (k : Int32) (hq : q_LG_latest μ k) : sr_AW e_LG_latest (fun r => r = (some (.inl (v_LG_latest μ k)), μ)) (sr_entry 2 [.inr (.inr (11, 0)), .inl k] μ) := by
  have q1 : sr_cnt (μ.1 11 0 1) 2000000000 := hq
  refine sr_many 4 (t := (bif decide ((v_SR_isWithin k 64) = 0) then 36 else 9, [some (.inr (.inr (11, 0))), some (.inl k)], [], μ)) rfl ⟨trivial, trivial, trivial, trivial, trivial⟩ ?_
  refine sr_brd (fun h1 => ?_) (fun h1 => ?_)
  · refine sr_many 1 (t := (37, [some (.inr (.inr (11, 0))), some (.inl k)], [.inl (-1)], μ)) rfl ⟨trivial, trivial⟩ ?_
    exact sr_ret rfl rfl rfl trivial (by simp only [v_LG_latest, if_pos h1])
  · refine sr_many 4 (t := (bif decide ((μ.1 11 0 1) ≤ k) then 36 else 17, [some (.inr (.inr (11, 0))), some (.inl k)], [], μ)) rfl ⟨trivial, trivial, (show 0 < 1 by decide), trivial, trivial⟩ ?_
    refine sr_brd (fun h2 => ?_) (fun h2 => ?_)
    · refine sr_many 1 (t := (37, [some (.inr (.inr (11, 0))), some (.inl k)], [.inl (-1)], μ)) rfl ⟨trivial, trivial⟩ ?_
      exact sr_ret rfl rfl rfl trivial (by simp only [v_LG_latest, if_neg h1, if_pos h2])
    · refine sr_many 12 (t := (37, [some (.inr (.inr (11, 0))), some (.inl k)], [.inl (μ.1 12 0 (((((μ.1 11 0 1) - (1 : Int32)) - k) - (((μ.1 11 0 1) - (1 : Int32)) - k) / (64 : Int32) * (64 : Int32)).toNatClampNeg))], μ)) rfl ⟨trivial, (show 0 < 1 by decide), trivial, (show 0 < 1 by decide), trivial, trivial, trivial, trivial, trivial, (show ¬ (64 : Int32) = 0 by decide), ⟨(show 0 < 1 by decide), (show sr_in ((((μ.1 11 0 1) - (1 : Int32)) - k) - (((μ.1 11 0 1) - (1 : Int32)) - k) / (64 : Int32) * (64 : Int32)) 64 by exact sr_latest q1 h1 h2)⟩, trivial, trivial⟩ ?_
      exact sr_ret rfl rfl rfl trivial (by simp only [v_LG_latest, if_neg h1, if_neg h2])
def v_PR_figure (μ : sr_M) (i : Nat) (what : Int32) : Int32 := if what = 0 then (μ.1 13 i 0) else (if what = 1 then (μ.1 13 i 6) else (if what = 2 then (μ.1 13 i 7) else (if what = 3 then (μ.1 13 i 8) else (if what = 4 then (μ.1 13 i 9) else (if what = 5 then (μ.1 13 i 1) else (if what = 6 then (μ.1 13 i 2) else (-1)))))))
def q_PR_figure (μ : sr_M) (i : Nat) (what : Int32) : Prop := i < 16
def p_PR_figure : sr_F := fun vs μ => match vs with
  | [.inr (.inr (13, i)), .inl what] => some (q_PR_figure μ i what, some (.inl (v_PR_figure μ i what)), μ)
  | _ => none
def e_PR_figure : sr_E := (sr_SC, sr_KS, (fun k => ([(9, 7, 1), (15, 7, 2), (18, 7, 0), (30, 7, 6), (33, 7, 7), (36, 7, 8), (39, 7, 9)] : List (Nat × Nat × Nat)).lookup k, fun _ => none, fun _ => none, fun _ => none, fun _ => none), sr_cd cd_PR_figure, some .int)
set_option maxRecDepth 10000 in
theorem a_PR_figure (μ : sr_M) (i : Nat) (what : Int32) (hq : q_PR_figure μ i what) : sr_AW e_PR_figure (fun r => r = (some (.inl (v_PR_figure μ i what)), μ)) (sr_entry 2 [.inr (.inr (13, i)), .inl what] μ) := by
  have q1 : i < 16 := hq
  refine sr_many 1 (t := (1, [some (.inr (.inr (13, i))), some (.inl what)], [.inl what], μ)) rfl ⟨trivial, trivial⟩ ?_
  refine sr_many 1 (t := (sr_tgt 1 (sr_swt 78 0 6 #[43, 48, 53, 58, 63, 68, 73] (what).toInt), [some (.inr (.inr (13, i))), some (.inl what)], [], μ)) rfl ⟨trivial, trivial⟩ ?_
  by_cases h1 : what = 0
  · refine sr_at (pc' := 44) (by rw [h1]; decide) ?_
    refine sr_many 2 (t := (48, [some (.inr (.inr (13, i))), some (.inl what)], [.inl (μ.1 13 i 0)], μ)) rfl ⟨trivial, (show i < 16 by assumption), trivial⟩ ?_
    exact sr_ret rfl rfl rfl trivial (by simp only [v_PR_figure, if_pos h1])
  · by_cases h2 : what = 1
    · refine sr_at (pc' := 49) (by rw [h2]; decide) ?_
      refine sr_many 2 (t := (53, [some (.inr (.inr (13, i))), some (.inl what)], [.inl (μ.1 13 i 6)], μ)) rfl ⟨trivial, (show i < 16 by assumption), trivial⟩ ?_
      exact sr_ret rfl rfl rfl trivial (by simp only [v_PR_figure, if_neg h1, if_pos h2])
    · by_cases h3 : what = 2
      · refine sr_at (pc' := 54) (by rw [h3]; decide) ?_
        refine sr_many 2 (t := (58, [some (.inr (.inr (13, i))), some (.inl what)], [.inl (μ.1 13 i 7)], μ)) rfl ⟨trivial, (show i < 16 by assumption), trivial⟩ ?_
        exact sr_ret rfl rfl rfl trivial (by simp only [v_PR_figure, if_neg h1, if_neg h2, if_pos h3])
      · by_cases h4 : what = 3
        · refine sr_at (pc' := 59) (by rw [h4]; decide) ?_
          refine sr_many 2 (t := (63, [some (.inr (.inr (13, i))), some (.inl what)], [.inl (μ.1 13 i 8)], μ)) rfl ⟨trivial, (show i < 16 by assumption), trivial⟩ ?_
          exact sr_ret rfl rfl rfl trivial (by simp only [v_PR_figure, if_neg h1, if_neg h2, if_neg h3, if_pos h4])
        · by_cases h5 : what = 4
          · refine sr_at (pc' := 64) (by rw [h5]; decide) ?_
            refine sr_many 2 (t := (68, [some (.inr (.inr (13, i))), some (.inl what)], [.inl (μ.1 13 i 9)], μ)) rfl ⟨trivial, (show i < 16 by assumption), trivial⟩ ?_
            exact sr_ret rfl rfl rfl trivial (by simp only [v_PR_figure, if_neg h1, if_neg h2, if_neg h3, if_neg h4, if_pos h5])
          · by_cases h6 : what = 5
            · refine sr_at (pc' := 69) (by rw [h6]; decide) ?_
              refine sr_many 2 (t := (73, [some (.inr (.inr (13, i))), some (.inl what)], [.inl (μ.1 13 i 1)], μ)) rfl ⟨trivial, (show i < 16 by assumption), trivial⟩ ?_
              exact sr_ret rfl rfl rfl trivial (by simp only [v_PR_figure, if_neg h1, if_neg h2, if_neg h3, if_neg h4, if_neg h5, if_pos h6])
            · by_cases h7 : what = 6
              · refine sr_at (pc' := 74) (by rw [h7]; decide) ?_
                refine sr_many 2 (t := (78, [some (.inr (.inr (13, i))), some (.inl what)], [.inl (μ.1 13 i 2)], μ)) rfl ⟨trivial, (show i < 16 by assumption), trivial⟩ ?_
                exact sr_ret rfl rfl rfl trivial (by simp only [v_PR_figure, if_neg h1, if_neg h2, if_neg h3, if_neg h4, if_neg h5, if_neg h6, if_pos h7])
              · refine sr_at (pc' := 79) (sr_sw7 h1 h2 h3 h4 h5 h6 h7) ?_
                refine sr_many 1 (t := (80, [some (.inr (.inr (13, i))), some (.inl what)], [.inl (-1)], μ)) rfl ⟨trivial, trivial⟩ ?_
                exact sr_ret rfl rfl rfl trivial (by simp only [v_PR_figure, if_neg h1, if_neg h2, if_neg h3, if_neg h4, if_neg h5, if_neg h6, if_neg h7])
def v_SE_admits (μ : sr_M) (m : Int32) (j : Nat) : Int32 := if (v_SR_holds (μ.1 17 0 3) (μ.1 3 j 0)) = 0 then 0 else (if ¬ ((μ.1 4 j 1) &&& (μ.1 17 0 5)) = 0 then 0 else (if (μ.1 17 0 4) = 0 then (if ¬ (v_PT_isEmpty μ 0) = 0 then (if ¬ (v_PT_isEmpty μ 1) = 0 then (if (μ.1 17 0 2) = 0 then 1 else (if (v_SR_holds (μ.1 17 0 2) m) = 0 then 0 else 1)) else (if ¬ (v_PT_matches μ 1 (μ.2 3 j 1)) = 0 then 0 else (if (μ.1 17 0 2) = 0 then 1 else (if (v_SR_holds (μ.1 17 0 2) m) = 0 then 0 else 1)))) else (if (v_PT_matches μ 0 (μ.2 3 j 1)) = 0 then 0 else (if ¬ (v_PT_isEmpty μ 1) = 0 then (if (μ.1 17 0 2) = 0 then 1 else (if (v_SR_holds (μ.1 17 0 2) m) = 0 then 0 else 1)) else (if ¬ (v_PT_matches μ 1 (μ.2 3 j 1)) = 0 then 0 else (if (μ.1 17 0 2) = 0 then 1 else (if (v_SR_holds (μ.1 17 0 2) m) = 0 then 0 else 1)))))) else (if ((μ.1 4 j 1) &&& (μ.1 17 0 4)) = 0 then 0 else (if ¬ (v_PT_isEmpty μ 0) = 0 then (if ¬ (v_PT_isEmpty μ 1) = 0 then (if (μ.1 17 0 2) = 0 then 1 else (if (v_SR_holds (μ.1 17 0 2) m) = 0 then 0 else 1)) else (if ¬ (v_PT_matches μ 1 (μ.2 3 j 1)) = 0 then 0 else (if (μ.1 17 0 2) = 0 then 1 else (if (v_SR_holds (μ.1 17 0 2) m) = 0 then 0 else 1)))) else (if (v_PT_matches μ 0 (μ.2 3 j 1)) = 0 then 0 else (if ¬ (v_PT_isEmpty μ 1) = 0 then (if (μ.1 17 0 2) = 0 then 1 else (if (v_SR_holds (μ.1 17 0 2) m) = 0 then 0 else 1)) else (if ¬ (v_PT_matches μ 1 (μ.2 3 j 1)) = 0 then 0 else (if (μ.1 17 0 2) = 0 then 1 else (if (v_SR_holds (μ.1 17 0 2) m) = 0 then 0 else 1)))))))))
def q_SE_admits (μ : sr_M) (m : Int32) (j : Nat) : Prop := j < 16 ∧ sr_cnt (μ.1 18 0 1) 12 ∧ sr_cnt (μ.1 18 1 1) 12
def p_SE_admits : sr_F := fun vs μ => match vs with
  | [.inr (.inr (17, 0)), .inl m, .inr (.inr (3, j))] => some (q_SE_admits μ m j, some (.inl (v_SE_admits μ m j)), μ)
  | _ => none
def e_SE_admits : sr_E := (sr_SC, sr_KS, (fun k => ([(12, 8, 0), (18, 8, 1), (21, 8, 3), (25, 8, 4), (28, 8, 5), (34, 8, 2), (37, 3, 2), (43, 3, 0), (54, 3, 1)] : List (Nat × Nat × Nat)).lookup k, fun _ => none, fun _ => none, fun _ => none, fun k => ([(46, 0, 2, p_SR_holds), (50, 10, 0, p_PT_isEmpty), (58, 10, 1, p_PT_matches)] : List (Nat × Nat × Nat × sr_F)).lookup k), sr_cd cd_SE_admits, some .boolean)
theorem b_SE_admits (μ : sr_M) (m : Int32) (j : Nat) : v_SE_admits μ m j = 0 ∨ v_SE_admits μ m j = 1 := by
  unfold v_SE_admits
  repeat' split
  all_goals first | exact Or.inl rfl | exact Or.inr rfl | exact Or.inl rfl
set_option maxRecDepth 10000 in
theorem a_SE_admits (μ : sr_M) (m : Int32) (j : Nat) (hq : q_SE_admits μ m j) : sr_AW e_SE_admits (fun r => r = (some (.inl (v_SE_admits μ m j)), μ)) (sr_entry 4 [.inr (.inr (17, 0)), .inl m, .inr (.inr (3, j))] μ) := by
  have hq0 := hq
  obtain ⟨q1, q2, q3⟩ : j < 16 ∧ sr_cnt (μ.1 18 0 1) 12 ∧ sr_cnt (μ.1 18 1 1) 12 := hq
  refine sr_many 11 (t := (bif decide ((v_SR_holds (μ.1 17 0 3) (μ.1 3 j 0)) = 0) then 116 else 21, [some (.inr (.inr (17, 0))), some (.inl m), some (.inr (.inr (3, j))), some (.inl (μ.1 4 j 1))], [], μ)) rfl ⟨trivial, (show j < 16 by assumption), trivial, ⟨(show j < 16 by assumption), (show sr_in 1 9 by decide)⟩, trivial, trivial, (show 0 < 1 by decide), trivial, (show j < 16 by assumption), trivial, trivial, trivial⟩ ?_
  refine sr_brd (fun h1 => ?_) (fun h1 => ?_)
  · refine sr_many 1 (t := (117, [some (.inr (.inr (17, 0))), some (.inl m), some (.inr (.inr (3, j))), some (.inl (μ.1 4 j 1))], [.inl 0], μ)) rfl ⟨trivial, trivial⟩ ?_
    exact sr_ret rfl rfl rfl (Or.inl rfl) (by simp only [v_SE_admits, if_pos h1])
  · refine sr_many 5 (t := (bif decide (¬ ((μ.1 4 j 1) &&& (μ.1 17 0 5)) = 0) then 116 else 30, [some (.inr (.inr (17, 0))), some (.inl m), some (.inr (.inr (3, j))), some (.inl (μ.1 4 j 1))], [], μ)) rfl ⟨trivial, trivial, (show 0 < 1 by decide), trivial, trivial, trivial⟩ ?_
    refine sr_brd (fun h2 => ?_) (fun h2 => ?_)
    · refine sr_many 1 (t := (117, [some (.inr (.inr (17, 0))), some (.inl m), some (.inr (.inr (3, j))), some (.inl (μ.1 4 j 1))], [.inl 0], μ)) rfl ⟨trivial, trivial⟩ ?_
      exact sr_ret rfl rfl rfl (Or.inl rfl) (by simp only [v_SE_admits, if_neg h1, if_pos h2])
    · refine sr_many 3 (t := (bif decide ((μ.1 17 0 4) = 0) then 46 else 37, [some (.inr (.inr (17, 0))), some (.inl m), some (.inr (.inr (3, j))), some (.inl (μ.1 4 j 1))], [], μ)) rfl ⟨trivial, (show 0 < 1 by decide), trivial, trivial⟩ ?_
      refine sr_brd (fun h3 => ?_) (fun h3 => ?_)
      · refine sr_many 4 (t := (bif decide (¬ (v_PT_isEmpty μ 0) = 0) then 70 else 56, [some (.inr (.inr (17, 0))), some (.inl m), some (.inr (.inr (3, j))), some (.inl (μ.1 4 j 1))], [], μ)) rfl ⟨trivial, (show 0 < 1 by decide), ⟨(show 0 < 2 by decide), (show 0 <  2 by decide)⟩, trivial, trivial⟩ ?_
        refine sr_brd (fun h4 => ?_) (fun h4 => ?_)
        · refine sr_many 4 (t := (bif decide (¬ (v_PT_isEmpty μ 1) = 0) then 94 else 80, [some (.inr (.inr (17, 0))), some (.inl m), some (.inr (.inr (3, j))), some (.inl (μ.1 4 j 1))], [], μ)) rfl ⟨trivial, (show 0 < 1 by decide), ⟨(show 1 < 2 by decide), (show 1 <  2 by decide)⟩, trivial, trivial⟩ ?_
          refine sr_brd (fun h5 => ?_) (fun h5 => ?_)
          · refine sr_many 3 (t := (bif decide ((μ.1 17 0 2) = 0) then 112 else 101, [some (.inr (.inr (17, 0))), some (.inl m), some (.inr (.inr (3, j))), some (.inl (μ.1 4 j 1))], [], μ)) rfl ⟨trivial, (show 0 < 1 by decide), trivial, trivial⟩ ?_
            refine sr_brd (fun h6 => ?_) (fun h6 => ?_)
            · refine sr_many 2 (t := (117, [some (.inr (.inr (17, 0))), some (.inl m), some (.inr (.inr (3, j))), some (.inl (μ.1 4 j 1))], [.inl 1], μ)) rfl ⟨trivial, trivial, trivial⟩ ?_
              exact sr_ret rfl rfl rfl (Or.inr rfl) (by simp only [v_SE_admits, if_neg h1, if_neg h2, if_pos h3, if_pos h4, if_pos h5, if_pos h6])
            · refine sr_many 5 (t := (bif decide ((v_SR_holds (μ.1 17 0 2) m) = 0) then 116 else 112, [some (.inr (.inr (17, 0))), some (.inl m), some (.inr (.inr (3, j))), some (.inl (μ.1 4 j 1))], [], μ)) rfl ⟨trivial, (show 0 < 1 by decide), trivial, trivial, trivial, trivial⟩ ?_
              refine sr_brd (fun h7 => ?_) (fun h7 => ?_)
              · refine sr_many 1 (t := (117, [some (.inr (.inr (17, 0))), some (.inl m), some (.inr (.inr (3, j))), some (.inl (μ.1 4 j 1))], [.inl 0], μ)) rfl ⟨trivial, trivial⟩ ?_
                exact sr_ret rfl rfl rfl (Or.inl rfl) (by simp only [v_SE_admits, if_neg h1, if_neg h2, if_pos h3, if_pos h4, if_pos h5, if_neg h6, if_pos h7])
              · refine sr_many 2 (t := (117, [some (.inr (.inr (17, 0))), some (.inl m), some (.inr (.inr (3, j))), some (.inl (μ.1 4 j 1))], [.inl 1], μ)) rfl ⟨trivial, trivial, trivial⟩ ?_
                exact sr_ret rfl rfl rfl (Or.inr rfl) (by simp only [v_SE_admits, if_neg h1, if_neg h2, if_pos h3, if_pos h4, if_pos h5, if_neg h6, if_neg h7])
          · refine sr_many 6 (t := (bif decide (¬ (v_PT_matches μ 1 (μ.2 3 j 1)) = 0) then 116 else 94, [some (.inr (.inr (17, 0))), some (.inl m), some (.inr (.inr (3, j))), some (.inl (μ.1 4 j 1))], [], μ)) rfl ⟨trivial, (show 0 < 1 by decide), trivial, (show j < 16 by assumption), ⟨(show 1 < 2 by decide), ⟨(show 1 <  2 by decide), (show sr_cnt (μ.1 18 1 1) 12 by assumption)⟩⟩, trivial, trivial⟩ ?_
            refine sr_brd (fun h6 => ?_) (fun h6 => ?_)
            · refine sr_many 1 (t := (117, [some (.inr (.inr (17, 0))), some (.inl m), some (.inr (.inr (3, j))), some (.inl (μ.1 4 j 1))], [.inl 0], μ)) rfl ⟨trivial, trivial⟩ ?_
              exact sr_ret rfl rfl rfl (Or.inl rfl) (by simp only [v_SE_admits, if_neg h1, if_neg h2, if_pos h3, if_pos h4, if_neg h5, if_pos h6])
            · refine sr_many 3 (t := (bif decide ((μ.1 17 0 2) = 0) then 112 else 101, [some (.inr (.inr (17, 0))), some (.inl m), some (.inr (.inr (3, j))), some (.inl (μ.1 4 j 1))], [], μ)) rfl ⟨trivial, (show 0 < 1 by decide), trivial, trivial⟩ ?_
              refine sr_brd (fun h7 => ?_) (fun h7 => ?_)
              · refine sr_many 2 (t := (117, [some (.inr (.inr (17, 0))), some (.inl m), some (.inr (.inr (3, j))), some (.inl (μ.1 4 j 1))], [.inl 1], μ)) rfl ⟨trivial, trivial, trivial⟩ ?_
                exact sr_ret rfl rfl rfl (Or.inr rfl) (by simp only [v_SE_admits, if_neg h1, if_neg h2, if_pos h3, if_pos h4, if_neg h5, if_neg h6, if_pos h7])
              · refine sr_many 5 (t := (bif decide ((v_SR_holds (μ.1 17 0 2) m) = 0) then 116 else 112, [some (.inr (.inr (17, 0))), some (.inl m), some (.inr (.inr (3, j))), some (.inl (μ.1 4 j 1))], [], μ)) rfl ⟨trivial, (show 0 < 1 by decide), trivial, trivial, trivial, trivial⟩ ?_
                refine sr_brd (fun h8 => ?_) (fun h8 => ?_)
                · refine sr_many 1 (t := (117, [some (.inr (.inr (17, 0))), some (.inl m), some (.inr (.inr (3, j))), some (.inl (μ.1 4 j 1))], [.inl 0], μ)) rfl ⟨trivial, trivial⟩ ?_
                  exact sr_ret rfl rfl rfl (Or.inl rfl) (by simp only [v_SE_admits, if_neg h1, if_neg h2, if_pos h3, if_pos h4, if_neg h5, if_neg h6, if_neg h7, if_pos h8])
                · refine sr_many 2 (t := (117, [some (.inr (.inr (17, 0))), some (.inl m), some (.inr (.inr (3, j))), some (.inl (μ.1 4 j 1))], [.inl 1], μ)) rfl ⟨trivial, trivial, trivial⟩ ?_
                  exact sr_ret rfl rfl rfl (Or.inr rfl) (by simp only [v_SE_admits, if_neg h1, if_neg h2, if_pos h3, if_pos h4, if_neg h5, if_neg h6, if_neg h7, if_neg h8])
        · refine sr_many 6 (t := (bif decide ((v_PT_matches μ 0 (μ.2 3 j 1)) = 0) then 116 else 70, [some (.inr (.inr (17, 0))), some (.inl m), some (.inr (.inr (3, j))), some (.inl (μ.1 4 j 1))], [], μ)) rfl ⟨trivial, (show 0 < 1 by decide), trivial, (show j < 16 by assumption), ⟨(show 0 < 2 by decide), ⟨(show 0 <  2 by decide), (show sr_cnt (μ.1 18 0 1) 12 by assumption)⟩⟩, trivial, trivial⟩ ?_
          refine sr_brd (fun h5 => ?_) (fun h5 => ?_)
          · refine sr_many 1 (t := (117, [some (.inr (.inr (17, 0))), some (.inl m), some (.inr (.inr (3, j))), some (.inl (μ.1 4 j 1))], [.inl 0], μ)) rfl ⟨trivial, trivial⟩ ?_
            exact sr_ret rfl rfl rfl (Or.inl rfl) (by simp only [v_SE_admits, if_neg h1, if_neg h2, if_pos h3, if_neg h4, if_pos h5])
          · refine sr_many 4 (t := (bif decide (¬ (v_PT_isEmpty μ 1) = 0) then 94 else 80, [some (.inr (.inr (17, 0))), some (.inl m), some (.inr (.inr (3, j))), some (.inl (μ.1 4 j 1))], [], μ)) rfl ⟨trivial, (show 0 < 1 by decide), ⟨(show 1 < 2 by decide), (show 1 <  2 by decide)⟩, trivial, trivial⟩ ?_
            refine sr_brd (fun h6 => ?_) (fun h6 => ?_)
            · refine sr_many 3 (t := (bif decide ((μ.1 17 0 2) = 0) then 112 else 101, [some (.inr (.inr (17, 0))), some (.inl m), some (.inr (.inr (3, j))), some (.inl (μ.1 4 j 1))], [], μ)) rfl ⟨trivial, (show 0 < 1 by decide), trivial, trivial⟩ ?_
              refine sr_brd (fun h7 => ?_) (fun h7 => ?_)
              · refine sr_many 2 (t := (117, [some (.inr (.inr (17, 0))), some (.inl m), some (.inr (.inr (3, j))), some (.inl (μ.1 4 j 1))], [.inl 1], μ)) rfl ⟨trivial, trivial, trivial⟩ ?_
                exact sr_ret rfl rfl rfl (Or.inr rfl) (by simp only [v_SE_admits, if_neg h1, if_neg h2, if_pos h3, if_neg h4, if_neg h5, if_pos h6, if_pos h7])
              · refine sr_many 5 (t := (bif decide ((v_SR_holds (μ.1 17 0 2) m) = 0) then 116 else 112, [some (.inr (.inr (17, 0))), some (.inl m), some (.inr (.inr (3, j))), some (.inl (μ.1 4 j 1))], [], μ)) rfl ⟨trivial, (show 0 < 1 by decide), trivial, trivial, trivial, trivial⟩ ?_
                refine sr_brd (fun h8 => ?_) (fun h8 => ?_)
                · refine sr_many 1 (t := (117, [some (.inr (.inr (17, 0))), some (.inl m), some (.inr (.inr (3, j))), some (.inl (μ.1 4 j 1))], [.inl 0], μ)) rfl ⟨trivial, trivial⟩ ?_
                  exact sr_ret rfl rfl rfl (Or.inl rfl) (by simp only [v_SE_admits, if_neg h1, if_neg h2, if_pos h3, if_neg h4, if_neg h5, if_pos h6, if_neg h7, if_pos h8])
                · refine sr_many 2 (t := (117, [some (.inr (.inr (17, 0))), some (.inl m), some (.inr (.inr (3, j))), some (.inl (μ.1 4 j 1))], [.inl 1], μ)) rfl ⟨trivial, trivial, trivial⟩ ?_
                  exact sr_ret rfl rfl rfl (Or.inr rfl) (by simp only [v_SE_admits, if_neg h1, if_neg h2, if_pos h3, if_neg h4, if_neg h5, if_pos h6, if_neg h7, if_neg h8])
            · refine sr_many 6 (t := (bif decide (¬ (v_PT_matches μ 1 (μ.2 3 j 1)) = 0) then 116 else 94, [some (.inr (.inr (17, 0))), some (.inl m), some (.inr (.inr (3, j))), some (.inl (μ.1 4 j 1))], [], μ)) rfl ⟨trivial, (show 0 < 1 by decide), trivial, (show j < 16 by assumption), ⟨(show 1 < 2 by decide), ⟨(show 1 <  2 by decide), (show sr_cnt (μ.1 18 1 1) 12 by assumption)⟩⟩, trivial, trivial⟩ ?_
              refine sr_brd (fun h7 => ?_) (fun h7 => ?_)
              · refine sr_many 1 (t := (117, [some (.inr (.inr (17, 0))), some (.inl m), some (.inr (.inr (3, j))), some (.inl (μ.1 4 j 1))], [.inl 0], μ)) rfl ⟨trivial, trivial⟩ ?_
                exact sr_ret rfl rfl rfl (Or.inl rfl) (by simp only [v_SE_admits, if_neg h1, if_neg h2, if_pos h3, if_neg h4, if_neg h5, if_neg h6, if_pos h7])
              · refine sr_many 3 (t := (bif decide ((μ.1 17 0 2) = 0) then 112 else 101, [some (.inr (.inr (17, 0))), some (.inl m), some (.inr (.inr (3, j))), some (.inl (μ.1 4 j 1))], [], μ)) rfl ⟨trivial, (show 0 < 1 by decide), trivial, trivial⟩ ?_
                refine sr_brd (fun h8 => ?_) (fun h8 => ?_)
                · refine sr_many 2 (t := (117, [some (.inr (.inr (17, 0))), some (.inl m), some (.inr (.inr (3, j))), some (.inl (μ.1 4 j 1))], [.inl 1], μ)) rfl ⟨trivial, trivial, trivial⟩ ?_
                  exact sr_ret rfl rfl rfl (Or.inr rfl) (by simp only [v_SE_admits, if_neg h1, if_neg h2, if_pos h3, if_neg h4, if_neg h5, if_neg h6, if_neg h7, if_pos h8])
                · refine sr_many 5 (t := (bif decide ((v_SR_holds (μ.1 17 0 2) m) = 0) then 116 else 112, [some (.inr (.inr (17, 0))), some (.inl m), some (.inr (.inr (3, j))), some (.inl (μ.1 4 j 1))], [], μ)) rfl ⟨trivial, (show 0 < 1 by decide), trivial, trivial, trivial, trivial⟩ ?_
                  refine sr_brd (fun h9 => ?_) (fun h9 => ?_)
                  · refine sr_many 1 (t := (117, [some (.inr (.inr (17, 0))), some (.inl m), some (.inr (.inr (3, j))), some (.inl (μ.1 4 j 1))], [.inl 0], μ)) rfl ⟨trivial, trivial⟩ ?_
                    exact sr_ret rfl rfl rfl (Or.inl rfl) (by simp only [v_SE_admits, if_neg h1, if_neg h2, if_pos h3, if_neg h4, if_neg h5, if_neg h6, if_neg h7, if_neg h8, if_pos h9])
                  · refine sr_many 2 (t := (117, [some (.inr (.inr (17, 0))), some (.inl m), some (.inr (.inr (3, j))), some (.inl (μ.1 4 j 1))], [.inl 1], μ)) rfl ⟨trivial, trivial, trivial⟩ ?_
                    exact sr_ret rfl rfl rfl (Or.inr rfl) (by simp only [v_SE_admits, if_neg h1, if_neg h2, if_pos h3, if_neg h4, if_neg h5, if_neg h6, if_neg h7, if_neg h8, if_neg h9])
      · refine sr_many 5 (t := (bif decide (((μ.1 4 j 1) &&& (μ.1 17 0 4)) = 0) then 116 else 46, [some (.inr (.inr (17, 0))), some (.inl m), some (.inr (.inr (3, j))), some (.inl (μ.1 4 j 1))], [], μ)) rfl ⟨trivial, trivial, (show 0 < 1 by decide), trivial, trivial, trivial⟩ ?_
        refine sr_brd (fun h4 => ?_) (fun h4 => ?_)
        · refine sr_many 1 (t := (117, [some (.inr (.inr (17, 0))), some (.inl m), some (.inr (.inr (3, j))), some (.inl (μ.1 4 j 1))], [.inl 0], μ)) rfl ⟨trivial, trivial⟩ ?_
          exact sr_ret rfl rfl rfl (Or.inl rfl) (by simp only [v_SE_admits, if_neg h1, if_neg h2, if_neg h3, if_pos h4])
        · refine sr_many 4 (t := (bif decide (¬ (v_PT_isEmpty μ 0) = 0) then 70 else 56, [some (.inr (.inr (17, 0))), some (.inl m), some (.inr (.inr (3, j))), some (.inl (μ.1 4 j 1))], [], μ)) rfl ⟨trivial, (show 0 < 1 by decide), ⟨(show 0 < 2 by decide), (show 0 <  2 by decide)⟩, trivial, trivial⟩ ?_
          refine sr_brd (fun h5 => ?_) (fun h5 => ?_)
          · refine sr_many 4 (t := (bif decide (¬ (v_PT_isEmpty μ 1) = 0) then 94 else 80, [some (.inr (.inr (17, 0))), some (.inl m), some (.inr (.inr (3, j))), some (.inl (μ.1 4 j 1))], [], μ)) rfl ⟨trivial, (show 0 < 1 by decide), ⟨(show 1 < 2 by decide), (show 1 <  2 by decide)⟩, trivial, trivial⟩ ?_
            refine sr_brd (fun h6 => ?_) (fun h6 => ?_)
            · refine sr_many 3 (t := (bif decide ((μ.1 17 0 2) = 0) then 112 else 101, [some (.inr (.inr (17, 0))), some (.inl m), some (.inr (.inr (3, j))), some (.inl (μ.1 4 j 1))], [], μ)) rfl ⟨trivial, (show 0 < 1 by decide), trivial, trivial⟩ ?_
              refine sr_brd (fun h7 => ?_) (fun h7 => ?_)
              · refine sr_many 2 (t := (117, [some (.inr (.inr (17, 0))), some (.inl m), some (.inr (.inr (3, j))), some (.inl (μ.1 4 j 1))], [.inl 1], μ)) rfl ⟨trivial, trivial, trivial⟩ ?_
                exact sr_ret rfl rfl rfl (Or.inr rfl) (by simp only [v_SE_admits, if_neg h1, if_neg h2, if_neg h3, if_neg h4, if_pos h5, if_pos h6, if_pos h7])
              · refine sr_many 5 (t := (bif decide ((v_SR_holds (μ.1 17 0 2) m) = 0) then 116 else 112, [some (.inr (.inr (17, 0))), some (.inl m), some (.inr (.inr (3, j))), some (.inl (μ.1 4 j 1))], [], μ)) rfl ⟨trivial, (show 0 < 1 by decide), trivial, trivial, trivial, trivial⟩ ?_
                refine sr_brd (fun h8 => ?_) (fun h8 => ?_)
                · refine sr_many 1 (t := (117, [some (.inr (.inr (17, 0))), some (.inl m), some (.inr (.inr (3, j))), some (.inl (μ.1 4 j 1))], [.inl 0], μ)) rfl ⟨trivial, trivial⟩ ?_
                  exact sr_ret rfl rfl rfl (Or.inl rfl) (by simp only [v_SE_admits, if_neg h1, if_neg h2, if_neg h3, if_neg h4, if_pos h5, if_pos h6, if_neg h7, if_pos h8])
                · refine sr_many 2 (t := (117, [some (.inr (.inr (17, 0))), some (.inl m), some (.inr (.inr (3, j))), some (.inl (μ.1 4 j 1))], [.inl 1], μ)) rfl ⟨trivial, trivial, trivial⟩ ?_
                  exact sr_ret rfl rfl rfl (Or.inr rfl) (by simp only [v_SE_admits, if_neg h1, if_neg h2, if_neg h3, if_neg h4, if_pos h5, if_pos h6, if_neg h7, if_neg h8])
            · refine sr_many 6 (t := (bif decide (¬ (v_PT_matches μ 1 (μ.2 3 j 1)) = 0) then 116 else 94, [some (.inr (.inr (17, 0))), some (.inl m), some (.inr (.inr (3, j))), some (.inl (μ.1 4 j 1))], [], μ)) rfl ⟨trivial, (show 0 < 1 by decide), trivial, (show j < 16 by assumption), ⟨(show 1 < 2 by decide), ⟨(show 1 <  2 by decide), (show sr_cnt (μ.1 18 1 1) 12 by assumption)⟩⟩, trivial, trivial⟩ ?_
              refine sr_brd (fun h7 => ?_) (fun h7 => ?_)
              · refine sr_many 1 (t := (117, [some (.inr (.inr (17, 0))), some (.inl m), some (.inr (.inr (3, j))), some (.inl (μ.1 4 j 1))], [.inl 0], μ)) rfl ⟨trivial, trivial⟩ ?_
                exact sr_ret rfl rfl rfl (Or.inl rfl) (by simp only [v_SE_admits, if_neg h1, if_neg h2, if_neg h3, if_neg h4, if_pos h5, if_neg h6, if_pos h7])
              · refine sr_many 3 (t := (bif decide ((μ.1 17 0 2) = 0) then 112 else 101, [some (.inr (.inr (17, 0))), some (.inl m), some (.inr (.inr (3, j))), some (.inl (μ.1 4 j 1))], [], μ)) rfl ⟨trivial, (show 0 < 1 by decide), trivial, trivial⟩ ?_
                refine sr_brd (fun h8 => ?_) (fun h8 => ?_)
                · refine sr_many 2 (t := (117, [some (.inr (.inr (17, 0))), some (.inl m), some (.inr (.inr (3, j))), some (.inl (μ.1 4 j 1))], [.inl 1], μ)) rfl ⟨trivial, trivial, trivial⟩ ?_
                  exact sr_ret rfl rfl rfl (Or.inr rfl) (by simp only [v_SE_admits, if_neg h1, if_neg h2, if_neg h3, if_neg h4, if_pos h5, if_neg h6, if_neg h7, if_pos h8])
                · refine sr_many 5 (t := (bif decide ((v_SR_holds (μ.1 17 0 2) m) = 0) then 116 else 112, [some (.inr (.inr (17, 0))), some (.inl m), some (.inr (.inr (3, j))), some (.inl (μ.1 4 j 1))], [], μ)) rfl ⟨trivial, (show 0 < 1 by decide), trivial, trivial, trivial, trivial⟩ ?_
                  refine sr_brd (fun h9 => ?_) (fun h9 => ?_)
                  · refine sr_many 1 (t := (117, [some (.inr (.inr (17, 0))), some (.inl m), some (.inr (.inr (3, j))), some (.inl (μ.1 4 j 1))], [.inl 0], μ)) rfl ⟨trivial, trivial⟩ ?_
                    exact sr_ret rfl rfl rfl (Or.inl rfl) (by simp only [v_SE_admits, if_neg h1, if_neg h2, if_neg h3, if_neg h4, if_pos h5, if_neg h6, if_neg h7, if_neg h8, if_pos h9])
                  · refine sr_many 2 (t := (117, [some (.inr (.inr (17, 0))), some (.inl m), some (.inr (.inr (3, j))), some (.inl (μ.1 4 j 1))], [.inl 1], μ)) rfl ⟨trivial, trivial, trivial⟩ ?_
                    exact sr_ret rfl rfl rfl (Or.inr rfl) (by simp only [v_SE_admits, if_neg h1, if_neg h2, if_neg h3, if_neg h4, if_pos h5, if_neg h6, if_neg h7, if_neg h8, if_neg h9])
          · refine sr_many 6 (t := (bif decide ((v_PT_matches μ 0 (μ.2 3 j 1)) = 0) then 116 else 70, [some (.inr (.inr (17, 0))), some (.inl m), some (.inr (.inr (3, j))), some (.inl (μ.1 4 j 1))], [], μ)) rfl ⟨trivial, (show 0 < 1 by decide), trivial, (show j < 16 by assumption), ⟨(show 0 < 2 by decide), ⟨(show 0 <  2 by decide), (show sr_cnt (μ.1 18 0 1) 12 by assumption)⟩⟩, trivial, trivial⟩ ?_
            refine sr_brd (fun h6 => ?_) (fun h6 => ?_)
            · refine sr_many 1 (t := (117, [some (.inr (.inr (17, 0))), some (.inl m), some (.inr (.inr (3, j))), some (.inl (μ.1 4 j 1))], [.inl 0], μ)) rfl ⟨trivial, trivial⟩ ?_
              exact sr_ret rfl rfl rfl (Or.inl rfl) (by simp only [v_SE_admits, if_neg h1, if_neg h2, if_neg h3, if_neg h4, if_neg h5, if_pos h6])
            · refine sr_many 4 (t := (bif decide (¬ (v_PT_isEmpty μ 1) = 0) then 94 else 80, [some (.inr (.inr (17, 0))), some (.inl m), some (.inr (.inr (3, j))), some (.inl (μ.1 4 j 1))], [], μ)) rfl ⟨trivial, (show 0 < 1 by decide), ⟨(show 1 < 2 by decide), (show 1 <  2 by decide)⟩, trivial, trivial⟩ ?_
              refine sr_brd (fun h7 => ?_) (fun h7 => ?_)
              · refine sr_many 3 (t := (bif decide ((μ.1 17 0 2) = 0) then 112 else 101, [some (.inr (.inr (17, 0))), some (.inl m), some (.inr (.inr (3, j))), some (.inl (μ.1 4 j 1))], [], μ)) rfl ⟨trivial, (show 0 < 1 by decide), trivial, trivial⟩ ?_
                refine sr_brd (fun h8 => ?_) (fun h8 => ?_)
                · refine sr_many 2 (t := (117, [some (.inr (.inr (17, 0))), some (.inl m), some (.inr (.inr (3, j))), some (.inl (μ.1 4 j 1))], [.inl 1], μ)) rfl ⟨trivial, trivial, trivial⟩ ?_
                  exact sr_ret rfl rfl rfl (Or.inr rfl) (by simp only [v_SE_admits, if_neg h1, if_neg h2, if_neg h3, if_neg h4, if_neg h5, if_neg h6, if_pos h7, if_pos h8])
                · refine sr_many 5 (t := (bif decide ((v_SR_holds (μ.1 17 0 2) m) = 0) then 116 else 112, [some (.inr (.inr (17, 0))), some (.inl m), some (.inr (.inr (3, j))), some (.inl (μ.1 4 j 1))], [], μ)) rfl ⟨trivial, (show 0 < 1 by decide), trivial, trivial, trivial, trivial⟩ ?_
                  refine sr_brd (fun h9 => ?_) (fun h9 => ?_)
                  · refine sr_many 1 (t := (117, [some (.inr (.inr (17, 0))), some (.inl m), some (.inr (.inr (3, j))), some (.inl (μ.1 4 j 1))], [.inl 0], μ)) rfl ⟨trivial, trivial⟩ ?_
                    exact sr_ret rfl rfl rfl (Or.inl rfl) (by simp only [v_SE_admits, if_neg h1, if_neg h2, if_neg h3, if_neg h4, if_neg h5, if_neg h6, if_pos h7, if_neg h8, if_pos h9])
                  · refine sr_many 2 (t := (117, [some (.inr (.inr (17, 0))), some (.inl m), some (.inr (.inr (3, j))), some (.inl (μ.1 4 j 1))], [.inl 1], μ)) rfl ⟨trivial, trivial, trivial⟩ ?_
                    exact sr_ret rfl rfl rfl (Or.inr rfl) (by simp only [v_SE_admits, if_neg h1, if_neg h2, if_neg h3, if_neg h4, if_neg h5, if_neg h6, if_pos h7, if_neg h8, if_neg h9])
              · refine sr_many 6 (t := (bif decide (¬ (v_PT_matches μ 1 (μ.2 3 j 1)) = 0) then 116 else 94, [some (.inr (.inr (17, 0))), some (.inl m), some (.inr (.inr (3, j))), some (.inl (μ.1 4 j 1))], [], μ)) rfl ⟨trivial, (show 0 < 1 by decide), trivial, (show j < 16 by assumption), ⟨(show 1 < 2 by decide), ⟨(show 1 <  2 by decide), (show sr_cnt (μ.1 18 1 1) 12 by assumption)⟩⟩, trivial, trivial⟩ ?_
                refine sr_brd (fun h8 => ?_) (fun h8 => ?_)
                · refine sr_many 1 (t := (117, [some (.inr (.inr (17, 0))), some (.inl m), some (.inr (.inr (3, j))), some (.inl (μ.1 4 j 1))], [.inl 0], μ)) rfl ⟨trivial, trivial⟩ ?_
                  exact sr_ret rfl rfl rfl (Or.inl rfl) (by simp only [v_SE_admits, if_neg h1, if_neg h2, if_neg h3, if_neg h4, if_neg h5, if_neg h6, if_neg h7, if_pos h8])
                · refine sr_many 3 (t := (bif decide ((μ.1 17 0 2) = 0) then 112 else 101, [some (.inr (.inr (17, 0))), some (.inl m), some (.inr (.inr (3, j))), some (.inl (μ.1 4 j 1))], [], μ)) rfl ⟨trivial, (show 0 < 1 by decide), trivial, trivial⟩ ?_
                  refine sr_brd (fun h9 => ?_) (fun h9 => ?_)
                  · refine sr_many 2 (t := (117, [some (.inr (.inr (17, 0))), some (.inl m), some (.inr (.inr (3, j))), some (.inl (μ.1 4 j 1))], [.inl 1], μ)) rfl ⟨trivial, trivial, trivial⟩ ?_
                    exact sr_ret rfl rfl rfl (Or.inr rfl) (by simp only [v_SE_admits, if_neg h1, if_neg h2, if_neg h3, if_neg h4, if_neg h5, if_neg h6, if_neg h7, if_neg h8, if_pos h9])
                  · refine sr_many 5 (t := (bif decide ((v_SR_holds (μ.1 17 0 2) m) = 0) then 116 else 112, [some (.inr (.inr (17, 0))), some (.inl m), some (.inr (.inr (3, j))), some (.inl (μ.1 4 j 1))], [], μ)) rfl ⟨trivial, (show 0 < 1 by decide), trivial, trivial, trivial, trivial⟩ ?_
                    refine sr_brd (fun h10 => ?_) (fun h10 => ?_)
                    · refine sr_many 1 (t := (117, [some (.inr (.inr (17, 0))), some (.inl m), some (.inr (.inr (3, j))), some (.inl (μ.1 4 j 1))], [.inl 0], μ)) rfl ⟨trivial, trivial⟩ ?_
                      exact sr_ret rfl rfl rfl (Or.inl rfl) (by simp only [v_SE_admits, if_neg h1, if_neg h2, if_neg h3, if_neg h4, if_neg h5, if_neg h6, if_neg h7, if_neg h8, if_neg h9, if_pos h10])
                    · refine sr_many 2 (t := (117, [some (.inr (.inr (17, 0))), some (.inl m), some (.inr (.inr (3, j))), some (.inl (μ.1 4 j 1))], [.inl 1], μ)) rfl ⟨trivial, trivial, trivial⟩ ?_
                      exact sr_ret rfl rfl rfl (Or.inr rfl) (by simp only [v_SE_admits, if_neg h1, if_neg h2, if_neg h3, if_neg h4, if_neg h5, if_neg h6, if_neg h7, if_neg h8, if_neg h9, if_neg h10])
def f_SR_chosenNow (μ : sr_M)   : Nat → Int32 → Int32 := fun k a => if (v_SE_admits μ (nI k) (k)) = 0 then a else (a ||| ((1 : Int32) <<< ((nI k) &&& 31)))
def v_SR_chosenNow (μ : sr_M)  : Int32 := (sr_it (f_SR_chosenNow μ) 0 ((μ.1 2 0 1).toNatClampNeg))
def q_SR_chosenNow (μ : sr_M)  : Prop := sr_cnt (μ.1 2 0 1) 16 ∧ sr_cnt (μ.1 18 0 1) 12 ∧ sr_cnt (μ.1 18 1 1) 12
def p_SR_chosenNow : sr_F := fun vs μ => match vs with
  | [.inr (.inr (0, 0))] => some (q_SR_chosenNow μ , some (.inl (v_SR_chosenNow μ )), μ)
  | _ => none
def e_SR_chosenNow : sr_E := (sr_SC, sr_KS, (fun k => ([(20, 0, 1), (24, 0, 2), (55, 2, 0), (176, 2, 1)] : List (Nat × Nat × Nat)).lookup k, fun _ => none, fun _ => none, fun _ => none, fun k => ([(179, 9, 2, p_SE_admits)] : List (Nat × Nat × Nat × sr_F)).lookup k), sr_cd cd_SR_chosenNow, some .int)
set_option maxRecDepth 10000 in
theorem a_SR_chosenNow (μ : sr_M)  (hq : q_SR_chosenNow μ ) : sr_AW e_SR_chosenNow (fun r => r = (some (.inl (v_SR_chosenNow μ )), μ)) (sr_entry 3 [.inr (.inr (0, 0))] μ) := by
  have hq0 := hq
  obtain ⟨q1, q2, q3⟩ : sr_cnt (μ.1 2 0 1) 16 ∧ sr_cnt (μ.1 18 0 1) 12 ∧ sr_cnt (μ.1 18 1 1) 12 := hq
  refine sr_many 4 (t := (4, [some (.inr (.inr (0, 0))), some (.inl 0), some (.inl 0)], [], μ)) rfl ⟨trivial, trivial, trivial, trivial, trivial⟩ ?_
  refine sr_forT (α := Int32) (fun k a => (4, [some (.inr (.inr (0, 0))), some (.inl a), some (.inl (nI k))], [], μ)) (f_SR_chosenNow μ) 0 ((μ.1 2 0 1).toNatClampNeg) (fun k hk a w => ?_) ?_
  · have hbk : k < 16 := sr_cnt_lt q1 hk
    have hck : (nI k).toNatClampNeg = k := sr_clN 16 hbk (by decide)
    have hink : sr_in (nI k) 16 := sr_inN 16 hbk (by decide)
    have hcbk : (nI k).toNatClampNeg < 16 := by rw [hck]; exact hbk
    refine sr_many 5 (t := (bif decide ((μ.1 2 0 1) ≤ (nI k)) then 47 else 15, [some (.inr (.inr (0, 0))), some (.inl a), some (.inl (nI k))], [], μ)) rfl ⟨trivial, trivial, (show 0 < 1 by decide), (show 0 < 1 by decide), trivial, trivial⟩ ?_
    refine sr_brd (fun h => absurd h (by exact sr_cnt_nlt q1 (by decide) hk)) (fun _ => ?_)
    refine sr_many 10 (t := (bif decide ((v_SE_admits μ (nI k) ((nI k).toNatClampNeg)) = 0) then 41 else 35, [some (.inr (.inr (0, 0))), some (.inl a), some (.inl (nI k))], [], μ)) rfl ⟨trivial, (show 0 < 1 by decide), trivial, trivial, (show 0 < 1 by decide), (show 0 < 1 by decide), trivial, ⟨(show 0 < 1 by decide), (show sr_in (nI k) 16 by assumption)⟩, ⟨(show 0 < 1 by decide), ⟨(show ((nI k).toNatClampNeg) < 16 by assumption), (show sr_cnt (μ.1 18 0 1) 12 by assumption), (show sr_cnt (μ.1 18 1 1) 12 by assumption)⟩⟩, trivial, trivial⟩ ?_
    refine sr_brd (fun h1 => ?_) (fun h1 => ?_)
    · refine sr_many 2 (t := (4, [some (.inr (.inr (0, 0))), some (.inl a), some (.inl ((nI k) + 1))], [], μ)) rfl ⟨trivial, trivial, trivial⟩ ?_
      try simp only [hck] at h1
      try simp only [hck]
      simp only [f_SR_chosenNow, if_pos h1, nI_succ] at w
      exact w
    · refine sr_many 8 (t := (4, [some (.inr (.inr (0, 0))), some (.inl (a ||| ((1 : Int32) <<< ((nI k) &&& 31)))), some (.inl ((nI k) + 1))], [], μ)) rfl ⟨trivial, trivial, trivial, trivial, trivial, trivial, trivial, trivial, trivial⟩ ?_
      try simp only [hck] at h1
      try simp only [hck]
      simp only [f_SR_chosenNow, if_neg h1, nI_succ] at w
      exact w
  · skip
    refine sr_many 5 (t := (bif decide ((μ.1 2 0 1) ≤ (nI ((μ.1 2 0 1).toNatClampNeg))) then 47 else 15, [some (.inr (.inr (0, 0))), some (.inl (sr_it (f_SR_chosenNow μ) 0 ((μ.1 2 0 1).toNatClampNeg))), some (.inl (nI ((μ.1 2 0 1).toNatClampNeg)))], [], μ)) rfl ⟨trivial, trivial, (show 0 < 1 by decide), (show 0 < 1 by decide), trivial, trivial⟩ ?_
    refine sr_brd (fun _ => ?_) (fun h => absurd (by exact sr_cnt_le q1) h)
    refine sr_many 1 (t := (48, [some (.inr (.inr (0, 0))), some (.inl (sr_it (f_SR_chosenNow μ) 0 ((μ.1 2 0 1).toNatClampNeg))), some (.inl (nI ((μ.1 2 0 1).toNatClampNeg)))], [.inl (sr_it (f_SR_chosenNow μ) 0 ((μ.1 2 0 1).toNatClampNeg))], μ)) rfl ⟨trivial, trivial⟩ ?_
    exact sr_ret rfl rfl rfl trivial rfl
def f_CT_findReach_2 (μ : sr_M) (ch : Int32)  : Nat → sr_M → sr_M := fun k a => if (v_SR_holds ch (nI k)) = 0 then (sr_seti a 9 0 (k) 0) else (sr_seti a 9 0 (k) (v_CT_needsWithin a (nI k) ch))
def f_CT_findReach_52 (μ : sr_M) (ch : Int32) (k : Nat) (a : sr_M) : Nat → sr_M → sr_M := fun k2 a2 => if (v_SR_holds (a2.1 9 0 (k2)) (nI k)) = 0 then a2 else (sr_seti a2 9 0 (k2) ((a2.1 9 0 (k2)) ||| (a2.1 9 0 (k))))
def f_CT_findReach_42 (μ : sr_M) (ch : Int32)  : Nat → sr_M → sr_M := fun k a => (sr_it (f_CT_findReach_52 μ ch k a) a ((μ.1 2 0 1).toNatClampNeg))
def m_CT_findReach (μ : sr_M) (ch : Int32) : sr_M := (sr_it (f_CT_findReach_42 μ ch) (sr_it (f_CT_findReach_2 μ ch) μ ((μ.1 2 0 1).toNatClampNeg)) ((μ.1 2 0 1).toNatClampNeg))
def q_CT_findReach (μ : sr_M) (ch : Int32) : Prop := sr_cnt (μ.1 2 0 1) 16
def p_CT_findReach : sr_F := fun vs μ => match vs with
  | [.inr (.inr (2, 0)), .inl ch] => some (q_CT_findReach μ ch, none, m_CT_findReach μ ch)
  | _ => none
def e_CT_findReach : sr_E := (sr_SC, sr_KS, (fun k => ([(27, 2, 5), (32, 2, 1)] : List (Nat × Nat × Nat)).lookup k, fun _ => none, fun _ => none, fun _ => none, fun k => ([(70, 0, 2, p_SR_holds), (77, 3, 2, p_CT_needsWithin)] : List (Nat × Nat × Nat × sr_F)).lookup k), sr_cd cd_CT_findReach, none)
set_option maxRecDepth 10000 in
theorem a_CT_findReach (μ : sr_M) (ch : Int32) (hq : q_CT_findReach μ ch) : sr_AW e_CT_findReach (fun r => r = (none, m_CT_findReach μ ch)) (sr_entry 4 [.inr (.inr (2, 0)), .inl ch] μ) := by
  have q1 : sr_cnt (μ.1 2 0 1) 16 := hq
  refine sr_many 2 (t := (2, [some (.inr (.inr (2, 0))), some (.inl ch), some (.inl 0), none], [], μ)) rfl ⟨trivial, trivial, trivial⟩ ?_
  refine sr_forI (α := sr_M) (fun k a => (2, [some (.inr (.inr (2, 0))), some (.inl ch), some (.inl (nI k)), none], [], a)) (f_CT_findReach_2 μ ch) (fun k a => a.1 2 0 1 = μ.1 2 0 1 ∧ True) μ ((μ.1 2 0 1).toNatClampNeg) ⟨rfl, trivial⟩ (fun k hk a h => by unfold f_CT_findReach_2; simp only [sr_seti]; (repeat' split) <;> simp_all) (fun k hk a hIk w => ?_) (fun hIk => ?_)
  · have hbk : k < 16 := sr_cnt_lt q1 hk
    have hck : (nI k).toNatClampNeg = k := sr_clN 16 hbk (by decide)
    have hink : sr_in (nI k) 16 := sr_inN 16 hbk (by decide)
    have hcbk : (nI k).toNatClampNeg < 16 := by rw [hck]; exact hbk
    have qa : sr_cnt (a.1 2 0 1) 16 := by rw [hIk.1]; exact q1
    refine sr_many 4 (t := (bif decide ((a.1 2 0 1) ≤ (nI k)) then 40 else 10, [some (.inr (.inr (2, 0))), some (.inl ch), some (.inl (nI k)), none], [], a)) rfl ⟨trivial, trivial, (show 0 < 1 by decide), trivial, trivial⟩ ?_
    refine sr_brd (fun h => absurd h (by rw [(hIk).1]; exact sr_cnt_nlt q1 (by decide) hk)) (fun _ => ?_)
    refine sr_many 7 (t := (bif decide ((v_SR_holds ch (nI k)) = 0) then 32 else 23, [some (.inr (.inr (2, 0))), some (.inl ch), some (.inl (nI k)), none], [.inl (nI k), .inr (.inr (9, 0))], a)) rfl ⟨trivial, (show 0 < 1 by decide), trivial, trivial, trivial, trivial, trivial, trivial⟩ ?_
    refine sr_brd (fun h1 => ?_) (fun h1 => ?_)
    · refine sr_many 4 (t := (2, [some (.inr (.inr (2, 0))), some (.inl ch), some (.inl ((nI k) + 1)), none], [], (sr_seti a 9 0 ((nI k).toNatClampNeg) 0))) rfl ⟨trivial, ⟨(show 0 < 1 by decide), (show sr_in (nI k) 16 by assumption)⟩, trivial, trivial, trivial⟩ ?_
      try simp only [hck] at h1
      try simp only [hck]
      simp only [f_CT_findReach_2, if_pos h1, nI_succ] at w
      exact w
    · refine sr_many 8 (t := (2, [some (.inr (.inr (2, 0))), some (.inl ch), some (.inl ((nI k) + 1)), none], [], (sr_seti a 9 0 ((nI k).toNatClampNeg) (v_CT_needsWithin a (nI k) ch)))) rfl ⟨trivial, trivial, trivial, ⟨(show 0 < 1 by decide), ⟨(show sr_cnt (a.1 2 0 1) 16 by assumption), (show sr_in (nI k) 16 by assumption)⟩⟩, trivial, ⟨(show 0 < 1 by decide), (show sr_in (nI k) 16 by assumption)⟩, trivial, trivial, trivial⟩ ?_
      try simp only [hck] at h1
      try simp only [hck]
      simp only [f_CT_findReach_2, if_neg h1, nI_succ] at w
      exact w
  · skip
    refine sr_many 4 (t := (bif decide (((sr_it (f_CT_findReach_2 μ ch) μ ((μ.1 2 0 1).toNatClampNeg)).1 2 0 1) ≤ (nI ((μ.1 2 0 1).toNatClampNeg))) then 40 else 10, [some (.inr (.inr (2, 0))), some (.inl ch), some (.inl (nI ((μ.1 2 0 1).toNatClampNeg))), none], [], (sr_it (f_CT_findReach_2 μ ch) μ ((μ.1 2 0 1).toNatClampNeg)))) rfl ⟨trivial, trivial, (show 0 < 1 by decide), trivial, trivial⟩ ?_
    refine sr_brd (fun _ => ?_) (fun h => absurd (by rw [(hIk).1]; exact sr_cnt_le q1) h)
    refine sr_many 2 (t := (42, [some (.inr (.inr (2, 0))), some (.inl ch), some (.inl 0), none], [], (sr_it (f_CT_findReach_2 μ ch) μ ((μ.1 2 0 1).toNatClampNeg)))) rfl ⟨trivial, trivial, trivial⟩ ?_
    refine sr_forI (α := sr_M) (fun k a => (42, [some (.inr (.inr (2, 0))), some (.inl ch), some (.inl (nI k)), none], [], a)) (f_CT_findReach_42 μ ch) (fun k a => a.1 2 0 1 = μ.1 2 0 1 ∧ True) (sr_it (f_CT_findReach_2 μ ch) μ ((μ.1 2 0 1).toNatClampNeg)) ((μ.1 2 0 1).toNatClampNeg) ⟨hIk.1, trivial⟩ (fun k hk a h => (by unfold f_CT_findReach_42; exact sr_it_inv (fun b : sr_M => b.1 2 0 1 = μ.1 2 0 1 ∧ True) (fun k2 b hb => by unfold f_CT_findReach_52; simp only [sr_seti]; (repeat' split) <;> simp_all) h _)) (fun k hk a hIk w => ?_) (fun hIk => ?_)
    · have hbk : k < 16 := sr_cnt_lt q1 hk
      have hck : (nI k).toNatClampNeg = k := sr_clN 16 hbk (by decide)
      have hink : sr_in (nI k) 16 := sr_inN 16 hbk (by decide)
      have hcbk : (nI k).toNatClampNeg < 16 := by rw [hck]; exact hbk
      refine sr_many 4 (t := (bif decide ((a.1 2 0 1) ≤ (nI k)) then 100 else 50, [some (.inr (.inr (2, 0))), some (.inl ch), some (.inl (nI k)), none], [], a)) rfl ⟨trivial, trivial, (show 0 < 1 by decide), trivial, trivial⟩ ?_
      refine sr_brd (fun h => absurd h (by rw [(hIk).1]; exact sr_cnt_nlt q1 (by decide) hk)) (fun _ => ?_)
      refine sr_many 2 (t := (52, [some (.inr (.inr (2, 0))), some (.inl ch), some (.inl (nI k)), some (.inl 0)], [], a)) rfl ⟨trivial, trivial, trivial⟩ ?_
      refine sr_forI (α := sr_M) (fun k2 a2 => (52, [some (.inr (.inr (2, 0))), some (.inl ch), some (.inl (nI k)), some (.inl (nI k2))], [], a2)) (f_CT_findReach_52 μ ch k a) (fun k a => a.1 2 0 1 = μ.1 2 0 1 ∧ True) a ((μ.1 2 0 1).toNatClampNeg) ⟨hIk.1, trivial⟩ (fun k hk a h => by unfold f_CT_findReach_52; simp only [sr_seti]; (repeat' split) <;> simp_all) (fun k2 hk2 a2 hIk2 w2 => ?_) (fun hIk2 => ?_)
      · have hbk2 : k2 < 16 := sr_cnt_lt q1 hk2
        have hck2 : (nI k2).toNatClampNeg = k2 := sr_clN 16 hbk2 (by decide)
        have hink2 : sr_in (nI k2) 16 := sr_inN 16 hbk2 (by decide)
        have hcbk2 : (nI k2).toNatClampNeg < 16 := by rw [hck2]; exact hbk2
        refine sr_many 4 (t := (bif decide ((a2.1 2 0 1) ≤ (nI k2)) then 94 else 60, [some (.inr (.inr (2, 0))), some (.inl ch), some (.inl (nI k)), some (.inl (nI k2))], [], a2)) rfl ⟨trivial, trivial, (show 0 < 1 by decide), trivial, trivial⟩ ?_
        refine sr_brd (fun h => absurd h (by rw [(hIk2).1]; exact sr_cnt_nlt q1 (by decide) hk2)) (fun _ => ?_)
        refine sr_many 7 (t := (bif decide ((v_SR_holds (a2.1 9 0 ((nI k2).toNatClampNeg)) (nI k)) = 0) then 88 else 73, [some (.inr (.inr (2, 0))), some (.inl ch), some (.inl (nI k)), some (.inl (nI k2))], [], a2)) rfl ⟨trivial, (show 0 < 1 by decide), trivial, ⟨(show 0 < 1 by decide), (show sr_in (nI k2) 16 by assumption)⟩, trivial, trivial, trivial, trivial⟩ ?_
        refine sr_brd (fun h1 => ?_) (fun h1 => ?_)
        · refine sr_many 2 (t := (52, [some (.inr (.inr (2, 0))), some (.inl ch), some (.inl (nI k)), some (.inl ((nI k2) + 1))], [], a2)) rfl ⟨trivial, trivial, trivial⟩ ?_
          try simp only [hck, hck2] at h1
          try simp only [hck, hck2]
          simp only [f_CT_findReach_52, if_pos h1, nI_succ] at w2
          exact w2
        · refine sr_many 13 (t := (52, [some (.inr (.inr (2, 0))), some (.inl ch), some (.inl (nI k)), some (.inl ((nI k2) + 1))], [], (sr_seti a2 9 0 ((nI k2).toNatClampNeg) ((a2.1 9 0 ((nI k2).toNatClampNeg)) ||| (a2.1 9 0 ((nI k).toNatClampNeg)))))) rfl ⟨trivial, (show 0 < 1 by decide), trivial, trivial, ⟨(show 0 < 1 by decide), (show sr_in (nI k2) 16 by assumption)⟩, trivial, (show 0 < 1 by decide), trivial, ⟨(show 0 < 1 by decide), (show sr_in (nI k) 16 by assumption)⟩, trivial, ⟨(show 0 < 1 by decide), (show sr_in (nI k2) 16 by assumption)⟩, trivial, trivial, trivial⟩ ?_
          try simp only [hck, hck2] at h1
          try simp only [hck, hck2]
          simp only [f_CT_findReach_52, if_neg h1, nI_succ] at w2
          exact w2
      · skip
        refine sr_many 4 (t := (bif decide (((sr_it (f_CT_findReach_52 μ ch k a) a ((μ.1 2 0 1).toNatClampNeg)).1 2 0 1) ≤ (nI ((μ.1 2 0 1).toNatClampNeg))) then 94 else 60, [some (.inr (.inr (2, 0))), some (.inl ch), some (.inl (nI k)), some (.inl (nI ((μ.1 2 0 1).toNatClampNeg)))], [], (sr_it (f_CT_findReach_52 μ ch k a) a ((μ.1 2 0 1).toNatClampNeg)))) rfl ⟨trivial, trivial, (show 0 < 1 by decide), trivial, trivial⟩ ?_
        refine sr_brd (fun _ => ?_) (fun h => absurd (by rw [(hIk2).1]; exact sr_cnt_le q1) h)
        refine sr_many 2 (t := (42, [some (.inr (.inr (2, 0))), some (.inl ch), some (.inl ((nI k) + 1)), some (.inl (nI ((μ.1 2 0 1).toNatClampNeg)))], [], (sr_it (f_CT_findReach_52 μ ch k a) a ((μ.1 2 0 1).toNatClampNeg)))) rfl ⟨trivial, trivial, trivial⟩ ?_
        try simp only [hck]
        refine sr_forget [some (.inr (.inr (2, 0))), some (.inl ch), some (.inl ((nI k) + 1)), none] (by simp [sr_sub]) ?_
        simp only [f_CT_findReach_42, nI_succ] at w
        exact w
    · skip
      refine sr_many 4 (t := (bif decide (((sr_it (f_CT_findReach_42 μ ch) (sr_it (f_CT_findReach_2 μ ch) μ ((μ.1 2 0 1).toNatClampNeg)) ((μ.1 2 0 1).toNatClampNeg)).1 2 0 1) ≤ (nI ((μ.1 2 0 1).toNatClampNeg))) then 100 else 50, [some (.inr (.inr (2, 0))), some (.inl ch), some (.inl (nI ((μ.1 2 0 1).toNatClampNeg))), none], [], (sr_it (f_CT_findReach_42 μ ch) (sr_it (f_CT_findReach_2 μ ch) μ ((μ.1 2 0 1).toNatClampNeg)) ((μ.1 2 0 1).toNatClampNeg)))) rfl ⟨trivial, trivial, (show 0 < 1 by decide), trivial, trivial⟩ ?_
      refine sr_brd (fun _ => ?_) (fun h => absurd (by rw [(hIk).1]; exact sr_cnt_le q1) h)
      exact sr_ret rfl rfl rfl trivial rfl
