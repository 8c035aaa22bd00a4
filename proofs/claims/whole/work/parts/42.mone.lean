/-! the reference: one, tick -/
-- what is so of the reference at every moment of a run
def sr_mo (a : sr_M) : Prop := sr_cnt (a.1 20 0 0) 16 ∧ sr_cnt (a.1 20 0 7) 8 ∧ sr_mk a ∧ ∀ v, v < 3 → a.1 40 0 v < 0 ∨ (sr_in (a.1 40 0 v) 16 ∧ sr_cnt (a.1 42 0 v) 15 ∧ sr_cnt (v_MO_due a (a.1 40 0 v)) 16)
theorem sr_mo.hs {a : sr_M} (h : sr_mo a) : ∀ v, v < 3 → a.1 40 0 v < 0 ∨ sr_in (a.1 40 0 v) 16 := fun v hv => (h.2.2.2 v hv).imp id (fun q => q.1)
theorem sr_cnt_add1 {x : Int32} {N : Nat} (h : sr_cnt x N) (hN : N + 1 < 2 ^ 31) : sr_cnt (x + 1) (N + 1) := by
  obtain ⟨h1, h2⟩ := h
  rw [h1, ← nI_succ]
  unfold sr_cnt
  rw [nI_clamp (by omega)]
  exact ⟨rfl, by omega⟩
theorem pp_one {a : sr_M} {w x r c : Int32} (h : sr_mo a) (hw : sr_in w 3) (hh : ¬ a.1 40 0 w.toNatClampNeg < 0) : q_MO_proceed (m_MO_configure (m_MO_close (sr_seti a 41 0 w.toNatClampNeg x) w r) 2 0 c) w := by
  have hf : sr_mf a (m_MO_configure (m_MO_close (sr_seti a 41 0 w.toNatClampNeg x) w r) 2 0 c) := (((sr_mf.rf a).arr).trans (mf_MO_close _ _ _)).trans (mf_MO_configure _ _ _ _)
  obtain ⟨k1, k2, k3⟩ := (h.2.2.2 _ (sr_in_lt hw)).resolve_left hh
  have e1 : (m_MO_configure (m_MO_close (sr_seti a 41 0 w.toNatClampNeg x) w r) 2 0 c).1 40 0 w.toNatClampNeg = a.1 40 0 w.toNatClampNeg := (mh_MO_configure _ _ _ _ 40 0 _ (by decide)).trans ((h_MO_close _ _ _).1)
  have e2 : (m_MO_configure (m_MO_close (sr_seti a 41 0 w.toNatClampNeg x) w r) 2 0 c).1 42 0 w.toNatClampNeg = a.1 42 0 w.toNatClampNeg + 1 := (mh_MO_configure _ _ _ _ 42 0 _ (by decide)).trans ((h_MO_close _ _ _).2.1)
  unfold q_MO_proceed
  rw [e1, e2]
  refine ⟨hw, k1, hf.cnt h.1, hf.cnt h.2.1, ?_, ?_, sr_cnt_add1 k2 (by decide)⟩
  · rw [is_mf hf]; exact h.2.2.1.1 _ k1
  · rw [due_mf hf]; exact k3
theorem rs_MO (μ : sr_M) (m j : Int32) : sr_in (v_MO_result μ m j) 4 ∧ ¬ v_MO_result μ m j = 0 := by
  unfold v_MO_result
  (repeat' split) <;> exact ⟨by decide, by decide⟩
-- a loop while c holds, at most n turns
def sr_wh {α : Type} (c : α → Bool) (f : α → α) : Nat → α → α
  | 0, a => a
  | n + 1, a => if c a = true then sr_wh c f n (f a) else a
def sr_wok {α : Type} (c : α → Bool) (f : α → α) (ok : α → Prop) : Nat → α → Prop
  | 0, _ => True
  | n + 1, a => c a = true → ok a ∧ sr_wok c f ok n (f a)
theorem sr_while {E : sr_E} {K : sr_R → Prop} {α : Type} {c : α → Bool} {f : α → α} {ok : α → Prop} (hd : α → sr_S) (step : ∀ a, ok a → c a = true → sr_AW E K (hd (f a)) → sr_AW E K (hd a)) : ∀ (n : Nat) (a : α), sr_wok c f ok n a → sr_AW E K (hd (sr_wh c f n a)) → sr_AW E K (hd a)
  | 0, _, _, k => k
  | n + 1, a, hw, k => by
    unfold sr_wh at k
    unfold sr_wok at hw
    split at k
    · rename_i hc
      exact step a (hw hc).1 hc (sr_while hd step n (f a) (hw hc).2 k)
    · exact k
def cw_MO_one (w : Int32) (a : Int32 × sr_M) : Bool := decide (¬ 0 ≤ a.2.1 40 0 w.toNatClampNeg ∧ ¬ a.1 < 0)
def d_MO_one (w : Int32) (a : Int32 × sr_M) : Int32 × sr_M := (v_MO_first (m_MO_take a.2 w a.1) w, m_MO_take a.2 w a.1)
def k_MO_one (w : Int32) (a : Int32 × sr_M) : Prop := sr_mo a.2 ∧ sr_in a.1 16 ∧ sr_mo (m_MO_take a.2 w a.1)
def w_MO_one (w : Int32) (ν : sr_M) : Int32 × sr_M := sr_wh (cw_MO_one w) (d_MO_one w) 16 (v_MO_first ν w, ν)
def f_MO_one_12 (μ : sr_M)   : Nat → sr_M → sr_M := fun k a => if (a.1 40 0 (k)) < 0 then a else (if ¬ ((sr_seti a 41 0 (k) ((a.1 41 0 (k)) - (1 : Int32))).1 41 0 (k)) = 0 then (sr_seti a 41 0 (k) ((a.1 41 0 (k)) - (1 : Int32))) else (m_MO_proceed (m_MO_configure (m_MO_close (sr_seti a 41 0 (k) ((a.1 41 0 (k)) - (1 : Int32))) (nI k) (v_MO_result (sr_seti a 41 0 (k) ((a.1 41 0 (k)) - (1 : Int32))) (a.1 40 0 (k)) (a.1 42 0 (k)))) 2 0 ((m_MO_close (sr_seti a 41 0 (k) ((a.1 41 0 (k)) - (1 : Int32))) (nI k) (v_MO_result (sr_seti a 41 0 (k) ((a.1 41 0 (k)) - (1 : Int32))) (a.1 40 0 (k)) (a.1 42 0 (k)))).1 21 0 ((a.1 40 0 (k)).toNatClampNeg))) (nI k)))
def f_MO_one_98 (μ : sr_M)   : Nat → sr_M → sr_M := fun k a => (w_MO_one (nI k) a).2
def m_MO_one (μ : sr_M)  : sr_M := if ¬ (v_MO_allOver (sr_it (f_MO_one_98 μ) (sr_it (f_MO_one_12 μ) (sr_seti μ 20 0 25 ((μ.1 20 0 25) + (1 : Int32))) ((μ.1 20 0 18).toNatClampNeg)) ((μ.1 20 0 18).toNatClampNeg)) (v_MO_chosenNow (sr_it (f_MO_one_98 μ) (sr_it (f_MO_one_12 μ) (sr_seti μ 20 0 25 ((μ.1 20 0 25) + (1 : Int32))) ((μ.1 20 0 18).toNatClampNeg)) ((μ.1 20 0 18).toNatClampNeg)))) = 0 then (if ((sr_it (f_MO_one_98 μ) (sr_it (f_MO_one_12 μ) (sr_seti μ 20 0 25 ((μ.1 20 0 25) + (1 : Int32))) ((μ.1 20 0 18).toNatClampNeg)) ((μ.1 20 0 18).toNatClampNeg)).1 20 0 33) = 0 then (sr_seti (sr_seti (m_MO_note (sr_it (f_MO_one_98 μ) (sr_it (f_MO_one_12 μ) (sr_seti μ 20 0 25 ((μ.1 20 0 25) + (1 : Int32))) ((μ.1 20 0 18).toNatClampNeg)) ((μ.1 20 0 18).toNatClampNeg)) 4 0 0) 20 0 23 0) 20 0 24 1) else (sr_seti (sr_seti (m_MO_note (m_MO_configure (sr_it (f_MO_one_98 μ) (sr_it (f_MO_one_12 μ) (sr_seti μ 20 0 25 ((μ.1 20 0 25) + (1 : Int32))) ((μ.1 20 0 18).toNatClampNeg)) ((μ.1 20 0 18).toNatClampNeg)) 0 0 0) 4 0 0) 20 0 23 0) 20 0 24 1)) else (sr_it (f_MO_one_98 μ) (sr_it (f_MO_one_12 μ) (sr_seti μ 20 0 25 ((μ.1 20 0 25) + (1 : Int32))) ((μ.1 20 0 18).toNatClampNeg)) ((μ.1 20 0 18).toNatClampNeg))
def q_MO_one (μ : sr_M)  : Prop := sr_cnt (μ.1 20 0 18) 3 ∧ (∀ k, k ≤ (μ.1 20 0 18).toNatClampNeg → sr_mo (sr_it (f_MO_one_12 μ) (sr_seti μ 20 0 25 ((μ.1 20 0 25) + (1 : Int32))) k) ∧ (sr_it (f_MO_one_12 μ) (sr_seti μ 20 0 25 ((μ.1 20 0 25) + (1 : Int32))) k).1 20 0 18 = μ.1 20 0 18) ∧ (∀ k, k ≤ (μ.1 20 0 18).toNatClampNeg → sr_mo (sr_it (f_MO_one_98 μ) (sr_it (f_MO_one_12 μ) (sr_seti μ 20 0 25 ((μ.1 20 0 25) + (1 : Int32))) (μ.1 20 0 18).toNatClampNeg) k) ∧ (sr_it (f_MO_one_98 μ) (sr_it (f_MO_one_12 μ) (sr_seti μ 20 0 25 ((μ.1 20 0 25) + (1 : Int32))) (μ.1 20 0 18).toNatClampNeg) k).1 20 0 18 = μ.1 20 0 18) ∧ (∀ k, k < (μ.1 20 0 18).toNatClampNeg → sr_wok (cw_MO_one (nI k)) (d_MO_one (nI k)) (k_MO_one (nI k)) 16 (v_MO_first (sr_it (f_MO_one_98 μ) (sr_it (f_MO_one_12 μ) (sr_seti μ 20 0 25 ((μ.1 20 0 25) + (1 : Int32))) (μ.1 20 0 18).toNatClampNeg) k) (nI k), (sr_it (f_MO_one_98 μ) (sr_it (f_MO_one_12 μ) (sr_seti μ 20 0 25 ((μ.1 20 0 25) + (1 : Int32))) (μ.1 20 0 18).toNatClampNeg) k)) ∧ cw_MO_one (nI k) (w_MO_one (nI k) (sr_it (f_MO_one_98 μ) (sr_it (f_MO_one_12 μ) (sr_seti μ 20 0 25 ((μ.1 20 0 25) + (1 : Int32))) (μ.1 20 0 18).toNatClampNeg) k)) = false)
def px_MO_one (mo : sr_M → sr_M) (qo : sr_M → Prop) : sr_F := fun vs μ => match vs with
  | [.inr (.inr (20, 0))] => some (qo μ, none, mo μ)
  | _ => none
def p_MO_one : sr_F := px_MO_one m_MO_one q_MO_one
def e_MO_one : sr_E := (sr_SM, sr_KS, (fun k => ([(7, 10, 1), (52, 10, 18), (80, 10, 35), (83, 10, 36), (86, 10, 37), (103, 10, 23), (173, 10, 25), (186, 10, 33), (239, 10, 24)] : List (Nat × Nat × Nat)).lookup k, fun _ => none, fun _ => none, fun _ => none, fun k => ([(176, 11, 3, p_MO_note), (195, 11, 1, p_MO_allOver), (205, 11, 3, p_MO_configure), (216, 11, 1, p_MO_proceed), (224, 11, 2, p_MO_close), (227, 11, 2, p_MO_result), (230, 11, 1, p_MO_first), (233, 11, 2, p_MO_take), (236, 11, 0, p_MO_chosenNow)] : List (Nat × Nat × Nat × sr_F)).lookup k), sr_cd cd_MO_one, none)
theorem n_MO_one {K : sr_R → Prop} (w : Int32) (hw : sr_in w 3) (ν : sr_M) (h1 : sr_wok (cw_MO_one w) (d_MO_one w) (k_MO_one w) 16 (v_MO_first ν w, ν)) (h2 : cw_MO_one w (w_MO_one w ν) = false) (k : sr_AW e_MO_one K (140, [some (.inr (.inr (20, 0))), some (.inl w), some (.inl (w_MO_one w ν).1), none], [], (w_MO_one w ν).2)) : sr_AW e_MO_one K (112, [some (.inr (.inr (20, 0))), some (.inl w), some (.inl (v_MO_first ν w)), none], [], ν) := by
  refine sr_while (c := cw_MO_one w) (f := d_MO_one w) (ok := k_MO_one w) (fun a => (112, [some (.inr (.inr (20, 0))), some (.inl w), some (.inl a.1), none], [], a.2)) (fun a hok hc0 w2 => ?_) 16 (v_MO_first ν w, ν) h1 ?_
  · have hc := of_decide_eq_true hc0
    refine sr_many 5 (t := (bif decide (0 ≤ (a.2.1 40 0 w.toNatClampNeg)) then 140 else 121, [some (.inr (.inr (20, 0))), some (.inl w), some (.inl a.1), none], [], a.2)) rfl ⟨trivial, (show 0 < 1 by decide), trivial, ⟨(show 0 < 1 by decide), hw⟩, trivial, trivial⟩ ?_
    refine sr_brd (fun h => absurd h hc.1) (fun _ => ?_)
    refine sr_many 2 (t := (bif decide (a.1 < 0) then 140 else 125, [some (.inr (.inr (20, 0))), some (.inl w), some (.inl a.1), none], [], a.2)) rfl ⟨trivial, trivial, trivial⟩ ?_
    refine sr_brd (fun h => absurd h hc.2) (fun _ => ?_)
    refine sr_many 4 (t := (131, [some (.inr (.inr (20, 0))), some (.inl w), some (.inl a.1), none], [], m_MO_take a.2 w a.1)) rfl ⟨trivial, trivial, trivial, ⟨(show 0 < 1 by decide), ⟨hw, hok.2.1, hok.1.1, hok.1.2.1, hok.1.2.2.1⟩⟩, trivial⟩ ?_
    refine sr_many 5 (t := (112, [some (.inr (.inr (20, 0))), some (.inl w), some (.inl (v_MO_first (m_MO_take a.2 w a.1) w)), none], [], m_MO_take a.2 w a.1)) rfl ⟨trivial, trivial, ⟨(show 0 < 1 by decide), ⟨hok.2.2.1, hok.2.2.hs⟩⟩, trivial, trivial, trivial⟩ ?_
    exact w2
  · show sr_AW e_MO_one K (112, [some (.inr (.inr (20, 0))), some (.inl w), some (.inl (w_MO_one w ν).1), none], [], (w_MO_one w ν).2)
    refine sr_many 5 (t := (bif decide (0 ≤ ((w_MO_one w ν).2.1 40 0 w.toNatClampNeg)) then 140 else 121, [some (.inr (.inr (20, 0))), some (.inl w), some (.inl (w_MO_one w ν).1), none], [], (w_MO_one w ν).2)) rfl ⟨trivial, (show 0 < 1 by decide), trivial, ⟨(show 0 < 1 by decide), hw⟩, trivial, trivial⟩ ?_
    refine sr_brd (fun _ => k) (fun h => ?_)
    refine sr_many 2 (t := (bif decide ((w_MO_one w ν).1 < 0) then 140 else 125, [some (.inr (.inr (20, 0))), some (.inl w), some (.inl (w_MO_one w ν).1), none], [], (w_MO_one w ν).2)) rfl ⟨trivial, trivial, trivial⟩ ?_
    exact sr_brd (fun _ => k) (fun h' => absurd (And.intro h h') (of_decide_eq_false h2))
set_option maxRecDepth 10000 in
theorem a_MO_one (μ : sr_M)  (hq : q_MO_one μ ) : sr_AW e_MO_one (fun r => r = (none, m_MO_one μ )) (sr_entry 4 [.inr (.inr (20, 0))] μ) := by
  have hq0 := hq
  obtain ⟨q1, q2, q3, q4⟩ : sr_cnt (μ.1 20 0 18) 3 ∧ (∀ k, k ≤ (μ.1 20 0 18).toNatClampNeg → sr_mo (sr_it (f_MO_one_12 μ) (sr_seti μ 20 0 25 ((μ.1 20 0 25) + (1 : Int32))) k) ∧ (sr_it (f_MO_one_12 μ) (sr_seti μ 20 0 25 ((μ.1 20 0 25) + (1 : Int32))) k).1 20 0 18 = μ.1 20 0 18) ∧ (∀ k, k ≤ (μ.1 20 0 18).toNatClampNeg → sr_mo (sr_it (f_MO_one_98 μ) (sr_it (f_MO_one_12 μ) (sr_seti μ 20 0 25 ((μ.1 20 0 25) + (1 : Int32))) (μ.1 20 0 18).toNatClampNeg) k) ∧ (sr_it (f_MO_one_98 μ) (sr_it (f_MO_one_12 μ) (sr_seti μ 20 0 25 ((μ.1 20 0 25) + (1 : Int32))) (μ.1 20 0 18).toNatClampNeg) k).1 20 0 18 = μ.1 20 0 18) ∧ (∀ k, k < (μ.1 20 0 18).toNatClampNeg → sr_wok (cw_MO_one (nI k)) (d_MO_one (nI k)) (k_MO_one (nI k)) 16 (v_MO_first (sr_it (f_MO_one_98 μ) (sr_it (f_MO_one_12 μ) (sr_seti μ 20 0 25 ((μ.1 20 0 25) + (1 : Int32))) (μ.1 20 0 18).toNatClampNeg) k) (nI k), (sr_it (f_MO_one_98 μ) (sr_it (f_MO_one_12 μ) (sr_seti μ 20 0 25 ((μ.1 20 0 25) + (1 : Int32))) (μ.1 20 0 18).toNatClampNeg) k)) ∧ cw_MO_one (nI k) (w_MO_one (nI k) (sr_it (f_MO_one_98 μ) (sr_it (f_MO_one_12 μ) (sr_seti μ 20 0 25 ((μ.1 20 0 25) + (1 : Int32))) (μ.1 20 0 18).toNatClampNeg) k)) = false) := hq
  have hm3 := q1.2
  refine sr_many 8 (t := (12, [some (.inr (.inr (20, 0))), some (.inl 0), none, none], [], (sr_seti μ 20 0 25 ((μ.1 20 0 25) + (1 : Int32))))) rfl ⟨trivial, trivial, (show 0 < 1 by decide), trivial, trivial, (show 0 < 1 by decide), trivial, trivial, trivial⟩ ?_
  refine sr_forI (α := sr_M) (fun k a => (12, [some (.inr (.inr (20, 0))), some (.inl (nI k)), none, none], [], a)) (f_MO_one_12 μ) (fun k a => a = sr_it (f_MO_one_12 μ) (sr_seti μ 20 0 25 ((μ.1 20 0 25) + (1 : Int32))) k) (sr_seti μ 20 0 25 ((μ.1 20 0 25) + (1 : Int32))) ((μ.1 20 0 18).toNatClampNeg) rfl (fun k hk a h => by rw [h]; rfl) (fun k hk a hIk w => ?_) (fun hIk => ?_)
  · have hbk : k < 3 := sr_cnt_lt q1 hk
    have hck : (nI k).toNatClampNeg = k := sr_clN 3 hbk (by decide)
    have hink : sr_in (nI k) 3 := sr_inN 3 hbk (by decide)
    have hcbk : (nI k).toNatClampNeg < 3 := by rw [hck]; exact hbk
    have hmn : a.1 20 0 18 = μ.1 20 0 18 := by rw [hIk]; exact (q2 k (Nat.le_of_lt hk)).2
    have hmo : sr_mo a := by rw [hIk]; exact (q2 k (Nat.le_of_lt hk)).1
    have hin16 : ¬ a.1 40 0 (nI k).toNatClampNeg < 0 → sr_in (a.1 40 0 (nI k).toNatClampNeg) 16 := fun h => (hmo.hs _ hcbk).resolve_left h
    refine sr_many 4 (t := (bif decide ((a.1 20 0 18) ≤ (nI k)) then 96 else 20, [some (.inr (.inr (20, 0))), some (.inl (nI k)), none, none], [], a)) rfl ⟨trivial, trivial, (show 0 < 1 by decide), trivial, trivial⟩ ?_
    refine sr_brd (fun h => absurd h (by rw [hmn]; exact sr_cnt_nlt q1 (by decide) hk)) (fun _ => ?_)
    refine sr_many 5 (t := (bif decide ((a.1 40 0 ((nI k).toNatClampNeg)) < 0) then 90 else 29, [some (.inr (.inr (20, 0))), some (.inl (nI k)), none, none], [], a)) rfl ⟨trivial, (show 0 < 1 by decide), trivial, ⟨(show 0 < 1 by decide), (show sr_in (nI k) 3 from hink)⟩, trivial, trivial⟩ ?_
    refine sr_brd (fun h1 => ?_) (fun h1 => ?_)
    · refine sr_many 2 (t := (12, [some (.inr (.inr (20, 0))), some (.inl ((nI k) + 1)), none, none], [], a)) rfl ⟨trivial, trivial, trivial⟩ ?_
      try simp only [hck] at h1
      try simp only [hck]
      simp only [f_MO_one_12, if_pos h1, nI_succ] at w
      exact w
    · refine sr_many 13 (t := (bif decide (¬ ((sr_seti a 41 0 ((nI k).toNatClampNeg) ((a.1 41 0 ((nI k).toNatClampNeg)) - (1 : Int32))).1 41 0 ((nI k).toNatClampNeg)) = 0) then 90 else 48, [some (.inr (.inr (20, 0))), some (.inl (nI k)), none, none], [], (sr_seti a 41 0 ((nI k).toNatClampNeg) ((a.1 41 0 ((nI k).toNatClampNeg)) - (1 : Int32))))) rfl ⟨trivial, (show 0 < 1 by decide), trivial, trivial, ⟨(show 0 < 1 by decide), (show sr_in (nI k) 3 from hink)⟩, trivial, trivial, ⟨(show 0 < 1 by decide), (show sr_in (nI k) 3 from hink)⟩, trivial, (show 0 < 1 by decide), trivial, ⟨(show 0 < 1 by decide), (show sr_in (nI k) 3 from hink)⟩, trivial, trivial⟩ ?_
      refine sr_brd (fun h2 => ?_) (fun h2 => ?_)
      · refine sr_many 2 (t := (12, [some (.inr (.inr (20, 0))), some (.inl ((nI k) + 1)), none, none], [], (sr_seti a 41 0 ((nI k).toNatClampNeg) ((a.1 41 0 ((nI k).toNatClampNeg)) - (1 : Int32))))) rfl ⟨trivial, trivial, trivial⟩ ?_
        try simp only [hck] at h1 h2
        try simp only [hck]
        simp only [f_MO_one_12, if_neg h1, if_pos h2, nI_succ] at w
        exact w
      · refine sr_many 30 (t := (12, [some (.inr (.inr (20, 0))), some (.inl ((nI k) + 1)), some (.inl (a.1 40 0 ((nI k).toNatClampNeg))), some (.inl (v_MO_result (sr_seti a 41 0 ((nI k).toNatClampNeg) ((a.1 41 0 ((nI k).toNatClampNeg)) - (1 : Int32))) (a.1 40 0 ((nI k).toNatClampNeg)) (a.1 42 0 ((nI k).toNatClampNeg))))], [], (m_MO_proceed (m_MO_configure (m_MO_close (sr_seti a 41 0 ((nI k).toNatClampNeg) ((a.1 41 0 ((nI k).toNatClampNeg)) - (1 : Int32))) (nI k) (v_MO_result (sr_seti a 41 0 ((nI k).toNatClampNeg) ((a.1 41 0 ((nI k).toNatClampNeg)) - (1 : Int32))) (a.1 40 0 ((nI k).toNatClampNeg)) (a.1 42 0 ((nI k).toNatClampNeg)))) 2 0 ((m_MO_close (sr_seti a 41 0 ((nI k).toNatClampNeg) ((a.1 41 0 ((nI k).toNatClampNeg)) - (1 : Int32))) (nI k) (v_MO_result (sr_seti a 41 0 ((nI k).toNatClampNeg) ((a.1 41 0 ((nI k).toNatClampNeg)) - (1 : Int32))) (a.1 40 0 ((nI k).toNatClampNeg)) (a.1 42 0 ((nI k).toNatClampNeg)))).1 21 0 ((a.1 40 0 ((nI k).toNatClampNeg)).toNatClampNeg))) (nI k)))) rfl ⟨trivial, (show 0 < 1 by decide), trivial, ⟨(show 0 < 1 by decide), (show sr_in (nI k) 3 from hink)⟩, trivial, trivial, trivial, trivial, (show 0 < 1 by decide), trivial, ⟨(show 0 < 1 by decide), (show sr_in (nI k) 3 from hink)⟩, ⟨(show 0 < 1 by decide), hin16 h1⟩, trivial, trivial, trivial, trivial, ⟨(show 0 < 1 by decide), ⟨hink, hin16 h1, (rs_MO _ _ _).1, (rs_MO _ _ _).2⟩⟩, trivial, trivial, trivial, trivial, (show 0 < 1 by decide), trivial, ⟨(show 0 < 1 by decide), (show sr_in (a.1 40 0 ((nI k).toNatClampNeg)) 16 from hin16 h1)⟩, ⟨(show 0 < 1 by decide), (((sr_mf.rf a).arr).trans (mf_MO_close _ _ _)).cnt hmo.2.1⟩, trivial, trivial, ⟨(show 0 < 1 by decide), (pp_one hmo hink h1)⟩, trivial, trivial, trivial⟩ ?_
        try simp only [hck] at h1 h2
        try simp only [hck]
        refine sr_forget [some (.inr (.inr (20, 0))), some (.inl ((nI k) + 1)), none, none] (by simp [sr_sub]) ?_
        simp only [f_MO_one_12, if_neg h1, if_neg h2, nI_succ] at w
        exact w
  · skip
    have hmn : (sr_it (f_MO_one_12 μ) (sr_seti μ 20 0 25 ((μ.1 20 0 25) + (1 : Int32))) ((μ.1 20 0 18).toNatClampNeg)).1 20 0 18 = μ.1 20 0 18 := (q2 _ (Nat.le_refl _)).2
    refine sr_many 4 (t := (bif decide (((sr_it (f_MO_one_12 μ) (sr_seti μ 20 0 25 ((μ.1 20 0 25) + (1 : Int32))) ((μ.1 20 0 18).toNatClampNeg)).1 20 0 18) ≤ (nI ((μ.1 20 0 18).toNatClampNeg))) then 96 else 20, [some (.inr (.inr (20, 0))), some (.inl (nI ((μ.1 20 0 18).toNatClampNeg))), none, none], [], (sr_it (f_MO_one_12 μ) (sr_seti μ 20 0 25 ((μ.1 20 0 25) + (1 : Int32))) ((μ.1 20 0 18).toNatClampNeg)))) rfl ⟨trivial, trivial, (show 0 < 1 by decide), trivial, trivial⟩ ?_
    refine sr_brd (fun _ => ?_) (fun h => absurd (by rw [hmn]; exact sr_cnt_le q1) h)
    refine sr_many 2 (t := (98, [some (.inr (.inr (20, 0))), some (.inl 0), none, none], [], (sr_it (f_MO_one_12 μ) (sr_seti μ 20 0 25 ((μ.1 20 0 25) + (1 : Int32))) ((μ.1 20 0 18).toNatClampNeg)))) rfl ⟨trivial, trivial, trivial⟩ ?_
    refine sr_forI (α := sr_M) (fun k a => (98, [some (.inr (.inr (20, 0))), some (.inl (nI k)), none, none], [], a)) (f_MO_one_98 μ) (fun k a => a = sr_it (f_MO_one_98 μ) (sr_it (f_MO_one_12 μ) (sr_seti μ 20 0 25 ((μ.1 20 0 25) + (1 : Int32))) (μ.1 20 0 18).toNatClampNeg) k) (sr_it (f_MO_one_12 μ) (sr_seti μ 20 0 25 ((μ.1 20 0 25) + (1 : Int32))) ((μ.1 20 0 18).toNatClampNeg)) ((μ.1 20 0 18).toNatClampNeg) rfl (fun k hk a h => by rw [h]; rfl) (fun k hk a hIk w => ?_) (fun hIk => ?_)
    · have hbk : k < 3 := sr_cnt_lt q1 hk
      have hck : (nI k).toNatClampNeg = k := sr_clN 3 hbk (by decide)
      have hink : sr_in (nI k) 3 := sr_inN 3 hbk (by decide)
      have hcbk : (nI k).toNatClampNeg < 3 := by rw [hck]; exact hbk
      have hmn : a.1 20 0 18 = μ.1 20 0 18 := by rw [hIk]; exact (q3 k (Nat.le_of_lt hk)).2
      have hmo : sr_mo a := by rw [hIk]; exact (q3 k (Nat.le_of_lt hk)).1
      have hwk : sr_wok (cw_MO_one (nI k)) (d_MO_one (nI k)) (k_MO_one (nI k)) 16 (v_MO_first a (nI k), a) ∧ cw_MO_one (nI k) (w_MO_one (nI k) a) = false := by rw [hIk]; exact q4 k hk
      refine sr_many 4 (t := (bif decide ((a.1 20 0 18) ≤ (nI k)) then 146 else 106, [some (.inr (.inr (20, 0))), some (.inl (nI k)), none, none], [], a)) rfl ⟨trivial, trivial, (show 0 < 1 by decide), trivial, trivial⟩ ?_
      refine sr_brd (fun h => absurd h (by rw [hmn]; exact sr_cnt_nlt q1 (by decide) hk)) (fun _ => ?_)
      refine sr_many 4 (t := (112, [some (.inr (.inr (20, 0))), some (.inl (nI k)), some (.inl (v_MO_first a (nI k))), none], [], a)) rfl ⟨trivial, trivial, ⟨(show 0 < 1 by decide), ⟨hmo.1, hmo.hs⟩⟩, trivial, trivial⟩ ?_
      refine n_MO_one (nI k) hink a hwk.1 hwk.2 ?_
      refine sr_many 2 (t := (98, [some (.inr (.inr (20, 0))), some (.inl ((nI k) + 1)), some (.inl ((w_MO_one (nI k) a).1)), none], [], (w_MO_one (nI k) a).2)) rfl ⟨trivial, trivial, trivial⟩ ?_
      try simp only [hck]
      refine sr_forget [some (.inr (.inr (20, 0))), some (.inl ((nI k) + 1)), none, none] (by simp [sr_sub]) ?_
      simp only [f_MO_one_98, nI_succ] at w
      exact w
    · skip
      have hmn : (sr_it (f_MO_one_98 μ) (sr_it (f_MO_one_12 μ) (sr_seti μ 20 0 25 ((μ.1 20 0 25) + (1 : Int32))) ((μ.1 20 0 18).toNatClampNeg)) ((μ.1 20 0 18).toNatClampNeg)).1 20 0 18 = μ.1 20 0 18 := (q3 _ (Nat.le_refl _)).2
      have hfin := q3 _ (Nat.le_refl _)
      refine sr_many 4 (t := (bif decide (((sr_it (f_MO_one_98 μ) (sr_it (f_MO_one_12 μ) (sr_seti μ 20 0 25 ((μ.1 20 0 25) + (1 : Int32))) ((μ.1 20 0 18).toNatClampNeg)) ((μ.1 20 0 18).toNatClampNeg)).1 20 0 18) ≤ (nI ((μ.1 20 0 18).toNatClampNeg))) then 146 else 106, [some (.inr (.inr (20, 0))), some (.inl (nI ((μ.1 20 0 18).toNatClampNeg))), none, none], [], (sr_it (f_MO_one_98 μ) (sr_it (f_MO_one_12 μ) (sr_seti μ 20 0 25 ((μ.1 20 0 25) + (1 : Int32))) ((μ.1 20 0 18).toNatClampNeg)) ((μ.1 20 0 18).toNatClampNeg)))) rfl ⟨trivial, trivial, (show 0 < 1 by decide), trivial, trivial⟩ ?_
      refine sr_brd (fun _ => ?_) (fun h => absurd (by rw [hmn]; exact sr_cnt_le q1) h)
      refine sr_many 5 (t := (bif decide (¬ (v_MO_allOver (sr_it (f_MO_one_98 μ) (sr_it (f_MO_one_12 μ) (sr_seti μ 20 0 25 ((μ.1 20 0 25) + (1 : Int32))) ((μ.1 20 0 18).toNatClampNeg)) ((μ.1 20 0 18).toNatClampNeg)) (v_MO_chosenNow (sr_it (f_MO_one_98 μ) (sr_it (f_MO_one_12 μ) (sr_seti μ 20 0 25 ((μ.1 20 0 25) + (1 : Int32))) ((μ.1 20 0 18).toNatClampNeg)) ((μ.1 20 0 18).toNatClampNeg)))) = 0) then 158 else 157, [some (.inr (.inr (20, 0))), some (.inl (nI ((μ.1 20 0 18).toNatClampNeg))), none, none], [], (sr_it (f_MO_one_98 μ) (sr_it (f_MO_one_12 μ) (sr_seti μ 20 0 25 ((μ.1 20 0 25) + (1 : Int32))) ((μ.1 20 0 18).toNatClampNeg)) ((μ.1 20 0 18).toNatClampNeg)))) rfl ⟨trivial, trivial, ⟨(show 0 < 1 by decide), trivial⟩, ⟨(show 0 < 1 by decide), trivial⟩, trivial, trivial⟩ ?_
      refine sr_brd (fun h1 => ?_) (fun h1 => ?_)
      · refine sr_many 3 (t := (bif decide (((sr_it (f_MO_one_98 μ) (sr_it (f_MO_one_12 μ) (sr_seti μ 20 0 25 ((μ.1 20 0 25) + (1 : Int32))) ((μ.1 20 0 18).toNatClampNeg)) ((μ.1 20 0 18).toNatClampNeg)).1 20 0 33) = 0) then 172 else 165, [some (.inr (.inr (20, 0))), some (.inl (nI ((μ.1 20 0 18).toNatClampNeg))), none, none], [], (sr_it (f_MO_one_98 μ) (sr_it (f_MO_one_12 μ) (sr_seti μ 20 0 25 ((μ.1 20 0 25) + (1 : Int32))) ((μ.1 20 0 18).toNatClampNeg)) ((μ.1 20 0 18).toNatClampNeg)))) rfl ⟨trivial, (show 0 < 1 by decide), trivial, trivial⟩ ?_
        refine sr_brd (fun h2 => ?_) (fun h2 => ?_)
        · refine sr_many 11 (t := (189, [some (.inr (.inr (20, 0))), some (.inl (nI ((μ.1 20 0 18).toNatClampNeg))), none, none], [], (sr_seti (sr_seti (m_MO_note (sr_it (f_MO_one_98 μ) (sr_it (f_MO_one_12 μ) (sr_seti μ 20 0 25 ((μ.1 20 0 25) + (1 : Int32))) ((μ.1 20 0 18).toNatClampNeg)) ((μ.1 20 0 18).toNatClampNeg)) 4 0 0) 20 0 23 0) 20 0 24 1))) rfl ⟨trivial, trivial, trivial, trivial, ⟨(show 0 < 1 by decide), trivial⟩, trivial, trivial, ⟨(show 0 < 1 by decide), (Or.inl rfl)⟩, trivial, trivial, ⟨(show 0 < 1 by decide), (Or.inr rfl)⟩, trivial⟩ ?_
          exact sr_ret rfl rfl rfl trivial (by simp only [m_MO_one, if_pos h1, if_pos h2])
        · refine sr_many 16 (t := (189, [some (.inr (.inr (20, 0))), some (.inl (nI ((μ.1 20 0 18).toNatClampNeg))), none, none], [], (sr_seti (sr_seti (m_MO_note (m_MO_configure (sr_it (f_MO_one_98 μ) (sr_it (f_MO_one_12 μ) (sr_seti μ 20 0 25 ((μ.1 20 0 25) + (1 : Int32))) ((μ.1 20 0 18).toNatClampNeg)) ((μ.1 20 0 18).toNatClampNeg)) 0 0 0) 4 0 0) 20 0 23 0) 20 0 24 1))) rfl ⟨trivial, trivial, trivial, trivial, ⟨(show 0 < 1 by decide), hfin.1.2.1⟩, trivial, trivial, trivial, trivial, ⟨(show 0 < 1 by decide), trivial⟩, trivial, trivial, ⟨(show 0 < 1 by decide), (Or.inl rfl)⟩, trivial, trivial, ⟨(show 0 < 1 by decide), (Or.inr rfl)⟩, trivial⟩ ?_
          exact sr_ret rfl rfl rfl trivial (by simp only [m_MO_one, if_pos h1, if_neg h2])
      · exact sr_ret rfl rfl rfl trivial (by simp only [m_MO_one, if_neg h1])
theorem sr_tin {n : Int32} (h : ¬ v_MO_in n 0 100 = 0) : sr_cnt n 100 := by
  unfold v_MO_in at h
  split at h
  · exact absurd rfl h
  · rename_i h1
    split at h
    · exact absurd rfl h
    · rename_i h2
      exact sr_tn h1 (Int32.not_lt.mp h2)
theorem sr_it_succ {α : Type} (f : Nat → α → α) (a : α) (n : Nat) : sr_it f a (n + 1) = f n (sr_it f a n) := rfl
def gx_MO_tick (mo : sr_M → sr_M) (qo : sr_M → Prop) (μ : sr_M) (n : Int32) : Nat → sr_M → (Int32 × sr_M) ⊕ sr_M := fun k a => if n ≤ (nI k) then (.inl (nI k, a)) else (if (a.1 20 0 23) = 0 then (.inl (nI k, a)) else (.inr (mo a)))
def vx_MO_tick (mo : sr_M → sr_M) (qo : sr_M → Prop) (μ : sr_M) (n : Int32) : Int32 := if ¬ (v_MO_in n 0 100) = 0 then (((sr_lp ((gx_MO_tick mo qo) μ n) (n.toNatClampNeg + 1) 0 μ).getD ((0 : Int32), μ)).1) else (-1)
def mx_MO_tick (mo : sr_M → sr_M) (qo : sr_M → Prop) (μ : sr_M) (n : Int32) : sr_M := if ¬ (v_MO_in n 0 100) = 0 then (((sr_lp ((gx_MO_tick mo qo) μ n) (n.toNatClampNeg + 1) 0 μ).getD ((0 : Int32), μ)).2) else μ
def qx_MO_tick (mo : sr_M → sr_M) (qo : sr_M → Prop) (μ : sr_M) (n : Int32) : Prop := (∀ k, k < n.toNatClampNeg → (∀ j, j ≤ k → ¬ (sr_it (fun _ a => mo a) μ j).1 20 0 23 = 0) → qo (sr_it (fun _ a => mo a) μ k))
def px_MO_tick (mo : sr_M → sr_M) (qo : sr_M → Prop) : sr_F := fun vs μ => match vs with
  | [.inr (.inr (20, 0)), .inl n] => some ((qx_MO_tick mo qo) μ n, some (.inl ((vx_MO_tick mo qo) μ n)), (mx_MO_tick mo qo) μ n)
  | _ => none
def ex_MO_tick (mo : sr_M → sr_M) (qo : sr_M → Prop) : sr_E := (sr_SM, sr_KS, (fun k => ([(103, 10, 23)] : List (Nat × Nat × Nat)).lookup k, fun _ => none, fun _ => none, fun _ => none, fun k => ([(95, 0, 3, p_MO_in), (242, 11, 0, (px_MO_one mo qo))] : List (Nat × Nat × Nat × sr_F)).lookup k), sr_cd cd_MO_tick, some .int)
theorem jx_MO_tick (mo : sr_M → sr_M) (qo : sr_M → Prop) (μ : sr_M) (n : Int32) (qn : sr_cnt n 100) : ∀ k a a', (fun k a => k ≤ n.toNatClampNeg ∧ a = (sr_it (fun _ a => mo a) μ k) ∧ ∀ j, j < k → ¬ (sr_it (fun _ a => mo a) μ j).1 20 0 23 = 0) k a → ((gx_MO_tick mo qo) μ n) k a = .inr a' → (fun k a => k ≤ n.toNatClampNeg ∧ a = (sr_it (fun _ a => mo a) μ k) ∧ ∀ j, j < k → ¬ (sr_it (fun _ a => mo a) μ j).1 20 0 23 = 0) (k + 1) a' := by
  intro k a a' h e
  obtain ⟨hk0, ha, hj⟩ := h
  unfold gx_MO_tick at e
  by_cases h1 : n ≤ nI k
  · rw [if_pos h1] at e
    cases e
  · rw [if_neg h1] at e
    by_cases h2 : a.1 20 0 23 = 0
    · rw [if_pos h2] at e
      cases e
    · rw [if_neg h2] at e
      have e2 : mo a = a' := Sum.inr.inj e
      clear e
      have hk : k < n.toNatClampNeg := by
        have := (not_congr (sr_cnt_iff qn (by decide) (by have := qn.2; omega))).mp h1
        omega
      refine ⟨hk, ?_, fun j hj2 => ?_⟩
      · rw [← e2, sr_it_succ, ← ha]
      · by_cases ej : j = k
        · rw [ej, ← ha]
          exact h2
        · exact hj j (by omega)
set_option maxRecDepth 10000 in
theorem ax_MO_tick (mo : sr_M → sr_M) (qo : sr_M → Prop) (μ : sr_M) (n : Int32) (hq : (qx_MO_tick mo qo) μ n) : sr_AW (ex_MO_tick mo qo) (fun r => r = (some (.inl ((vx_MO_tick mo qo) μ n)), (mx_MO_tick mo qo) μ n)) (sr_entry 3 [.inr (.inr (20, 0)), .inl n] μ) := by
  have q1 : ∀ k, k < n.toNatClampNeg → (∀ j, j ≤ k → ¬ (sr_it (fun _ a => mo a) μ j).1 20 0 23 = 0) → qo (sr_it (fun _ a => mo a) μ k) := hq
  refine sr_many 5 (t := (bif decide (¬ (v_MO_in n 0 100) = 0) then 12 else 10, [some (.inr (.inr (20, 0))), some (.inl n), none], [], μ)) rfl ⟨trivial, trivial, trivial, trivial, trivial, trivial⟩ ?_
  refine sr_brd (fun h1 => ?_) (fun h1 => ?_)
  · refine sr_many 2 (t := (14, [some (.inr (.inr (20, 0))), some (.inl n), some (.inl 0)], [], μ)) rfl ⟨trivial, trivial, trivial⟩ ?_
    have qn := sr_tin h1
    have hI : ∀ k a a', (fun k a => k ≤ n.toNatClampNeg ∧ a = (sr_it (fun _ a => mo a) μ k) ∧ ∀ j, j < k → ¬ (sr_it (fun _ a => mo a) μ j).1 20 0 23 = 0) k a → ((gx_MO_tick mo qo) μ n) k a = .inr a' → (fun k a => k ≤ n.toNatClampNeg ∧ a = (sr_it (fun _ a => mo a) μ k) ∧ ∀ j, j < k → ¬ (sr_it (fun _ a => mo a) μ j).1 20 0 23 = 0) (k + 1) a' := ((jx_MO_tick mo qo) μ n qn)
    obtain ⟨b, hb⟩ : ∃ b, sr_lp ((gx_MO_tick mo qo) μ n) (n.toNatClampNeg + 1) 0 μ = some b := sr_lp_some ((gx_MO_tick mo qo) μ n) n.toNatClampNeg (fun k a => k ≤ n.toNatClampNeg ∧ a = (sr_it (fun _ a => mo a) μ k) ∧ ∀ j, j < k → ¬ (sr_it (fun _ a => mo a) μ j).1 20 0 23 = 0) hI (fun a _ => by unfold gx_MO_tick; rw [if_pos (sr_cnt_le qn)]; exact ⟨_, rfl⟩) n.toNatClampNeg 0 μ (by omega) ⟨Nat.zero_le _, rfl, fun j hj => absurd hj (Nat.not_lt_zero _)⟩
    have e : ((some (.inl ((vx_MO_tick mo qo) μ n)), (mx_MO_tick mo qo) μ n) : sr_R) = (fun b => (some (.inl b.1), b.2)) b := by
      simp only [vx_MO_tick, mx_MO_tick, if_pos h1]
      rw [hb]
      rfl
    rw [e]
    refine sr_loop (fun b => (some (.inl b.1), b.2)) (fun k a => (14, [some (.inr (.inr (20, 0))), some (.inl n), some (.inl (nI k))], [], a)) ((gx_MO_tick mo qo) μ n) (fun k a => k ≤ n.toNatClampNeg ∧ a = (sr_it (fun _ a => mo a) μ k) ∧ ∀ j, j < k → ¬ (sr_it (fun _ a => mo a) μ j).1 20 0 23 = 0) hI (fun K k a hIk hr w => ?_) (n.toNatClampNeg + 1) 0 μ b ⟨Nat.zero_le _, rfl, fun j hj => absurd hj (Nat.not_lt_zero _)⟩ hb
    obtain ⟨hk0, ha, hj⟩ := hIk
    have hone : ¬ n ≤ nI k → ¬ a.1 20 0 23 = 0 → qo a := fun x1 x2 => by
      rw [ha]
      refine q1 k ?_ (fun j hj2 => ?_)
      · have := (not_congr (sr_cnt_iff qn (by decide) (by have := qn.2; omega))).mp x1
        omega
      · by_cases ej : j = k
        · subst ej
          rw [← ha]
          exact x2
        · exact hj j (by omega)
    refine sr_many 3 (t := (bif decide (n ≤ (nI k)) then 36 else 19, [some (.inr (.inr (20, 0))), some (.inl n), some (.inl (nI k))], [], a)) rfl ⟨trivial, trivial, trivial, trivial⟩ ?_
    refine sr_brd (fun h1 => ?_) (fun h1 => ?_)
    · refine sr_many 1 (t := (37, [some (.inr (.inr (20, 0))), some (.inl n), some (.inl (nI k))], [.inl (nI k)], a)) rfl ⟨trivial, trivial⟩ ?_
      exact sr_ret rfl rfl rfl trivial (hr (nI k, a) (by simp only [gx_MO_tick, if_pos h1]))
    · refine sr_many 3 (t := (bif decide ((a.1 20 0 23) = 0) then 36 else 26, [some (.inr (.inr (20, 0))), some (.inl n), some (.inl (nI k))], [], a)) rfl ⟨trivial, (show 0 < 1 by decide), trivial, trivial⟩ ?_
      refine sr_brd (fun h2 => ?_) (fun h2 => ?_)
      · refine sr_many 1 (t := (37, [some (.inr (.inr (20, 0))), some (.inl n), some (.inl (nI k))], [.inl (nI k)], a)) rfl ⟨trivial, trivial⟩ ?_
        exact sr_ret rfl rfl rfl trivial (hr (nI k, a) (by simp only [gx_MO_tick, if_neg h1, if_pos h2]))
      · refine sr_many 4 (t := (14, [some (.inr (.inr (20, 0))), some (.inl n), some (.inl ((nI k) + 1))], [], (mo a))) rfl ⟨trivial, ⟨(show 0 < 1 by decide), (hone h1 h2)⟩, trivial, trivial, trivial⟩ ?_
        have w2 := w (mo a) (by simp only [gx_MO_tick, if_neg h1, if_neg h2])
        try simp only [nI_succ] at w2
        exact w2
  · refine sr_many 1 (t := (11, [some (.inr (.inr (20, 0))), some (.inl n), none], [.inl (-1)], μ)) rfl ⟨trivial, trivial⟩ ?_
    exact sr_ret rfl rfl rfl trivial (by simp only [vx_MO_tick, mx_MO_tick, if_neg h1])
def g_MO_tick := gx_MO_tick m_MO_one q_MO_one
def v_MO_tick (μ : sr_M) (n : Int32) : Int32 := vx_MO_tick m_MO_one q_MO_one μ n
def m_MO_tick (μ : sr_M) (n : Int32) : sr_M := mx_MO_tick m_MO_one q_MO_one μ n
def q_MO_tick (μ : sr_M) (n : Int32) : Prop := qx_MO_tick m_MO_one q_MO_one μ n
def p_MO_tick : sr_F := px_MO_tick m_MO_one q_MO_one
def e_MO_tick : sr_E := ex_MO_tick m_MO_one q_MO_one
theorem a_MO_tick (μ : sr_M) (n : Int32) (hq : q_MO_tick μ n) : sr_AW e_MO_tick (fun r => r = (some (.inl (v_MO_tick μ n)), m_MO_tick μ n)) (sr_entry 3 [.inr (.inr (20, 0)), .inl n] μ) := ax_MO_tick m_MO_one q_MO_one μ n hq
