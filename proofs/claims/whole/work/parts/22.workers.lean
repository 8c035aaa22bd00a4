/-! pictures and runs: the workers -/
-- what is so at every moment of a run: hands, due and begun, counts and rows
def sr_rv (μ : sr_M) : Prop := (∀ w, w < 3 → μ.1 15 0 w = -1 ∨ sr_in (μ.1 15 0 w) 16) ∧ (∀ i, i < 16 → sr_cnt (μ.1 13 i 3) 16 ∧ sr_cnt (μ.1 13 i 4) 16) ∧ (∀ i, i < 16 → sr_cnt (μ.1 4 i 3) 4) ∧ ∀ p, p < 4 → μ.1 8 0 p = -1 ∨ sr_cnt (μ.1 8 0 p) 4
theorem rv_of {μ ν : sr_M} {d : Nat} (h : sr_rv μ) (f : sr_fr μ ν d) (hd : ∀ i, i < 16 → sr_cnt (ν.1 13 i 3) 16 ∧ sr_cnt (ν.1 13 i 4) 16) : sr_rv ν := by
  refine ⟨fun w hw => ?_, hd, fun i hi => ?_, fun p hp => ?_⟩
  · rw [f.1 15 0 w rfl]; exact h.1 w hw
  · rw [f.1 4 i 3 rfl]; exact h.2.2.1 i hi
  · rw [f.1 8 0 p rfl]; exact h.2.2.2 p hp
theorem rv_fd {μ ν : sr_M} {d : Nat} (h : sr_rv μ) (f : sr_fr μ ν d) (g : sr_fd μ ν) : sr_rv ν := rv_of h f (fun i hi => by rw [(g i).1, (g i).2]; exact h.2.1 i hi)
theorem rv_seti3 {μ : sr_M} {i : Nat} {x : Int32} (h : sr_rv μ) (hx : sr_cnt x 16) : sr_rv (sr_seti μ 13 i 3 x) := by
  refine rv_of h ((sr_fr.rf μ).seti rfl (fun q => absurd q.1 (by decide))) (fun a ha => ⟨?_, ?_⟩)
  · show sr_cnt (if 13 = 13 ∧ a = i ∧ 3 = 3 then x else μ.1 13 a 3) 16
    split
    · exact hx
    · exact (h.2.1 a ha).1
  · show sr_cnt (if 13 = 13 ∧ a = i ∧ 4 = 3 then x else μ.1 13 a 4) 16
    rw [if_neg (fun q => absurd q.2.2 (by decide))]
    exact (h.2.1 a ha).2
theorem sr_cnt_mul {x y : Int32} {a b : Nat} (hx : sr_cnt x a) (hy : sr_cnt y b) (h : a * b < 2 ^ 31) : sr_cnt (x * y) (a * b) := by
  have h1 := Nat.mul_le_mul hx.2 hy.2
  rw [hx.1, hy.1, pk_mul]
  unfold sr_cnt
  rw [nI_clamp (by omega)]
  exact ⟨rfl, h1⟩
theorem sr_due {μ : sr_M} {i : Nat} (h : sr_rv μ) (hi : i < 16) (hn : ¬ v_CT_rowsFor μ i = -1) : sr_cnt (μ.1 4 i 3 * v_CT_rowsFor μ i) 16 := by
  have h1 : sr_cnt (v_CT_rowsFor μ i) 4 := by
    unfold v_CT_rowsFor at hn ⊢
    split at hn
    · rename_i e
      rw [if_pos e]
      exact ⟨by decide, by decide⟩
    · rename_i e
      rw [if_neg e]
      exact (h.2.2.2 _ (sr_in_lt (sr_within 4 (by decide) e))).resolve_left hn
  exact sr_cnt_mul (h.2.2.1 i hi) h1 (by decide)
theorem rv_RN_take (μ : sr_M) (m : Int32) (h : sr_rv μ) (hm : sr_in m 16) (hc : sr_cnt (μ.1 2 0 3) 8) : sr_rv (m_RN_take μ m) := by
  have hi := sr_in_lt hm
  unfold m_RN_take
  repeat' split
  · rename_i hn
    refine rv_seti3 (rv_fd h (((((sr_fr.rf μ).seti rfl (fun q => absurd q.1 (by decide))).trans (fr_RN_giveTurn _ _ _ (((sr_fr.rf μ).seti rfl (fun q => absurd q.1 (by decide))).cnt hc))).trans (fr_RN_giveTurn _ _ _ ((((sr_fr.rf μ).seti rfl (fun q => absurd q.1 (by decide))).trans (fr_RN_giveTurn _ _ _ (((sr_fr.rf μ).seti rfl (fun q => absurd q.1 (by decide))).cnt hc))).cnt hc))).seti rfl (fun q => absurd q.1 (by decide))) (((((sr_fd.rf μ).seti (fun q => absurd q.2 (by decide))).trans (fd_RN_giveTurn _ _ _)).trans (fd_RN_giveTurn _ _ _)).seti (fun q => absurd q.2 (by decide)))) (sr_due (μ := (m_RN_giveTurn (m_RN_giveTurn (sr_seti μ 13 m.toNatClampNeg 1 (μ.1 1 0 9)) 0 (μ.1 3 m.toNatClampNeg 0)) 1 ((m_RN_giveTurn (sr_seti μ 13 m.toNatClampNeg 1 (μ.1 1 0 9)) 0 (μ.1 3 m.toNatClampNeg 0)).1 3 m.toNatClampNeg 0))) (rv_fd h ((((sr_fr.rf μ).seti rfl (fun q => absurd q.1 (by decide))).trans (fr_RN_giveTurn _ _ _ (((sr_fr.rf μ).seti rfl (fun q => absurd q.1 (by decide))).cnt hc))).trans (fr_RN_giveTurn _ _ _ ((((sr_fr.rf μ).seti rfl (fun q => absurd q.1 (by decide))).trans (fr_RN_giveTurn _ _ _ (((sr_fr.rf μ).seti rfl (fun q => absurd q.1 (by decide))).cnt hc))).cnt hc))) ((((sr_fd.rf μ).seti (fun q => absurd q.2 (by decide))).trans (fd_RN_giveTurn _ _ _)).trans (fd_RN_giveTurn _ _ _))) hi hn)
  · exact rv_fd h (((((sr_fr.rf μ).seti rfl (fun q => absurd q.1 (by decide))).trans (fr_RN_giveTurn _ _ _ (((sr_fr.rf μ).seti rfl (fun q => absurd q.1 (by decide))).cnt hc))).trans (fr_RN_giveTurn _ _ _ ((((sr_fr.rf μ).seti rfl (fun q => absurd q.1 (by decide))).trans (fr_RN_giveTurn _ _ _ (((sr_fr.rf μ).seti rfl (fun q => absurd q.1 (by decide))).cnt hc))).cnt hc))).trans (fr_RN_endMethod _ _ _ (((((sr_fr.rf μ).seti rfl (fun q => absurd q.1 (by decide))).trans (fr_RN_giveTurn _ _ _ (((sr_fr.rf μ).seti rfl (fun q => absurd q.1 (by decide))).cnt hc))).trans (fr_RN_giveTurn _ _ _ ((((sr_fr.rf μ).seti rfl (fun q => absurd q.1 (by decide))).trans (fr_RN_giveTurn _ _ _ (((sr_fr.rf μ).seti rfl (fun q => absurd q.1 (by decide))).cnt hc))).cnt hc))).cnt hc))) (((((sr_fd.rf μ).seti (fun q => absurd q.2 (by decide))).trans (fd_RN_giveTurn _ _ _)).trans (fd_RN_giveTurn _ _ _)).trans (fd_RN_endMethod _ _ _))
  · exact rv_fd h (((((sr_fr.rf μ).seti rfl (fun q => absurd q.1 (by decide))).trans (fr_RN_giveTurn _ _ _ (((sr_fr.rf μ).seti rfl (fun q => absurd q.1 (by decide))).cnt hc))).trans (fr_RN_giveTurn _ _ _ ((((sr_fr.rf μ).seti rfl (fun q => absurd q.1 (by decide))).trans (fr_RN_giveTurn _ _ _ (((sr_fr.rf μ).seti rfl (fun q => absurd q.1 (by decide))).cnt hc))).cnt hc))).trans (fr_RN_endMethod _ _ _ (((((sr_fr.rf μ).seti rfl (fun q => absurd q.1 (by decide))).trans (fr_RN_giveTurn _ _ _ (((sr_fr.rf μ).seti rfl (fun q => absurd q.1 (by decide))).cnt hc))).trans (fr_RN_giveTurn _ _ _ ((((sr_fr.rf μ).seti rfl (fun q => absurd q.1 (by decide))).trans (fr_RN_giveTurn _ _ _ (((sr_fr.rf μ).seti rfl (fun q => absurd q.1 (by decide))).cnt hc))).cnt hc))).cnt hc))) (((((sr_fd.rf μ).seti (fun q => absurd q.2 (by decide))).trans (fd_RN_giveTurn _ _ _)).trans (fd_RN_giveTurn _ _ _)).trans (fd_RN_endMethod _ _ _))
  · exact rv_fd h (((((sr_fr.rf μ).seti rfl (fun q => absurd q.1 (by decide))).trans (fr_RN_giveTurn _ _ _ (((sr_fr.rf μ).seti rfl (fun q => absurd q.1 (by decide))).cnt hc))).trans (fr_RN_giveTurn _ _ _ ((((sr_fr.rf μ).seti rfl (fun q => absurd q.1 (by decide))).trans (fr_RN_giveTurn _ _ _ (((sr_fr.rf μ).seti rfl (fun q => absurd q.1 (by decide))).cnt hc))).cnt hc))).trans (fr_RN_endMethod _ _ _ (((((sr_fr.rf μ).seti rfl (fun q => absurd q.1 (by decide))).trans (fr_RN_giveTurn _ _ _ (((sr_fr.rf μ).seti rfl (fun q => absurd q.1 (by decide))).cnt hc))).trans (fr_RN_giveTurn _ _ _ ((((sr_fr.rf μ).seti rfl (fun q => absurd q.1 (by decide))).trans (fr_RN_giveTurn _ _ _ (((sr_fr.rf μ).seti rfl (fun q => absurd q.1 (by decide))).cnt hc))).cnt hc))).cnt hc))) (((((sr_fd.rf μ).seti (fun q => absurd q.2 (by decide))).trans (fd_RN_giveTurn _ _ _)).trans (fd_RN_giveTurn _ _ _)).trans (fd_RN_endMethod _ _ _))
  · rename_i hn
    refine rv_seti3 (rv_fd h (((((sr_fr.rf μ).seti rfl (fun q => absurd q.1 (by decide))).trans (fr_RN_giveTurn _ _ _ (((sr_fr.rf μ).seti rfl (fun q => absurd q.1 (by decide))).cnt hc))).trans (fr_RN_giveTurn _ _ _ ((((sr_fr.rf μ).seti rfl (fun q => absurd q.1 (by decide))).trans (fr_RN_giveTurn _ _ _ (((sr_fr.rf μ).seti rfl (fun q => absurd q.1 (by decide))).cnt hc))).cnt hc))).seti rfl (fun q => absurd q.1 (by decide))) (((((sr_fd.rf μ).seti (fun q => absurd q.2 (by decide))).trans (fd_RN_giveTurn _ _ _)).trans (fd_RN_giveTurn _ _ _)).seti (fun q => absurd q.2 (by decide)))) (sr_due (μ := (m_RN_giveTurn (m_RN_giveTurn (sr_seti μ 13 m.toNatClampNeg 1 (μ.1 1 0 9)) 0 (μ.1 3 m.toNatClampNeg 0)) 1 ((m_RN_giveTurn (sr_seti μ 13 m.toNatClampNeg 1 (μ.1 1 0 9)) 0 (μ.1 3 m.toNatClampNeg 0)).1 3 m.toNatClampNeg 0))) (rv_fd h ((((sr_fr.rf μ).seti rfl (fun q => absurd q.1 (by decide))).trans (fr_RN_giveTurn _ _ _ (((sr_fr.rf μ).seti rfl (fun q => absurd q.1 (by decide))).cnt hc))).trans (fr_RN_giveTurn _ _ _ ((((sr_fr.rf μ).seti rfl (fun q => absurd q.1 (by decide))).trans (fr_RN_giveTurn _ _ _ (((sr_fr.rf μ).seti rfl (fun q => absurd q.1 (by decide))).cnt hc))).cnt hc))) ((((sr_fd.rf μ).seti (fun q => absurd q.2 (by decide))).trans (fd_RN_giveTurn _ _ _)).trans (fd_RN_giveTurn _ _ _))) hi hn)
  · exact rv_fd h (((((sr_fr.rf μ).seti rfl (fun q => absurd q.1 (by decide))).trans (fr_RN_giveTurn _ _ _ (((sr_fr.rf μ).seti rfl (fun q => absurd q.1 (by decide))).cnt hc))).trans (fr_RN_giveTurn _ _ _ ((((sr_fr.rf μ).seti rfl (fun q => absurd q.1 (by decide))).trans (fr_RN_giveTurn _ _ _ (((sr_fr.rf μ).seti rfl (fun q => absurd q.1 (by decide))).cnt hc))).cnt hc))).trans (fr_RN_endMethod _ _ _ (((((sr_fr.rf μ).seti rfl (fun q => absurd q.1 (by decide))).trans (fr_RN_giveTurn _ _ _ (((sr_fr.rf μ).seti rfl (fun q => absurd q.1 (by decide))).cnt hc))).trans (fr_RN_giveTurn _ _ _ ((((sr_fr.rf μ).seti rfl (fun q => absurd q.1 (by decide))).trans (fr_RN_giveTurn _ _ _ (((sr_fr.rf μ).seti rfl (fun q => absurd q.1 (by decide))).cnt hc))).cnt hc))).cnt hc))) (((((sr_fd.rf μ).seti (fun q => absurd q.2 (by decide))).trans (fd_RN_giveTurn _ _ _)).trans (fd_RN_giveTurn _ _ _)).trans (fd_RN_endMethod _ _ _))
  · exact rv_fd h (((((sr_fr.rf μ).seti rfl (fun q => absurd q.1 (by decide))).trans (fr_RN_giveTurn _ _ _ (((sr_fr.rf μ).seti rfl (fun q => absurd q.1 (by decide))).cnt hc))).trans (fr_RN_giveTurn _ _ _ ((((sr_fr.rf μ).seti rfl (fun q => absurd q.1 (by decide))).trans (fr_RN_giveTurn _ _ _ (((sr_fr.rf μ).seti rfl (fun q => absurd q.1 (by decide))).cnt hc))).cnt hc))).trans (fr_RN_endMethod _ _ _ (((((sr_fr.rf μ).seti rfl (fun q => absurd q.1 (by decide))).trans (fr_RN_giveTurn _ _ _ (((sr_fr.rf μ).seti rfl (fun q => absurd q.1 (by decide))).cnt hc))).trans (fr_RN_giveTurn _ _ _ ((((sr_fr.rf μ).seti rfl (fun q => absurd q.1 (by decide))).trans (fr_RN_giveTurn _ _ _ (((sr_fr.rf μ).seti rfl (fun q => absurd q.1 (by decide))).cnt hc))).cnt hc))).cnt hc))) (((((sr_fd.rf μ).seti (fun q => absurd q.2 (by decide))).trans (fd_RN_giveTurn _ _ _)).trans (fd_RN_giveTurn _ _ _)).trans (fd_RN_endMethod _ _ _))
  · exact rv_fd h (((((sr_fr.rf μ).seti rfl (fun q => absurd q.1 (by decide))).trans (fr_RN_giveTurn _ _ _ (((sr_fr.rf μ).seti rfl (fun q => absurd q.1 (by decide))).cnt hc))).trans (fr_RN_giveTurn _ _ _ ((((sr_fr.rf μ).seti rfl (fun q => absurd q.1 (by decide))).trans (fr_RN_giveTurn _ _ _ (((sr_fr.rf μ).seti rfl (fun q => absurd q.1 (by decide))).cnt hc))).cnt hc))).trans (fr_RN_endMethod _ _ _ (((((sr_fr.rf μ).seti rfl (fun q => absurd q.1 (by decide))).trans (fr_RN_giveTurn _ _ _ (((sr_fr.rf μ).seti rfl (fun q => absurd q.1 (by decide))).cnt hc))).trans (fr_RN_giveTurn _ _ _ ((((sr_fr.rf μ).seti rfl (fun q => absurd q.1 (by decide))).trans (fr_RN_giveTurn _ _ _ (((sr_fr.rf μ).seti rfl (fun q => absurd q.1 (by decide))).cnt hc))).cnt hc))).cnt hc))) (((((sr_fd.rf μ).seti (fun q => absurd q.2 (by decide))).trans (fd_RN_giveTurn _ _ _)).trans (fd_RN_giveTurn _ _ _)).trans (fd_RN_endMethod _ _ _))
  · exact rv_fd h (((sr_fr.rf μ).seti rfl (fun q => absurd q.1 (by decide))).trans (fr_RN_endMethod _ _ _ (((sr_fr.rf μ).seti rfl (fun q => absurd q.1 (by decide))).cnt hc))) (((sr_fd.rf μ).seti (fun q => absurd q.2 (by decide))).trans (fd_RN_endMethod _ _ _))
theorem rv_RN_proceed (μ : sr_M) (m : Int32) (h : sr_rv μ) (hq : q_RN_proceed μ m) : sr_rv (m_RN_proceed μ m) := by
  have ho := o_RN_proceed μ m hq
  refine rv_of h ho.1 (fun i hi => ⟨?_, ?_⟩)
  · rw [(ho.2 i).1]; exact (h.2.1 i hi).1
  · by_cases e : i = m.toNatClampNeg
    · rw [e]; exact (ho.2 i).2.1
    · rw [(ho.2 i).2.2 e]; exact (h.2.1 i hi).2
-- a step of a worker
def sr_ss (μ ν : sr_M) (d : Nat) : Prop := (∀ g i j, sr_ch g = false → ¬ g = 15 → ν.1 g i j = μ.1 g i j) ∧ ν.2 = μ.2 ∧ (∀ c, sr_cnt (μ.1 11 0 1) c → c + d < 2 ^ 31 → sr_cnt (ν.1 11 0 1) (c + d)) ∧ sr_rv ν
theorem sr_ss.rf {μ : sr_M} (h : sr_rv μ) : sr_ss μ μ 0 := ⟨fun _ _ _ _ _ => rfl, rfl, fun _ h _ => h, h⟩
theorem sr_ss.mono {μ ν : sr_M} {d e : Nat} (h : sr_ss μ ν d) (hd : d ≤ e) : sr_ss μ ν e := ⟨h.1, h.2.1, fun c hc he => (h.2.2.1 c hc (by omega)).mono (by omega), h.2.2.2⟩
theorem sr_ss.trans {μ ν ρ : sr_M} {d e : Nat} (h1 : sr_ss μ ν d) (h2 : sr_ss ν ρ e) : sr_ss μ ρ (d + e) := ⟨fun g i j hg h15 => (h2.1 g i j hg h15).trans (h1.1 g i j hg h15), h2.2.1.trans h1.2.1, fun c hc hd => by
  have := h2.2.2.1 (c + d) (h1.2.2.1 c hc (by omega)) (by omega)
  rw [Nat.add_assoc] at this
  exact this, h2.2.2.2⟩
theorem sr_ss.fr {μ ν ρ : sr_M} {d e : Nat} (h1 : sr_ss μ ν d) (h2 : sr_fr ν ρ e) (hr : sr_rv ρ) : sr_ss μ ρ (d + e) := h1.trans ⟨fun g i j hg _ => h2.1 g i j hg, h2.2.1, h2.2.2, hr⟩
theorem sr_ss.hand {μ ν : sr_M} {d : Nat} (h : sr_ss μ ν d) {w : Nat} {x : Int32} (hx : x = -1 ∨ sr_in x 16) : sr_ss μ (sr_seti ν 15 0 w x) d := by
  refine ⟨fun g i j hg h15 => ?_, h.2.1, fun c hc hd => h.2.2.1 c hc hd, fun v hv => ?_, fun i hi => h.2.2.2.2.1 i hi, fun i hi => h.2.2.2.2.2.1 i hi, fun p hp => h.2.2.2.2.2.2 p hp⟩
  · show (if g = 15 ∧ i = 0 ∧ j = w then x else ν.1 g i j) = _
    rw [if_neg (fun q => h15 q.1)]
    exact h.1 g i j hg h15
  · show (if 15 = 15 ∧ 0 = 0 ∧ v = w then x else ν.1 15 0 v) = -1 ∨ sr_in (if 15 = 15 ∧ 0 = 0 ∧ v = w then x else ν.1 15 0 v) 16
    split
    · exact hx
    · exact h.2.2.2.1 v hv
theorem sr_ss.cnt {μ ν : sr_M} {d N : Nat} (h : sr_ss μ ν d) {g i j : Nat} (q : sr_cnt (μ.1 g i j) N) (hg : sr_ch g = false := by rfl) (h15 : ¬ g = 15 := by decide) : sr_cnt (ν.1 g i j) N := by rw [h.1 g i j hg h15]; exact q
theorem sr_it_invN {α : Type} {f : Nat → α → α} (P : α → Prop) {a : α} (h0 : P a) : ∀ n, (∀ k, k < n → ∀ a, P a → P (f k a)) → P (sr_it f a n)
  | 0, _ => h0
  | n + 1, h => h n (by omega) _ (sr_it_invN P h0 n (fun k hk => h k (by omega)))
theorem w_RN_firstToTake (μ : sr_M) (q : sr_cnt (μ.1 2 0 1) 16) : v_RN_firstToTake μ = -1 ∨ sr_in (v_RN_firstToTake μ) 16 := by
  unfold v_RN_firstToTake
  split
  · refine sr_it_invN (fun x : Int32 => x = -1 ∨ sr_in x 16) (Or.inl rfl) _ (fun k hk a h => ?_)
    unfold f_RN_firstToTake
    (repeat' split) <;> first | exact h | exact Or.inr (sr_inN 16 (sr_cnt_lt q hk) (by decide))
  · refine sr_it_invN (fun x : Int32 => x = -1 ∨ sr_in x 16) (Or.inl rfl) _ (fun k hk a h => ?_)
    unfold f_RN_firstToTake_v2
    (repeat' split) <;> first | exact h | exact Or.inr (sr_inN 16 (sr_cnt_lt q hk) (by decide))
