/-! How a run of the abstract machine is shown. -/
theorem sr_AWn_mono {E : sr_E} {K K' : sr_R → Prop} (h : ∀ r, K r → K' r) : ∀ (n : Nat) (s : sr_S), sr_AWn E K n s → sr_AWn E K' n s
  | 0, _, w => w
  | n + 1, s, w => by
    unfold sr_AWn at w ⊢
    rcases w with w | ⟨L0, hs, w⟩
    · left
      split at w
      · exact w.elim
      · split at w
        · exact ⟨w.1, sr_AWn_mono h n _ w.2⟩
        · split at w
          · exact ⟨w.1, h _ w.2⟩
          · exact w.elim
    · exact Or.inr ⟨L0, hs, sr_AWn_mono h n _ w⟩
theorem sr_AW.mono {E : sr_E} {K K' : sr_R → Prop} {s : sr_S} (w : sr_AW E K s) (h : ∀ r, K r → K' r) : sr_AW E K' s := by
  obtain ⟨n, w⟩ := w
  exact ⟨n, sr_AWn_mono h n s w⟩
theorem sr_forget {E : sr_E} {K : sr_R → Prop} {pc : Nat} {L : sr_L} (L0 : sr_L) {r : List sr_V × sr_M} (hs : sr_sub L0 L) (k : sr_AW E K (pc, L0, r)) : sr_AW E K (pc, L, r) := by
  obtain ⟨m, k⟩ := k
  refine ⟨m + 1, ?_⟩
  unfold sr_AWn
  exact Or.inr ⟨L0, hs, k⟩
theorem sr_go {E : sr_E} {K : sr_R → Prop} {s : sr_S} {ins : Jvm.ClassFile.Instr} {n : Nat} {x : Prop × sr_S} (hc : E.2.2.2.1 s.1 = some (ins, n)) (hs : sr_step E ins s = some x) (hC : x.1) (k : sr_AW E K x.2) : sr_AW E K s := by
  obtain ⟨m, k⟩ := k
  refine ⟨m + 1, ?_⟩
  unfold sr_AWn
  left
  rw [hc]
  dsimp only
  rw [hs]
  exact ⟨hC, k⟩
theorem sr_ret {E : sr_E} {K : sr_R → Prop} {pc : Nat} {L : sr_L} {st : List sr_V} {μ : sr_M} {ins : Jvm.ClassFile.Instr} {n : Nat} {y : Prop × sr_R} (hc : E.2.2.2.1 pc = some (ins, n)) (hs : sr_step E ins (pc, L, st, μ) = none) (hf : sr_fin E ins (pc, L, st, μ) = some y) (hC : y.1) (k : K y.2) : sr_AW E K (pc, L, st, μ) := by
  refine ⟨1, ?_⟩
  unfold sr_AWn
  left
  dsimp only
  rw [hc]
  dsimp only
  rw [hs]
  dsimp only
  rw [hf]
  exact ⟨hC, k⟩
-- n steps at once
def sr_steps (E : sr_E) : Nat → sr_S → sr_O
  | 0, s => some (True, s)
  | n + 1, (pc, L, st, μ) => match E.2.2.2.1 pc with
    | none => none
    | some (ins, _) => match sr_step E ins (pc, L, st, μ) with
      | none => none
      | some (C, s') => match sr_steps E n s' with
        | none => none
        | some (D, t) => some (C ∧ D, t)
theorem sr_steps_go {E : sr_E} {K : sr_R → Prop} : ∀ (n : Nat) (s : sr_S) (x : Prop × sr_S), sr_steps E n s = some x → x.1 → sr_AW E K x.2 → sr_AW E K s
  | 0, s, x, h, _, k => by
    cases h
    exact k
  | n + 1, (pc, L, st, μ), x, h, hC, k => by
    unfold sr_steps at h
    split at h
    · cases h
    · rename_i ins n0 hc
      split at h
      · cases h
      · rename_i C s' hs
        split at h
        · cases h
        · rename_i D t ht
          cases h
          exact sr_go (s := (pc, L, st, μ)) hc hs hC.1 (sr_steps_go n s' (D, t) ht hC.2 k)
theorem sr_many {E : sr_E} {K : sr_R → Prop} (n : Nat) {s : sr_S} {C : Prop} {t : sr_S} (h : sr_steps E n s = some (C, t)) (hC : C) (k : sr_AW E K t) : sr_AW E K s := sr_steps_go n s (C, t) h hC k
theorem sr_br {E : sr_E} {K : sr_R → Prop} {b : Bool} {x y : Nat} {r : sr_L × List sr_V × sr_M} (ht : b = true → sr_AW E K (x, r)) (hf : b = false → sr_AW E K (y, r)) : sr_AW E K (bif b then x else y, r) := by
  cases b with
  | true => exact ht rfl
  | false => exact hf rfl
theorem sr_brd {E : sr_E} {K : sr_R → Prop} {p : Prop} {_ : Decidable p} {x y : Nat} {r : sr_L × List sr_V × sr_M} (ht : p → sr_AW E K (x, r)) (hf : ¬ p → sr_AW E K (y, r)) : sr_AW E K (bif decide p then x else y, r) := by
  by_cases h : p
  · rw [decide_eq_true h]
    exact ht h
  · rw [decide_eq_false h]
    exact hf h
-- loops
def sr_it {α : Type} (f : Nat → α → α) (a : α) : Nat → α
  | 0 => a
  | n + 1 => f n (sr_it f a n)
theorem sr_for {E : sr_E} {K : sr_R → Prop} {α : Type} (hd : Nat → α → sr_S) (f : Nat → α → α) (a : α) (n : Nat) (step : ∀ k, k < n → sr_AW E K (hd (k + 1) (f k (sr_it f a k))) → sr_AW E K (hd k (sr_it f a k))) (ex : sr_AW E K (hd n (sr_it f a n))) : sr_AW E K (hd 0 a) := by
  have key : ∀ j, j ≤ n → sr_AW E K (hd (n - j) (sr_it f a (n - j))) := by
    intro j
    induction j with
    | zero => intro _; exact ex
    | succ j ih =>
      intro hj
      have h1 := ih (by omega)
      have e : n - j = (n - (j + 1)) + 1 := by omega
      rw [e] at h1
      exact step _ (by omega) h1
  have := key n (Nat.le_refl n)
  rw [Nat.sub_self] at this
  exact this
theorem sr_forE {E : sr_E} {K : sr_R → Prop} (hd : Nat → sr_S) (P : Nat → Prop) (n : Nat) (step : ∀ k, k < n → P k → sr_AW E K (hd (k + 1)) → sr_AW E K (hd k)) (out : ∀ k, k < n → (∀ j, j < k → P j) → ¬ P k → sr_AW E K (hd k)) (ex : (∀ j, j < n → P j) → sr_AW E K (hd n)) : sr_AW E K (hd 0) := by
  have key : ∀ j k, j + k = n → (∀ i, i < k → P i) → sr_AW E K (hd k) := by
    intro j
    induction j with
    | zero =>
      intro k hk hP
      have e : k = n := by omega
      subst e
      exact ex hP
    | succ j ih =>
      intro k hk hP
      by_cases hp : P k
      · refine step k (by omega) hp (ih (k + 1) (by omega) (fun i hi => ?_))
        by_cases e : i = k
        · subst e; exact hp
        · exact hP i (by omega)
      · exact out k (by omega) hP hp
  exact key n 0 (by omega) (fun i hi => by omega)
theorem sr_forI {E : sr_E} {K : sr_R → Prop} {α : Type} (hd : Nat → α → sr_S) (f : Nat → α → α) (I : Nat → α → Prop) (a : α) (n : Nat) (h0 : I 0 a) (hs : ∀ k, k < n → ∀ a, I k a → I (k + 1) (f k a)) (step : ∀ k, k < n → ∀ a, I k a → sr_AW E K (hd (k + 1) (f k a)) → sr_AW E K (hd k a)) (ex : I n (sr_it f a n) → sr_AW E K (hd n (sr_it f a n))) : sr_AW E K (hd 0 a) := by
  have hI : ∀ k, k ≤ n → I k (sr_it f a k) := by
    intro k
    induction k with
    | zero => intro _; exact h0
    | succ k ih => intro hk; exact hs k (by omega) _ (ih (by omega))
  exact sr_for hd f a n (fun k hk w => step k hk _ (hI k (by omega)) w) (ex (hI n (Nat.le_refl n)))
theorem sr_forT {E : sr_E} {K : sr_R → Prop} {α : Type} (hd : Nat → α → sr_S) (f : Nat → α → α) (a : α) (n : Nat) (step : ∀ k, k < n → ∀ a, sr_AW E K (hd (k + 1) (f k a)) → sr_AW E K (hd k a)) (ex : sr_AW E K (hd n (sr_it f a n))) : sr_AW E K (hd 0 a) := sr_for hd f a n (fun k hk w => step k hk _ w) ex
-- a count: a number that is not negative and at most N
def sr_cnt (x : Int32) (N : Nat) : Prop := x = nI x.toNatClampNeg ∧ x.toNatClampNeg ≤ N
theorem sr_cnt_nlt {x : Int32} {N k : Nat} (h : sr_cnt x N) (hN : N < 2 ^ 31) (hk : k < x.toNatClampNeg) : ¬ x ≤ nI k := by
  rw [h.1, nI_leI (by have := h.2; omega) (by have := h.2; omega)]
  omega
theorem sr_cnt_le {x : Int32} {N : Nat} (h : sr_cnt x N) : x ≤ nI x.toNatClampNeg := by
  rw [← h.1]
  exact Int32.le_refl x
theorem sr_cnt_lt {x : Int32} {N k : Nat} (h : sr_cnt x N) (hk : k < x.toNatClampNeg) : k < N := Nat.lt_of_lt_of_le hk h.2
theorem sr_inN {k : Nat} (N : Nat) (h : k < N) (hN : N < 2 ^ 31) : sr_in (nI k) N := vp_in_nI h hN
theorem sr_clN {k : Nat} (N : Nat) (h : k < N) (hN : N < 2 ^ 31) : (nI k).toNatClampNeg = k := nI_clamp (by omega)
-- a loop that may end at any turn: g gives the end, or what goes on
def sr_lp {α β : Type} (g : Nat → α → β ⊕ α) : Nat → Nat → α → Option β
  | 0, _, _ => none
  | n + 1, k, a => match g k a with
    | .inl b => some b
    | .inr a' => sr_lp g n (k + 1) a'
theorem sr_loop {E : sr_E} {α β : Type} (val : β → sr_R) (hd : Nat → α → sr_S) (g : Nat → α → β ⊕ α) (I : Nat → α → Prop) (hI : ∀ k a a', I k a → g k a = .inr a' → I (k + 1) a') (step : ∀ (K : sr_R → Prop) k a, I k a → (∀ b, g k a = .inl b → K (val b)) → (∀ a', g k a = .inr a' → sr_AW E K (hd (k + 1) a')) → sr_AW E K (hd k a)) : ∀ (n k : Nat) (a : α) (b : β), I k a → sr_lp g n k a = some b → sr_AW E (fun x => x = val b) (hd k a)
  | 0, _, _, _, _, h => by cases h
  | n + 1, k, a, b, hi, h => by
    unfold sr_lp at h
    refine step _ k a hi (fun b' e => ?_) (fun a' e => ?_)
    · rw [e] at h
      cases h
      rfl
    · rw [e] at h
      exact sr_loop val hd g I hI step n (k + 1) a' b (hI k a a' hi e) h
theorem sr_lp_some {α β : Type} (g : Nat → α → β ⊕ α) (n : Nat) (I : Nat → α → Prop) (hI : ∀ k a a', I k a → g k a = .inr a' → I (k + 1) a') (h : ∀ a, I n a → ∃ b, g n a = .inl b) : ∀ (j k : Nat) (a : α), j + k = n → I k a → ∃ b, sr_lp g (j + 1) k a = some b
  | 0, k, a, e, hi => by
    have : k = n := by omega
    subst this
    obtain ⟨b, hb⟩ := h a hi
    exact ⟨b, by unfold sr_lp; rw [hb]⟩
  | j + 1, k, a, e, hi => by
    cases hg : g k a with
    | inl b => exact ⟨b, by unfold sr_lp; rw [hg]⟩
    | inr a' =>
      obtain ⟨b, hb⟩ := sr_lp_some g n I hI h j (k + 1) a' (by omega) (hI k a a' hi hg)
      exact ⟨b, by unfold sr_lp; rw [hg]; exact hb⟩
