/-! Each instruction of the abstract machine is the machine's. -/
theorem sr_in_vp {x : Int32} {n : Nat} (h : sr_in x n) : vp_in x n := h
theorem sr_tgt_eq {pc : Nat} {off : Int} (h : 0 ≤ (pc : Int) + off) : (pc : Int) + off = (sr_tgt pc off : Int) := by
  unfold sr_tgt
  omega
theorem sr_ii_inv {f : Int32 → Int32 → Int32} {pc : Nat} {L : sr_L} {st : List sr_V} {μ : sr_M} {s1 : Prop × sr_S} (h : sr_ii f (pc, L, st, μ) = some s1) : ∃ x y st', st = .inl y :: .inl x :: st' ∧ s1 = (True, pc + 1, L, .inl (f x y) :: st', μ) := by
  unfold sr_ii at h
  split at h
  · rename_i e
    cases e
    cases h
    exact ⟨_, _, _, rfl, rfl⟩
  · cases h
theorem sr_ll_inv {f : Int64 → Int64 → Int64} {pc : Nat} {L : sr_L} {st : List sr_V} {μ : sr_M} {s1 : Prop × sr_S} (h : sr_ll f (pc, L, st, μ) = some s1) : ∃ x y st', st = .inr (.inl y) :: .inr (.inl x) :: st' ∧ s1 = (True, pc + 1, L, .inr (.inl (f x y)) :: st', μ) := by
  unfold sr_ll at h
  split at h
  · rename_i e
    cases e
    cases h
    exact ⟨_, _, _, rfl, rfl⟩
  · cases h
theorem sr_li_inv {f : Int64 → Int32 → Int64} {pc : Nat} {L : sr_L} {st : List sr_V} {μ : sr_M} {s1 : Prop × sr_S} (h : sr_li f (pc, L, st, μ) = some s1) : ∃ x y st', st = .inl y :: .inr (.inl x) :: st' ∧ s1 = (True, pc + 1, L, .inr (.inl (f x y)) :: st', μ) := by
  unfold sr_li at h
  split at h
  · rename_i e
    cases e
    cases h
    exact ⟨_, _, _, rfl, rfl⟩
  · cases h
theorem sr_rem_inv {pc : Nat} {L : sr_L} {st : List sr_V} {μ : sr_M} {s1 : Prop × sr_S} (h : sr_rem (pc, L, st, μ) = some s1) : ∃ x y st', st = .inl y :: .inl x :: st' ∧ s1 = (¬ y = 0, pc + 1, L, .inl (x - x / y * y) :: st', μ) := by
  unfold sr_rem at h
  split at h
  · rename_i e
    cases e
    cases h
    exact ⟨_, _, _, rfl, rfl⟩
  · cases h
theorem sr_u_inv {f : Int32 → sr_V} {pc : Nat} {L : sr_L} {st : List sr_V} {μ : sr_M} {s1 : Prop × sr_S} (h : sr_u f (pc, L, st, μ) = some s1) : ∃ x st', st = .inl x :: st' ∧ s1 = (True, pc + 1, L, f x :: st', μ) := by
  unfold sr_u at h
  split at h
  · rename_i e
    cases e
    cases h
    exact ⟨_, _, rfl, rfl⟩
  · cases h
theorem sr_ul_inv {f : Int64 → sr_V} {pc : Nat} {L : sr_L} {st : List sr_V} {μ : sr_M} {s1 : Prop × sr_S} (h : sr_ul f (pc, L, st, μ) = some s1) : ∃ x st', st = .inr (.inl x) :: st' ∧ s1 = (True, pc + 1, L, f x :: st', μ) := by
  unfold sr_ul at h
  split at h
  · rename_i e
    cases e
    cases h
    exact ⟨_, _, rfl, rfl⟩
  · cases h
theorem sr_lcmp_inv {pc : Nat} {L : sr_L} {st : List sr_V} {μ : sr_M} {s1 : Prop × sr_S} (h : sr_lcmp (pc, L, st, μ) = some s1) : ∃ x y st', st = .inr (.inl y) :: .inr (.inl x) :: st' ∧ s1 = (True, pc + 1, L, .inl (lg_cmp x y) :: st', μ) := by
  unfold sr_lcmp at h
  split at h
  · rename_i e
    cases e
    cases h
    exact ⟨_, _, _, rfl, rfl⟩
  · cases h
theorem sr_ps_inv {n : Nat} {v : Option sr_V} {pc : Nat} {L : sr_L} {st : List sr_V} {μ : sr_M} {s1 : Prop × sr_S} (h : sr_ps n v (pc, L, st, μ) = some s1) : ∃ w, v = some w ∧ s1 = (True, pc + n, L, w :: st, μ) := by
  unfold sr_ps at h
  cases v with
  | none => cases h
  | some w => cases h; exact ⟨w, rfl, rfl⟩
theorem sr_ld0_inv {i n pc : Nat} {L : sr_L} {st : List sr_V} {μ : sr_M} {s1 : Prop × sr_S} (h : sr_ld 0 i n (pc, L, st, μ) = some s1) : ∃ x, L[i]? = some (some (.inl x)) ∧ s1 = (True, pc + n, L, .inl x :: st, μ) := by
  unfold sr_ld at h
  dsimp only at h
  split at h
  · rename_i e
    cases h
    exact ⟨_, e, rfl⟩
  · cases h
  · cases h
  · cases h
theorem sr_ld2_inv {i n pc : Nat} {L : sr_L} {st : List sr_V} {μ : sr_M} {s1 : Prop × sr_S} (h : sr_ld 2 i n (pc, L, st, μ) = some s1) : ∃ x, L[i]? = some (some (.inr (.inl x))) ∧ s1 = (True, pc + n, L, .inr (.inl x) :: st, μ) := by
  unfold sr_ld at h
  dsimp only at h
  split at h
  · cases h
  · rename_i e
    cases h
    exact ⟨_, e, rfl⟩
  · cases h
  · cases h
theorem sr_ld3_inv {i n pc : Nat} {L : sr_L} {st : List sr_V} {μ : sr_M} {s1 : Prop × sr_S} (h : sr_ld 3 i n (pc, L, st, μ) = some s1) : ∃ x, L[i]? = some (some (.inr (.inr x))) ∧ s1 = (True, pc + n, L, .inr (.inr x) :: st, μ) := by
  unfold sr_ld at h
  dsimp only at h
  split at h
  · cases h
  · cases h
  · rename_i e
    cases h
    exact ⟨_, e, rfl⟩
  · cases h
theorem sr_put_inv {pc : Nat} {o : Option sr_L} {st : List sr_V} {μ : sr_M} {s1 : Prop × sr_S} (h : sr_put pc st μ o = some s1) : ∃ L, o = some L ∧ s1 = (True, pc, L, st, μ) := by
  cases o with
  | none => cases h
  | some L => cases h; exact ⟨L, rfl, rfl⟩
theorem sr_sto0_inv {i n pc : Nat} {L : sr_L} {st : List sr_V} {μ : sr_M} {s1 : Prop × sr_S} (h : sr_sto 0 i n (pc, L, st, μ) = some s1) : ∃ x st' L', st = .inl x :: st' ∧ sr_st1 L i (.inl x) = some L' ∧ s1 = (True, pc + n, L', st', μ) := by
  unfold sr_sto at h
  split at h
  · rename_i e
    cases e
    obtain ⟨L', h1, h2⟩ := sr_put_inv h
    exact ⟨_, _, L', rfl, h1, h2⟩
  · cases h
  · cases h
  · cases h
theorem sr_sto2_inv {i n pc : Nat} {L : sr_L} {st : List sr_V} {μ : sr_M} {s1 : Prop × sr_S} (h : sr_sto 2 i n (pc, L, st, μ) = some s1) : ∃ x st' L', st = .inr (.inl x) :: st' ∧ sr_st2 L i (.inr (.inl x)) = some L' ∧ s1 = (True, pc + n, L', st', μ) := by
  unfold sr_sto at h
  split at h
  · cases h
  · cases h
  · rename_i e
    cases e
    obtain ⟨L', h1, h2⟩ := sr_put_inv h
    exact ⟨_, _, L', rfl, h1, h2⟩
  · cases h
theorem sr_sto3_inv {i n pc : Nat} {L : sr_L} {st : List sr_V} {μ : sr_M} {s1 : Prop × sr_S} (h : sr_sto 3 i n (pc, L, st, μ) = some s1) : ∃ x st' L', st = .inr (.inr x) :: st' ∧ sr_st1 L i (.inr (.inr x)) = some L' ∧ s1 = (True, pc + n, L', st', μ) := by
  unfold sr_sto at h
  split at h
  · cases h
  · rename_i e
    cases e
    obtain ⟨L', h1, h2⟩ := sr_put_inv h
    exact ⟨_, _, L', rfl, h1, h2⟩
  · cases h
  · cases h
theorem sr_inc_inv {i : Nat} {n : Int} {pc : Nat} {L : sr_L} {st : List sr_V} {μ : sr_M} {s1 : Prop × sr_S} (h : sr_inc i n (pc, L, st, μ) = some s1) : ∃ x L', L[i]? = some (some (.inl x)) ∧ sr_st1 L i (.inl (x + Int32.ofInt n)) = some L' ∧ s1 = (True, pc + 3, L', st, μ) := by
  unfold sr_inc at h
  dsimp only at h
  split at h
  · rename_i e
    obtain ⟨L', h1, h2⟩ := sr_put_inv h
    exact ⟨_, L', e, h1, h2⟩
  · cases h
theorem sr_if_inv {q : Jvm.ClassFile.Cond} {off : Int} {pc : Nat} {L : sr_L} {st : List sr_V} {μ : sr_M} {s1 : Prop × sr_S} (h : sr_if q off (pc, L, st, μ) = some s1) : ∃ x st', st = .inl x :: st' ∧ s1 = (True, bif sr_cc q x 0 then sr_tgt pc off else pc + 3, L, st', μ) := by
  unfold sr_if at h
  split at h
  · rename_i e
    cases e
    cases h
    exact ⟨_, _, rfl, rfl⟩
  · cases h
theorem sr_icmp_inv {q : Jvm.ClassFile.Cond} {off : Int} {pc : Nat} {L : sr_L} {st : List sr_V} {μ : sr_M} {s1 : Prop × sr_S} (h : sr_icmp q off (pc, L, st, μ) = some s1) : ∃ x y st', st = .inl y :: .inl x :: st' ∧ s1 = (True, bif sr_cc q x y then sr_tgt pc off else pc + 3, L, st', μ) := by
  unfold sr_icmp at h
  split at h
  · rename_i e
    cases e
    cases h
    exact ⟨_, _, _, rfl, rfl⟩
  · cases h
theorem sr_dup_inv {pc : Nat} {L : sr_L} {st : List sr_V} {μ : sr_M} {s1 : Prop × sr_S} (h : sr_dup (pc, L, st, μ) = some s1) : ∃ v st', st = v :: st' ∧ sr_c1 v = true ∧ s1 = (True, pc + 1, L, v :: v :: st', μ) := by
  unfold sr_dup at h
  split at h
  · rename_i e
    cases e
    cases h
    exact ⟨_, _, rfl, rfl, rfl⟩
  · rename_i e
    cases e
    cases h
    exact ⟨_, _, rfl, rfl, rfl⟩
  · cases h
theorem sr_dup2_inv {pc : Nat} {L : sr_L} {st : List sr_V} {μ : sr_M} {s1 : Prop × sr_S} (h : sr_dup2 (pc, L, st, μ) = some s1) : ∃ a b st', st = a :: b :: st' ∧ (sr_c1 a = true ∧ sr_c1 b = true) ∧ s1 = (True, pc + 1, L, a :: b :: a :: b :: st', μ) := by
  unfold sr_dup2 at h
  split at h
  · rename_i e
    cases e
    split at h
    · rename_i hc
      cases h
      exact ⟨_, _, _, rfl, hc, rfl⟩
    · cases h
  · cases h
theorem sr_dupx1_inv {pc : Nat} {L : sr_L} {st : List sr_V} {μ : sr_M} {s1 : Prop × sr_S} (h : sr_dupx1 (pc, L, st, μ) = some s1) : ∃ a b st', st = a :: b :: st' ∧ (sr_c1 a = true ∧ sr_c1 b = true) ∧ s1 = (True, pc + 1, L, a :: b :: a :: st', μ) := by
  unfold sr_dupx1 at h
  split at h
  · rename_i e
    cases e
    split at h
    · rename_i hc
      cases h
      exact ⟨_, _, _, rfl, hc, rfl⟩
    · cases h
  · cases h
theorem sr_dupx2_inv {pc : Nat} {L : sr_L} {st : List sr_V} {μ : sr_M} {s1 : Prop × sr_S} (h : sr_dupx2 (pc, L, st, μ) = some s1) : ∃ a b d st', st = a :: b :: d :: st' ∧ (sr_c1 a = true ∧ sr_c1 b = true ∧ sr_c1 d = true) ∧ s1 = (True, pc + 1, L, a :: b :: d :: a :: st', μ) := by
  unfold sr_dupx2 at h
  split at h
  · rename_i e
    cases e
    split at h
    · rename_i hc
      cases h
      exact ⟨_, _, _, _, rfl, hc, rfl⟩
    · cases h
  · cases h
theorem sr_pop_inv {pc : Nat} {L : sr_L} {st : List sr_V} {μ : sr_M} {s1 : Prop × sr_S} (h : sr_pop (pc, L, st, μ) = some s1) : ∃ a st', st = a :: st' ∧ sr_c1 a = true ∧ s1 = (True, pc + 1, L, st', μ) := by
  unfold sr_pop at h
  split at h
  · rename_i e
    cases e
    split at h
    · rename_i hc
      cases h
      exact ⟨_, _, rfl, hc, rfl⟩
    · cases h
  · cases h
theorem sr_sw_inv {dflt lo hi : Int} {offs : Array Int} {pc : Nat} {L : sr_L} {st : List sr_V} {μ : sr_M} {s1 : Prop × sr_S} (h : sr_sw dflt lo hi offs (pc, L, st, μ) = some s1) : ∃ x st', st = .inl x :: st' ∧ s1 = (True, sr_tgt pc (sr_swt dflt lo hi offs x.toInt), L, st', μ) := by
  unfold sr_sw at h
  split at h
  · rename_i e
    cases e
    cases h
    exact ⟨_, _, rfl, rfl⟩
  · cases h
theorem sr_gf_inv {S : sr_Sh} {f : Option (Nat × Nat)} {pc : Nat} {L : sr_L} {st : List sr_V} {μ : sr_M} {s1 : Prop × sr_S} (h : sr_gf S f (pc, L, st, μ) = some s1) : ∃ g i v st', st = .inr (.inr (g, i)) :: st' ∧ sr_getf S f μ g i = some v ∧ s1 = (v.1, pc + 3, L, v.2 :: st', μ) := by
  unfold sr_gf at h
  split at h
  · rename_i e
    cases e
    split at h
    · rename_i hv
      cases h
      exact ⟨_, _, _, _, rfl, hv, rfl⟩
    · cases h
  · cases h
theorem sr_pf_inv {S : sr_Sh} {f : Option (Nat × Nat)} {pc : Nat} {L : sr_L} {st : List sr_V} {μ : sr_M} {s1 : Prop × sr_S} (h : sr_pf S f (pc, L, st, μ) = some s1) : ∃ g i v st' x, st = v :: .inr (.inr (g, i)) :: st' ∧ sr_putf S f μ g i v = some x ∧ s1 = (x.1, pc + 3, L, st', x.2) := by
  unfold sr_pf at h
  split at h
  · rename_i e
    cases e
    split at h
    · rename_i hv
      cases h
      exact ⟨_, _, _, _, _, rfl, hv, rfl⟩
    · cases h
  · cases h
theorem sr_al_inv {S : sr_Sh} {K : sr_K} {kd : Nat} {pc : Nat} {L : sr_L} {st : List sr_V} {μ : sr_M} {s1 : Prop × sr_S} (h : sr_al S K kd (pc, L, st, μ) = some s1) : ∃ x g i v st', st = .inl x :: .inr (.inr (g, i)) :: st' ∧ sr_ald S K kd μ g i x = some v ∧ s1 = (v.1, pc + 1, L, v.2 :: st', μ) := by
  unfold sr_al at h
  split at h
  · rename_i e
    cases e
    split at h
    · rename_i hv
      cases h
      exact ⟨_, _, _, _, _, rfl, hv, rfl⟩
    · cases h
  · cases h
theorem sr_as_inv {S : sr_Sh} {kd : Nat} {pc : Nat} {L : sr_L} {st : List sr_V} {μ : sr_M} {s1 : Prop × sr_S} (h : sr_as S kd (pc, L, st, μ) = some s1) : ∃ v x g i st' y, st = v :: .inl x :: .inr (.inr (g, i)) :: st' ∧ sr_ast S kd μ g i x v = some y ∧ s1 = (y.1, pc + 1, L, st', y.2) := by
  unfold sr_as at h
  split at h
  · rename_i e
    cases e
    split at h
    · rename_i hv
      cases h
      exact ⟨_, _, _, _, _, _, rfl, hv, rfl⟩
    · cases h
  · cases h
theorem sr_len_inv {K : sr_K} {pc : Nat} {L : sr_L} {st : List sr_V} {μ : sr_M} {s1 : Prop × sr_S} (h : sr_len K (pc, L, st, μ) = some s1) : ∃ g i n f st', st = .inr (.inr (g, i)) :: st' ∧ K g = some (n, f) ∧ s1 = (i = 0, pc + 1, L, .inl (Int32.ofNat n) :: st', μ) := by
  unfold sr_len at h
  split at h
  · rename_i e
    cases e
    split at h
    · rename_i hv
      cases h
      exact ⟨_, _, _, _, _, rfl, hv, rfl⟩
    · cases h
  · cases h
theorem sr_inv_inv {S : sr_Sh} {t : Option (Nat × Nat × sr_F)} {vir : Bool} {pc : Nat} {L : sr_L} {st : List sr_V} {μ : sr_M} {s1 : Prop × sr_S} (h : sr_inv S t vir (pc, L, st, μ) = some s1) : ∃ x, sr_call S t vir st μ = some x ∧ s1 = (x.1, pc + 3, L, x.2.1, x.2.2) := by
  unfold sr_inv at h
  dsimp only at h
  split at h
  · rename_i hv
    cases h
    exact ⟨_, hv, rfl⟩
  · cases h
