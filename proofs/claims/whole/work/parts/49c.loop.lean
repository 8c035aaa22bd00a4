/-! The law's loop. -/
def sr_pairs (Rel : Nat → sr_M → Prop) : Prop := (∀ (y1 : Int32) (y2 : Int64), sr_pair Rel p_SR_method p_MO_method [.inl y1, .inr (.inl y2)]) ∧ (∀ (y1 : Int32) (y2 : Int32) (y3 : Int32), sr_pair Rel p_SR_trait p_MO_trait [.inl y1, .inl y2, .inl y3]) ∧ (∀ (y1 : Int32) (y2 : Int32), sr_pair Rel p_SR_needs p_MO_needs [.inl y1, .inl y2]) ∧ (∀ (y1 : Int32) (y2 : Int32), sr_pair Rel p_SR_needsGroup p_MO_needsGroup [.inl y1, .inl y2]) ∧ (∀ (y1 : Int32) (y2 : Int32), sr_pair Rel p_SR_provider p_MO_provider [.inl y1, .inl y2]) ∧ (∀ (y1 : Int32) (y2 : Int32) (y3 : Int32) (y4 : Int32), sr_pair Rel p_SR_configuration p_MO_configuration [.inl y1, .inl (sr_nz y2), .inl y3, .inl y4]) ∧ (∀ (y1 : Int32) (y2 : Int32), sr_pair Rel p_SR_type p_MO_type [.inl (sr_nz y1), .inl (y2.toUInt32 % 65536).toInt32]) ∧ (∀ (y1 : Int32) (y2 : Int32) (y3 : Int32), sr_pair Rel p_SR_select p_MO_select [.inl y1, .inl y2, .inl y3]) ∧ (∀ (y1 : Int32) (y2 : Int32) (y3 : Int32) (y4 : Int32) (y5 : Int32), sr_pair Rel p_SR_options p_MO_options [.inl y1, .inl (sr_nz y2), .inl (sr_nz y3), .inl (sr_nz y4), .inl (sr_nz y5)]) ∧ sr_pair Rel p_SR_start p_MO_start [] ∧ (∀ (y1 : Int32), sr_pair Rel p_SR_tick p_MO_tick [.inl y1]) ∧ sr_pair Rel p_SR_again p_MO_again [] ∧ sr_pair Rel p_SR_running p_MO_running [] ∧ sr_pair Rel p_SR_selected p_MO_selected [] ∧ (∀ (y1 : Int32), sr_pair Rel p_SR_edges p_MO_edges [.inl y1]) ∧ sr_pair Rel p_SR_circle p_MO_circle [] ∧ (∀ (y1 : Int32) (y2 : Int32), sr_pair Rel p_SR_report p_MO_report [.inl y1, .inl y2]) ∧ (∀ (y1 : Int32), sr_pair Rel p_SR_worker p_MO_worker [.inl y1]) ∧ (∀ (y1 : Int32), sr_pair Rel p_SR_event p_MO_event [.inl y1])
theorem lw_sub {Ln : Nat} (h : Ln ≤ 3072) : (Int32.ofNat Ln - 6).toInt = (Ln : Int) - 6 := by
  have h1 : (Int32.ofNat Ln).toInt = (Ln : Int) := nI_toInt (by omega)
  rw [Int32.toInt_sub, h1, show (6 : Int32).toInt = 6 from by decide]
  exact Int.bmod_eq_of_le (by omega) (by omega)
theorem lw_in {c Ln : Nat} (j : Nat) (h : 6 * c + j < Ln) (hL : Ln ≤ 3072) : sr_in (nI (6 * c) + nI j) Ln := by
  rw [nI_add]
  exact sr_inN Ln h (by omega)
def lw_tgs : List Nat := [124, 187, 230, 263, 296, 329, 398, 449, 492, 619, 632, 655, 668, 681, 694, 717, 730, 763, 786, 809]
theorem lw_sw (z : Int) : sr_tgt 33 (sr_swt 776 0 18 #[91, 154, 197, 230, 263, 296, 365, 416, 459, 586, 599, 622, 635, 648, 661, 684, 697, 730, 753] z) ∈ lw_tgs := by
  unfold sr_swt
  split
  · decide
  · rename_i h
    have h2 : (z - 0).toNat < 19 := by omega
    generalize (z - 0).toNat = n at h2
    match n, h2 with
    | 0, _ => exact by decide
    | 1, _ => exact by decide
    | 2, _ => exact by decide
    | 3, _ => exact by decide
    | 4, _ => exact by decide
    | 5, _ => exact by decide
    | 6, _ => exact by decide
    | 7, _ => exact by decide
    | 8, _ => exact by decide
    | 9, _ => exact by decide
    | 10, _ => exact by decide
    | 11, _ => exact by decide
    | 12, _ => exact by decide
    | 13, _ => exact by decide
    | 14, _ => exact by decide
    | 15, _ => exact by decide
    | 16, _ => exact by decide
    | 17, _ => exact by decide
    | 18, _ => exact by decide
    | n + 19, h => exact absurd h (by omega)
theorem lw_mem {P : Nat → Prop} (h : ∀ x ∈ lw_tgs, P x) (z : Int) : P (sr_tgt 33 (sr_swt 776 0 18 #[91, 154, 197, 230, 263, 296, 365, 416, 459, 586, 599, 622, 635, 648, 661, 684, 697, 730, 753] z)) := h _ (lw_sw z)
set_option maxRecDepth 20000 in
theorem law_loop {Rel : Nat → sr_M → Prop} (hp : sr_pairs Rel) (mon : ∀ c μ, Rel c μ → Rel (c + 1) μ) (xs : Nat → Int32) (Ln : Nat) (hL : Ln ≤ 3072) : ∀ (r c : Nat) (μ : sr_M), 6 * c ≤ Ln → Ln < 6 * c + 6 * r + 6 → Rel c μ → sr_AW (e_LAW xs Ln) (fun x => x.1 = some (.inl 1)) (18, [some (.inr (.inr (60, 0))), some (.inr (.inr (0, 0))), some (.inr (.inr (20, 0))), some (.inl (nI (6 * c)))], [], μ) := by
  intro r
  induction r with
  | zero =>
    intro c μ h1 h2 hR
    refine sr_many 6 (t := (bif decide (Int32.ofNat Ln - 6 < (nI (6 * c))) then 815 else 27, [some (.inr (.inr (60, 0))), some (.inr (.inr (0, 0))), some (.inr (.inr (20, 0))), some (.inl (nI (6 * c)))], [], μ)) rfl ⟨trivial, trivial, rfl, trivial, trivial, trivial, trivial⟩ (sr_brd (fun _ => ?_) (fun h => ?_))
    · refine sr_many 1 (t := (816, [some (.inr (.inr (60, 0))), some (.inr (.inr (0, 0))), some (.inr (.inr (20, 0))), some (.inl (nI (6 * c)))], [.inl 1], μ)) rfl ⟨trivial, trivial⟩ ?_
      exact sr_ret rfl rfl rfl (Or.inr rfl) rfl
    · refine absurd ?_ h
      rw [Int32.lt_iff_toInt_lt, lw_sub hL, nI_toInt (by omega)]
      omega
  | succ r ih =>
    intro c μ h1 h2 hR
    refine sr_many 6 (t := (bif decide (Int32.ofNat Ln - 6 < (nI (6 * c))) then 815 else 27, [some (.inr (.inr (60, 0))), some (.inr (.inr (0, 0))), some (.inr (.inr (20, 0))), some (.inl (nI (6 * c)))], [], μ)) rfl ⟨trivial, trivial, rfl, trivial, trivial, trivial, trivial⟩ (sr_brd (fun _ => ?_) (fun h => ?_))
    · refine sr_many 1 (t := (816, [some (.inr (.inr (60, 0))), some (.inr (.inr (0, 0))), some (.inr (.inr (20, 0))), some (.inl (nI (6 * c)))], [.inl 1], μ)) rfl ⟨trivial, trivial⟩ ?_
      exact sr_ret rfl rfl rfl (Or.inr rfl) rfl
    · have h6 : 6 * c + 6 ≤ Ln := by
        rw [Int32.lt_iff_toInt_lt, lw_sub hL, nI_toInt (by omega)] at h
        omega
      have i0 : sr_in (nI (6 * c)) Ln := sr_inN Ln (by omega) (by omega)
      have i1 : sr_in (nI (6 * c) + 1) Ln := lw_in 1 (by omega) hL
      have i2 : sr_in (nI (6 * c) + 2) Ln := lw_in 2 (by omega) hL
      have i3 : sr_in (nI (6 * c) + 3) Ln := lw_in 3 (by omega) hL
      have i4 : sr_in (nI (6 * c) + 4) Ln := lw_in 4 (by omega) hL
      have i5 : sr_in (nI (6 * c) + 5) Ln := lw_in 5 (by omega) hL
      have go : ∀ c' μ', c' ≤ c + 1 → Rel c' μ' → (c' = c + 1 → sr_AW (e_LAW xs Ln) (fun x => x.1 = some (.inl 1)) (809, [some (.inr (.inr (60, 0))), some (.inr (.inr (0, 0))), some (.inr (.inr (20, 0))), some (.inl (nI (6 * c)))], [], μ')) := by
        intro c' μ' _ hR' e
        subst e
        refine sr_many 2 (t := (18, [some (.inr (.inr (60, 0))), some (.inr (.inr (0, 0))), some (.inr (.inr (20, 0))), some (.inl (nI (6 * c) + 6))], [], μ')) rfl ⟨trivial, trivial, trivial⟩ ?_
        have := ih (c + 1) μ' (by omega) (by omega) hR'
        rw [show 6 * (c + 1) = 6 * c + 6 by omega, ← nI_add] at this
        exact this
      have skip : Rel (c + 1) μ → sr_AW (e_LAW xs Ln) (fun x => x.1 = some (.inl 1)) (809, [some (.inr (.inr (60, 0))), some (.inr (.inr (0, 0))), some (.inr (.inr (20, 0))), some (.inl (nI (6 * c)))], [], μ) := fun hR' => go (c + 1) μ (Nat.le_refl _) hR' rfl
      refine sr_many 6 (t := (sr_tgt 33 (sr_swt 776 0 18 #[91, 154, 197, 230, 263, 296, 365, 416, 459, 586, 599, 622, 635, 648, 661, 684, 697, 730, 753] (xs (nI (6 * c)).toNatClampNeg &&& 31).toInt), [some (.inr (.inr (60, 0))), some (.inr (.inr (0, 0))), some (.inr (.inr (20, 0))), some (.inl (nI (6 * c)))], [], μ)) rfl ⟨trivial, trivial, ⟨rfl, i0⟩, trivial, trivial, trivial, trivial⟩ ?_
      refine lw_mem (P := fun q => sr_AW (e_LAW xs Ln) (fun x => x.1 = some (.inl 1)) (q, [some (.inr (.inr (60, 0))), some (.inr (.inr (0, 0))), some (.inr (.inr (20, 0))), some (.inl (nI (6 * c)))], [], μ)) ?_ _
      obtain ⟨p0, p1, p2, p3, p4, p5, p6, p7, p8, p9, p10, p11, p12, p13, p14, p15, p16, p17, p18⟩ := hp
      have hc : c < 512 := by omega
      exact (List.forall_mem_cons.mpr ⟨(by
        obtain ⟨C1, v1, μ1, C2, v2, μ2, g1, g2, g3, g4, g5, g6⟩ := (p0 _ _) c μ hc hR
        exact lc_0 i1 i2 i3 i4 i5 g1 g2 g3 g4 g5 (go (c + 1) μ2 (Nat.le_refl _) g6 rfl)), (List.forall_mem_cons.mpr ⟨(by
        obtain ⟨C1, v1, μ1, C2, v2, μ2, g1, g2, g3, g4, g5, g6⟩ := (p1 _ _ _) c μ hc hR
        exact lc_1 i1 i2 i3 i4 i5 g1 g2 g3 g4 g5 (go (c + 1) μ2 (Nat.le_refl _) g6 rfl)), (List.forall_mem_cons.mpr ⟨(by
        obtain ⟨C1, v1, μ1, C2, v2, μ2, g1, g2, g3, g4, g5, g6⟩ := (p2 _ _) c μ hc hR
        exact lc_2 i1 i2 i3 i4 i5 g1 g2 g3 g4 g5 (go (c + 1) μ2 (Nat.le_refl _) g6 rfl)), (List.forall_mem_cons.mpr ⟨(by
        obtain ⟨C1, v1, μ1, C2, v2, μ2, g1, g2, g3, g4, g5, g6⟩ := (p3 _ _) c μ hc hR
        exact lc_3 i1 i2 i3 i4 i5 g1 g2 g3 g4 g5 (go (c + 1) μ2 (Nat.le_refl _) g6 rfl)), (List.forall_mem_cons.mpr ⟨(by
        obtain ⟨C1, v1, μ1, C2, v2, μ2, g1, g2, g3, g4, g5, g6⟩ := (p4 _ _) c μ hc hR
        exact lc_4 i1 i2 i3 i4 i5 g1 g2 g3 g4 g5 (go (c + 1) μ2 (Nat.le_refl _) g6 rfl)), (List.forall_mem_cons.mpr ⟨(by
        obtain ⟨C1, v1, μ1, C2, v2, μ2, g1, g2, g3, g4, g5, g6⟩ := (p5 _ _ _ _) c μ hc hR
        exact lc_5 i1 i2 i3 i4 i5 g1 g2 g3 g4 g5 (go (c + 1) μ2 (Nat.le_refl _) g6 rfl)), (List.forall_mem_cons.mpr ⟨(by
        obtain ⟨C1, v1, μ1, C2, v2, μ2, g1, g2, g3, g4, g5, g6⟩ := (p6 _ _) c μ hc hR
        exact lc_6 i1 i2 i3 i4 i5 g1 g2 g3 g4 g5 (go (c + 1) μ2 (Nat.le_refl _) g6 rfl)), (List.forall_mem_cons.mpr ⟨(by
        obtain ⟨C1, v1, μ1, C2, v2, μ2, g1, g2, g3, g4, g5, g6⟩ := (p7 _ _ _) c μ hc hR
        exact lc_7 i1 i2 i3 i4 i5 g1 g2 g3 g4 g5 (go (c + 1) μ2 (Nat.le_refl _) g6 rfl)), (List.forall_mem_cons.mpr ⟨(by
        obtain ⟨C1, v1, μ1, C2, v2, μ2, g1, g2, g3, g4, g5, g6⟩ := (p8 _ _ _ _ _) c μ hc hR
        exact lc_8 i1 i2 i3 i4 i5 g1 g2 g3 g4 g5 (go (c + 1) μ2 (Nat.le_refl _) g6 rfl)), (List.forall_mem_cons.mpr ⟨(by
        obtain ⟨C1, v1, μ1, C2, v2, μ2, g1, g2, g3, g4, g5, g6⟩ := p9 c μ hc hR
        exact lc_9 i1 i2 i3 i4 i5 g1 g2 g3 g4 g5 (go (c + 1) μ2 (Nat.le_refl _) g6 rfl)), (List.forall_mem_cons.mpr ⟨(by
        obtain ⟨C1, v1, μ1, C2, v2, μ2, g1, g2, g3, g4, g5, g6⟩ := (p10 _) c μ hc hR
        exact lc_10 i1 i2 i3 i4 i5 g1 g2 g3 g4 g5 (go (c + 1) μ2 (Nat.le_refl _) g6 rfl)), (List.forall_mem_cons.mpr ⟨(by
        obtain ⟨C1, v1, μ1, C2, v2, μ2, g1, g2, g3, g4, g5, g6⟩ := p11 c μ hc hR
        exact lc_11 i1 i2 i3 i4 i5 g1 g2 g3 g4 g5 (go (c + 1) μ2 (Nat.le_refl _) g6 rfl)), (List.forall_mem_cons.mpr ⟨(by
        obtain ⟨C1, v1, μ1, C2, v2, μ2, g1, g2, g3, g4, g5, g6⟩ := p12 c μ hc hR
        exact lc_12 i1 i2 i3 i4 i5 g1 g2 g3 g4 g5 (go (c + 1) μ2 (Nat.le_refl _) g6 rfl)), (List.forall_mem_cons.mpr ⟨(by
        obtain ⟨C1, v1, μ1, C2, v2, μ2, g1, g2, g3, g4, g5, g6⟩ := p13 c μ hc hR
        exact lc_13 i1 i2 i3 i4 i5 g1 g2 g3 g4 g5 (go (c + 1) μ2 (Nat.le_refl _) g6 rfl)), (List.forall_mem_cons.mpr ⟨(by
        obtain ⟨C1, v1, μ1, C2, v2, μ2, g1, g2, g3, g4, g5, g6⟩ := (p14 _) c μ hc hR
        exact lc_14 i1 i2 i3 i4 i5 g1 g2 g3 g4 g5 (go (c + 1) μ2 (Nat.le_refl _) g6 rfl)), (List.forall_mem_cons.mpr ⟨(by
        obtain ⟨C1, v1, μ1, C2, v2, μ2, g1, g2, g3, g4, g5, g6⟩ := p15 c μ hc hR
        exact lc_15 i1 i2 i3 i4 i5 g1 g2 g3 g4 g5 (go (c + 1) μ2 (Nat.le_refl _) g6 rfl)), (List.forall_mem_cons.mpr ⟨(by
        obtain ⟨C1, v1, μ1, C2, v2, μ2, g1, g2, g3, g4, g5, g6⟩ := (p16 _ _) c μ hc hR
        exact lc_16 i1 i2 i3 i4 i5 g1 g2 g3 g4 g5 (go (c + 1) μ2 (Nat.le_refl _) g6 rfl)), (List.forall_mem_cons.mpr ⟨(by
        obtain ⟨C1, v1, μ1, C2, v2, μ2, g1, g2, g3, g4, g5, g6⟩ := (p17 _) c μ hc hR
        exact lc_17 i1 i2 i3 i4 i5 g1 g2 g3 g4 g5 (go (c + 1) μ2 (Nat.le_refl _) g6 rfl)), (List.forall_mem_cons.mpr ⟨(by
        obtain ⟨C1, v1, μ1, C2, v2, μ2, g1, g2, g3, g4, g5, g6⟩ := (p18 _) c μ hc hR
        exact lc_18 i1 i2 i3 i4 i5 g1 g2 g3 g4 g5 (go (c + 1) μ2 (Nat.le_refl _) g6 rfl)), (List.forall_mem_cons.mpr ⟨skip (mon c μ hR), (fun _ h => absurd h List.not_mem_nil)⟩)⟩)⟩)⟩)⟩)⟩)⟩)⟩)⟩)⟩)⟩)⟩)⟩)⟩)⟩)⟩)⟩)⟩)⟩)⟩)
