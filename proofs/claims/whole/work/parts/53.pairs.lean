/-! A pair of calls out of a statement on two memories: the class's (groups below 20 of the first) and the reference's (the other groups of the second). -/
def sr_onC (μ μ' : sr_M) : Prop := ∀ g i j, g < 20 → μ'.1 g i j = μ.1 g i j ∧ μ'.2 g i j = μ.2 g i j
def sr_onM (ν ν' : sr_M) : Prop := ∀ g i j, ¬ g < 20 → ν'.1 g i j = ν.1 g i j ∧ ν'.2 g i j = ν.2 g i j
theorem sr_mgC_onC (μ' μ : sr_M) : sr_onC μ' (sr_mgC μ' μ) := fun _ _ _ h => ⟨if_pos h, if_pos h⟩
theorem sr_mgC_onM (μ' μ : sr_M) : sr_onM μ (sr_mgC μ' μ) := fun _ _ _ h => ⟨if_neg h, if_neg h⟩
theorem sr_mgM_onC (μ' μ : sr_M) : sr_onC μ (sr_mgM μ' μ) := fun _ _ _ h => ⟨if_pos h, if_pos h⟩
theorem sr_mgM_onM (μ' μ : sr_M) : sr_onM μ' (sr_mgM μ' μ) := fun _ _ _ h => ⟨if_neg h, if_neg h⟩
theorem sr_pair_of {R2 : Nat → sr_M → sr_M → Prop} (hext : ∀ c μ ν μ' ν', sr_onC μ μ' → sr_onM ν ν' → R2 c μ ν → R2 c μ' ν') {pC pM : sr_F} {as : List sr_V} {q1 q2 : sr_M → Prop} {v1 v2 : sr_M → Int32} {m1 m2 : sr_M → sr_M} (hC : ∀ μ, pC (.inr (.inr (0, 0)) :: as) μ = some (q1 μ, some (.inl (v1 μ)), m1 μ)) (hM : ∀ μ, pM (.inr (.inr (20, 0)) :: as) μ = some (q2 μ, some (.inl (v2 μ)), m2 μ)) (h : ∀ c μ ν, c < 512 → R2 c μ ν → q1 μ ∧ q2 ν ∧ v1 μ = v2 ν ∧ R2 (c + 1) (m1 μ) (m2 ν)) : sr_pair (fun c μ => R2 c μ μ) pC pM as := by
  intro c μ hc hR
  have hR2 : R2 c μ (sr_mgC (m1 μ) μ) := hext c μ μ μ _ (fun _ _ _ _ => ⟨rfl, rfl⟩) (sr_mgC_onM _ _) hR
  obtain ⟨a1, a2, a3, a4⟩ := h c μ _ hc hR2
  refine ⟨q1 μ, v1 μ, sr_mgC (m1 μ) μ, q2 (sr_mgC (m1 μ) μ), v2 (sr_mgC (m1 μ) μ), sr_mgM (m2 (sr_mgC (m1 μ) μ)) (sr_mgC (m1 μ) μ), ?_, a1, ?_, a2, a3, ?_⟩
  · unfold sr_liC
    rw [hC]
  · unfold sr_liM
    rw [hM]
  · refine hext (c + 1) _ _ _ _ (fun g i j hg => ?_) (sr_mgM_onM _ _) a4
    obtain ⟨x1, x2⟩ := sr_mgM_onC (m2 (sr_mgC (m1 μ) μ)) (sr_mgC (m1 μ) μ) g i j hg
    obtain ⟨y1, y2⟩ := sr_mgC_onC (m1 μ) μ g i j hg
    exact ⟨x1.trans y1, x2.trans y2⟩
