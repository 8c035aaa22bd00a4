set_option maxRecDepth 100000 in
theorem dl_12 : ∀ k, k < 64 → sr_chk code cd_LAW (768 + k) = true := by decide +kernel
