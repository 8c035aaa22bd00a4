set_option maxRecDepth 100000 in
theorem dl_1 : ∀ k, k < 64 → sr_chk code cd_LAW (64 + k) = true := by decide +kernel
