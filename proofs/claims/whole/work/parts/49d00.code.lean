set_option maxRecDepth 100000 in
theorem dl_0 : ∀ k, k < 64 → sr_chk code cd_LAW (0 + k) = true := by decide +kernel
