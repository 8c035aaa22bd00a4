set_option maxRecDepth 100000 in
theorem dl_5 : ∀ k, k < 64 → sr_chk code cd_LAW (320 + k) = true := by decide +kernel
