set_option maxRecDepth 100000 in
theorem dl_4 : ∀ k, k < 64 → sr_chk code cd_LAW (256 + k) = true := by decide +kernel
