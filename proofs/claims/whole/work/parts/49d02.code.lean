set_option maxRecDepth 100000 in
theorem dl_2 : ∀ k, k < 64 → sr_chk code cd_LAW (128 + k) = true := by decide +kernel
