set_option maxRecDepth 100000 in
theorem dl_6 : ∀ k, k < 64 → sr_chk code cd_LAW (384 + k) = true := by decide +kernel
