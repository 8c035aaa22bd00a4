set_option maxRecDepth 100000 in
theorem dl_3 : ∀ k, k < 64 → sr_chk code cd_LAW (192 + k) = true := by decide +kernel
