set_option maxRecDepth 100000 in
theorem dl_10 : ∀ k, k < 64 → sr_chk code cd_LAW (640 + k) = true := by decide +kernel
