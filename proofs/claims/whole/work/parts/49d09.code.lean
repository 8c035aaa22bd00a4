set_option maxRecDepth 100000 in
theorem dl_9 : ∀ k, k < 64 → sr_chk code cd_LAW (576 + k) = true := by decide +kernel
