set_option maxRecDepth 100000 in
theorem dl_11 : ∀ k, k < 64 → sr_chk code cd_LAW (704 + k) = true := by decide +kernel
