set_option maxRecDepth 100000 in
theorem dl_7 : ∀ k, k < 64 → sr_chk code cd_LAW (448 + k) = true := by decide +kernel
