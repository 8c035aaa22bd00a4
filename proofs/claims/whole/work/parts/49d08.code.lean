set_option maxRecDepth 100000 in
theorem dl_8 : ∀ k, k < 64 → sr_chk code cd_LAW (512 + k) = true := by decide +kernel
