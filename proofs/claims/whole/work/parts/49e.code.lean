theorem dc_LAW : ∀ pc ins n, sr_cd cd_LAW pc = some (ins, n) → decode code pc = .ok (ins, n) ∧ n = sr_il ins n ∧ sr_tok pc ins = true := sr_cd_ok (fun pc h => by
  have h : pc < 832 := h
  by_cases h0 : pc < 64
  · have e := dl_0 (pc - 0) (by omega)
    rw [show 0 + (pc - 0) = pc by omega] at e
    exact e
  by_cases h1 : pc < 128
  · have e := dl_1 (pc - 64) (by omega)
    rw [show 64 + (pc - 64) = pc by omega] at e
    exact e
  by_cases h2 : pc < 192
  · have e := dl_2 (pc - 128) (by omega)
    rw [show 128 + (pc - 128) = pc by omega] at e
    exact e
  by_cases h3 : pc < 256
  · have e := dl_3 (pc - 192) (by omega)
    rw [show 192 + (pc - 192) = pc by omega] at e
    exact e
  by_cases h4 : pc < 320
  · have e := dl_4 (pc - 256) (by omega)
    rw [show 256 + (pc - 256) = pc by omega] at e
    exact e
  by_cases h5 : pc < 384
  · have e := dl_5 (pc - 320) (by omega)
    rw [show 320 + (pc - 320) = pc by omega] at e
    exact e
  by_cases h6 : pc < 448
  · have e := dl_6 (pc - 384) (by omega)
    rw [show 384 + (pc - 384) = pc by omega] at e
    exact e
  by_cases h7 : pc < 512
  · have e := dl_7 (pc - 448) (by omega)
    rw [show 448 + (pc - 448) = pc by omega] at e
    exact e
  by_cases h8 : pc < 576
  · have e := dl_8 (pc - 512) (by omega)
    rw [show 512 + (pc - 512) = pc by omega] at e
    exact e
  by_cases h9 : pc < 640
  · have e := dl_9 (pc - 576) (by omega)
    rw [show 576 + (pc - 576) = pc by omega] at e
    exact e
  by_cases h10 : pc < 704
  · have e := dl_10 (pc - 640) (by omega)
    rw [show 640 + (pc - 640) = pc by omega] at e
    exact e
  by_cases h11 : pc < 768
  · have e := dl_11 (pc - 704) (by omega)
    rw [show 704 + (pc - 704) = pc by omega] at e
    exact e
  by_cases h12 : pc < 832
  · have e := dl_12 (pc - 768) (by omega)
    rw [show 768 + (pc - 768) = pc by omega] at e
    exact e
  exact absurd h (by omega))
