/-! Constructors with loops. -/
theorem sr_none (f : Nat → Option Nat) : (fun _ => none) = (fun i => if i < 0 then f i else none) := funext (fun i => (if_neg (Nat.not_lt_zero i)).symm)
def b_CT (cA : Nat → ClassId) (a : Nat) : Nat → va_E := fun j => match j with
  | 0 => .inr (2, [.ref (a + 1), .int 0, .ref (a + 2), .int 0, .ref (a + 3), .ref (a + 4)])
  | 1 => .inl (cA 4, 16, .inr (.inr (.inr (.inr (fun _ => none)))))
  | 2 => .inl (cA 5, 8, .inr (.inr (.inr (.inr (fun _ => none)))))
  | 3 => .inl (cA 0, 4, .inl (upd (upd (upd (upd (fun _ => 0) (0 : Int32).toNatClampNeg (1)) (1 : Int32).toNatClampNeg (1)) (2 : Int32).toNatClampNeg (1)) (3 : Int32).toNatClampNeg (1)))
  | _ => .inl (cA 0, 16, .inl (fun _ => 0))
def el_CT1 (cA : Nat → ClassId) (a k : Nat) : Nat → va_E := fun z => if z < 5 then (if z = 1 then .inl (cA 4, 16, .inr (.inr (.inr (.inr (fun i => if i < k then some (a + (5 + 2 * i)) else none))))) else b_CT cA a z) else ex_TM cA (a + (5 + 2 * ((z - 5) / 2))) ((z - 5) % 2)
def el_CT2 (cA : Nat → ClassId) (a k : Nat) : Nat → va_E := fun z => if z < 37 then (if z = 2 then .inl (cA 5, 8, .inr (.inr (.inr (.inr (fun i => if i < k then some (a + (37 + 1 * i)) else none))))) else el_CT1 cA a 16 z) else ex_CF cA (a + (37 + 1 * ((z - 37) / 1))) ((z - 37) % 1)
theorem el1_CT1 (cA : Nat → ClassId) (a k z : Nat) (hk : k < 2 ^ 31) (hz : z < 5 + 2 * k + 2) : sr_ue (fun j => if j < 5 + 2 * k then sr_ue (el_CT1 cA a k) (5 + 2 * k) (.inr (3, [.int 0, .long 0, .null, .int 0, .int 0])) j else ex_TM cA (a + (5 + 2 * k)) (j - (5 + 2 * k))) 1 (.inl (cA 4, 16, .inr (.inr (.inr (.inr (va_up (fun i => if i < k then some (a + (5 + 2 * i)) else none) (nI k).toNatClampNeg (some (a + (5 + 2 * k))))))))) z = el_CT1 cA a (k + 1) z := by
  unfold sr_ue
  by_cases h1 : z = 1
  · rw [if_pos h1]
    subst h1
    show _ = (if 1 < 5 then _ else _)
    rw [if_pos (by decide), if_pos rfl]
    refine congrArg (fun g => (.inl (cA _, _, .inr (.inr (.inr (.inr g)))) : va_E)) (funext (fun i => ?_))
    rw [nI_clamp hk]
    unfold va_up
    by_cases h2 : i = k
    · subst h2
      rw [if_pos rfl, if_pos (Nat.lt_succ_self i)]
    · rw [if_neg h2]
      dsimp only
      by_cases h3 : i < k
      · rw [if_pos h3, if_pos (Nat.lt_succ_of_lt h3)]
      · rw [if_neg h3, if_neg (by omega)]
  · rw [if_neg h1]
    dsimp only
    by_cases h2 : z < 5 + 2 * k
    · rw [if_pos h2, if_neg (by omega)]
      unfold el_CT1
      by_cases h3 : z < 5
      · rw [if_pos h3, if_pos h3, if_neg h1, if_neg h1]
      · rw [if_neg h3, if_neg h3]
    · rw [if_neg h2]
      unfold el_CT1
      have e1 : (z - 5) / 2 = k := by omega
      have e2 : (z - 5) % 2 = z - (5 + 2 * k) := by omega
      rw [if_neg (by omega), e1, e2]
theorem el1_CT2 (cA : Nat → ClassId) (a k z : Nat) (hk : k < 2 ^ 31) (hz : z < 37 + 1 * k + 1) : sr_ue (fun j => if j < 37 + 1 * k then sr_ue (el_CT2 cA a k) (37 + 1 * k) (.inr (4, [.int 0, .int 0, .int 0, .int 0, .int 0])) j else ex_CF cA (a + (37 + 1 * k)) (j - (37 + 1 * k))) 2 (.inl (cA 5, 8, .inr (.inr (.inr (.inr (va_up (fun i => if i < k then some (a + (37 + 1 * i)) else none) (nI k).toNatClampNeg (some (a + (37 + 1 * k))))))))) z = el_CT2 cA a (k + 1) z := by
  unfold sr_ue
  by_cases h1 : z = 2
  · rw [if_pos h1]
    subst h1
    show _ = (if 2 < 37 then _ else _)
    rw [if_pos (by decide), if_pos rfl]
    refine congrArg (fun g => (.inl (cA _, _, .inr (.inr (.inr (.inr g)))) : va_E)) (funext (fun i => ?_))
    rw [nI_clamp hk]
    unfold va_up
    by_cases h2 : i = k
    · subst h2
      rw [if_pos rfl, if_pos (Nat.lt_succ_self i)]
    · rw [if_neg h2]
      dsimp only
      by_cases h3 : i < k
      · rw [if_pos h3, if_pos (Nat.lt_succ_of_lt h3)]
      · rw [if_neg h3, if_neg (by omega)]
  · rw [if_neg h1]
    dsimp only
    by_cases h2 : z < 37 + 1 * k
    · rw [if_pos h2, if_neg (by omega)]
      unfold el_CT2
      by_cases h3 : z < 37
      · rw [if_pos h3, if_pos h3, if_neg h1, if_neg h1]
      · rw [if_neg h3, if_neg h3]
    · rw [if_neg h2]
      unfold el_CT2
      have e1 : (z - 37) / 1 = k := by omega
      have e2 : (z - 37) % 1 = z - (37 + 1 * k) := by omega
      rw [if_neg (by omega), e1, e2]
theorem el0_CT1 (cA : Nat → ClassId) (a z : Nat) (hz : z < 5) : b_CT cA a z = el_CT1 cA a 0 z := by
  unfold el_CT1
  rw [if_pos hz]
  by_cases h : z = 1
  · rw [if_pos h]
    subst h
    exact congrArg (fun g => (.inl (cA 4, 16, .inr (.inr (.inr (.inr g)))) : va_E)) (sr_none _)
  · rw [if_neg h]
theorem el0_CT2 (cA : Nat → ClassId) (a z : Nat) (hz : z < 37) : el_CT1 cA a 16 z = el_CT2 cA a 0 z := by
  unfold el_CT2
  rw [if_pos hz]
  by_cases h : z = 2
  · rw [if_pos h]
    subst h
    exact congrArg (fun g => (.inl (cA 5, 8, .inr (.inr (.inr (.inr g)))) : va_E)) (sr_none _)
  · rw [if_neg h]
def ex_CT (cA : Nat → ClassId) (a : Nat) : Nat → va_E := el_CT2 cA a 8
theorem dk_CT_0 : decode prog_2_method_1_code 0 = .ok (.aload_n 0, 1) := by decide +kernel
theorem dk_CT_1 : decode prog_2_method_1_code 1 = .ok (.invokespecial 3, 3) := by decide +kernel
theorem dk_CT_4 : decode prog_2_method_1_code 4 = .ok (.aload_n 0, 1) := by decide +kernel
theorem dk_CT_5 : decode prog_2_method_1_code 5 = .ok (.bipush 16, 2) := by decide +kernel
theorem dk_CT_7 : decode prog_2_method_1_code 7 = .ok (.anewarray 9, 3) := by decide +kernel
theorem dk_CT_10 : decode prog_2_method_1_code 10 = .ok (.putfield 11, 3) := by decide +kernel
theorem dk_CT_13 : decode prog_2_method_1_code 13 = .ok (.aload_n 0, 1) := by decide +kernel
theorem dk_CT_14 : decode prog_2_method_1_code 14 = .ok (.bipush 8, 2) := by decide +kernel
theorem dk_CT_16 : decode prog_2_method_1_code 16 = .ok (.anewarray 17, 3) := by decide +kernel
theorem dk_CT_19 : decode prog_2_method_1_code 19 = .ok (.putfield 19, 3) := by decide +kernel
theorem dk_CT_22 : decode prog_2_method_1_code 22 = .ok (.aload_n 0, 1) := by decide +kernel
theorem dk_CT_23 : decode prog_2_method_1_code 23 = .ok (.iconst 4, 1) := by decide +kernel
theorem dk_CT_24 : decode prog_2_method_1_code 24 = .ok (.newarray .int, 2) := by decide +kernel
theorem dk_CT_26 : decode prog_2_method_1_code 26 = .ok (.dup, 1) := by decide +kernel
theorem dk_CT_27 : decode prog_2_method_1_code 27 = .ok (.iconst 0, 1) := by decide +kernel
theorem dk_CT_28 : decode prog_2_method_1_code 28 = .ok (.iconst 1, 1) := by decide +kernel
theorem dk_CT_29 : decode prog_2_method_1_code 29 = .ok (.iastore, 1) := by decide +kernel
theorem dk_CT_30 : decode prog_2_method_1_code 30 = .ok (.dup, 1) := by decide +kernel
theorem dk_CT_31 : decode prog_2_method_1_code 31 = .ok (.iconst 1, 1) := by decide +kernel
theorem dk_CT_32 : decode prog_2_method_1_code 32 = .ok (.iconst 1, 1) := by decide +kernel
theorem dk_CT_33 : decode prog_2_method_1_code 33 = .ok (.iastore, 1) := by decide +kernel
theorem dk_CT_34 : decode prog_2_method_1_code 34 = .ok (.dup, 1) := by decide +kernel
theorem dk_CT_35 : decode prog_2_method_1_code 35 = .ok (.iconst 2, 1) := by decide +kernel
theorem dk_CT_36 : decode prog_2_method_1_code 36 = .ok (.iconst 1, 1) := by decide +kernel
theorem dk_CT_37 : decode prog_2_method_1_code 37 = .ok (.iastore, 1) := by decide +kernel
theorem dk_CT_38 : decode prog_2_method_1_code 38 = .ok (.dup, 1) := by decide +kernel
theorem dk_CT_39 : decode prog_2_method_1_code 39 = .ok (.iconst 3, 1) := by decide +kernel
theorem dk_CT_40 : decode prog_2_method_1_code 40 = .ok (.iconst 1, 1) := by decide +kernel
theorem dk_CT_41 : decode prog_2_method_1_code 41 = .ok (.iastore, 1) := by decide +kernel
theorem dk_CT_42 : decode prog_2_method_1_code 42 = .ok (.putfield 23, 3) := by decide +kernel
theorem dk_CT_45 : decode prog_2_method_1_code 45 = .ok (.aload_n 0, 1) := by decide +kernel
theorem dk_CT_46 : decode prog_2_method_1_code 46 = .ok (.bipush 16, 2) := by decide +kernel
theorem dk_CT_48 : decode prog_2_method_1_code 48 = .ok (.newarray .int, 2) := by decide +kernel
theorem dk_CT_50 : decode prog_2_method_1_code 50 = .ok (.putfield 27, 3) := by decide +kernel
theorem dk_CT_53 : decode prog_2_method_1_code 53 = .ok (.iconst 0, 1) := by decide +kernel
theorem dk_CT_54 : decode prog_2_method_1_code 54 = .ok (.istore_n 1, 1) := by decide +kernel
theorem dk_CT_55 : decode prog_2_method_1_code 55 = .ok (.iload_n 1, 1) := by decide +kernel
theorem dk_CT_56 : decode prog_2_method_1_code 56 = .ok (.bipush 16, 2) := by decide +kernel
theorem dk_CT_58 : decode prog_2_method_1_code 58 = .ok (.if_icmp .ge 22, 3) := by decide +kernel
theorem dk_CT_61 : decode prog_2_method_1_code 61 = .ok (.aload_n 0, 1) := by decide +kernel
theorem dk_CT_62 : decode prog_2_method_1_code 62 = .ok (.getfield 11, 3) := by decide +kernel
theorem dk_CT_65 : decode prog_2_method_1_code 65 = .ok (.iload_n 1, 1) := by decide +kernel
theorem dk_CT_66 : decode prog_2_method_1_code 66 = .ok (.new 9, 3) := by decide +kernel
theorem dk_CT_69 : decode prog_2_method_1_code 69 = .ok (.dup, 1) := by decide +kernel
theorem dk_CT_70 : decode prog_2_method_1_code 70 = .ok (.invokespecial 30, 3) := by decide +kernel
theorem dk_CT_73 : decode prog_2_method_1_code 73 = .ok (.aastore, 1) := by decide +kernel
theorem dk_CT_74 : decode prog_2_method_1_code 74 = .ok (.iinc 1 1, 3) := by decide +kernel
theorem dk_CT_77 : decode prog_2_method_1_code 77 = .ok (.goto (-22), 3) := by decide +kernel
theorem dk_CT_107 : decode prog_2_method_1_code 107 = .ok (.return_, 1) := by decide +kernel
theorem dk_CT_82 : decode prog_2_method_1_code 82 = .ok (.iload_n 1, 1) := by decide +kernel
theorem dk_CT_83 : decode prog_2_method_1_code 83 = .ok (.bipush 8, 2) := by decide +kernel
theorem dk_CT_85 : decode prog_2_method_1_code 85 = .ok (.if_icmp .ge 22, 3) := by decide +kernel
theorem dk_CT_88 : decode prog_2_method_1_code 88 = .ok (.aload_n 0, 1) := by decide +kernel
theorem dk_CT_89 : decode prog_2_method_1_code 89 = .ok (.getfield 19, 3) := by decide +kernel
theorem dk_CT_92 : decode prog_2_method_1_code 92 = .ok (.iload_n 1, 1) := by decide +kernel
theorem dk_CT_93 : decode prog_2_method_1_code 93 = .ok (.new 17, 3) := by decide +kernel
theorem dk_CT_96 : decode prog_2_method_1_code 96 = .ok (.dup, 1) := by decide +kernel
theorem dk_CT_97 : decode prog_2_method_1_code 97 = .ok (.invokespecial 31, 3) := by decide +kernel
theorem dk_CT_100 : decode prog_2_method_1_code 100 = .ok (.aastore, 1) := by decide +kernel
theorem dk_CT_101 : decode prog_2_method_1_code 101 = .ok (.iinc 1 1, 3) := by decide +kernel
theorem dk_CT_104 : decode prog_2_method_1_code 104 = .ok (.goto (-22), 3) := by decide +kernel
theorem dk_CT_80 : decode prog_2_method_1_code 80 = .ok (.iconst 0, 1) := by decide +kernel
theorem dk_CT_81 : decode prog_2_method_1_code 81 = .ok (.istore_n 1, 1) := by decide +kernel
set_option maxRecDepth 20000 in
set_option maxHeartbeats 4000000 in
theorem ki_CT (l : Launch) (D : va_G) (cA : Nat → ClassId) (ad : Nat → Nat → Nat) : sr_CI l D sr_cl (sr_tys cA) (sr_ci ad) sr_WS ⟨"SuiteRunner$Catalog", "<init>", "()V"⟩ prog_2_method_1_code 2 ({ frames := 2, cells := 44, slots := 308, locals := 36 } : Room) 45 2 [.null, .int 0, .null, .int 0, .null, .null] 308 (ex_CT cA) := by
  refine sr_CI_of (by decide) (by decide) (fun p e s m args below meth c a hx hb hml hr hlk hnm hts hown hK hsz hcy => ?_)
  have ha : a ≤ s.heap.size := by omega
  have loop2 : ∀ r k, k + r = 8 → sr_N p l e ({ frames := 2, cells := 44, slots := 308, locals := 36 } : Room) s m args below meth c (MQ below (fun _ st o t => (o = .returned none ∧ va_P D sr_cl (sr_bk a 45 (ex_CT cA a)) t.heap) ∧ va_F (fun q => a ≤ q) st t) args s (45 - 1) 308 (fun q => a ≤ q)) 2 D sr_cl a (36 + 1 * k) (268 + 5 * k) 82 [(1, .int (nI k)), (0, .ref a)] [] (37 + 1 * k) (el_CT2 cA a k) := by
    intro r
    induction r with
    | zero =>
      intro k hk
      obtain rfl : k = 8 := by omega
      refine sr_N_of (fun ls H locs hl k1 => lv_iload_n hx hb dk_CT_82 rfl (lv_at hl 0 rfl) k1) ?_
      refine sr_N_of (fun ls H locs hl k1 => lv_bipush hx hb dk_CT_83 (v := 8) rfl k1) ?_
      refine sr_N_ge hx hb dk_CT_85 (tgt := 107) (by decide) (fun h => ?_) (fun h => ?_)
      · exact sr_N_ret hx hb hr hlk (fun z hz => rfl) dk_CT_107
      · exact absurd (show (8 : Int32) ≤ nI 8 by decide) h
    | succ r ih =>
      intro k hk
      have hk8 : k < 8 := by omega
      refine sr_N_of (fun ls H locs hl k1 => lv_iload_n hx hb dk_CT_82 rfl (lv_at hl 0 rfl) k1) ?_
      refine sr_N_of (fun ls H locs hl k1 => lv_bipush hx hb dk_CT_83 (v := 8) rfl k1) ?_
      refine sr_N_ge hx hb dk_CT_85 (tgt := 107) (by decide) (fun h => ?_) (fun h => ?_)
      · exact absurd h (nI_ge (b := 8) hk8 (by decide))
      · refine sr_N_of (fun ls H locs hl k1 => lv_aload_n hx hb dk_CT_88 rfl (lv_at hl 1 rfl) k1) ?_
        refine sr_N_get (k := 0) (v := .ref (a + 2)) hx hb hts (fun w h => List.mem_cons_of_mem _ (sr_in2 w h)) hown hK (by omega) rfl rfl (j := 2) (by decide) rfl (List.mem_cons_of_mem _ (sr_ws 148 rfl rfl)) rfl dk_CT_89 ?_
        refine sr_N_of (fun ls H locs hl k1 => lv_iload_n hx hb dk_CT_92 rfl (lv_at hl 0 rfl) k1) ?_
        refine sr_N_new (ci := 4) (fs := [.int 0, .int 0, .int 0, .int 0, .int 0]) hx hb hts (fun w h => List.mem_cons_of_mem _ (sr_in4 w h)) sr_t4 sr_t4_ok hown (hts _ (List.mem_cons_of_mem _ (sr_ws 73 rfl rfl))) (hts _ (List.mem_cons_of_mem _ (sr_ws 116 rfl rfl))) (hts _ (List.mem_cons_of_mem _ (sr_ws 44 rfl rfl))) hK ha (by omega) rfl (sr_dv4) (by show _ ≤ 44; omega) (by show _ ≤ 308; omega) dk_CT_93 ?_
        refine sr_N_of (fun ls H locs hl k1 => lv_dup hx hb dk_CT_96 rfl k1) ?_
        refine sr_N_init (k := 37 + 1 * k) hx hb hml hts hown hK (sr_ci_move hcy) sr_ci_blind (ki_CF l D cA ad) (Or.inr ⟨"SuiteRunner", va_cnB 0 hts (sr_goodIn sr_WS_good (sr_ws 119 rfl rfl)) rfl rfl rfl (hcy.1.1 _ (sr_nw 117 rfl rfl)) (hts _ (List.mem_cons_of_mem _ (sr_ws 44 rfl rfl))) ⟨by decide, by decide, by decide +kernel⟩ ⟨Nat.le_of_ble_eq_true rfl, Nat.le_of_ble_eq_true rfl⟩, rfl, (hts _ (List.mem_cons_of_mem _ (sr_ws 118 rfl rfl)))⟩) rfl (if_pos rfl) (by omega) ⟨by show _ ≤ 44; omega, by show _ ≤ 308; omega⟩ (Nat.le_of_ble_eq_true rfl) dk_CT_97 ?_
        refine sr_N_astq (k := 2) (t0 := 5) (j := 37 + 1 * k) (r := ("SuiteRunner$Configuration", sr_F4, 5)) (ci := 4) hx hb hK (by omega) (by omega) (by rw [if_pos (show 2 < 37 + 1 * k by omega), sr_ue, if_neg (show ¬ 2 = 37 + 1 * k by omega)]; rfl) (by rw [if_neg (Nat.lt_irrefl _), Nat.sub_self]; rfl) rfl rfl (vp_in_nI hk8 (by decide)) dk_CT_100 ?_
        refine sr_N_ofL (fun ls H locs hl k1 => lv_iinc hx hb dk_CT_101 hl (k := 0) rfl rfl (by decide) rfl k1) ?_
        refine sr_N_of (fun ls H locs hl k1 => lv_goto hx hb dk_CT_104 (tgt := 82) (by decide) k1) ?_
        refine sr_N_to (by omega) (by omega) (by omega) (by rw [nI_succ]; rfl) (fun z hz => ?_) (ih (k + 1) (by omega))
        exact el1_CT2 cA a k z (by omega) hz
  have loop1 : ∀ r k, k + r = 16 → sr_N p l e ({ frames := 2, cells := 44, slots := 308, locals := 36 } : Room) s m args below meth c (MQ below (fun _ st o t => (o = .returned none ∧ va_P D sr_cl (sr_bk a 45 (ex_CT cA a)) t.heap) ∧ va_F (fun q => a ≤ q) st t) args s (45 - 1) 308 (fun q => a ≤ q)) 2 D sr_cl a (4 + 2 * k) (44 + 14 * k) 55 [(1, .int (nI k)), (0, .ref a)] [] (5 + 2 * k) (el_CT1 cA a k) := by
    intro r
    induction r with
    | zero =>
      intro k hk
      obtain rfl : k = 16 := by omega
      refine sr_N_of (fun ls H locs hl k1 => lv_iload_n hx hb dk_CT_55 rfl (lv_at hl 0 rfl) k1) ?_
      refine sr_N_of (fun ls H locs hl k1 => lv_bipush hx hb dk_CT_56 (v := 16) rfl k1) ?_
      refine sr_N_ge hx hb dk_CT_58 (tgt := 80) (by decide) (fun h => ?_) (fun h => ?_)
      · refine sr_N_of (fun ls H locs hl k => lv_iconst hx hb dk_CT_80 (v := 0) rfl k) ?_
        refine sr_N_ofL (fun ls H locs hl k1 => lv_istore_n hx hb dk_CT_81 rfl hl (by decide) rfl k1) ?_
        exact sr_N_to rfl rfl rfl rfl (fun z hz => el0_CT2 cA a z hz) (loop2 8 0 rfl)
      · exact absurd (show (16 : Int32) ≤ nI 16 by decide) h
    | succ r ih =>
      intro k hk
      have hk16 : k < 16 := by omega
      refine sr_N_of (fun ls H locs hl k1 => lv_iload_n hx hb dk_CT_55 rfl (lv_at hl 0 rfl) k1) ?_
      refine sr_N_of (fun ls H locs hl k1 => lv_bipush hx hb dk_CT_56 (v := 16) rfl k1) ?_
      refine sr_N_ge hx hb dk_CT_58 (tgt := 80) (by decide) (fun h => ?_) (fun h => ?_)
      · exact absurd h (nI_ge (b := 16) hk16 (by decide))
      · refine sr_N_of (fun ls H locs hl k1 => lv_aload_n hx hb dk_CT_61 rfl (lv_at hl 1 rfl) k1) ?_
        refine sr_N_get (k := 0) (v := .ref (a + 1)) hx hb hts (fun w h => List.mem_cons_of_mem _ (sr_in2 w h)) hown hK (by omega) rfl rfl (j := 0) (by decide) rfl (List.mem_cons_of_mem _ (sr_ws 142 rfl rfl)) rfl dk_CT_62 ?_
        refine sr_N_of (fun ls H locs hl k1 => lv_iload_n hx hb dk_CT_65 rfl (lv_at hl 0 rfl) k1) ?_
        refine sr_N_new (ci := 3) (fs := [.int 0, .long 0, .null, .int 0, .int 0]) hx hb hts (fun w h => List.mem_cons_of_mem _ (sr_in3 w h)) sr_t3 sr_t3_ok hown (hts _ (List.mem_cons_of_mem _ (sr_ws 71 rfl rfl))) (hts _ (List.mem_cons_of_mem _ (sr_ws 75 rfl rfl))) (hts _ (List.mem_cons_of_mem _ (sr_ws 43 rfl rfl))) hK ha (by omega) rfl (sr_dv3) (by show _ ≤ 44; omega) (by show _ ≤ 308; omega) dk_CT_66 ?_
        refine sr_N_of (fun ls H locs hl k1 => lv_dup hx hb dk_CT_69 rfl k1) ?_
        refine sr_N_init (k := 5 + 2 * k) hx hb hml hts hown hK (sr_ci_move hcy) sr_ci_blind (ki_TM l D cA ad) (Or.inr ⟨"SuiteRunner", va_cnB 0 hts (sr_goodIn sr_WS_good (sr_ws 78 rfl rfl)) rfl rfl rfl (hcy.1.1 _ (sr_nw 76 rfl rfl)) (hts _ (List.mem_cons_of_mem _ (sr_ws 43 rfl rfl))) ⟨by decide, by decide, by decide +kernel⟩ ⟨Nat.le_of_ble_eq_true rfl, Nat.le_of_ble_eq_true rfl⟩, rfl, (hts _ (List.mem_cons_of_mem _ (sr_ws 77 rfl rfl)))⟩) rfl (if_pos rfl) (by omega) ⟨by show _ ≤ 44; omega, by show _ ≤ 308; omega⟩ (Nat.le_of_ble_eq_true rfl) dk_CT_70 ?_
        refine sr_N_astq (k := 1) (t0 := 4) (j := 5 + 2 * k) (r := ("SuiteRunner$TestMethod", sr_F3, 5)) (ci := 3) hx hb hK (by omega) (by omega) (by rw [if_pos (show 1 < 5 + 2 * k by omega), sr_ue, if_neg (show ¬ 1 = 5 + 2 * k by omega)]; rfl) (by rw [if_neg (Nat.lt_irrefl _), Nat.sub_self]; rfl) rfl rfl (vp_in_nI hk16 (by decide)) dk_CT_73 ?_
        refine sr_N_ofL (fun ls H locs hl k1 => lv_iinc hx hb dk_CT_74 hl (k := 0) rfl rfl (by decide) rfl k1) ?_
        refine sr_N_of (fun ls H locs hl k1 => lv_goto hx hb dk_CT_77 (tgt := 55) (by decide) k1) ?_
        refine sr_N_to (by omega) (by omega) (by omega) (by rw [nI_succ]; rfl) (fun z hz => ?_) (ih (k + 1) (by omega))
        exact el1_CT1 cA a k z (by omega) hz
  refine sr_N_of (fun ls H locs hl k => lv_aload_n hx hb dk_CT_0 rfl (lv_at hl 0 rfl) k) ?_
  refine sr_N_of (pc' := 4) (st' := []) (fun ls H locs hl k => W.objInit hx hb hown (hts _ (List.mem_cons_of_mem _ (sr_ws 70 rfl rfl))) (hts _ (List.mem_cons_of_mem _ (sr_ws 57 rfl rfl))) (hts _ (List.mem_cons_of_mem _ (sr_ws 58 rfl rfl))) rfl (by rw [hml]; exact hl.1) rfl dk_CT_1 (Nat.le_of_ble_eq_true rfl) (Nat.le_of_ble_eq_true rfl) k) ?_
  refine sr_N_of (fun ls H locs hl k => lv_aload_n hx hb dk_CT_4 rfl (lv_at hl 0 rfl) k) ?_
  refine sr_N_of (fun ls H locs hl k => lv_bipush hx hb dk_CT_5 (v := 16) rfl k) ?_
  refine sr_N_newq (t0 := 4) (N := 16) hx hb hown (hts _ (List.mem_cons_of_mem _ (sr_ws 71 rfl rfl))) (hcy.2.1 _ (by decide)) hK rfl ha (by omega) (by decide) rfl (by decide) (Nat.le_of_ble_eq_true rfl) (Nat.le_of_ble_eq_true rfl) dk_CT_7 ?_
  refine sr_N_putF hx hb hts (fun w h => List.mem_cons_of_mem _ (sr_in2 w h)) sr_t2 sr_t2_ok sr_n2 hown hK (k := 0) (by omega) rfl rfl (j := 0) (by decide) rfl rfl (List.mem_cons_of_mem _ (sr_ws 142 rfl rfl)) rfl hnm rfl rfl (Nat.le_of_ble_eq_true rfl) dk_CT_10 ?_
  refine sr_N_of (fun ls H locs hl k => lv_aload_n hx hb dk_CT_13 rfl (lv_at hl 0 rfl) k) ?_
  refine sr_N_of (fun ls H locs hl k => lv_bipush hx hb dk_CT_14 (v := 8) rfl k) ?_
  refine sr_N_newq (t0 := 5) (N := 8) hx hb hown (hts _ (List.mem_cons_of_mem _ (sr_ws 73 rfl rfl))) (hcy.2.1 _ (by decide)) hK rfl ha (by omega) (by decide) rfl (by decide) (Nat.le_of_ble_eq_true rfl) (Nat.le_of_ble_eq_true rfl) dk_CT_16 ?_
  refine sr_N_putF hx hb hts (fun w h => List.mem_cons_of_mem _ (sr_in2 w h)) sr_t2 sr_t2_ok sr_n2 hown hK (k := 0) (by omega) rfl rfl (j := 2) (by decide) rfl rfl (List.mem_cons_of_mem _ (sr_ws 148 rfl rfl)) rfl hnm rfl rfl (Nat.le_of_ble_eq_true rfl) dk_CT_19 ?_
  refine sr_N_of (fun ls H locs hl k => lv_aload_n hx hb dk_CT_22 rfl (lv_at hl 0 rfl) k) ?_
  refine sr_N_of (fun ls H locs hl k => lv_iconst hx hb dk_CT_23 (v := 4) rfl k) ?_
  refine sr_N_newa (ty := .int) (t0 := 0) (N := 4) (a0 := (4, .inl (fun _ => 0))) hx hb (hts _ (List.mem_cons_of_mem _ (sr_ws 115 rfl rfl))) rfl hK rfl sr_RA_int ha (by omega) (fun _ => rfl) (by decide) rfl (by decide) (Nat.le_of_ble_eq_true rfl) (Nat.le_of_ble_eq_true rfl) dk_CT_24 ?_
  refine sr_N_of (fun ls H locs hl k => lv_dup hx hb dk_CT_26 rfl k) ?_
  refine sr_N_of (fun ls H locs hl k => lv_iconst hx hb dk_CT_27 (v := 0) rfl k) ?_
  refine sr_N_of (fun ls H locs hl k => lv_iconst hx hb dk_CT_28 (v := 1) rfl k) ?_
  refine sr_N_iast (k := 3) (t0 := 0) hx hb hK (by omega) rfl rfl (by show ¬ ((0 : Int32) < 0 ∨ 4 ≤ (0 : Int32).toNatClampNeg); decide) dk_CT_29 ?_
  refine sr_N_of (fun ls H locs hl k => lv_dup hx hb dk_CT_30 rfl k) ?_
  refine sr_N_of (fun ls H locs hl k => lv_iconst hx hb dk_CT_31 (v := 1) rfl k) ?_
  refine sr_N_of (fun ls H locs hl k => lv_iconst hx hb dk_CT_32 (v := 1) rfl k) ?_
  refine sr_N_iast (k := 3) (t0 := 0) hx hb hK (by omega) rfl rfl (by show ¬ ((1 : Int32) < 0 ∨ 4 ≤ (1 : Int32).toNatClampNeg); decide) dk_CT_33 ?_
  refine sr_N_of (fun ls H locs hl k => lv_dup hx hb dk_CT_34 rfl k) ?_
  refine sr_N_of (fun ls H locs hl k => lv_iconst hx hb dk_CT_35 (v := 2) rfl k) ?_
  refine sr_N_of (fun ls H locs hl k => lv_iconst hx hb dk_CT_36 (v := 1) rfl k) ?_
  refine sr_N_iast (k := 3) (t0 := 0) hx hb hK (by omega) rfl rfl (by show ¬ ((2 : Int32) < 0 ∨ 4 ≤ (2 : Int32).toNatClampNeg); decide) dk_CT_37 ?_
  refine sr_N_of (fun ls H locs hl k => lv_dup hx hb dk_CT_38 rfl k) ?_
  refine sr_N_of (fun ls H locs hl k => lv_iconst hx hb dk_CT_39 (v := 3) rfl k) ?_
  refine sr_N_of (fun ls H locs hl k => lv_iconst hx hb dk_CT_40 (v := 1) rfl k) ?_
  refine sr_N_iast (k := 3) (t0 := 0) hx hb hK (by omega) rfl rfl (by show ¬ ((3 : Int32) < 0 ∨ 4 ≤ (3 : Int32).toNatClampNeg); decide) dk_CT_41 ?_
  refine sr_N_putF hx hb hts (fun w h => List.mem_cons_of_mem _ (sr_in2 w h)) sr_t2 sr_t2_ok sr_n2 hown hK (k := 0) (by omega) rfl rfl (j := 4) (by decide) rfl rfl (List.mem_cons_of_mem _ (sr_ws 152 rfl rfl)) rfl hnm rfl rfl (Nat.le_of_ble_eq_true rfl) dk_CT_42 ?_
  refine sr_N_of (fun ls H locs hl k => lv_aload_n hx hb dk_CT_45 rfl (lv_at hl 0 rfl) k) ?_
  refine sr_N_of (fun ls H locs hl k => lv_bipush hx hb dk_CT_46 (v := 16) rfl k) ?_
  refine sr_N_newa (ty := .int) (t0 := 0) (N := 16) (a0 := (16, .inl (fun _ => 0))) hx hb (hts _ (List.mem_cons_of_mem _ (sr_ws 115 rfl rfl))) rfl hK rfl sr_RA_int ha (by omega) (fun _ => rfl) (by decide) rfl (by decide) (Nat.le_of_ble_eq_true rfl) (Nat.le_of_ble_eq_true rfl) dk_CT_48 ?_
  refine sr_N_putF hx hb hts (fun w h => List.mem_cons_of_mem _ (sr_in2 w h)) sr_t2 sr_t2_ok sr_n2 hown hK (k := 0) (by omega) rfl rfl (j := 5) (by decide) rfl rfl (List.mem_cons_of_mem _ (sr_ws 154 rfl rfl)) rfl hnm rfl rfl (Nat.le_of_ble_eq_true rfl) dk_CT_50 ?_
  refine sr_N_of (fun ls H locs hl k => lv_iconst hx hb dk_CT_53 (v := 0) rfl k) ?_
  refine sr_N_ofL (fun ls H locs hl k1 => lv_istore_n hx hb dk_CT_54 rfl hl (by decide) rfl k1) ?_
  exact sr_N_to rfl rfl rfl rfl (fun z hz => by
    rw [← el0_CT1 cA a z hz]
    match z, hz with
    | 0, _ => rfl
    | 1, _ => rfl
    | 2, _ => rfl
    | 3, _ => rfl
    | 4, _ => rfl
    | z + 5, h => exact absurd h (by omega)) (loop1 16 0 rfl)
def b_RN (cA : Nat → ClassId) (a : Nat) : Nat → va_E := fun j => match j with
  | 0 => .inr (1, [.ref (a + 1), .ref (a + 46), .ref (a + 47), .ref (a + 49), .ref (a + 50), .int 0, .int 0, .int 0, .ref (a + 51), .int 0, .int 0, .int 0, .int 0, .int 0])
  | 1 => ex_CT cA (a + 1) 0
  | 2 => ex_CT cA (a + 1) 1
  | 3 => ex_CT cA (a + 1) 2
  | 4 => ex_CT cA (a + 1) 3
  | 5 => ex_CT cA (a + 1) 4
  | 6 => ex_CT cA (a + 1) 5
  | 7 => ex_CT cA (a + 1) 6
  | 8 => ex_CT cA (a + 1) 7
  | 9 => ex_CT cA (a + 1) 8
  | 10 => ex_CT cA (a + 1) 9
  | 11 => ex_CT cA (a + 1) 10
  | 12 => ex_CT cA (a + 1) 11
  | 13 => ex_CT cA (a + 1) 12
  | 14 => ex_CT cA (a + 1) 13
  | 15 => ex_CT cA (a + 1) 14
  | 16 => ex_CT cA (a + 1) 15
  | 17 => ex_CT cA (a + 1) 16
  | 18 => ex_CT cA (a + 1) 17
  | 19 => ex_CT cA (a + 1) 18
  | 20 => ex_CT cA (a + 1) 19
  | 21 => ex_CT cA (a + 1) 20
  | 22 => ex_CT cA (a + 1) 21
  | 23 => ex_CT cA (a + 1) 22
  | 24 => ex_CT cA (a + 1) 23
  | 25 => ex_CT cA (a + 1) 24
  | 26 => ex_CT cA (a + 1) 25
  | 27 => ex_CT cA (a + 1) 26
  | 28 => ex_CT cA (a + 1) 27
  | 29 => ex_CT cA (a + 1) 28
  | 30 => ex_CT cA (a + 1) 29
  | 31 => ex_CT cA (a + 1) 30
  | 32 => ex_CT cA (a + 1) 31
  | 33 => ex_CT cA (a + 1) 32
  | 34 => ex_CT cA (a + 1) 33
  | 35 => ex_CT cA (a + 1) 34
  | 36 => ex_CT cA (a + 1) 35
  | 37 => ex_CT cA (a + 1) 36
  | 38 => ex_CT cA (a + 1) 37
  | 39 => ex_CT cA (a + 1) 38
  | 40 => ex_CT cA (a + 1) 39
  | 41 => ex_CT cA (a + 1) 40
  | 42 => ex_CT cA (a + 1) 41
  | 43 => ex_CT cA (a + 1) 42
  | 44 => ex_CT cA (a + 1) 43
  | 45 => ex_CT cA (a + 1) 44
  | 46 => ex_OP cA (a + 46) 0
  | 47 => ex_LG cA (a + 47) 0
  | 48 => ex_LG cA (a + 47) 1
  | 49 => .inl (cA 6, 16, .inr (.inr (.inr (.inr (fun _ => none)))))
  | 50 => .inl (cA 0, 3, .inl (upd (upd (upd (fun _ => 0) (0 : Int32).toNatClampNeg (-1)) (1 : Int32).toNatClampNeg (-1)) (2 : Int32).toNatClampNeg (-1)))
  | _ => .inl (cA 0, 16, .inl (fun _ => 0))
def el_RN (cA : Nat → ClassId) (a k : Nat) : Nat → va_E := fun z => if z < 52 then (if z = 49 then .inl (cA 6, 16, .inr (.inr (.inr (.inr (fun i => if i < k then some (a + (52 + 1 * i)) else none))))) else b_RN cA a z) else ex_PR cA (a + (52 + 1 * ((z - 52) / 1))) ((z - 52) % 1)
theorem el1_RN (cA : Nat → ClassId) (a k z : Nat) (hk : k < 2 ^ 31) (hz : z < 52 + 1 * k + 1) : sr_ue (fun j => if j < 52 + 1 * k then sr_ue (el_RN cA a k) (52 + 1 * k) (.inr (7, [.int 0, .int 0, .int 0, .int 0, .int 0, .int 0, .int 0, .int 0, .int 0, .int 0])) j else ex_PR cA (a + (52 + 1 * k)) (j - (52 + 1 * k))) 49 (.inl (cA 6, 16, .inr (.inr (.inr (.inr (va_up (fun i => if i < k then some (a + (52 + 1 * i)) else none) (nI k).toNatClampNeg (some (a + (52 + 1 * k))))))))) z = el_RN cA a (k + 1) z := by
  unfold sr_ue
  by_cases h1 : z = 49
  · rw [if_pos h1]
    subst h1
    show _ = (if 49 < 52 then _ else _)
    rw [if_pos (by decide), if_pos rfl]
    refine congrArg (fun g => (.inl (cA _, _, .inr (.inr (.inr (.inr g)))) : va_E)) (funext (fun i => ?_))
    rw [nI_clamp hk]
    unfold va_up
    by_cases h2 : i = k
    · subst h2
      rw [if_pos rfl, if_pos (Nat.lt_succ_self i)]
    · rw [if_neg h2]
      dsimp only
      by_cases h3 : i < k
      · rw [if_pos h3, if_pos (Nat.lt_succ_of_lt h3)]
      · rw [if_neg h3, if_neg (by omega)]
  · rw [if_neg h1]
    dsimp only
    by_cases h2 : z < 52 + 1 * k
    · rw [if_pos h2, if_neg (by omega)]
      unfold el_RN
      by_cases h3 : z < 52
      · rw [if_pos h3, if_pos h3, if_neg h1, if_neg h1]
      · rw [if_neg h3, if_neg h3]
    · rw [if_neg h2]
      unfold el_RN
      have e1 : (z - 52) / 1 = k := by omega
      have e2 : (z - 52) % 1 = z - (52 + 1 * k) := by omega
      rw [if_neg (by omega), e1, e2]
theorem el0_RN (cA : Nat → ClassId) (a z : Nat) (hz : z < 52) : b_RN cA a z = el_RN cA a 0 z := by
  unfold el_RN
  rw [if_pos hz]
  by_cases h : z = 49
  · rw [if_pos h]
    subst h
    exact congrArg (fun g => (.inl (cA 6, 16, .inr (.inr (.inr (.inr g)))) : va_E)) (sr_none _)
  · rw [if_neg h]
def ex_RN (cA : Nat → ClassId) (a : Nat) : Nat → va_E := el_RN cA a 16
theorem dk_RN_0 : decode prog_8_method_1_code 0 = .ok (.aload_n 0, 1) := by decide +kernel
theorem dk_RN_1 : decode prog_8_method_1_code 1 = .ok (.invokespecial 3, 3) := by decide +kernel
theorem dk_RN_4 : decode prog_8_method_1_code 4 = .ok (.aload_n 0, 1) := by decide +kernel
theorem dk_RN_5 : decode prog_8_method_1_code 5 = .ok (.new 9, 3) := by decide +kernel
theorem dk_RN_8 : decode prog_8_method_1_code 8 = .ok (.dup, 1) := by decide +kernel
theorem dk_RN_9 : decode prog_8_method_1_code 9 = .ok (.invokespecial 11, 3) := by decide +kernel
theorem dk_RN_12 : decode prog_8_method_1_code 12 = .ok (.putfield 12, 3) := by decide +kernel
theorem dk_RN_15 : decode prog_8_method_1_code 15 = .ok (.aload_n 0, 1) := by decide +kernel
theorem dk_RN_16 : decode prog_8_method_1_code 16 = .ok (.new 18, 3) := by decide +kernel
theorem dk_RN_19 : decode prog_8_method_1_code 19 = .ok (.dup, 1) := by decide +kernel
theorem dk_RN_20 : decode prog_8_method_1_code 20 = .ok (.invokespecial 20, 3) := by decide +kernel
theorem dk_RN_23 : decode prog_8_method_1_code 23 = .ok (.putfield 21, 3) := by decide +kernel
theorem dk_RN_26 : decode prog_8_method_1_code 26 = .ok (.aload_n 0, 1) := by decide +kernel
theorem dk_RN_27 : decode prog_8_method_1_code 27 = .ok (.new 25, 3) := by decide +kernel
theorem dk_RN_30 : decode prog_8_method_1_code 30 = .ok (.dup, 1) := by decide +kernel
theorem dk_RN_31 : decode prog_8_method_1_code 31 = .ok (.invokespecial 27, 3) := by decide +kernel
theorem dk_RN_34 : decode prog_8_method_1_code 34 = .ok (.putfield 28, 3) := by decide +kernel
theorem dk_RN_37 : decode prog_8_method_1_code 37 = .ok (.aload_n 0, 1) := by decide +kernel
theorem dk_RN_38 : decode prog_8_method_1_code 38 = .ok (.bipush 16, 2) := by decide +kernel
theorem dk_RN_40 : decode prog_8_method_1_code 40 = .ok (.anewarray 32, 3) := by decide +kernel
theorem dk_RN_43 : decode prog_8_method_1_code 43 = .ok (.putfield 34, 3) := by decide +kernel
theorem dk_RN_46 : decode prog_8_method_1_code 46 = .ok (.aload_n 0, 1) := by decide +kernel
theorem dk_RN_47 : decode prog_8_method_1_code 47 = .ok (.iconst 3, 1) := by decide +kernel
theorem dk_RN_48 : decode prog_8_method_1_code 48 = .ok (.newarray .int, 2) := by decide +kernel
theorem dk_RN_50 : decode prog_8_method_1_code 50 = .ok (.dup, 1) := by decide +kernel
theorem dk_RN_51 : decode prog_8_method_1_code 51 = .ok (.iconst 0, 1) := by decide +kernel
theorem dk_RN_52 : decode prog_8_method_1_code 52 = .ok (.iconst (-1), 1) := by decide +kernel
theorem dk_RN_53 : decode prog_8_method_1_code 53 = .ok (.iastore, 1) := by decide +kernel
theorem dk_RN_54 : decode prog_8_method_1_code 54 = .ok (.dup, 1) := by decide +kernel
theorem dk_RN_55 : decode prog_8_method_1_code 55 = .ok (.iconst 1, 1) := by decide +kernel
theorem dk_RN_56 : decode prog_8_method_1_code 56 = .ok (.iconst (-1), 1) := by decide +kernel
theorem dk_RN_57 : decode prog_8_method_1_code 57 = .ok (.iastore, 1) := by decide +kernel
theorem dk_RN_58 : decode prog_8_method_1_code 58 = .ok (.dup, 1) := by decide +kernel
theorem dk_RN_59 : decode prog_8_method_1_code 59 = .ok (.iconst 2, 1) := by decide +kernel
theorem dk_RN_60 : decode prog_8_method_1_code 60 = .ok (.iconst (-1), 1) := by decide +kernel
theorem dk_RN_61 : decode prog_8_method_1_code 61 = .ok (.iastore, 1) := by decide +kernel
theorem dk_RN_62 : decode prog_8_method_1_code 62 = .ok (.putfield 38, 3) := by decide +kernel
theorem dk_RN_65 : decode prog_8_method_1_code 65 = .ok (.aload_n 0, 1) := by decide +kernel
theorem dk_RN_66 : decode prog_8_method_1_code 66 = .ok (.bipush 16, 2) := by decide +kernel
theorem dk_RN_68 : decode prog_8_method_1_code 68 = .ok (.newarray .int, 2) := by decide +kernel
theorem dk_RN_70 : decode prog_8_method_1_code 70 = .ok (.putfield 42, 3) := by decide +kernel
theorem dk_RN_73 : decode prog_8_method_1_code 73 = .ok (.iconst 0, 1) := by decide +kernel
theorem dk_RN_74 : decode prog_8_method_1_code 74 = .ok (.istore_n 1, 1) := by decide +kernel
theorem dk_RN_100 : decode prog_8_method_1_code 100 = .ok (.return_, 1) := by decide +kernel
theorem dk_RN_75 : decode prog_8_method_1_code 75 = .ok (.iload_n 1, 1) := by decide +kernel
theorem dk_RN_76 : decode prog_8_method_1_code 76 = .ok (.bipush 16, 2) := by decide +kernel
theorem dk_RN_78 : decode prog_8_method_1_code 78 = .ok (.if_icmp .ge 22, 3) := by decide +kernel
theorem dk_RN_81 : decode prog_8_method_1_code 81 = .ok (.aload_n 0, 1) := by decide +kernel
theorem dk_RN_82 : decode prog_8_method_1_code 82 = .ok (.getfield 34, 3) := by decide +kernel
theorem dk_RN_85 : decode prog_8_method_1_code 85 = .ok (.iload_n 1, 1) := by decide +kernel
theorem dk_RN_86 : decode prog_8_method_1_code 86 = .ok (.new 32, 3) := by decide +kernel
theorem dk_RN_89 : decode prog_8_method_1_code 89 = .ok (.dup, 1) := by decide +kernel
theorem dk_RN_90 : decode prog_8_method_1_code 90 = .ok (.invokespecial 45, 3) := by decide +kernel
theorem dk_RN_93 : decode prog_8_method_1_code 93 = .ok (.aastore, 1) := by decide +kernel
theorem dk_RN_94 : decode prog_8_method_1_code 94 = .ok (.iinc 1 1, 3) := by decide +kernel
theorem dk_RN_97 : decode prog_8_method_1_code 97 = .ok (.goto (-22), 3) := by decide +kernel
set_option maxRecDepth 20000 in
set_option maxHeartbeats 4000000 in
theorem ki_RN (l : Launch) (D : va_G) (cA : Nat → ClassId) (ad : Nat → Nat → Nat) : sr_CI l D sr_cl (sr_tys cA) (sr_ci ad) sr_WS ⟨"SuiteRunner$Runner", "<init>", "()V"⟩ prog_8_method_1_code 2 ({ frames := 3, cells := 67, slots := 580, locals := 57 } : Room) 68 1 [.null, .null, .null, .null, .null, .int 0, .int 0, .int 0, .null, .int 0, .int 0, .int 0, .int 0, .int 0] 580 (ex_RN cA) := by
  refine sr_CI_of (by decide) (by decide) (fun p e s m args below meth c a hx hb hml hr hlk hnm hts hown hK hsz hcy => ?_)
  have ha : a ≤ s.heap.size := by omega
  have loop1 : ∀ r k, k + r = 16 → sr_N p l e ({ frames := 3, cells := 67, slots := 580, locals := 57 } : Room) s m args below meth c (MQ below (fun _ st o t => (o = .returned none ∧ va_P D sr_cl (sr_bk a 68 (ex_RN cA a)) t.heap) ∧ va_F (fun q => a ≤ q) st t) args s (68 - 1) 580 (fun q => a ≤ q)) 2 D sr_cl a (51 + 1 * k) (420 + 10 * k) 75 [(1, .int (nI k)), (0, .ref a)] [] (52 + 1 * k) (el_RN cA a k) := by
    intro r
    induction r with
    | zero =>
      intro k hk
      obtain rfl : k = 16 := by omega
      refine sr_N_of (fun ls H locs hl k1 => lv_iload_n hx hb dk_RN_75 rfl (lv_at hl 0 rfl) k1) ?_
      refine sr_N_of (fun ls H locs hl k1 => lv_bipush hx hb dk_RN_76 (v := 16) rfl k1) ?_
      refine sr_N_ge hx hb dk_RN_78 (tgt := 100) (by decide) (fun h => ?_) (fun h => ?_)
      · exact sr_N_ret hx hb hr hlk (fun z hz => rfl) dk_RN_100
      · exact absurd (show (16 : Int32) ≤ nI 16 by decide) h
    | succ r ih =>
      intro k hk
      have hk16 : k < 16 := by omega
      refine sr_N_of (fun ls H locs hl k1 => lv_iload_n hx hb dk_RN_75 rfl (lv_at hl 0 rfl) k1) ?_
      refine sr_N_of (fun ls H locs hl k1 => lv_bipush hx hb dk_RN_76 (v := 16) rfl k1) ?_
      refine sr_N_ge hx hb dk_RN_78 (tgt := 100) (by decide) (fun h => ?_) (fun h => ?_)
      · exact absurd h (nI_ge (b := 16) hk16 (by decide))
      · refine sr_N_of (fun ls H locs hl k1 => lv_aload_n hx hb dk_RN_81 rfl (lv_at hl 1 rfl) k1) ?_
        refine sr_N_get (k := 0) (v := .ref (a + 49)) hx hb hts (fun w h => List.mem_cons_of_mem _ (sr_in1 w h)) hown hK (by omega) rfl rfl (j := 3) (by decide) rfl (List.mem_cons_of_mem _ (sr_ws 260 rfl rfl)) rfl dk_RN_82 ?_
        refine sr_N_of (fun ls H locs hl k1 => lv_iload_n hx hb dk_RN_85 rfl (lv_at hl 0 rfl) k1) ?_
        refine sr_N_new (ci := 7) (fs := [.int 0, .int 0, .int 0, .int 0, .int 0, .int 0, .int 0, .int 0, .int 0, .int 0]) hx hb hts (fun w h => List.mem_cons_of_mem _ (sr_in7 w h)) sr_t7 sr_t7_ok hown (hts _ (List.mem_cons_of_mem _ (sr_ws 210 rfl rfl))) (hts _ (List.mem_cons_of_mem _ (sr_ws 212 rfl rfl))) (hts _ (List.mem_cons_of_mem _ (sr_ws 47 rfl rfl))) hK ha (by omega) rfl (sr_dv7) (by show _ ≤ 67; omega) (by show _ ≤ 580; omega) dk_RN_86 ?_
        refine sr_N_of (fun ls H locs hl k1 => lv_dup hx hb dk_RN_89 rfl k1) ?_
        refine sr_N_init (k := 52 + 1 * k) hx hb hml hts hown hK (sr_ci_move hcy) sr_ci_blind (ki_PR l D cA ad) (Or.inr ⟨"SuiteRunner", va_cnB 0 hts (sr_goodIn sr_WS_good (sr_ws 215 rfl rfl)) rfl rfl rfl (hcy.1.1 _ (sr_nw 213 rfl rfl)) (hts _ (List.mem_cons_of_mem _ (sr_ws 47 rfl rfl))) ⟨by decide, by decide, by decide +kernel⟩ ⟨Nat.le_of_ble_eq_true rfl, Nat.le_of_ble_eq_true rfl⟩, rfl, (hts _ (List.mem_cons_of_mem _ (sr_ws 214 rfl rfl)))⟩) rfl (if_pos rfl) (by omega) ⟨by show _ ≤ 67; omega, by show _ ≤ 580; omega⟩ (Nat.le_of_ble_eq_true rfl) dk_RN_90 ?_
        refine sr_N_astq (k := 49) (t0 := 6) (j := 52 + 1 * k) (r := ("SuiteRunner$Progress", sr_F7, 10)) (ci := 7) hx hb hK (by omega) (by omega) (by rw [if_pos (show 49 < 52 + 1 * k by omega), sr_ue, if_neg (show ¬ 49 = 52 + 1 * k by omega)]; rfl) (by rw [if_neg (Nat.lt_irrefl _), Nat.sub_self]; rfl) rfl rfl (vp_in_nI hk16 (by decide)) dk_RN_93 ?_
        refine sr_N_ofL (fun ls H locs hl k1 => lv_iinc hx hb dk_RN_94 hl (k := 0) rfl rfl (by decide) rfl k1) ?_
        refine sr_N_of (fun ls H locs hl k1 => lv_goto hx hb dk_RN_97 (tgt := 75) (by decide) k1) ?_
        refine sr_N_to (by omega) (by omega) (by omega) (by rw [nI_succ]; rfl) (fun z hz => ?_) (ih (k + 1) (by omega))
        exact el1_RN cA a k z (by omega) hz
  refine sr_N_of (fun ls H locs hl k => lv_aload_n hx hb dk_RN_0 rfl (lv_at hl 0 rfl) k) ?_
  refine sr_N_of (pc' := 4) (st' := []) (fun ls H locs hl k => W.objInit hx hb hown (hts _ (List.mem_cons_of_mem _ (sr_ws 64 rfl rfl))) (hts _ (List.mem_cons_of_mem _ (sr_ws 57 rfl rfl))) (hts _ (List.mem_cons_of_mem _ (sr_ws 58 rfl rfl))) rfl (by rw [hml]; exact hl.1) rfl dk_RN_1 (Nat.le_of_ble_eq_true rfl) (Nat.le_of_ble_eq_true rfl) k) ?_
  refine sr_N_of (fun ls H locs hl k => lv_aload_n hx hb dk_RN_4 rfl (lv_at hl 0 rfl) k) ?_
  refine sr_N_new (ci := 2) (fs := [.null, .int 0, .null, .int 0, .null, .null]) hx hb hts (fun w h => List.mem_cons_of_mem _ (sr_in2 w h)) sr_t2 sr_t2_ok hown (hts _ (List.mem_cons_of_mem _ (sr_ws 65 rfl rfl))) (hts _ (List.mem_cons_of_mem _ (sr_ws 66 rfl rfl))) (hts _ (List.mem_cons_of_mem _ (sr_ws 42 rfl rfl))) hK ha (by omega) rfl (sr_dv2) (Nat.le_of_ble_eq_true rfl) (Nat.le_of_ble_eq_true rfl) dk_RN_5 ?_
  refine sr_N_of (fun ls H locs hl k => lv_dup hx hb dk_RN_8 rfl k) ?_
  refine sr_N_init (k := 1) hx hb hml hts hown hK (sr_ci_move hcy) sr_ci_blind (ki_CT l D cA ad) (Or.inl ⟨callB_of 0 hts (sr_goodIn sr_WS_good (sr_ws 69 rfl rfl)) rfl rfl rfl (hts _ (List.mem_cons_of_mem _ (sr_ws 42 rfl rfl))) (hts _ (List.mem_cons_of_mem _ (sr_ws 67 rfl rfl))) ⟨by decide, by decide, by decide +kernel⟩ ⟨Nat.le_of_ble_eq_true rfl, Nat.le_of_ble_eq_true rfl⟩, rfl, (hts _ (List.mem_cons_of_mem _ (sr_ws 68 rfl rfl)))⟩) rfl rfl (by omega) ⟨Nat.le_of_ble_eq_true rfl, Nat.le_of_ble_eq_true rfl⟩ (Nat.le_of_ble_eq_true rfl) dk_RN_9 ?_
  refine sr_N_putF hx hb hts (fun w h => List.mem_cons_of_mem _ (sr_in1 w h)) sr_t1 sr_t1_ok sr_n1 hown hK (k := 0) (by omega) rfl rfl (j := 0) (by decide) rfl rfl (List.mem_cons_of_mem _ (sr_ws 254 rfl rfl)) rfl hnm rfl rfl (Nat.le_of_ble_eq_true rfl) dk_RN_12 ?_
  refine sr_N_of (fun ls H locs hl k => lv_aload_n hx hb dk_RN_15 rfl (lv_at hl 0 rfl) k) ?_
  refine sr_N_new (ci := 5) (fs := [.int 0, .int 0, .int 0, .int 0, .int 0]) hx hb hts (fun w h => List.mem_cons_of_mem _ (sr_in5 w h)) sr_t5 sr_t5_ok hown (hts _ (List.mem_cons_of_mem _ (sr_ws 168 rfl rfl))) (hts _ (List.mem_cons_of_mem _ (sr_ws 169 rfl rfl))) (hts _ (List.mem_cons_of_mem _ (sr_ws 45 rfl rfl))) hK ha (by omega) rfl (sr_dv5) (Nat.le_of_ble_eq_true rfl) (Nat.le_of_ble_eq_true rfl) dk_RN_16 ?_
  refine sr_N_of (fun ls H locs hl k => lv_dup hx hb dk_RN_19 rfl k) ?_
  refine sr_N_init (k := 46) hx hb hml hts hown hK (sr_ci_move hcy) sr_ci_blind (ki_OP l D cA ad) (Or.inr ⟨"SuiteRunner", va_cnB 0 hts (sr_goodIn sr_WS_good (sr_ws 172 rfl rfl)) rfl rfl rfl (hcy.1.1 _ (sr_nw 170 rfl rfl)) (hts _ (List.mem_cons_of_mem _ (sr_ws 45 rfl rfl))) ⟨by decide, by decide, by decide +kernel⟩ ⟨Nat.le_of_ble_eq_true rfl, Nat.le_of_ble_eq_true rfl⟩, rfl, (hts _ (List.mem_cons_of_mem _ (sr_ws 171 rfl rfl)))⟩) rfl rfl (by omega) ⟨Nat.le_of_ble_eq_true rfl, Nat.le_of_ble_eq_true rfl⟩ (Nat.le_of_ble_eq_true rfl) dk_RN_20 ?_
  refine sr_N_putF hx hb hts (fun w h => List.mem_cons_of_mem _ (sr_in1 w h)) sr_t1 sr_t1_ok sr_n1 hown hK (k := 0) (by omega) rfl rfl (j := 1) (by decide) rfl rfl (List.mem_cons_of_mem _ (sr_ws 256 rfl rfl)) rfl hnm rfl rfl (Nat.le_of_ble_eq_true rfl) dk_RN_23 ?_
  refine sr_N_of (fun ls H locs hl k => lv_aload_n hx hb dk_RN_26 rfl (lv_at hl 0 rfl) k) ?_
  refine sr_N_new (ci := 6) (fs := [.null, .int 0]) hx hb hts (fun w h => List.mem_cons_of_mem _ (sr_in6 w h)) sr_t6 sr_t6_ok hown (hts _ (List.mem_cons_of_mem _ (sr_ws 196 rfl rfl))) (hts _ (List.mem_cons_of_mem _ (sr_ws 197 rfl rfl))) (hts _ (List.mem_cons_of_mem _ (sr_ws 46 rfl rfl))) hK ha (by omega) rfl (sr_dv6) (Nat.le_of_ble_eq_true rfl) (Nat.le_of_ble_eq_true rfl) dk_RN_27 ?_
  refine sr_N_of (fun ls H locs hl k => lv_dup hx hb dk_RN_30 rfl k) ?_
  refine sr_N_init (k := 47) hx hb hml hts hown hK (sr_ci_move hcy) sr_ci_blind (ki_LG l D cA ad) (Or.inr ⟨"SuiteRunner", va_cnB 0 hts (sr_goodIn sr_WS_good (sr_ws 200 rfl rfl)) rfl rfl rfl (hcy.1.1 _ (sr_nw 198 rfl rfl)) (hts _ (List.mem_cons_of_mem _ (sr_ws 46 rfl rfl))) ⟨by decide, by decide, by decide +kernel⟩ ⟨Nat.le_of_ble_eq_true rfl, Nat.le_of_ble_eq_true rfl⟩, rfl, (hts _ (List.mem_cons_of_mem _ (sr_ws 199 rfl rfl)))⟩) rfl rfl (by omega) ⟨Nat.le_of_ble_eq_true rfl, Nat.le_of_ble_eq_true rfl⟩ (Nat.le_of_ble_eq_true rfl) dk_RN_31 ?_
  refine sr_N_putF hx hb hts (fun w h => List.mem_cons_of_mem _ (sr_in1 w h)) sr_t1 sr_t1_ok sr_n1 hown hK (k := 0) (by omega) rfl rfl (j := 2) (by decide) rfl rfl (List.mem_cons_of_mem _ (sr_ws 258 rfl rfl)) rfl hnm rfl rfl (Nat.le_of_ble_eq_true rfl) dk_RN_34 ?_
  refine sr_N_of (fun ls H locs hl k => lv_aload_n hx hb dk_RN_37 rfl (lv_at hl 0 rfl) k) ?_
  refine sr_N_of (fun ls H locs hl k => lv_bipush hx hb dk_RN_38 (v := 16) rfl k) ?_
  refine sr_N_newq (t0 := 6) (N := 16) hx hb hown (hts _ (List.mem_cons_of_mem _ (sr_ws 210 rfl rfl))) (hcy.2.1 _ (by decide)) hK rfl ha (by omega) (by decide) rfl (by decide) (Nat.le_of_ble_eq_true rfl) (Nat.le_of_ble_eq_true rfl) dk_RN_40 ?_
  refine sr_N_putF hx hb hts (fun w h => List.mem_cons_of_mem _ (sr_in1 w h)) sr_t1 sr_t1_ok sr_n1 hown hK (k := 0) (by omega) rfl rfl (j := 3) (by decide) rfl rfl (List.mem_cons_of_mem _ (sr_ws 260 rfl rfl)) rfl hnm rfl rfl (Nat.le_of_ble_eq_true rfl) dk_RN_43 ?_
  refine sr_N_of (fun ls H locs hl k => lv_aload_n hx hb dk_RN_46 rfl (lv_at hl 0 rfl) k) ?_
  refine sr_N_of (fun ls H locs hl k => lv_iconst hx hb dk_RN_47 (v := 3) rfl k) ?_
  refine sr_N_newa (ty := .int) (t0 := 0) (N := 3) (a0 := (3, .inl (fun _ => 0))) hx hb (hts _ (List.mem_cons_of_mem _ (sr_ws 115 rfl rfl))) rfl hK rfl sr_RA_int ha (by omega) (fun _ => rfl) (by decide) rfl (by decide) (Nat.le_of_ble_eq_true rfl) (Nat.le_of_ble_eq_true rfl) dk_RN_48 ?_
  refine sr_N_of (fun ls H locs hl k => lv_dup hx hb dk_RN_50 rfl k) ?_
  refine sr_N_of (fun ls H locs hl k => lv_iconst hx hb dk_RN_51 (v := 0) rfl k) ?_
  refine sr_N_of (fun ls H locs hl k => lv_iconst hx hb dk_RN_52 (v := -1) rfl k) ?_
  refine sr_N_iast (k := 50) (t0 := 0) hx hb hK (by omega) rfl rfl (by show ¬ ((0 : Int32) < 0 ∨ 3 ≤ (0 : Int32).toNatClampNeg); decide) dk_RN_53 ?_
  refine sr_N_of (fun ls H locs hl k => lv_dup hx hb dk_RN_54 rfl k) ?_
  refine sr_N_of (fun ls H locs hl k => lv_iconst hx hb dk_RN_55 (v := 1) rfl k) ?_
  refine sr_N_of (fun ls H locs hl k => lv_iconst hx hb dk_RN_56 (v := -1) rfl k) ?_
  refine sr_N_iast (k := 50) (t0 := 0) hx hb hK (by omega) rfl rfl (by show ¬ ((1 : Int32) < 0 ∨ 3 ≤ (1 : Int32).toNatClampNeg); decide) dk_RN_57 ?_
  refine sr_N_of (fun ls H locs hl k => lv_dup hx hb dk_RN_58 rfl k) ?_
  refine sr_N_of (fun ls H locs hl k => lv_iconst hx hb dk_RN_59 (v := 2) rfl k) ?_
  refine sr_N_of (fun ls H locs hl k => lv_iconst hx hb dk_RN_60 (v := -1) rfl k) ?_
  refine sr_N_iast (k := 50) (t0 := 0) hx hb hK (by omega) rfl rfl (by show ¬ ((2 : Int32) < 0 ∨ 3 ≤ (2 : Int32).toNatClampNeg); decide) dk_RN_61 ?_
  refine sr_N_putF hx hb hts (fun w h => List.mem_cons_of_mem _ (sr_in1 w h)) sr_t1 sr_t1_ok sr_n1 hown hK (k := 0) (by omega) rfl rfl (j := 4) (by decide) rfl rfl (List.mem_cons_of_mem _ (sr_ws 262 rfl rfl)) rfl hnm rfl rfl (Nat.le_of_ble_eq_true rfl) dk_RN_62 ?_
  refine sr_N_of (fun ls H locs hl k => lv_aload_n hx hb dk_RN_65 rfl (lv_at hl 0 rfl) k) ?_
  refine sr_N_of (fun ls H locs hl k => lv_bipush hx hb dk_RN_66 (v := 16) rfl k) ?_
  refine sr_N_newa (ty := .int) (t0 := 0) (N := 16) (a0 := (16, .inl (fun _ => 0))) hx hb (hts _ (List.mem_cons_of_mem _ (sr_ws 115 rfl rfl))) rfl hK rfl sr_RA_int ha (by omega) (fun _ => rfl) (by decide) rfl (by decide) (Nat.le_of_ble_eq_true rfl) (Nat.le_of_ble_eq_true rfl) dk_RN_68 ?_
  refine sr_N_putF hx hb hts (fun w h => List.mem_cons_of_mem _ (sr_in1 w h)) sr_t1 sr_t1_ok sr_n1 hown hK (k := 0) (by omega) rfl rfl (j := 8) (by decide) rfl rfl (List.mem_cons_of_mem _ (sr_ws 270 rfl rfl)) rfl hnm rfl rfl (Nat.le_of_ble_eq_true rfl) dk_RN_70 ?_
  refine sr_N_of (fun ls H locs hl k => lv_iconst hx hb dk_RN_73 (v := 0) rfl k) ?_
  refine sr_N_ofL (fun ls H locs hl k1 => lv_istore_n hx hb dk_RN_74 rfl hl (by decide) rfl k1) ?_
  exact sr_N_to rfl rfl rfl rfl (fun z hz => by
    rw [← el0_RN cA a z hz]
    match z, hz with
    | 0, _ => rfl
    | 1, _ => rfl
    | 2, _ => rfl
    | 3, _ => rfl
    | 4, _ => rfl
    | 5, _ => rfl
    | 6, _ => rfl
    | 7, _ => rfl
    | 8, _ => rfl
    | 9, _ => rfl
    | 10, _ => rfl
    | 11, _ => rfl
    | 12, _ => rfl
    | 13, _ => rfl
    | 14, _ => rfl
    | 15, _ => rfl
    | 16, _ => rfl
    | 17, _ => rfl
    | 18, _ => rfl
    | 19, _ => rfl
    | 20, _ => rfl
    | 21, _ => rfl
    | 22, _ => rfl
    | 23, _ => rfl
    | 24, _ => rfl
    | 25, _ => rfl
    | 26, _ => rfl
    | 27, _ => rfl
    | 28, _ => rfl
    | 29, _ => rfl
    | 30, _ => rfl
    | 31, _ => rfl
    | 32, _ => rfl
    | 33, _ => rfl
    | 34, _ => rfl
    | 35, _ => rfl
    | 36, _ => rfl
    | 37, _ => rfl
    | 38, _ => rfl
    | 39, _ => rfl
    | 40, _ => rfl
    | 41, _ => rfl
    | 42, _ => rfl
    | 43, _ => rfl
    | 44, _ => rfl
    | 45, _ => rfl
    | 46, _ => rfl
    | 47, _ => rfl
    | 48, _ => rfl
    | 49, _ => rfl
    | 50, _ => rfl
    | 51, _ => rfl
    | z + 52, h => exact absurd h (by omega)) (loop1 16 0 rfl)
def ex_SR (cA : Nat → ClassId) (a : Nat) : Nat → va_E := fun j => match j with
  | 0 => .inr (0, [.ref (a + 1), .ref (a + 2), .ref (a + 69)])
  | 1 => ex_RN cA (a + 1) 0
  | 2 => ex_RN cA (a + 1) 1
  | 3 => ex_RN cA (a + 1) 2
  | 4 => ex_RN cA (a + 1) 3
  | 5 => ex_RN cA (a + 1) 4
  | 6 => ex_RN cA (a + 1) 5
  | 7 => ex_RN cA (a + 1) 6
  | 8 => ex_RN cA (a + 1) 7
  | 9 => ex_RN cA (a + 1) 8
  | 10 => ex_RN cA (a + 1) 9
  | 11 => ex_RN cA (a + 1) 10
  | 12 => ex_RN cA (a + 1) 11
  | 13 => ex_RN cA (a + 1) 12
  | 14 => ex_RN cA (a + 1) 13
  | 15 => ex_RN cA (a + 1) 14
  | 16 => ex_RN cA (a + 1) 15
  | 17 => ex_RN cA (a + 1) 16
  | 18 => ex_RN cA (a + 1) 17
  | 19 => ex_RN cA (a + 1) 18
  | 20 => ex_RN cA (a + 1) 19
  | 21 => ex_RN cA (a + 1) 20
  | 22 => ex_RN cA (a + 1) 21
  | 23 => ex_RN cA (a + 1) 22
  | 24 => ex_RN cA (a + 1) 23
  | 25 => ex_RN cA (a + 1) 24
  | 26 => ex_RN cA (a + 1) 25
  | 27 => ex_RN cA (a + 1) 26
  | 28 => ex_RN cA (a + 1) 27
  | 29 => ex_RN cA (a + 1) 28
  | 30 => ex_RN cA (a + 1) 29
  | 31 => ex_RN cA (a + 1) 30
  | 32 => ex_RN cA (a + 1) 31
  | 33 => ex_RN cA (a + 1) 32
  | 34 => ex_RN cA (a + 1) 33
  | 35 => ex_RN cA (a + 1) 34
  | 36 => ex_RN cA (a + 1) 35
  | 37 => ex_RN cA (a + 1) 36
  | 38 => ex_RN cA (a + 1) 37
  | 39 => ex_RN cA (a + 1) 38
  | 40 => ex_RN cA (a + 1) 39
  | 41 => ex_RN cA (a + 1) 40
  | 42 => ex_RN cA (a + 1) 41
  | 43 => ex_RN cA (a + 1) 42
  | 44 => ex_RN cA (a + 1) 43
  | 45 => ex_RN cA (a + 1) 44
  | 46 => ex_RN cA (a + 1) 45
  | 47 => ex_RN cA (a + 1) 46
  | 48 => ex_RN cA (a + 1) 47
  | 49 => ex_RN cA (a + 1) 48
  | 50 => ex_RN cA (a + 1) 49
  | 51 => ex_RN cA (a + 1) 50
  | 52 => ex_RN cA (a + 1) 51
  | 53 => ex_RN cA (a + 1) 52
  | 54 => ex_RN cA (a + 1) 53
  | 55 => ex_RN cA (a + 1) 54
  | 56 => ex_RN cA (a + 1) 55
  | 57 => ex_RN cA (a + 1) 56
  | 58 => ex_RN cA (a + 1) 57
  | 59 => ex_RN cA (a + 1) 58
  | 60 => ex_RN cA (a + 1) 59
  | 61 => ex_RN cA (a + 1) 60
  | 62 => ex_RN cA (a + 1) 61
  | 63 => ex_RN cA (a + 1) 62
  | 64 => ex_RN cA (a + 1) 63
  | 65 => ex_RN cA (a + 1) 64
  | 66 => ex_RN cA (a + 1) 65
  | 67 => ex_RN cA (a + 1) 66
  | 68 => ex_RN cA (a + 1) 67
  | 69 => ex_SE cA (a + 69) 0
  | 70 => ex_SE cA (a + 69) 1
  | 71 => ex_SE cA (a + 69) 2
  | 72 => ex_SE cA (a + 69) 3
  | _ => ex_SE cA (a + 69) 4
theorem dk_SR_0 : decode prog_1_method_1_code 0 = .ok (.aload_n 0, 1) := by decide +kernel
theorem dk_SR_1 : decode prog_1_method_1_code 1 = .ok (.invokespecial 1, 3) := by decide +kernel
theorem dk_SR_4 : decode prog_1_method_1_code 4 = .ok (.aload_n 0, 1) := by decide +kernel
theorem dk_SR_5 : decode prog_1_method_1_code 5 = .ok (.new 7, 3) := by decide +kernel
theorem dk_SR_8 : decode prog_1_method_1_code 8 = .ok (.dup, 1) := by decide +kernel
theorem dk_SR_9 : decode prog_1_method_1_code 9 = .ok (.invokespecial 9, 3) := by decide +kernel
theorem dk_SR_12 : decode prog_1_method_1_code 12 = .ok (.putfield 10, 3) := by decide +kernel
theorem dk_SR_15 : decode prog_1_method_1_code 15 = .ok (.aload_n 0, 1) := by decide +kernel
theorem dk_SR_16 : decode prog_1_method_1_code 16 = .ok (.aload_n 0, 1) := by decide +kernel
theorem dk_SR_17 : decode prog_1_method_1_code 17 = .ok (.getfield 10, 3) := by decide +kernel
theorem dk_SR_20 : decode prog_1_method_1_code 20 = .ok (.getfield 16, 3) := by decide +kernel
theorem dk_SR_23 : decode prog_1_method_1_code 23 = .ok (.putfield 20, 3) := by decide +kernel
theorem dk_SR_26 : decode prog_1_method_1_code 26 = .ok (.aload_n 0, 1) := by decide +kernel
theorem dk_SR_27 : decode prog_1_method_1_code 27 = .ok (.new 21, 3) := by decide +kernel
theorem dk_SR_30 : decode prog_1_method_1_code 30 = .ok (.dup, 1) := by decide +kernel
theorem dk_SR_31 : decode prog_1_method_1_code 31 = .ok (.invokespecial 23, 3) := by decide +kernel
theorem dk_SR_34 : decode prog_1_method_1_code 34 = .ok (.putfield 24, 3) := by decide +kernel
theorem dk_SR_37 : decode prog_1_method_1_code 37 = .ok (.return_, 1) := by decide +kernel
set_option maxRecDepth 20000 in
set_option maxHeartbeats 4000000 in
theorem ki_SR (l : Launch) (D : va_G) (cA : Nat → ClassId) (ad : Nat → Nat → Nat) : sr_CI l D sr_cl (sr_tys cA) (sr_ci ad) sr_WS ⟨"SuiteRunner", "<init>", "()V"⟩ prog_1_method_1_code 1 ({ frames := 4, cells := 73, slots := 628, locals := 78 } : Room) 74 0 [.null, .null, .null] 628 (ex_SR cA) := by
  refine sr_CI_of (by decide) (by decide) (fun p e s m args below meth c a hx hb hml hr hlk hnm hts hown hK hsz hcy => ?_)
  have ha : a ≤ s.heap.size := by omega
  refine sr_N_of (fun ls H locs hl k => lv_aload_n hx hb dk_SR_0 rfl (lv_at hl 0 rfl) k) ?_
  refine sr_N_of (pc' := 4) (st' := []) (fun ls H locs hl k => W.objInit hx hb hown (hts _ (List.mem_cons_of_mem _ (sr_ws 56 rfl rfl))) (hts _ (List.mem_cons_of_mem _ (sr_ws 57 rfl rfl))) (hts _ (List.mem_cons_of_mem _ (sr_ws 58 rfl rfl))) rfl (by rw [hml]; exact hl.1) rfl dk_SR_1 (Nat.le_of_ble_eq_true rfl) (Nat.le_of_ble_eq_true rfl) k) ?_
  refine sr_N_of (fun ls H locs hl k => lv_aload_n hx hb dk_SR_4 rfl (lv_at hl 0 rfl) k) ?_
  refine sr_N_new (ci := 1) (fs := [.null, .null, .null, .null, .null, .int 0, .int 0, .int 0, .null, .int 0, .int 0, .int 0, .int 0, .int 0]) hx hb hts (fun w h => List.mem_cons_of_mem _ (sr_in1 w h)) sr_t1 sr_t1_ok hown (hts _ (List.mem_cons_of_mem _ (sr_ws 59 rfl rfl))) (hts _ (List.mem_cons_of_mem _ (sr_ws 60 rfl rfl))) (hts _ (List.mem_cons_of_mem _ (sr_ws 41 rfl rfl))) hK ha (by omega) rfl (sr_dv1) (Nat.le_of_ble_eq_true rfl) (Nat.le_of_ble_eq_true rfl) dk_SR_5 ?_
  refine sr_N_of (fun ls H locs hl k => lv_dup hx hb dk_SR_8 rfl k) ?_
  refine sr_N_init (k := 1) hx hb hml hts hown hK (sr_ci_move hcy) sr_ci_blind (ki_RN l D cA ad) (Or.inl ⟨callB_of 0 hts (sr_goodIn sr_WS_good (sr_ws 63 rfl rfl)) rfl rfl rfl (hts _ (List.mem_cons_of_mem _ (sr_ws 41 rfl rfl))) (hts _ (List.mem_cons_of_mem _ (sr_ws 61 rfl rfl))) ⟨by decide, by decide, by decide +kernel⟩ ⟨Nat.le_of_ble_eq_true rfl, Nat.le_of_ble_eq_true rfl⟩, rfl, (hts _ (List.mem_cons_of_mem _ (sr_ws 62 rfl rfl)))⟩) rfl rfl (by omega) ⟨Nat.le_of_ble_eq_true rfl, Nat.le_of_ble_eq_true rfl⟩ (Nat.le_of_ble_eq_true rfl) dk_SR_9 ?_
  refine sr_N_putF hx hb hts (fun w h => List.mem_cons_of_mem _ (sr_in0 w h)) sr_t0 sr_t0_ok sr_n0 hown hK (k := 0) (by omega) rfl rfl (j := 0) (by decide) rfl rfl (List.mem_cons_of_mem _ (sr_ws 347 rfl rfl)) rfl hnm rfl rfl (Nat.le_of_ble_eq_true rfl) dk_SR_12 ?_
  refine sr_N_of (fun ls H locs hl k => lv_aload_n hx hb dk_SR_15 rfl (lv_at hl 0 rfl) k) ?_
  refine sr_N_of (fun ls H locs hl k => lv_aload_n hx hb dk_SR_16 rfl (lv_at hl 0 rfl) k) ?_
  refine sr_N_get (k := 0) (v := .ref (a + 1)) hx hb hts (fun w h => List.mem_cons_of_mem _ (sr_in0 w h)) hown hK (by omega) rfl rfl (j := 0) (by decide) rfl (List.mem_cons_of_mem _ (sr_ws 347 rfl rfl)) rfl dk_SR_17 ?_
  refine sr_N_get (k := 1) (v := .ref (a + 2)) hx hb hts (fun w h => List.mem_cons_of_mem _ (sr_in1 w h)) hown hK (by omega) rfl rfl (j := 0) (by decide) rfl (List.mem_cons_of_mem _ (sr_ws 255 rfl rfl)) rfl dk_SR_20 ?_
  refine sr_N_putF hx hb hts (fun w h => List.mem_cons_of_mem _ (sr_in0 w h)) sr_t0 sr_t0_ok sr_n0 hown hK (k := 0) (by omega) rfl rfl (j := 1) (by decide) rfl rfl (List.mem_cons_of_mem _ (sr_ws 348 rfl rfl)) rfl hnm rfl rfl (Nat.le_of_ble_eq_true rfl) dk_SR_23 ?_
  refine sr_N_of (fun ls H locs hl k => lv_aload_n hx hb dk_SR_26 rfl (lv_at hl 0 rfl) k) ?_
  refine sr_N_new (ci := 8) (fs := [.null, .null, .int 0, .int 0, .int 0, .int 0]) hx hb hts (fun w h => List.mem_cons_of_mem _ (sr_in8 w h)) sr_t8 sr_t8_ok hown (hts _ (List.mem_cons_of_mem _ (sr_ws 305 rfl rfl))) (hts _ (List.mem_cons_of_mem _ (sr_ws 306 rfl rfl))) (hts _ (List.mem_cons_of_mem _ (sr_ws 48 rfl rfl))) hK ha (by omega) rfl (sr_dv8) (Nat.le_of_ble_eq_true rfl) (Nat.le_of_ble_eq_true rfl) dk_SR_27 ?_
  refine sr_N_of (fun ls H locs hl k => lv_dup hx hb dk_SR_30 rfl k) ?_
  refine sr_N_init (k := 69) hx hb hml hts hown hK (sr_ci_move hcy) sr_ci_blind (ki_SE l D cA ad) (Or.inr ⟨"SuiteRunner", va_cnB 0 hts (sr_goodIn sr_WS_good (sr_ws 309 rfl rfl)) rfl rfl rfl (hcy.1.1 _ (sr_nw 307 rfl rfl)) (hts _ (List.mem_cons_of_mem _ (sr_ws 48 rfl rfl))) ⟨by decide, by decide, by decide +kernel⟩ ⟨Nat.le_of_ble_eq_true rfl, Nat.le_of_ble_eq_true rfl⟩, rfl, (hts _ (List.mem_cons_of_mem _ (sr_ws 308 rfl rfl)))⟩) rfl rfl (by omega) ⟨Nat.le_of_ble_eq_true rfl, Nat.le_of_ble_eq_true rfl⟩ (Nat.le_of_ble_eq_true rfl) dk_SR_31 ?_
  refine sr_N_putF hx hb hts (fun w h => List.mem_cons_of_mem _ (sr_in0 w h)) sr_t0 sr_t0_ok sr_n0 hown hK (k := 0) (by omega) rfl rfl (j := 2) (by decide) rfl rfl (List.mem_cons_of_mem _ (sr_ws 349 rfl rfl)) rfl hnm rfl rfl (Nat.le_of_ble_eq_true rfl) dk_SR_34 ?_
  exact sr_N_ret hx hb hr hlk (fun z hz => by
    match z, hz with
    | 0, _ => rfl
    | 1, _ => rfl
    | 2, _ => rfl
    | 3, _ => rfl
    | 4, _ => rfl
    | 5, _ => rfl
    | 6, _ => rfl
    | 7, _ => rfl
    | 8, _ => rfl
    | 9, _ => rfl
    | 10, _ => rfl
    | 11, _ => rfl
    | 12, _ => rfl
    | 13, _ => rfl
    | 14, _ => rfl
    | 15, _ => rfl
    | 16, _ => rfl
    | 17, _ => rfl
    | 18, _ => rfl
    | 19, _ => rfl
    | 20, _ => rfl
    | 21, _ => rfl
    | 22, _ => rfl
    | 23, _ => rfl
    | 24, _ => rfl
    | 25, _ => rfl
    | 26, _ => rfl
    | 27, _ => rfl
    | 28, _ => rfl
    | 29, _ => rfl
    | 30, _ => rfl
    | 31, _ => rfl
    | 32, _ => rfl
    | 33, _ => rfl
    | 34, _ => rfl
    | 35, _ => rfl
    | 36, _ => rfl
    | 37, _ => rfl
    | 38, _ => rfl
    | 39, _ => rfl
    | 40, _ => rfl
    | 41, _ => rfl
    | 42, _ => rfl
    | 43, _ => rfl
    | 44, _ => rfl
    | 45, _ => rfl
    | 46, _ => rfl
    | 47, _ => rfl
    | 48, _ => rfl
    | 49, _ => rfl
    | 50, _ => rfl
    | 51, _ => rfl
    | 52, _ => rfl
    | 53, _ => rfl
    | 54, _ => rfl
    | 55, _ => rfl
    | 56, _ => rfl
    | 57, _ => rfl
    | 58, _ => rfl
    | 59, _ => rfl
    | 60, _ => rfl
    | 61, _ => rfl
    | 62, _ => rfl
    | 63, _ => rfl
    | 64, _ => rfl
    | 65, _ => rfl
    | 66, _ => rfl
    | 67, _ => rfl
    | 68, _ => rfl
    | 69, _ => rfl
    | 70, _ => rfl
    | 71, _ => rfl
    | 72, _ => rfl
    | 73, _ => rfl
    | z + 74, h => exact absurd h (by omega)) dk_SR_37
