/-! Constructors. -/
theorem sr_dv0 : ∀ j, j < 3 → defaultValue (sr_t0 j) = vp_V [.null, .null, .null] j := by
  intro j hj
  have hj2 : j = 0 ∨ j = 1 ∨ j = 2 := by omega
  rcases hj2 with rfl | rfl | rfl <;> rfl
theorem sr_dv1 : ∀ j, j < 14 → defaultValue (sr_t1 j) = vp_V [.null, .null, .null, .null, .null, .int 0, .int 0, .int 0, .null, .int 0, .int 0, .int 0, .int 0, .int 0] j := by
  intro j hj
  have hj2 : j = 0 ∨ j = 1 ∨ j = 2 ∨ j = 3 ∨ j = 4 ∨ j = 5 ∨ j = 6 ∨ j = 7 ∨ j = 8 ∨ j = 9 ∨ j = 10 ∨ j = 11 ∨ j = 12 ∨ j = 13 := by omega
  rcases hj2 with rfl | rfl | rfl | rfl | rfl | rfl | rfl | rfl | rfl | rfl | rfl | rfl | rfl | rfl <;> rfl
theorem sr_dv2 : ∀ j, j < 6 → defaultValue (sr_t2 j) = vp_V [.null, .int 0, .null, .int 0, .null, .null] j := by
  intro j hj
  have hj2 : j = 0 ∨ j = 1 ∨ j = 2 ∨ j = 3 ∨ j = 4 ∨ j = 5 := by omega
  rcases hj2 with rfl | rfl | rfl | rfl | rfl | rfl <;> rfl
theorem sr_dv3 : ∀ j, j < 5 → defaultValue (sr_t3 j) = vp_V [.int 0, .long 0, .null, .int 0, .int 0] j := by
  intro j hj
  have hj2 : j = 0 ∨ j = 1 ∨ j = 2 ∨ j = 3 ∨ j = 4 := by omega
  rcases hj2 with rfl | rfl | rfl | rfl | rfl <;> rfl
theorem sr_dv4 : ∀ j, j < 5 → defaultValue (sr_t4 j) = vp_V [.int 0, .int 0, .int 0, .int 0, .int 0] j := by
  intro j hj
  have hj2 : j = 0 ∨ j = 1 ∨ j = 2 ∨ j = 3 ∨ j = 4 := by omega
  rcases hj2 with rfl | rfl | rfl | rfl | rfl <;> rfl
theorem sr_dv5 : ∀ j, j < 5 → defaultValue (sr_t5 j) = vp_V [.int 0, .int 0, .int 0, .int 0, .int 0] j := by
  intro j hj
  have hj2 : j = 0 ∨ j = 1 ∨ j = 2 ∨ j = 3 ∨ j = 4 := by omega
  rcases hj2 with rfl | rfl | rfl | rfl | rfl <;> rfl
theorem sr_dv6 : ∀ j, j < 2 → defaultValue (sr_t6 j) = vp_V [.null, .int 0] j := by
  intro j hj
  have hj2 : j = 0 ∨ j = 1 := by omega
  rcases hj2 with rfl | rfl <;> rfl
theorem sr_dv7 : ∀ j, j < 10 → defaultValue (sr_t7 j) = vp_V [.int 0, .int 0, .int 0, .int 0, .int 0, .int 0, .int 0, .int 0, .int 0, .int 0] j := by
  intro j hj
  have hj2 : j = 0 ∨ j = 1 ∨ j = 2 ∨ j = 3 ∨ j = 4 ∨ j = 5 ∨ j = 6 ∨ j = 7 ∨ j = 8 ∨ j = 9 := by omega
  rcases hj2 with rfl | rfl | rfl | rfl | rfl | rfl | rfl | rfl | rfl | rfl <;> rfl
theorem sr_dv8 : ∀ j, j < 6 → defaultValue (sr_t8 j) = vp_V [.null, .null, .int 0, .int 0, .int 0, .int 0] j := by
  intro j hj
  have hj2 : j = 0 ∨ j = 1 ∨ j = 2 ∨ j = 3 ∨ j = 4 ∨ j = 5 := by omega
  rcases hj2 with rfl | rfl | rfl | rfl | rfl | rfl <;> rfl
theorem sr_dv9 : ∀ j, j < 2 → defaultValue (sr_t9 j) = vp_V [.null, .int 0] j := by
  intro j hj
  have hj2 : j = 0 ∨ j = 1 := by omega
  rcases hj2 with rfl | rfl <;> rfl
theorem sr_dv10 : ∀ j, j < 40 → defaultValue (sr_t10 j) = vp_V [.int 0, .null, .null, .null, .null, .null, .null, .int 0, .null, .null, .null, .null, .null, .null, .int 0, .int 0, .int 0, .int 0, .int 0, .int 0, .int 0, .int 0, .int 0, .int 0, .int 0, .int 0, .null, .null, .null, .null, .null, .null, .null, .int 0, .int 0, .null, .null, .null, .int 0, .null] j := by
  intro j hj
  have hj2 : j = 0 ∨ j = 1 ∨ j = 2 ∨ j = 3 ∨ j = 4 ∨ j = 5 ∨ j = 6 ∨ j = 7 ∨ j = 8 ∨ j = 9 ∨ j = 10 ∨ j = 11 ∨ j = 12 ∨ j = 13 ∨ j = 14 ∨ j = 15 ∨ j = 16 ∨ j = 17 ∨ j = 18 ∨ j = 19 ∨ j = 20 ∨ j = 21 ∨ j = 22 ∨ j = 23 ∨ j = 24 ∨ j = 25 ∨ j = 26 ∨ j = 27 ∨ j = 28 ∨ j = 29 ∨ j = 30 ∨ j = 31 ∨ j = 32 ∨ j = 33 ∨ j = 34 ∨ j = 35 ∨ j = 36 ∨ j = 37 ∨ j = 38 ∨ j = 39 := by omega
  rcases hj2 with rfl | rfl | rfl | rfl | rfl | rfl | rfl | rfl | rfl | rfl | rfl | rfl | rfl | rfl | rfl | rfl | rfl | rfl | rfl | rfl | rfl | rfl | rfl | rfl | rfl | rfl | rfl | rfl | rfl | rfl | rfl | rfl | rfl | rfl | rfl | rfl | rfl | rfl | rfl | rfl <;> rfl
theorem dk_CF_0 : decode prog_3_method_1_code 0 = .ok (.aload_n 0, 1) := by decide +kernel
theorem dk_CF_1 : decode prog_3_method_1_code 1 = .ok (.invokespecial 3, 3) := by decide +kernel
theorem dk_CF_4 : decode prog_3_method_1_code 4 = .ok (.return_, 1) := by decide +kernel
def ex_CF (cA : Nat → ClassId) (a : Nat) : Nat → va_E := fun j => match j with
  | _ => .inr (4, [.int 0, .int 0, .int 0, .int 0, .int 0])
set_option maxRecDepth 20000 in
theorem ki_CF (l : Launch) (D : va_G) (cA : Nat → ClassId) (ad : Nat → Nat → Nat) : sr_CI l D sr_cl (sr_tys cA) (sr_ci ad) sr_WS ⟨"SuiteRunner$Configuration", "<init>", "()V"⟩ prog_3_method_1_code 1 { frames := 1, cells := 0, slots := 0, locals := 12 } 1 4 [.int 0, .int 0, .int 0, .int 0, .int 0] 0 (ex_CF cA) := by
  refine sr_CI_of (by decide) (by decide) (fun p e s m args below meth c a hx hb hml hr hlk hnm hts hown hK hsz hcy => ?_)
  have ha : a ≤ s.heap.size := by omega
  refine sr_N_of (fun ls H locs hl k => lv_aload_n hx hb dk_CF_0 rfl (lv_at hl 0 rfl) k) ?_
  refine sr_N_of (pc' := 4) (st' := []) (fun ls H locs hl k => W.objInit hx hb hown (hts _ (List.mem_cons_of_mem _ (sr_ws 120 rfl rfl))) (hts _ (List.mem_cons_of_mem _ (sr_ws 57 rfl rfl))) (hts _ (List.mem_cons_of_mem _ (sr_ws 58 rfl rfl))) rfl (by rw [hml]; exact hl.1) rfl dk_CF_1 (Nat.le_of_ble_eq_true rfl) (Nat.le_of_ble_eq_true rfl) k) ?_
  exact sr_N_ret hx hb hr hlk (fun k hk => by
    have hk2 : k = 0 := by omega
    rcases hk2 with rfl <;> rfl) dk_CF_4
theorem dk_OP_0 : decode prog_5_method_1_code 0 = .ok (.aload_n 0, 1) := by decide +kernel
theorem dk_OP_1 : decode prog_5_method_1_code 1 = .ok (.invokespecial 1, 3) := by decide +kernel
theorem dk_OP_4 : decode prog_5_method_1_code 4 = .ok (.aload_n 0, 1) := by decide +kernel
theorem dk_OP_5 : decode prog_5_method_1_code 5 = .ok (.iconst 1, 1) := by decide +kernel
theorem dk_OP_6 : decode prog_5_method_1_code 6 = .ok (.putfield 7, 3) := by decide +kernel
theorem dk_OP_9 : decode prog_5_method_1_code 9 = .ok (.aload_n 0, 1) := by decide +kernel
theorem dk_OP_10 : decode prog_5_method_1_code 10 = .ok (.iconst 1, 1) := by decide +kernel
theorem dk_OP_11 : decode prog_5_method_1_code 11 = .ok (.putfield 13, 3) := by decide +kernel
theorem dk_OP_14 : decode prog_5_method_1_code 14 = .ok (.return_, 1) := by decide +kernel
def ex_OP (cA : Nat → ClassId) (a : Nat) : Nat → va_E := fun j => match j with
  | _ => .inr (5, [.int (1), .int 0, .int (1), .int 0, .int 0])
set_option maxRecDepth 20000 in
theorem ki_OP (l : Launch) (D : va_G) (cA : Nat → ClassId) (ad : Nat → Nat → Nat) : sr_CI l D sr_cl (sr_tys cA) (sr_ci ad) sr_WS ⟨"SuiteRunner$Options", "<init>", "()V"⟩ prog_5_method_1_code 1 { frames := 1, cells := 0, slots := 0, locals := 12 } 1 5 [.int 0, .int 0, .int 0, .int 0, .int 0] 0 (ex_OP cA) := by
  refine sr_CI_of (by decide) (by decide) (fun p e s m args below meth c a hx hb hml hr hlk hnm hts hown hK hsz hcy => ?_)
  have ha : a ≤ s.heap.size := by omega
  refine sr_N_of (fun ls H locs hl k => lv_aload_n hx hb dk_OP_0 rfl (lv_at hl 0 rfl) k) ?_
  refine sr_N_of (pc' := 4) (st' := []) (fun ls H locs hl k => W.objInit hx hb hown (hts _ (List.mem_cons_of_mem _ (sr_ws 173 rfl rfl))) (hts _ (List.mem_cons_of_mem _ (sr_ws 57 rfl rfl))) (hts _ (List.mem_cons_of_mem _ (sr_ws 58 rfl rfl))) rfl (by rw [hml]; exact hl.1) rfl dk_OP_1 (Nat.le_of_ble_eq_true rfl) (Nat.le_of_ble_eq_true rfl) k) ?_
  refine sr_N_of (fun ls H locs hl k => lv_aload_n hx hb dk_OP_4 rfl (lv_at hl 0 rfl) k) ?_
  refine sr_N_of (fun ls H locs hl k => lv_iconst hx hb dk_OP_5 (v := 1) rfl k) ?_
  refine sr_N_put hx hb hts (fun w h => List.mem_cons_of_mem _ (sr_in5 w h)) sr_t5 sr_t5_ok sr_n5 hown hK (k := 0) (by omega) rfl rfl (j := 0) (by decide) rfl (List.mem_cons_of_mem _ (sr_ws 174 rfl rfl)) rfl rfl rfl (Nat.le_of_ble_eq_true rfl) dk_OP_6 ?_
  refine sr_N_of (fun ls H locs hl k => lv_aload_n hx hb dk_OP_9 rfl (lv_at hl 0 rfl) k) ?_
  refine sr_N_of (fun ls H locs hl k => lv_iconst hx hb dk_OP_10 (v := 1) rfl k) ?_
  refine sr_N_put hx hb hts (fun w h => List.mem_cons_of_mem _ (sr_in5 w h)) sr_t5 sr_t5_ok sr_n5 hown hK (k := 0) (by omega) rfl rfl (j := 2) (by decide) rfl (List.mem_cons_of_mem _ (sr_ws 179 rfl rfl)) rfl rfl rfl (Nat.le_of_ble_eq_true rfl) dk_OP_11 ?_
  exact sr_N_ret hx hb hr hlk (fun k hk => by
    have hk2 : k = 0 := by omega
    rcases hk2 with rfl <;> rfl) dk_OP_14
theorem dk_LG_0 : decode prog_4_method_1_code 0 = .ok (.aload_n 0, 1) := by decide +kernel
theorem dk_LG_1 : decode prog_4_method_1_code 1 = .ok (.invokespecial 3, 3) := by decide +kernel
theorem dk_LG_4 : decode prog_4_method_1_code 4 = .ok (.aload_n 0, 1) := by decide +kernel
theorem dk_LG_5 : decode prog_4_method_1_code 5 = .ok (.bipush 64, 2) := by decide +kernel
theorem dk_LG_7 : decode prog_4_method_1_code 7 = .ok (.newarray .int, 2) := by decide +kernel
theorem dk_LG_9 : decode prog_4_method_1_code 9 = .ok (.putfield 11, 3) := by decide +kernel
theorem dk_LG_12 : decode prog_4_method_1_code 12 = .ok (.return_, 1) := by decide +kernel
def ex_LG (cA : Nat → ClassId) (a : Nat) : Nat → va_E := fun j => match j with
  | 0 => .inr (6, [.ref (a + 1), .int 0])
  | _ => .inl (cA 0, 64, .inl (fun _ => 0))
set_option maxRecDepth 20000 in
theorem ki_LG (l : Launch) (D : va_G) (cA : Nat → ClassId) (ad : Nat → Nat → Nat) : sr_CI l D sr_cl (sr_tys cA) (sr_ci ad) sr_WS ⟨"SuiteRunner$Log", "<init>", "()V"⟩ prog_4_method_1_code 1 { frames := 1, cells := 1, slots := 64, locals := 12 } 2 6 [.null, .int 0] 64 (ex_LG cA) := by
  refine sr_CI_of (by decide) (by decide) (fun p e s m args below meth c a hx hb hml hr hlk hnm hts hown hK hsz hcy => ?_)
  have ha : a ≤ s.heap.size := by omega
  refine sr_N_of (fun ls H locs hl k => lv_aload_n hx hb dk_LG_0 rfl (lv_at hl 0 rfl) k) ?_
  refine sr_N_of (pc' := 4) (st' := []) (fun ls H locs hl k => W.objInit hx hb hown (hts _ (List.mem_cons_of_mem _ (sr_ws 201 rfl rfl))) (hts _ (List.mem_cons_of_mem _ (sr_ws 57 rfl rfl))) (hts _ (List.mem_cons_of_mem _ (sr_ws 58 rfl rfl))) rfl (by rw [hml]; exact hl.1) rfl dk_LG_1 (Nat.le_of_ble_eq_true rfl) (Nat.le_of_ble_eq_true rfl) k) ?_
  refine sr_N_of (fun ls H locs hl k => lv_aload_n hx hb dk_LG_4 rfl (lv_at hl 0 rfl) k) ?_
  refine sr_N_of (fun ls H locs hl k => lv_bipush hx hb dk_LG_5 (v := 64) rfl k) ?_
  refine sr_N_newa (ty := .int) (t0 := 0) (N := 64) (a0 := (64, .inl (fun _ => 0))) hx hb (hts _ (List.mem_cons_of_mem _ (sr_ws 115 rfl rfl))) rfl hK rfl sr_RA_int ha (by omega) (fun _ => rfl) (by decide) rfl (by decide) (Nat.le_of_ble_eq_true rfl) (Nat.le_of_ble_eq_true rfl) dk_LG_7 ?_
  refine sr_N_putF hx hb hts (fun w h => List.mem_cons_of_mem _ (sr_in6 w h)) sr_t6 sr_t6_ok sr_n6 hown hK (k := 0) (by omega) rfl rfl (j := 0) (by decide) rfl rfl (List.mem_cons_of_mem _ (sr_ws 202 rfl rfl)) rfl hnm rfl rfl (Nat.le_of_ble_eq_true rfl) dk_LG_9 ?_
  exact sr_N_ret hx hb hr hlk (fun k hk => by
    have hk2 : k = 0 ∨ k = 1 := by omega
    rcases hk2 with rfl | rfl <;> rfl) dk_LG_12
theorem dk_PR_0 : decode prog_7_method_1_code 0 = .ok (.aload_n 0, 1) := by decide +kernel
theorem dk_PR_1 : decode prog_7_method_1_code 1 = .ok (.invokespecial 3, 3) := by decide +kernel
theorem dk_PR_4 : decode prog_7_method_1_code 4 = .ok (.aload_n 0, 1) := by decide +kernel
theorem dk_PR_5 : decode prog_7_method_1_code 5 = .ok (.iconst (-1), 1) := by decide +kernel
theorem dk_PR_6 : decode prog_7_method_1_code 6 = .ok (.putfield 9, 3) := by decide +kernel
theorem dk_PR_9 : decode prog_7_method_1_code 9 = .ok (.aload_n 0, 1) := by decide +kernel
theorem dk_PR_10 : decode prog_7_method_1_code 10 = .ok (.iconst (-1), 1) := by decide +kernel
theorem dk_PR_11 : decode prog_7_method_1_code 11 = .ok (.putfield 15, 3) := by decide +kernel
theorem dk_PR_14 : decode prog_7_method_1_code 14 = .ok (.return_, 1) := by decide +kernel
def ex_PR (cA : Nat → ClassId) (a : Nat) : Nat → va_E := fun j => match j with
  | _ => .inr (7, [.int 0, .int (-1), .int (-1), .int 0, .int 0, .int 0, .int 0, .int 0, .int 0, .int 0])
set_option maxRecDepth 20000 in
theorem ki_PR (l : Launch) (D : va_G) (cA : Nat → ClassId) (ad : Nat → Nat → Nat) : sr_CI l D sr_cl (sr_tys cA) (sr_ci ad) sr_WS ⟨"SuiteRunner$Progress", "<init>", "()V"⟩ prog_7_method_1_code 1 { frames := 1, cells := 0, slots := 0, locals := 12 } 1 7 [.int 0, .int 0, .int 0, .int 0, .int 0, .int 0, .int 0, .int 0, .int 0, .int 0] 0 (ex_PR cA) := by
  refine sr_CI_of (by decide) (by decide) (fun p e s m args below meth c a hx hb hml hr hlk hnm hts hown hK hsz hcy => ?_)
  have ha : a ≤ s.heap.size := by omega
  refine sr_N_of (fun ls H locs hl k => lv_aload_n hx hb dk_PR_0 rfl (lv_at hl 0 rfl) k) ?_
  refine sr_N_of (pc' := 4) (st' := []) (fun ls H locs hl k => W.objInit hx hb hown (hts _ (List.mem_cons_of_mem _ (sr_ws 216 rfl rfl))) (hts _ (List.mem_cons_of_mem _ (sr_ws 57 rfl rfl))) (hts _ (List.mem_cons_of_mem _ (sr_ws 58 rfl rfl))) rfl (by rw [hml]; exact hl.1) rfl dk_PR_1 (Nat.le_of_ble_eq_true rfl) (Nat.le_of_ble_eq_true rfl) k) ?_
  refine sr_N_of (fun ls H locs hl k => lv_aload_n hx hb dk_PR_4 rfl (lv_at hl 0 rfl) k) ?_
  refine sr_N_of (fun ls H locs hl k => lv_iconst hx hb dk_PR_5 (v := -1) rfl k) ?_
  refine sr_N_put hx hb hts (fun w h => List.mem_cons_of_mem _ (sr_in7 w h)) sr_t7 sr_t7_ok sr_n7 hown hK (k := 0) (by omega) rfl rfl (j := 1) (by decide) rfl (List.mem_cons_of_mem _ (sr_ws 219 rfl rfl)) rfl rfl rfl (Nat.le_of_ble_eq_true rfl) dk_PR_6 ?_
  refine sr_N_of (fun ls H locs hl k => lv_aload_n hx hb dk_PR_9 rfl (lv_at hl 0 rfl) k) ?_
  refine sr_N_of (fun ls H locs hl k => lv_iconst hx hb dk_PR_10 (v := -1) rfl k) ?_
  refine sr_N_put hx hb hts (fun w h => List.mem_cons_of_mem _ (sr_in7 w h)) sr_t7 sr_t7_ok sr_n7 hown hK (k := 0) (by omega) rfl rfl (j := 2) (by decide) rfl (List.mem_cons_of_mem _ (sr_ws 221 rfl rfl)) rfl rfl rfl (Nat.le_of_ble_eq_true rfl) dk_PR_11 ?_
  exact sr_N_ret hx hb hr hlk (fun k hk => by
    have hk2 : k = 0 := by omega
    rcases hk2 with rfl <;> rfl) dk_PR_14
theorem dk_PT_0 : decode prog_6_method_1_code 0 = .ok (.aload_n 0, 1) := by decide +kernel
theorem dk_PT_1 : decode prog_6_method_1_code 1 = .ok (.invokespecial 1, 3) := by decide +kernel
theorem dk_PT_4 : decode prog_6_method_1_code 4 = .ok (.aload_n 0, 1) := by decide +kernel
theorem dk_PT_5 : decode prog_6_method_1_code 5 = .ok (.bipush 12, 2) := by decide +kernel
theorem dk_PT_7 : decode prog_6_method_1_code 7 = .ok (.newarray .char, 2) := by decide +kernel
theorem dk_PT_9 : decode prog_6_method_1_code 9 = .ok (.putfield 9, 3) := by decide +kernel
theorem dk_PT_12 : decode prog_6_method_1_code 12 = .ok (.return_, 1) := by decide +kernel
def ex_PT (cA : Nat → ClassId) (a : Nat) : Nat → va_E := fun j => match j with
  | 0 => .inr (9, [.ref (a + 1), .int 0])
  | _ => .inl (cA 3, 12, .inl (fun _ => 0))
set_option maxRecDepth 20000 in
theorem ki_PT (l : Launch) (D : va_G) (cA : Nat → ClassId) (ad : Nat → Nat → Nat) : sr_CI l D sr_cl (sr_tys cA) (sr_ci ad) sr_WS ⟨"SuiteRunner$Pattern", "<init>", "()V"⟩ prog_6_method_1_code 1 { frames := 1, cells := 1, slots := 12, locals := 12 } 2 9 [.null, .int 0] 12 (ex_PT cA) := by
  refine sr_CI_of (by decide) (by decide) (fun p e s m args below meth c a hx hb hml hr hlk hnm hts hown hK hsz hcy => ?_)
  have ha : a ≤ s.heap.size := by omega
  refine sr_N_of (fun ls H locs hl k => lv_aload_n hx hb dk_PT_0 rfl (lv_at hl 0 rfl) k) ?_
  refine sr_N_of (pc' := 4) (st' := []) (fun ls H locs hl k => W.objInit hx hb hown (hts _ (List.mem_cons_of_mem _ (sr_ws 316 rfl rfl))) (hts _ (List.mem_cons_of_mem _ (sr_ws 57 rfl rfl))) (hts _ (List.mem_cons_of_mem _ (sr_ws 58 rfl rfl))) rfl (by rw [hml]; exact hl.1) rfl dk_PT_1 (Nat.le_of_ble_eq_true rfl) (Nat.le_of_ble_eq_true rfl) k) ?_
  refine sr_N_of (fun ls H locs hl k => lv_aload_n hx hb dk_PT_4 rfl (lv_at hl 0 rfl) k) ?_
  refine sr_N_of (fun ls H locs hl k => lv_bipush hx hb dk_PT_5 (v := 12) rfl k) ?_
  refine sr_N_newa (ty := .char) (t0 := 3) (N := 12) (a0 := (12, .inl (fun _ => 0))) hx hb (hts _ (List.mem_cons_of_mem _ (sr_ws 324 rfl rfl))) rfl hK rfl sr_RA_char ha (by omega) (fun _ => rfl) (by decide) rfl (by decide) (Nat.le_of_ble_eq_true rfl) (Nat.le_of_ble_eq_true rfl) dk_PT_7 ?_
  refine sr_N_putF hx hb hts (fun w h => List.mem_cons_of_mem _ (sr_in9 w h)) sr_t9 sr_t9_ok sr_n9 hown hK (k := 0) (by omega) rfl rfl (j := 0) (by decide) rfl rfl (List.mem_cons_of_mem _ (sr_ws 317 rfl rfl)) rfl hnm rfl rfl (Nat.le_of_ble_eq_true rfl) dk_PT_9 ?_
  exact sr_N_ret hx hb hr hlk (fun k hk => by
    have hk2 : k = 0 ∨ k = 1 := by omega
    rcases hk2 with rfl | rfl <;> rfl) dk_PT_12
theorem dk_SE_0 : decode prog_9_method_1_code 0 = .ok (.aload_n 0, 1) := by decide +kernel
theorem dk_SE_1 : decode prog_9_method_1_code 1 = .ok (.invokespecial 3, 3) := by decide +kernel
theorem dk_SE_4 : decode prog_9_method_1_code 4 = .ok (.aload_n 0, 1) := by decide +kernel
theorem dk_SE_5 : decode prog_9_method_1_code 5 = .ok (.new 9, 3) := by decide +kernel
theorem dk_SE_8 : decode prog_9_method_1_code 8 = .ok (.dup, 1) := by decide +kernel
theorem dk_SE_9 : decode prog_9_method_1_code 9 = .ok (.invokespecial 11, 3) := by decide +kernel
theorem dk_SE_12 : decode prog_9_method_1_code 12 = .ok (.putfield 12, 3) := by decide +kernel
theorem dk_SE_15 : decode prog_9_method_1_code 15 = .ok (.aload_n 0, 1) := by decide +kernel
theorem dk_SE_16 : decode prog_9_method_1_code 16 = .ok (.new 9, 3) := by decide +kernel
theorem dk_SE_19 : decode prog_9_method_1_code 19 = .ok (.dup, 1) := by decide +kernel
theorem dk_SE_20 : decode prog_9_method_1_code 20 = .ok (.invokespecial 11, 3) := by decide +kernel
theorem dk_SE_23 : decode prog_9_method_1_code 23 = .ok (.putfield 18, 3) := by decide +kernel
theorem dk_SE_26 : decode prog_9_method_1_code 26 = .ok (.aload_n 0, 1) := by decide +kernel
theorem dk_SE_27 : decode prog_9_method_1_code 27 = .ok (.bipush 15, 2) := by decide +kernel
theorem dk_SE_29 : decode prog_9_method_1_code 29 = .ok (.putfield 21, 3) := by decide +kernel
theorem dk_SE_32 : decode prog_9_method_1_code 32 = .ok (.return_, 1) := by decide +kernel
def ex_SE (cA : Nat → ClassId) (a : Nat) : Nat → va_E := fun j => match j with
  | 0 => .inr (8, [.ref (a + 1), .ref (a + 3), .int 0, .int (15), .int 0, .int 0])
  | 1 => ex_PT cA (a + 1) 0
  | 2 => ex_PT cA (a + 1) 1
  | 3 => ex_PT cA (a + 3) 0
  | _ => ex_PT cA (a + 3) 1
set_option maxRecDepth 20000 in
theorem ki_SE (l : Launch) (D : va_G) (cA : Nat → ClassId) (ad : Nat → Nat → Nat) : sr_CI l D sr_cl (sr_tys cA) (sr_ci ad) sr_WS ⟨"SuiteRunner$Selection", "<init>", "()V"⟩ prog_9_method_1_code 1 { frames := 2, cells := 4, slots := 28, locals := 32 } 5 8 [.null, .null, .int 0, .int 0, .int 0, .int 0] 28 (ex_SE cA) := by
  refine sr_CI_of (by decide) (by decide) (fun p e s m args below meth c a hx hb hml hr hlk hnm hts hown hK hsz hcy => ?_)
  have ha : a ≤ s.heap.size := by omega
  refine sr_N_of (fun ls H locs hl k => lv_aload_n hx hb dk_SE_0 rfl (lv_at hl 0 rfl) k) ?_
  refine sr_N_of (pc' := 4) (st' := []) (fun ls H locs hl k => W.objInit hx hb hown (hts _ (List.mem_cons_of_mem _ (sr_ws 310 rfl rfl))) (hts _ (List.mem_cons_of_mem _ (sr_ws 57 rfl rfl))) (hts _ (List.mem_cons_of_mem _ (sr_ws 58 rfl rfl))) rfl (by rw [hml]; exact hl.1) rfl dk_SE_1 (Nat.le_of_ble_eq_true rfl) (Nat.le_of_ble_eq_true rfl) k) ?_
  refine sr_N_of (fun ls H locs hl k => lv_aload_n hx hb dk_SE_4 rfl (lv_at hl 0 rfl) k) ?_
  refine sr_N_new (ci := 9) (fs := [.null, .int 0]) hx hb hts (fun w h => List.mem_cons_of_mem _ (sr_in9 w h)) sr_t9 sr_t9_ok hown (hts _ (List.mem_cons_of_mem _ (sr_ws 311 rfl rfl))) (hts _ (List.mem_cons_of_mem _ (sr_ws 312 rfl rfl))) (hts _ (List.mem_cons_of_mem _ (sr_ws 49 rfl rfl))) hK ha (by omega) rfl (sr_dv9) (Nat.le_of_ble_eq_true rfl) (Nat.le_of_ble_eq_true rfl) dk_SE_5 ?_
  refine sr_N_of (fun ls H locs hl k => lv_dup hx hb dk_SE_8 rfl k) ?_
  refine sr_N_init (k := 1) hx hb hml hts hown hK (sr_ci_move hcy) sr_ci_blind (ki_PT l D cA ad) (Or.inr ⟨"SuiteRunner", va_cnB 0 hts (sr_goodIn sr_WS_good (sr_ws 315 rfl rfl)) rfl rfl rfl (hcy.1.1 _ (sr_nw 313 rfl rfl)) (hts _ (List.mem_cons_of_mem _ (sr_ws 49 rfl rfl))) ⟨by decide, by decide, by decide +kernel⟩ ⟨Nat.le_of_ble_eq_true rfl, Nat.le_of_ble_eq_true rfl⟩, rfl, (hts _ (List.mem_cons_of_mem _ (sr_ws 314 rfl rfl)))⟩) rfl rfl (by omega) ⟨Nat.le_of_ble_eq_true rfl, Nat.le_of_ble_eq_true rfl⟩ (Nat.le_of_ble_eq_true rfl) dk_SE_9 ?_
  refine sr_N_putF hx hb hts (fun w h => List.mem_cons_of_mem _ (sr_in8 w h)) sr_t8 sr_t8_ok sr_n8 hown hK (k := 0) (by omega) rfl rfl (j := 0) (by decide) rfl rfl (List.mem_cons_of_mem _ (sr_ws 325 rfl rfl)) rfl hnm rfl rfl (Nat.le_of_ble_eq_true rfl) dk_SE_12 ?_
  refine sr_N_of (fun ls H locs hl k => lv_aload_n hx hb dk_SE_15 rfl (lv_at hl 0 rfl) k) ?_
  refine sr_N_new (ci := 9) (fs := [.null, .int 0]) hx hb hts (fun w h => List.mem_cons_of_mem _ (sr_in9 w h)) sr_t9 sr_t9_ok hown (hts _ (List.mem_cons_of_mem _ (sr_ws 311 rfl rfl))) (hts _ (List.mem_cons_of_mem _ (sr_ws 312 rfl rfl))) (hts _ (List.mem_cons_of_mem _ (sr_ws 49 rfl rfl))) hK ha (by omega) rfl (sr_dv9) (Nat.le_of_ble_eq_true rfl) (Nat.le_of_ble_eq_true rfl) dk_SE_16 ?_
  refine sr_N_of (fun ls H locs hl k => lv_dup hx hb dk_SE_19 rfl k) ?_
  refine sr_N_init (k := 3) hx hb hml hts hown hK (sr_ci_move hcy) sr_ci_blind (ki_PT l D cA ad) (Or.inr ⟨"SuiteRunner", va_cnB 0 hts (sr_goodIn sr_WS_good (sr_ws 315 rfl rfl)) rfl rfl rfl (hcy.1.1 _ (sr_nw 313 rfl rfl)) (hts _ (List.mem_cons_of_mem _ (sr_ws 49 rfl rfl))) ⟨by decide, by decide, by decide +kernel⟩ ⟨Nat.le_of_ble_eq_true rfl, Nat.le_of_ble_eq_true rfl⟩, rfl, (hts _ (List.mem_cons_of_mem _ (sr_ws 314 rfl rfl)))⟩) rfl rfl (by omega) ⟨Nat.le_of_ble_eq_true rfl, Nat.le_of_ble_eq_true rfl⟩ (Nat.le_of_ble_eq_true rfl) dk_SE_20 ?_
  refine sr_N_putF hx hb hts (fun w h => List.mem_cons_of_mem _ (sr_in8 w h)) sr_t8 sr_t8_ok sr_n8 hown hK (k := 0) (by omega) rfl rfl (j := 1) (by decide) rfl rfl (List.mem_cons_of_mem _ (sr_ws 327 rfl rfl)) rfl hnm rfl rfl (Nat.le_of_ble_eq_true rfl) dk_SE_23 ?_
  refine sr_N_of (fun ls H locs hl k => lv_aload_n hx hb dk_SE_26 rfl (lv_at hl 0 rfl) k) ?_
  refine sr_N_of (fun ls H locs hl k => lv_bipush hx hb dk_SE_27 (v := 15) rfl k) ?_
  refine sr_N_put hx hb hts (fun w h => List.mem_cons_of_mem _ (sr_in8 w h)) sr_t8 sr_t8_ok sr_n8 hown hK (k := 0) (by omega) rfl rfl (j := 3) (by decide) rfl (List.mem_cons_of_mem _ (sr_ws 331 rfl rfl)) rfl rfl rfl (Nat.le_of_ble_eq_true rfl) dk_SE_29 ?_
  exact sr_N_ret hx hb hr hlk (fun k hk => by
    have hk2 : k = 0 ∨ k = 1 ∨ k = 2 ∨ k = 3 ∨ k = 4 := by omega
    rcases hk2 with rfl | rfl | rfl | rfl | rfl <;> rfl) dk_SE_32
theorem dk_TM_0 : decode prog_10_method_1_code 0 = .ok (.aload_n 0, 1) := by decide +kernel
theorem dk_TM_1 : decode prog_10_method_1_code 1 = .ok (.invokespecial 3, 3) := by decide +kernel
theorem dk_TM_4 : decode prog_10_method_1_code 4 = .ok (.aload_n 0, 1) := by decide +kernel
theorem dk_TM_5 : decode prog_10_method_1_code 5 = .ok (.getstatic 9, 3) := by decide +kernel
theorem dk_TM_8 : decode prog_10_method_1_code 8 = .ok (.invokevirtual 15, 3) := by decide +kernel
theorem dk_TM_11 : decode prog_10_method_1_code 11 = .ok (.checkcast 16, 3) := by decide +kernel
theorem dk_TM_14 : decode prog_10_method_1_code 14 = .ok (.putfield 20, 3) := by decide +kernel
theorem dk_TM_17 : decode prog_10_method_1_code 17 = .ok (.return_, 1) := by decide +kernel
def ex_TM (cA : Nat → ClassId) (a : Nat) : Nat → va_E := fun j => match j with
  | 0 => .inr (3, [.int 0, .long 0, .ref (a + 1), .int 0, .int 0])
  | _ => .inl (cA 0, 9, .inl sr_K50)
set_option maxRecDepth 20000 in
theorem ki_TM (l : Launch) (D : va_G) (cA : Nat → ClassId) (ad : Nat → Nat → Nat) : sr_CI l D sr_cl (sr_tys cA) (sr_ci ad) sr_WS ⟨"SuiteRunner$TestMethod", "<init>", "()V"⟩ prog_10_method_1_code 1 { frames := 1, cells := 1, slots := 9, locals := 16 } 2 3 [.int 0, .long 0, .null, .int 0, .int 0] 9 (ex_TM cA) := by
  refine sr_CI_of (by decide) (by decide) (fun p e s m args below meth c a hx hb hml hr hlk hnm hts hown hK hsz hcy => ?_)
  have ha : a ≤ s.heap.size := by omega
  refine sr_N_of (fun ls H locs hl k => lv_aload_n hx hb dk_TM_0 rfl (lv_at hl 0 rfl) k) ?_
  refine sr_N_of (pc' := 4) (st' := []) (fun ls H locs hl k => W.objInit hx hb hown (hts _ (List.mem_cons_of_mem _ (sr_ws 79 rfl rfl))) (hts _ (List.mem_cons_of_mem _ (sr_ws 57 rfl rfl))) (hts _ (List.mem_cons_of_mem _ (sr_ws 58 rfl rfl))) rfl (by rw [hml]; exact hl.1) rfl dk_TM_1 (Nat.le_of_ble_eq_true rfl) (Nat.le_of_ble_eq_true rfl) k) ?_
  refine sr_N_of (fun ls H locs hl k => lv_aload_n hx hb dk_TM_4 rfl (lv_at hl 0 rfl) k) ?_
  refine sr_N_gets (v := .ref (ad 50 0)) hx hb (hcy.1.2.1 ("SuiteRunner$TestMethod", "FIRST", "[I", 50) List.mem_cons_self) hown (hts _ (List.mem_cons_of_mem _ (sr_ws 80 rfl rfl))) dk_TM_5 ?_
  refine sr_N_clone hx hb hml hown (hts _ (List.mem_cons_of_mem _ (sr_ws 82 rfl rfl))) (hts _ (List.mem_cons_of_mem _ (sr_ws 83 rfl rfl))) (hts _ (List.mem_cons_of_mem _ (sr_ws 84 rfl rfl))) (hts _ (List.mem_cons_of_mem _ (sr_ws 85 rfl rfl))) (hts _ (List.mem_cons_of_mem _ (sr_ws 86 rfl rfl))) hcy.2.2.1 hcy.2.2.2 hK rfl (by omega) (by omega) (Nat.le_of_ble_eq_true rfl) (Nat.le_of_ble_eq_true rfl) (Nat.le_of_ble_eq_true rfl) (Nat.le_of_ble_eq_true rfl) dk_TM_8 ?_
  refine sr_N_cast (k := 1) hx hb hown (hts _ (List.mem_cons_of_mem _ (sr_ws 88 rfl rfl))) (by omega) rfl (va_nm_int (hK.2 0 _ rfl).2) dk_TM_11 ?_
  refine sr_N_putF hx hb hts (fun w h => List.mem_cons_of_mem _ (sr_in3 w h)) sr_t3 sr_t3_ok sr_n3 hown hK (k := 0) (by omega) rfl rfl (j := 2) (by decide) rfl rfl (List.mem_cons_of_mem _ (sr_ws 95 rfl rfl)) rfl hnm rfl rfl (Nat.le_of_ble_eq_true rfl) dk_TM_14 ?_
  exact sr_N_ret hx hb hr hlk (fun k hk => by
    have hk2 : k = 0 ∨ k = 1 := by omega
    rcases hk2 with rfl | rfl <;> rfl) dk_TM_17
