/-! contracts of the methods, out of their runs -/
def sr_ZS : List (String × String × String × Nat) := [("SuiteRunner$TestMethod", "FIRST", "[I", 50), ("SuiteRunner$TestMethod", "LEAST", "[I", 51), ("SuiteRunner$TestMethod", "MOST", "[I", 52)]
theorem sr_lk {α : Type} : ∀ {l : List (Nat × α)} {k : Nat} {v : α}, l.lookup k = some v → (k, v) ∈ l
  | [], _, _, h => by cases h
  | (a, b) :: l, k, v, h => by
    unfold List.lookup at h
    split at h
    · rename_i e
      cases h
      rw [eq_of_beq e]
      exact List.mem_cons_self
    · exact List.mem_cons_of_mem _ (sr_lk h)
theorem sr_hF {own : String} {l : List (Nat × Nat × Nat)} (h : ∀ x ∈ l, sr_sF own sr_cl sr_WS sr_NW x.1 x.2.1 x.2.2) : ∀ k ci j, l.lookup k = some (ci, j) → sr_sF own sr_cl sr_WS sr_NW k ci j := fun _ _ _ e => h _ (sr_lk e)
theorem sr_hL {own : String} {l : List (Nat × Int64)} (h : ∀ x ∈ l, Cond.constantLong own x.1 x.2 ∈ sr_WS) : ∀ k v, l.lookup k = some v → Cond.constantLong own k v ∈ sr_WS := fun _ _ e => h _ (sr_lk e)
theorem sr_hZ {own : String} {l : List (Nat × Nat)} (h : ∀ x ∈ l, ∃ C nm d, (C, nm, d, x.2) ∈ sr_ZS ∧ Cond.fieldLink own x.1 C nm d ∈ sr_WS) : ∀ k g, l.lookup k = some g → ∃ C nm d, (C, nm, d, g) ∈ sr_ZS ∧ Cond.fieldLink own k C nm d ∈ sr_WS := fun _ _ e => h _ (sr_lk e)
theorem sr_hCS {P : Nat → Nat → sr_F → Prop} {c : Nat → Option (Jvm.ClassFile.Instr × Nat)} {l : List (Nat × Nat × Nat × sr_F)} (h : ∀ x ∈ l, x.2.1 = 0 → P x.1 x.2.2.1 x.2.2.2) : ∀ pc n k, c pc = some (.invokestatic k, n) → ∀ n f, l.lookup k = some (0, n, f) → P k n f := fun _ _ _ _ _ _ e => h _ (sr_lk e) rfl
theorem sr_hCV {P : Nat → Nat → Nat → sr_F → Prop} {c : Nat → Option (Jvm.ClassFile.Instr × Nat)} {l : List (Nat × Nat × Nat × sr_F)} (h : ∀ x ∈ l, ∀ ci, x.2.1 = ci + 1 → P x.1 ci x.2.2.1 x.2.2.2) : ∀ pc n k, c pc = some (.invokevirtual k, n) → ∀ ci n f, l.lookup k = some (ci + 1, n, f) → P k ci n f := fun _ _ _ _ ci _ _ e => h _ (sr_lk e) ci rfl
set_option maxRecDepth 10000 in
theorem c_SR_isWithin (l : Launch) (D : va_G) (cA : Nat → ClassId) (ad : Nat → Nat → Nat) : sr_Ct l D sr_cl (sr_tys cA) (sr_wd sr_SC cA sr_csC ad) (sr_cy sr_NW sr_ZS sr_KS ad) ad sr_WS ⟨"SuiteRunner", "isWithin", "(II)Z"⟩ prog_1_method_22_code 2 (some .boolean) { frames := 0, cells := 0, slots := 0, locals := 0 } p_SR_isWithin := by
  refine sr_met (E := e_SR_isWithin) (by decide) sr_WS_good sr_NW_ok sr_hcsC sr_hsepC (sr_htyC cA) (sr_htoC cA) sr_hWC (fun _ _ _ h => h) (fun _ _ _ h => nomatch h) (fun _ _ h => nomatch h) (fun _ _ h => nomatch h) (fun _ _ h => nomatch h) (fun _ _ _ _ _ _ h => nomatch h) (fun _ _ _ _ _ _ _ h => nomatch h) rfl dc_SR_isWithin (fun vs μ C res h hC => ?_)
  unfold p_SR_isWithin at h
  split at h
  · cases h
    exact ⟨Nat.le_of_ble_eq_true rfl, a_SR_isWithin μ _ _⟩
  · cases h
set_option maxRecDepth 10000 in
theorem c_SR_holds (l : Launch) (D : va_G) (cA : Nat → ClassId) (ad : Nat → Nat → Nat) : sr_Ct l D sr_cl (sr_tys cA) (sr_wd sr_SC cA sr_csC ad) (sr_cy sr_NW sr_ZS sr_KS ad) ad sr_WS ⟨"SuiteRunner", "holds", "(II)Z"⟩ prog_1_method_23_code 2 (some .boolean) { frames := 0, cells := 0, slots := 0, locals := 0 } p_SR_holds := by
  refine sr_met (E := e_SR_holds) (by decide) sr_WS_good sr_NW_ok sr_hcsC sr_hsepC (sr_htyC cA) (sr_htoC cA) sr_hWC (fun _ _ _ h => h) (fun _ _ _ h => nomatch h) (fun _ _ h => nomatch h) (fun _ _ h => nomatch h) (fun _ _ h => nomatch h) (fun _ _ _ _ _ _ h => nomatch h) (fun _ _ _ _ _ _ _ h => nomatch h) rfl dc_SR_holds (fun vs μ C res h hC => ?_)
  unfold p_SR_holds at h
  split at h
  · cases h
    exact ⟨Nat.le_of_ble_eq_true rfl, a_SR_holds μ _ _⟩
  · cases h
set_option maxRecDepth 10000 in
theorem c_TM_letterAt (l : Launch) (D : va_G) (cA : Nat → ClassId) (ad : Nat → Nat → Nat) : sr_Ct l D sr_cl (sr_tys cA) (sr_wd sr_SC cA sr_csC ad) (sr_cy sr_NW sr_ZS sr_KS ad) ad sr_WS ⟨"SuiteRunner$TestMethod", "letterAt", "(JI)I"⟩ prog_10_method_3_code 3 (some .int) { frames := 0, cells := 0, slots := 0, locals := 0 } p_TM_letterAt := by
  refine sr_met (E := e_TM_letterAt) (by decide) sr_WS_good sr_NW_ok sr_hcsC sr_hsepC (sr_htyC cA) (sr_htoC cA) sr_hWC (fun _ _ _ h => h) (fun _ _ _ h => nomatch h) (fun _ _ h => nomatch h) (fun _ _ h => nomatch h) (fun _ _ h => nomatch h) (fun _ _ _ _ _ _ h => nomatch h) (fun _ _ _ _ _ _ _ h => nomatch h) rfl dc_TM_letterAt (fun vs μ C res h hC => ?_)
  unfold p_TM_letterAt at h
  split at h
  · cases h
    exact ⟨Nat.le_of_ble_eq_true rfl, a_TM_letterAt μ _ _⟩
  · cases h
set_option maxRecDepth 20000 in
theorem ml_3_23 : Cond.methodLink "SuiteRunner$TestMethod" 23 ⟨"SuiteRunner", "isWithin", "(II)Z"⟩ ∈ sr_WS ∨ ∃ host, Cond.methodLinkNest "SuiteRunner$TestMethod" 23 ⟨"SuiteRunner", "isWithin", "(II)Z"⟩ host ∈ sr_NW := Or.inr ⟨"SuiteRunner", sr_nw 389 rfl rfl⟩
set_option maxRecDepth 20000 in
theorem wc_SR_isWithin : Cond.code ⟨"SuiteRunner", "isWithin", "(II)Z"⟩ prog_1_method_22_code 2 (some .boolean) ∈ sr_WS := sr_ws 363 rfl rfl
set_option maxRecDepth 20000 in
theorem wi_SR_isWithin : Cond.static ⟨"SuiteRunner", "isWithin", "(II)Z"⟩ ∈ sr_WS := sr_ws 362 rfl rfl
theorem wn_SR_isWithin : (parseMethodDescriptor "(II)Z").map (fun d => d.parameters.length) = some 2 := by decide +kernel
set_option maxRecDepth 20000 in
theorem wz_0 : Cond.initialized "SuiteRunner" ∈ sr_WS := sr_ws 40 rfl rfl
set_option maxRecDepth 10000 in
theorem c_TM_allows (l : Launch) (D : va_G) (cA : Nat → ClassId) (ad : Nat → Nat → Nat) : sr_Ct l D sr_cl (sr_tys cA) (sr_wd sr_SC cA sr_csC ad) (sr_cy sr_NW sr_ZS sr_KS ad) ad sr_WS ⟨"SuiteRunner$TestMethod", "allows", "(II)Z"⟩ prog_10_method_2_code 2 (some .boolean) { frames := 1, cells := 0, slots := 0, locals := 21 } p_TM_allows := by
  refine sr_met (E := e_TM_allows) (by decide) sr_WS_good sr_NW_ok sr_hcsC sr_hsepC (sr_htyC cA) (sr_htoC cA) sr_hWC (fun _ _ _ h => h) (fun _ _ _ h => nomatch h) (fun _ _ h => nomatch h) (fun _ _ h => nomatch h) (sr_hZ (List.forall_mem_cons.mpr ⟨⟨"SuiteRunner$TestMethod", "LEAST", "[I", by decide, sr_ws 390 rfl rfl⟩, (List.forall_mem_cons.mpr ⟨⟨"SuiteRunner$TestMethod", "MOST", "[I", by decide, sr_ws 392 rfl rfl⟩, (fun _ h => absurd h List.not_mem_nil)⟩)⟩)) (sr_hCS (List.forall_mem_cons.mpr ⟨(fun _ => ⟨⟨"SuiteRunner", "isWithin", "(II)Z"⟩, prog_1_method_22_code, 2, (some .boolean), { frames := 0, cells := 0, slots := 0, locals := 0 }, c_SR_isWithin l D cA ad, ⟨rfl, rfl, by decide, by decide⟩, ⟨by decide, by decide, wn_SR_isWithin⟩, wc_SR_isWithin, wi_SR_isWithin, wz_0, ml_3_23⟩), (fun _ h => absurd h List.not_mem_nil)⟩)) (sr_hCV (List.forall_mem_cons.mpr ⟨(fun _ h => nomatch h), (fun _ h => absurd h List.not_mem_nil)⟩)) rfl dc_TM_allows (fun vs μ C res h hC => ?_)
  unfold p_TM_allows at h
  split at h
  · cases h
    exact ⟨Nat.le_of_ble_eq_true rfl, a_TM_allows μ _ _⟩
  · cases h
set_option maxRecDepth 20000 in
theorem fl_4_9 : sr_sF "SuiteRunner$Configuration" sr_cl sr_WS sr_NW 9 4 0 := ⟨_, _, _, rfl, by decide, rfl, sr_in4, Or.inl (sr_ws 121 rfl rfl)⟩
set_option maxRecDepth 20000 in
theorem fl_4_15 : sr_sF "SuiteRunner$Configuration" sr_cl sr_WS sr_NW 15 4 1 := ⟨_, _, _, rfl, by decide, rfl, sr_in4, Or.inl (sr_ws 123 rfl rfl)⟩
set_option maxRecDepth 20000 in
theorem fl_4_19 : sr_sF "SuiteRunner$Configuration" sr_cl sr_WS sr_NW 19 4 2 := ⟨_, _, _, rfl, by decide, rfl, sr_in4, Or.inl (sr_ws 125 rfl rfl)⟩
set_option maxRecDepth 10000 in
theorem c_CF_isOf (l : Launch) (D : va_G) (cA : Nat → ClassId) (ad : Nat → Nat → Nat) : sr_Ct l D sr_cl (sr_tys cA) (sr_wd sr_SC cA sr_csC ad) (sr_cy sr_NW sr_ZS sr_KS ad) ad sr_WS ⟨"SuiteRunner$Configuration", "isOf", "(IZI)Z"⟩ prog_3_method_2_code 4 (some .boolean) { frames := 0, cells := 0, slots := 0, locals := 0 } p_CF_isOf := by
  refine sr_met (E := e_CF_isOf) (by decide) sr_WS_good sr_NW_ok sr_hcsC sr_hsepC (sr_htyC cA) (sr_htoC cA) sr_hWC (fun _ _ _ h => h) (sr_hF (List.forall_mem_cons.mpr ⟨fl_4_9, (List.forall_mem_cons.mpr ⟨fl_4_15, (List.forall_mem_cons.mpr ⟨fl_4_19, (fun _ h => absurd h List.not_mem_nil)⟩)⟩)⟩)) (fun _ _ h => nomatch h) (fun _ _ h => nomatch h) (fun _ _ h => nomatch h) (fun _ _ _ _ _ _ h => nomatch h) (fun _ _ _ _ _ _ _ h => nomatch h) rfl dc_CF_isOf (fun vs μ C res h hC => ?_)
  unfold p_CF_isOf at h
  split at h
  · cases h
    exact ⟨Nat.le_of_ble_eq_true rfl, a_CF_isOf μ _ _ _ _ hC⟩
  · cases h
set_option maxRecDepth 20000 in
theorem fl_4_22 : sr_sF "SuiteRunner$Configuration" sr_cl sr_WS sr_NW 22 4 3 := ⟨_, _, _, rfl, by decide, rfl, sr_in4, Or.inl (sr_ws 127 rfl rfl)⟩
set_option maxRecDepth 20000 in
theorem fl_4_25 : sr_sF "SuiteRunner$Configuration" sr_cl sr_WS sr_NW 25 4 4 := ⟨_, _, _, rfl, by decide, rfl, sr_in4, Or.inl (sr_ws 129 rfl rfl)⟩
set_option maxRecDepth 10000 in
theorem c_CF_failsNow (l : Launch) (D : va_G) (cA : Nat → ClassId) (ad : Nat → Nat → Nat) : sr_Ct l D sr_cl (sr_tys cA) (sr_wd sr_SC cA sr_csC ad) (sr_cy sr_NW sr_ZS sr_KS ad) ad sr_WS ⟨"SuiteRunner$Configuration", "failsNow", "()Z"⟩ prog_3_method_3_code 2 (some .boolean) { frames := 0, cells := 0, slots := 0, locals := 0 } p_CF_failsNow := by
  refine sr_met (E := e_CF_failsNow) (by decide) sr_WS_good sr_NW_ok sr_hcsC sr_hsepC (sr_htyC cA) (sr_htoC cA) sr_hWC (fun _ _ _ h => h) (sr_hF (List.forall_mem_cons.mpr ⟨fl_4_22, (List.forall_mem_cons.mpr ⟨fl_4_25, (fun _ h => absurd h List.not_mem_nil)⟩)⟩)) (fun _ _ h => nomatch h) (fun _ _ h => nomatch h) (fun _ _ h => nomatch h) (fun _ _ _ _ _ _ h => nomatch h) (fun _ _ _ _ _ _ _ h => nomatch h) rfl dc_CF_failsNow (fun vs μ C res h hC => ?_)
  unfold p_CF_failsNow at h
  split at h
  · cases h
    exact ⟨Nat.le_of_ble_eq_true rfl, a_CF_failsNow μ _ hC⟩
  · cases h
set_option maxRecDepth 20000 in
theorem fl_6_15 : sr_sF "SuiteRunner$Log" sr_cl sr_WS sr_NW 15 6 1 := ⟨_, _, _, rfl, by decide, rfl, sr_in6, Or.inl (sr_ws 203 rfl rfl)⟩
set_option maxRecDepth 10000 in
theorem c_LG_clear (l : Launch) (D : va_G) (cA : Nat → ClassId) (ad : Nat → Nat → Nat) : sr_Ct l D sr_cl (sr_tys cA) (sr_wd sr_SC cA sr_csC ad) (sr_cy sr_NW sr_ZS sr_KS ad) ad sr_WS ⟨"SuiteRunner$Log", "clear", "()V"⟩ prog_4_method_2_code 1 none { frames := 0, cells := 0, slots := 0, locals := 0 } p_LG_clear := by
  refine sr_met (E := e_LG_clear) (by decide) sr_WS_good sr_NW_ok sr_hcsC sr_hsepC (sr_htyC cA) (sr_htoC cA) sr_hWC (fun _ _ _ h => h) (sr_hF (List.forall_mem_cons.mpr ⟨fl_6_15, (fun _ h => absurd h List.not_mem_nil)⟩)) (fun _ _ h => nomatch h) (fun _ _ h => nomatch h) (fun _ _ h => nomatch h) (fun _ _ _ _ _ _ h => nomatch h) (fun _ _ _ _ _ _ _ h => nomatch h) rfl dc_LG_clear (fun vs μ C res h hC => ?_)
  unfold p_LG_clear at h
  split at h
  · cases h
    exact ⟨Nat.le_of_ble_eq_true rfl, a_LG_clear μ ⟩
  · cases h
set_option maxRecDepth 20000 in
theorem fl_6_11 : sr_sF "SuiteRunner$Log" sr_cl sr_WS sr_NW 11 6 0 := ⟨_, _, _, rfl, by decide, rfl, sr_in6, Or.inl (sr_ws 202 rfl rfl)⟩
set_option maxRecDepth 10000 in
theorem c_LG_add (l : Launch) (D : va_G) (cA : Nat → ClassId) (ad : Nat → Nat → Nat) : sr_Ct l D sr_cl (sr_tys cA) (sr_wd sr_SC cA sr_csC ad) (sr_cy sr_NW sr_ZS sr_KS ad) ad sr_WS ⟨"SuiteRunner$Log", "add", "(IIII)V"⟩ prog_4_method_3_code 5 none { frames := 0, cells := 0, slots := 0, locals := 0 } p_LG_add := by
  refine sr_met (E := e_LG_add) (by decide) sr_WS_good sr_NW_ok sr_hcsC sr_hsepC (sr_htyC cA) (sr_htoC cA) sr_hWC (fun _ _ _ h => h) (sr_hF (List.forall_mem_cons.mpr ⟨fl_6_11, (List.forall_mem_cons.mpr ⟨fl_6_15, (fun _ h => absurd h List.not_mem_nil)⟩)⟩)) (fun _ _ h => nomatch h) (fun _ _ h => nomatch h) (fun _ _ h => nomatch h) (fun _ _ _ _ _ _ h => nomatch h) (fun _ _ _ _ _ _ _ h => nomatch h) rfl dc_LG_add (fun vs μ C res h hC => ?_)
  unfold p_LG_add at h
  split at h
  · cases h
    exact ⟨Nat.le_of_ble_eq_true rfl, a_LG_add μ _ _ _ _ hC⟩
  · cases h
set_option maxRecDepth 20000 in
theorem fl_9_13 : sr_sF "SuiteRunner$Pattern" sr_cl sr_WS sr_NW 13 9 1 := ⟨_, _, _, rfl, by decide, rfl, sr_in9, Or.inl (sr_ws 318 rfl rfl)⟩
set_option maxRecDepth 10000 in
theorem c_PT_clear (l : Launch) (D : va_G) (cA : Nat → ClassId) (ad : Nat → Nat → Nat) : sr_Ct l D sr_cl (sr_tys cA) (sr_wd sr_SC cA sr_csC ad) (sr_cy sr_NW sr_ZS sr_KS ad) ad sr_WS ⟨"SuiteRunner$Pattern", "clear", "()V"⟩ prog_6_method_2_code 1 none { frames := 0, cells := 0, slots := 0, locals := 0 } p_PT_clear := by
  refine sr_met (E := e_PT_clear) (by decide) sr_WS_good sr_NW_ok sr_hcsC sr_hsepC (sr_htyC cA) (sr_htoC cA) sr_hWC (fun _ _ _ h => h) (sr_hF (List.forall_mem_cons.mpr ⟨fl_9_13, (fun _ h => absurd h List.not_mem_nil)⟩)) (fun _ _ h => nomatch h) (fun _ _ h => nomatch h) (fun _ _ h => nomatch h) (fun _ _ _ _ _ _ h => nomatch h) (fun _ _ _ _ _ _ _ h => nomatch h) rfl dc_PT_clear (fun vs μ C res h hC => ?_)
  unfold p_PT_clear at h
  split at h
  · cases h
    exact ⟨Nat.le_of_ble_eq_true rfl, a_PT_clear μ _ hC⟩
  · cases h
set_option maxRecDepth 10000 in
theorem c_PT_isEmpty (l : Launch) (D : va_G) (cA : Nat → ClassId) (ad : Nat → Nat → Nat) : sr_Ct l D sr_cl (sr_tys cA) (sr_wd sr_SC cA sr_csC ad) (sr_cy sr_NW sr_ZS sr_KS ad) ad sr_WS ⟨"SuiteRunner$Pattern", "isEmpty", "()Z"⟩ prog_6_method_3_code 1 (some .boolean) { frames := 0, cells := 0, slots := 0, locals := 0 } p_PT_isEmpty := by
  refine sr_met (E := e_PT_isEmpty) (by decide) sr_WS_good sr_NW_ok sr_hcsC sr_hsepC (sr_htyC cA) (sr_htoC cA) sr_hWC (fun _ _ _ h => h) (sr_hF (List.forall_mem_cons.mpr ⟨fl_9_13, (fun _ h => absurd h List.not_mem_nil)⟩)) (fun _ _ h => nomatch h) (fun _ _ h => nomatch h) (fun _ _ h => nomatch h) (fun _ _ _ _ _ _ h => nomatch h) (fun _ _ _ _ _ _ _ h => nomatch h) rfl dc_PT_isEmpty (fun vs μ C res h hC => ?_)
  unfold p_PT_isEmpty at h
  split at h
  · cases h
    exact ⟨Nat.le_of_ble_eq_true rfl, a_PT_isEmpty μ _ hC⟩
  · cases h
set_option maxRecDepth 20000 in
theorem fl_7_27 : sr_sF "SuiteRunner$Progress" sr_cl sr_WS sr_NW 27 7 5 := ⟨_, _, _, rfl, by decide, rfl, sr_in7, Or.inl (sr_ws 227 rfl rfl)⟩
set_option maxRecDepth 20000 in
theorem fl_7_39 : sr_sF "SuiteRunner$Progress" sr_cl sr_WS sr_NW 39 7 9 := ⟨_, _, _, rfl, by decide, rfl, sr_in7, Or.inl (sr_ws 232 rfl rfl)⟩
set_option maxRecDepth 10000 in
theorem c_PR_enter (l : Launch) (D : va_G) (cA : Nat → ClassId) (ad : Nat → Nat → Nat) : sr_Ct l D sr_cl (sr_tys cA) (sr_wd sr_SC cA sr_csC ad) (sr_cy sr_NW sr_ZS sr_KS ad) ad sr_WS ⟨"SuiteRunner$Progress", "enter", "(I)V"⟩ prog_7_method_3_code 2 none { frames := 0, cells := 0, slots := 0, locals := 0 } p_PR_enter := by
  refine sr_met (E := e_PR_enter) (by decide) sr_WS_good sr_NW_ok sr_hcsC sr_hsepC (sr_htyC cA) (sr_htoC cA) sr_hWC (fun _ _ _ h => h) (sr_hF (List.forall_mem_cons.mpr ⟨fl_7_27, (List.forall_mem_cons.mpr ⟨fl_7_39, (fun _ h => absurd h List.not_mem_nil)⟩)⟩)) (fun _ _ h => nomatch h) (fun _ _ h => nomatch h) (fun _ _ h => nomatch h) (fun _ _ _ _ _ _ h => nomatch h) (fun _ _ _ _ _ _ _ h => nomatch h) rfl dc_PR_enter (fun vs μ C res h hC => ?_)
  unfold p_PR_enter at h
  split at h
  · cases h
    exact ⟨Nat.le_of_ble_eq_true rfl, a_PR_enter μ _ _ hC⟩
  · cases h
set_option maxRecDepth 20000 in
theorem fl_7_30 : sr_sF "SuiteRunner$Progress" sr_cl sr_WS sr_NW 30 7 6 := ⟨_, _, _, rfl, by decide, rfl, sr_in7, Or.inl (sr_ws 229 rfl rfl)⟩
set_option maxRecDepth 20000 in
theorem fl_7_33 : sr_sF "SuiteRunner$Progress" sr_cl sr_WS sr_NW 33 7 7 := ⟨_, _, _, rfl, by decide, rfl, sr_in7, Or.inl (sr_ws 230 rfl rfl)⟩
set_option maxRecDepth 20000 in
theorem fl_7_36 : sr_sF "SuiteRunner$Progress" sr_cl sr_WS sr_NW 36 7 8 := ⟨_, _, _, rfl, by decide, rfl, sr_in7, Or.inl (sr_ws 231 rfl rfl)⟩
set_option maxRecDepth 10000 in
theorem c_PR_count (l : Launch) (D : va_G) (cA : Nat → ClassId) (ad : Nat → Nat → Nat) : sr_Ct l D sr_cl (sr_tys cA) (sr_wd sr_SC cA sr_csC ad) (sr_cy sr_NW sr_ZS sr_KS ad) ad sr_WS ⟨"SuiteRunner$Progress", "count", "(I)V"⟩ prog_7_method_4_code 2 none { frames := 0, cells := 0, slots := 0, locals := 0 } p_PR_count := by
  refine sr_met (E := e_PR_count) (by decide) sr_WS_good sr_NW_ok sr_hcsC sr_hsepC (sr_htyC cA) (sr_htoC cA) sr_hWC (fun _ _ _ h => h) (sr_hF (List.forall_mem_cons.mpr ⟨fl_7_30, (List.forall_mem_cons.mpr ⟨fl_7_33, (List.forall_mem_cons.mpr ⟨fl_7_36, (fun _ h => absurd h List.not_mem_nil)⟩)⟩)⟩)) (fun _ _ h => nomatch h) (fun _ _ h => nomatch h) (fun _ _ h => nomatch h) (fun _ _ _ _ _ _ h => nomatch h) (fun _ _ _ _ _ _ _ h => nomatch h) rfl dc_PR_count (fun vs μ C res h hC => ?_)
  unfold p_PR_count at h
  split at h
  · cases h
    exact ⟨Nat.le_of_ble_eq_true rfl, a_PR_count μ _ _ hC⟩
  · cases h
set_option maxRecDepth 10000 in
theorem c_PR_verdict (l : Launch) (D : va_G) (cA : Nat → ClassId) (ad : Nat → Nat → Nat) : sr_Ct l D sr_cl (sr_tys cA) (sr_wd sr_SC cA sr_csC ad) (sr_cy sr_NW sr_ZS sr_KS ad) ad sr_WS ⟨"SuiteRunner$Progress", "verdict", "(I)I"⟩ prog_7_method_5_code 3 (some .int) { frames := 0, cells := 0, slots := 0, locals := 0 } p_PR_verdict := by
  refine sr_met (E := e_PR_verdict) (by decide) sr_WS_good sr_NW_ok sr_hcsC sr_hsepC (sr_htyC cA) (sr_htoC cA) sr_hWC (fun _ _ _ h => h) (sr_hF (List.forall_mem_cons.mpr ⟨fl_7_30, (List.forall_mem_cons.mpr ⟨fl_7_33, (List.forall_mem_cons.mpr ⟨fl_7_36, (fun _ h => absurd h List.not_mem_nil)⟩)⟩)⟩)) (fun _ _ h => nomatch h) (fun _ _ h => nomatch h) (fun _ _ h => nomatch h) (fun _ _ _ _ _ _ h => nomatch h) (fun _ _ _ _ _ _ _ h => nomatch h) rfl dc_PR_verdict (fun vs μ C res h hC => ?_)
  unfold p_PR_verdict at h
  split at h
  · cases h
    exact ⟨Nat.le_of_ble_eq_true rfl, a_PR_verdict μ _ _ hC⟩
  · cases h
set_option maxRecDepth 20000 in
theorem fl_7_9 : sr_sF "SuiteRunner$Progress" sr_cl sr_WS sr_NW 9 7 1 := ⟨_, _, _, rfl, by decide, rfl, sr_in7, Or.inl (sr_ws 219 rfl rfl)⟩
set_option maxRecDepth 20000 in
theorem fl_7_15 : sr_sF "SuiteRunner$Progress" sr_cl sr_WS sr_NW 15 7 2 := ⟨_, _, _, rfl, by decide, rfl, sr_in7, Or.inl (sr_ws 221 rfl rfl)⟩
set_option maxRecDepth 20000 in
theorem fl_7_18 : sr_sF "SuiteRunner$Progress" sr_cl sr_WS sr_NW 18 7 0 := ⟨_, _, _, rfl, by decide, rfl, sr_in7, Or.inl (sr_ws 217 rfl rfl)⟩
set_option maxRecDepth 20000 in
theorem fl_7_21 : sr_sF "SuiteRunner$Progress" sr_cl sr_WS sr_NW 21 7 3 := ⟨_, _, _, rfl, by decide, rfl, sr_in7, Or.inl (sr_ws 223 rfl rfl)⟩
set_option maxRecDepth 20000 in
theorem fl_7_24 : sr_sF "SuiteRunner$Progress" sr_cl sr_WS sr_NW 24 7 4 := ⟨_, _, _, rfl, by decide, rfl, sr_in7, Or.inl (sr_ws 225 rfl rfl)⟩
set_option maxRecDepth 10000 in
theorem c_PR_reset (l : Launch) (D : va_G) (cA : Nat → ClassId) (ad : Nat → Nat → Nat) : sr_Ct l D sr_cl (sr_tys cA) (sr_wd sr_SC cA sr_csC ad) (sr_cy sr_NW sr_ZS sr_KS ad) ad sr_WS ⟨"SuiteRunner$Progress", "reset", "(I)V"⟩ prog_7_method_2_code 2 none { frames := 0, cells := 0, slots := 0, locals := 0 } p_PR_reset := by
  refine sr_met (E := e_PR_reset) (by decide) sr_WS_good sr_NW_ok sr_hcsC sr_hsepC (sr_htyC cA) (sr_htoC cA) sr_hWC (fun _ _ _ h => h) (sr_hF (List.forall_mem_cons.mpr ⟨fl_7_9, (List.forall_mem_cons.mpr ⟨fl_7_15, (List.forall_mem_cons.mpr ⟨fl_7_18, (List.forall_mem_cons.mpr ⟨fl_7_21, (List.forall_mem_cons.mpr ⟨fl_7_24, (List.forall_mem_cons.mpr ⟨fl_7_27, (List.forall_mem_cons.mpr ⟨fl_7_30, (List.forall_mem_cons.mpr ⟨fl_7_33, (List.forall_mem_cons.mpr ⟨fl_7_36, (List.forall_mem_cons.mpr ⟨fl_7_39, (fun _ h => absurd h List.not_mem_nil)⟩)⟩)⟩)⟩)⟩)⟩)⟩)⟩)⟩)⟩)) (fun _ _ h => nomatch h) (fun _ _ h => nomatch h) (fun _ _ h => nomatch h) (fun _ _ _ _ _ _ h => nomatch h) (fun _ _ _ _ _ _ _ h => nomatch h) rfl dc_PR_reset (fun vs μ C res h hC => ?_)
  unfold p_PR_reset at h
  split at h
  · cases h
    exact ⟨Nat.le_of_ble_eq_true rfl, a_PR_reset μ _ _ hC⟩
  · cases h
set_option maxRecDepth 10000 in
theorem c_RN_placeOf (l : Launch) (D : va_G) (cA : Nat → ClassId) (ad : Nat → Nat → Nat) : sr_Ct l D sr_cl (sr_tys cA) (sr_wd sr_SC cA sr_csC ad) (sr_cy sr_NW sr_ZS sr_KS ad) ad sr_WS ⟨"SuiteRunner$Runner", "placeOf", "(II)I"⟩ prog_8_method_18_code 2 (some .int) { frames := 0, cells := 0, slots := 0, locals := 0 } p_RN_placeOf := by
  refine sr_met (E := e_RN_placeOf) (by decide) sr_WS_good sr_NW_ok sr_hcsC sr_hsepC (sr_htyC cA) (sr_htoC cA) sr_hWC (fun _ _ _ h => h) (fun _ _ _ h => nomatch h) (fun _ _ h => nomatch h) (fun _ _ h => nomatch h) (fun _ _ h => nomatch h) (fun _ _ _ _ _ _ h => nomatch h) (fun _ _ _ _ _ _ _ h => nomatch h) rfl dc_RN_placeOf (fun vs μ C res h hC => ?_)
  unfold p_RN_placeOf at h
  split at h
  · cases h
    exact ⟨Nat.le_of_ble_eq_true rfl, a_RN_placeOf μ _ _⟩
  · cases h
set_option maxRecDepth 20000 in
theorem fl_2_32 : sr_sF "SuiteRunner$Catalog" sr_cl sr_WS sr_NW 32 2 1 := ⟨_, _, _, rfl, by decide, rfl, sr_in2, Or.inl (sr_ws 145 rfl rfl)⟩
set_option maxRecDepth 20000 in
theorem ml_2_36 : Cond.methodLink "SuiteRunner$Catalog" 36 ⟨"SuiteRunner", "isWithin", "(II)Z"⟩ ∈ sr_WS ∨ ∃ host, Cond.methodLinkNest "SuiteRunner$Catalog" 36 ⟨"SuiteRunner", "isWithin", "(II)Z"⟩ host ∈ sr_NW := Or.inr ⟨"SuiteRunner", sr_nw 385 rfl rfl⟩
set_option maxRecDepth 10000 in
theorem c_CT_hasMethod (l : Launch) (D : va_G) (cA : Nat → ClassId) (ad : Nat → Nat → Nat) : sr_Ct l D sr_cl (sr_tys cA) (sr_wd sr_SC cA sr_csC ad) (sr_cy sr_NW sr_ZS sr_KS ad) ad sr_WS ⟨"SuiteRunner$Catalog", "hasMethod", "(I)Z"⟩ prog_2_method_2_code 2 (some .boolean) { frames := 1, cells := 0, slots := 0, locals := 21 } p_CT_hasMethod := by
  refine sr_met (E := e_CT_hasMethod) (by decide) sr_WS_good sr_NW_ok sr_hcsC sr_hsepC (sr_htyC cA) (sr_htoC cA) sr_hWC (fun _ _ _ h => h) (sr_hF (List.forall_mem_cons.mpr ⟨fl_2_32, (fun _ h => absurd h List.not_mem_nil)⟩)) (fun _ _ h => nomatch h) (fun _ _ h => nomatch h) (fun _ _ h => nomatch h) (sr_hCS (List.forall_mem_cons.mpr ⟨(fun _ => ⟨⟨"SuiteRunner", "isWithin", "(II)Z"⟩, prog_1_method_22_code, 2, (some .boolean), { frames := 0, cells := 0, slots := 0, locals := 0 }, c_SR_isWithin l D cA ad, ⟨rfl, rfl, by decide, by decide⟩, ⟨by decide, by decide, wn_SR_isWithin⟩, wc_SR_isWithin, wi_SR_isWithin, wz_0, ml_2_36⟩), (fun _ h => absurd h List.not_mem_nil)⟩)) (sr_hCV (List.forall_mem_cons.mpr ⟨(fun _ h => nomatch h), (fun _ h => absurd h List.not_mem_nil)⟩)) rfl dc_CT_hasMethod (fun vs μ C res h hC => ?_)
  unfold p_CT_hasMethod at h
  split at h
  · cases h
    exact ⟨Nat.le_of_ble_eq_true rfl, a_CT_hasMethod μ _⟩
  · cases h
set_option maxRecDepth 20000 in
theorem fl_1_21 : sr_sF "SuiteRunner$Runner" sr_cl sr_WS sr_NW 21 1 1 := ⟨_, _, _, rfl, by decide, rfl, sr_in1, Or.inl (sr_ws 256 rfl rfl)⟩
set_option maxRecDepth 20000 in
theorem fl_1_66 : sr_sF "SuiteRunner$Runner" sr_cl sr_WS sr_NW 66 1 13 := ⟨_, _, _, rfl, by decide, rfl, sr_in1, Or.inl (sr_ws 275 rfl rfl)⟩
set_option maxRecDepth 20000 in
theorem fl_1_209 : sr_sF "SuiteRunner$Runner" sr_cl sr_WS sr_NW 209 5 2 := ⟨_, _, _, rfl, by decide, rfl, sr_in5, Or.inl (sr_ws 181 rfl rfl)⟩
set_option maxRecDepth 10000 in
theorem c_RN_isBlocked (l : Launch) (D : va_G) (cA : Nat → ClassId) (ad : Nat → Nat → Nat) : sr_Ct l D sr_cl (sr_tys cA) (sr_wd sr_SC cA sr_csC ad) (sr_cy sr_NW sr_ZS sr_KS ad) ad sr_WS ⟨"SuiteRunner$Runner", "isBlocked", "(I)Z"⟩ prog_8_method_16_code 2 (some .boolean) { frames := 0, cells := 0, slots := 0, locals := 0 } p_RN_isBlocked := by
  refine sr_met (E := e_RN_isBlocked) (by decide) sr_WS_good sr_NW_ok sr_hcsC sr_hsepC (sr_htyC cA) (sr_htoC cA) sr_hWC (fun _ _ _ h => h) (sr_hF (List.forall_mem_cons.mpr ⟨fl_1_21, (List.forall_mem_cons.mpr ⟨fl_1_66, (List.forall_mem_cons.mpr ⟨fl_1_209, (fun _ h => absurd h List.not_mem_nil)⟩)⟩)⟩)) (fun _ _ h => nomatch h) (fun _ _ h => nomatch h) (fun _ _ h => nomatch h) (fun _ _ _ _ _ _ h => nomatch h) (fun _ _ _ _ _ _ _ h => nomatch h) rfl dc_RN_isBlocked (fun vs μ C res h hC => ?_)
  unfold p_RN_isBlocked at h
  split at h
  · cases h
    exact ⟨Nat.le_of_ble_eq_true rfl, a_RN_isBlocked μ _⟩
  · cases h
set_option maxRecDepth 20000 in
theorem fl_8_12 : sr_sF "SuiteRunner$Selection" sr_cl sr_WS sr_NW 12 8 0 := ⟨_, _, _, rfl, by decide, rfl, sr_in8, Or.inl (sr_ws 325 rfl rfl)⟩
set_option maxRecDepth 20000 in
theorem fl_8_18 : sr_sF "SuiteRunner$Selection" sr_cl sr_WS sr_NW 18 8 1 := ⟨_, _, _, rfl, by decide, rfl, sr_in8, Or.inl (sr_ws 327 rfl rfl)⟩
set_option maxRecDepth 20000 in
theorem fl_8_21 : sr_sF "SuiteRunner$Selection" sr_cl sr_WS sr_NW 21 8 3 := ⟨_, _, _, rfl, by decide, rfl, sr_in8, Or.inl (sr_ws 331 rfl rfl)⟩
set_option maxRecDepth 20000 in
theorem fl_8_25 : sr_sF "SuiteRunner$Selection" sr_cl sr_WS sr_NW 25 8 4 := ⟨_, _, _, rfl, by decide, rfl, sr_in8, Or.inl (sr_ws 332 rfl rfl)⟩
set_option maxRecDepth 20000 in
theorem fl_8_28 : sr_sF "SuiteRunner$Selection" sr_cl sr_WS sr_NW 28 8 5 := ⟨_, _, _, rfl, by decide, rfl, sr_in8, Or.inl (sr_ws 333 rfl rfl)⟩
set_option maxRecDepth 20000 in
theorem fl_8_34 : sr_sF "SuiteRunner$Selection" sr_cl sr_WS sr_NW 34 8 2 := ⟨_, _, _, rfl, by decide, rfl, sr_in8, Or.inl (sr_ws 329 rfl rfl)⟩
set_option maxRecDepth 20000 in
theorem ml_8_31 : Cond.methodLink "SuiteRunner$Selection" 31 ⟨"SuiteRunner$Pattern", "clear", "()V"⟩ ∈ sr_WS ∨ ∃ host, Cond.methodLinkNest "SuiteRunner$Selection" 31 ⟨"SuiteRunner$Pattern", "clear", "()V"⟩ host ∈ sr_NW := Or.inl (sr_ws 437 rfl rfl)
set_option maxRecDepth 20000 in
theorem wc_PT_clear : Cond.code ⟨"SuiteRunner$Pattern", "clear", "()V"⟩ prog_6_method_2_code 1 none ∈ sr_WS := sr_ws 440 rfl rfl
set_option maxRecDepth 20000 in
theorem wi_PT_clear : Cond.instanceMethod ⟨"SuiteRunner$Pattern", "clear", "()V"⟩ ∈ sr_WS := sr_ws 438 rfl rfl
set_option maxRecDepth 20000 in
theorem wv_PT_clear : Cond.selects "SuiteRunner$Pattern" ⟨"SuiteRunner$Pattern", "clear", "()V"⟩ ⟨"SuiteRunner$Pattern", "clear", "()V"⟩ ∈ sr_WS := sr_ws 439 rfl rfl
theorem wn_PT_clear : (parseMethodDescriptor "()V").map (fun d => d.parameters.length) = some 0 := by decide +kernel
set_option maxRecDepth 20000 in
theorem wz_9 : Cond.initialized "SuiteRunner$Pattern" ∈ sr_WS := sr_ws 49 rfl rfl
set_option maxRecDepth 10000 in
theorem c_SE_pick (l : Launch) (D : va_G) (cA : Nat → ClassId) (ad : Nat → Nat → Nat) : sr_Ct l D sr_cl (sr_tys cA) (sr_wd sr_SC cA sr_csC ad) (sr_cy sr_NW sr_ZS sr_KS ad) ad sr_WS ⟨"SuiteRunner$Selection", "pick", "(III)V"⟩ prog_9_method_2_code 4 none { frames := 1, cells := 0, slots := 0, locals := 20 } p_SE_pick := by
  refine sr_met (E := e_SE_pick) (by decide) sr_WS_good sr_NW_ok sr_hcsC sr_hsepC (sr_htyC cA) (sr_htoC cA) sr_hWC (fun _ _ _ h => h) (sr_hF (List.forall_mem_cons.mpr ⟨fl_8_12, (List.forall_mem_cons.mpr ⟨fl_8_18, (List.forall_mem_cons.mpr ⟨fl_8_21, (List.forall_mem_cons.mpr ⟨fl_8_25, (List.forall_mem_cons.mpr ⟨fl_8_28, (List.forall_mem_cons.mpr ⟨fl_8_34, (fun _ h => absurd h List.not_mem_nil)⟩)⟩)⟩)⟩)⟩)⟩)) (fun _ _ h => nomatch h) (fun _ _ h => nomatch h) (fun _ _ h => nomatch h) (sr_hCS (List.forall_mem_cons.mpr ⟨(fun h => nomatch h), (fun _ h => absurd h List.not_mem_nil)⟩)) (sr_hCV (List.forall_mem_cons.mpr ⟨(fun ci h => by obtain rfl : 9 = ci := Nat.succ.inj h; exact ⟨⟨"SuiteRunner$Pattern", "clear", "()V"⟩, prog_6_method_2_code, 1, none, { frames := 0, cells := 0, slots := 0, locals := 0 }, _, _, _, rfl, c_PT_clear l D cA ad, ⟨rfl, rfl, by decide, by decide⟩, ⟨by decide, by decide, wn_PT_clear⟩, wc_PT_clear, wi_PT_clear, wv_PT_clear, wz_9, ml_8_31⟩), (fun _ h => absurd h List.not_mem_nil)⟩)) rfl dc_SE_pick (fun vs μ C res h hC => ?_)
  unfold p_SE_pick at h
  split at h
  · cases h
    exact ⟨Nat.le_of_ble_eq_true rfl, a_SE_pick μ _ _ _⟩
  · cases h
set_option maxRecDepth 20000 in
theorem fl_0_10 : sr_sF "SuiteRunner" sr_cl sr_WS sr_NW 10 0 0 := ⟨_, _, _, rfl, by decide, rfl, sr_in0, Or.inl (sr_ws 347 rfl rfl)⟩
set_option maxRecDepth 20000 in
theorem fl_0_28 : sr_sF "SuiteRunner" sr_cl sr_WS sr_NW 28 1 5 := ⟨_, _, _, rfl, by decide, rfl, sr_in1, Or.inl (sr_ws 265 rfl rfl)⟩
set_option maxRecDepth 10000 in
theorem c_SR_running (l : Launch) (D : va_G) (cA : Nat → ClassId) (ad : Nat → Nat → Nat) : sr_Ct l D sr_cl (sr_tys cA) (sr_wd sr_SC cA sr_csC ad) (sr_cy sr_NW sr_ZS sr_KS ad) ad sr_WS ⟨"SuiteRunner", "running", "()Z"⟩ prog_1_method_14_code 1 (some .boolean) { frames := 0, cells := 0, slots := 0, locals := 0 } p_SR_running := by
  refine sr_met (E := e_SR_running) (by decide) sr_WS_good sr_NW_ok sr_hcsC sr_hsepC (sr_htyC cA) (sr_htoC cA) sr_hWC (fun _ _ _ h => h) (sr_hF (List.forall_mem_cons.mpr ⟨fl_0_10, (List.forall_mem_cons.mpr ⟨fl_0_28, (fun _ h => absurd h List.not_mem_nil)⟩)⟩)) (fun _ _ h => nomatch h) (fun _ _ h => nomatch h) (fun _ _ h => nomatch h) (fun _ _ _ _ _ _ h => nomatch h) (fun _ _ _ _ _ _ _ h => nomatch h) rfl dc_SR_running (fun vs μ C res h hC => ?_)
  unfold p_SR_running at h
  split at h
  · cases h
    exact ⟨Nat.le_of_ble_eq_true rfl, a_SR_running μ  hC⟩
  · cases h
set_option maxRecDepth 10000 in
theorem c_MO_in (l : Launch) (D : va_G) (cA : Nat → ClassId) (ad : Nat → Nat → Nat) : sr_Ct l D sr_cl (sr_tys cA) (sr_wd sr_SM cA sr_csM ad) (sr_cy sr_NW sr_ZS sr_KS ad) ad sr_WS ⟨"SuiteRunnerModel", "in", "(III)Z"⟩ prog_12_method_2_code 3 (some .boolean) { frames := 0, cells := 0, slots := 0, locals := 0 } p_MO_in := by
  refine sr_met (E := e_MO_in) (by decide) sr_WS_good sr_NW_ok sr_hcsM sr_hsepM (sr_htyM cA) (sr_htoM cA) sr_hWM (fun _ _ _ h => h) (fun _ _ _ h => nomatch h) (fun _ _ h => nomatch h) (fun _ _ h => nomatch h) (fun _ _ h => nomatch h) (fun _ _ _ _ _ _ h => nomatch h) (fun _ _ _ _ _ _ _ h => nomatch h) rfl dc_MO_in (fun vs μ C res h hC => ?_)
  unfold p_MO_in at h
  split at h
  · cases h
    exact ⟨Nat.le_of_ble_eq_true rfl, a_MO_in μ _ _ _⟩
  · cases h
set_option maxRecDepth 20000 in
theorem fl_10_92 : sr_sF "SuiteRunnerModel" sr_cl sr_WS sr_NW 92 10 0 := ⟨_, _, _, rfl, by decide, rfl, sr_in10, Or.inl (sr_ws 669 rfl rfl)⟩
set_option maxRecDepth 20000 in
theorem ml_10_95 : Cond.methodLink "SuiteRunnerModel" 95 ⟨"SuiteRunnerModel", "in", "(III)Z"⟩ ∈ sr_WS ∨ ∃ host, Cond.methodLinkNest "SuiteRunnerModel" 95 ⟨"SuiteRunnerModel", "in", "(III)Z"⟩ host ∈ sr_NW := Or.inl (sr_ws 796 rfl rfl)
set_option maxRecDepth 20000 in
theorem wc_MO_in : Cond.code ⟨"SuiteRunnerModel", "in", "(III)Z"⟩ prog_12_method_2_code 3 (some .boolean) ∈ sr_WS := sr_ws 798 rfl rfl
set_option maxRecDepth 20000 in
theorem wi_MO_in : Cond.static ⟨"SuiteRunnerModel", "in", "(III)Z"⟩ ∈ sr_WS := sr_ws 797 rfl rfl
theorem wn_MO_in : (parseMethodDescriptor "(III)Z").map (fun d => d.parameters.length) = some 3 := by decide +kernel
set_option maxRecDepth 20000 in
theorem wz_10 : Cond.initialized "SuiteRunnerModel" ∈ sr_WS := sr_ws 50 rfl rfl
set_option maxRecDepth 10000 in
theorem c_MO_isMethod (l : Launch) (D : va_G) (cA : Nat → ClassId) (ad : Nat → Nat → Nat) : sr_Ct l D sr_cl (sr_tys cA) (sr_wd sr_SM cA sr_csM ad) (sr_cy sr_NW sr_ZS sr_KS ad) ad sr_WS ⟨"SuiteRunnerModel", "isMethod", "(I)Z"⟩ prog_12_method_3_code 2 (some .boolean) { frames := 1, cells := 0, slots := 0, locals := 22 } p_MO_isMethod := by
  refine sr_met (E := e_MO_isMethod) (by decide) sr_WS_good sr_NW_ok sr_hcsM sr_hsepM (sr_htyM cA) (sr_htoM cA) sr_hWM (fun _ _ _ h => h) (sr_hF (List.forall_mem_cons.mpr ⟨fl_10_92, (fun _ h => absurd h List.not_mem_nil)⟩)) (fun _ _ h => nomatch h) (fun _ _ h => nomatch h) (fun _ _ h => nomatch h) (sr_hCS (List.forall_mem_cons.mpr ⟨(fun _ => ⟨⟨"SuiteRunnerModel", "in", "(III)Z"⟩, prog_12_method_2_code, 3, (some .boolean), { frames := 0, cells := 0, slots := 0, locals := 0 }, c_MO_in l D cA ad, ⟨rfl, rfl, by decide, by decide⟩, ⟨by decide, by decide, wn_MO_in⟩, wc_MO_in, wi_MO_in, wz_10, ml_10_95⟩), (fun _ h => absurd h List.not_mem_nil)⟩)) (sr_hCV (List.forall_mem_cons.mpr ⟨(fun _ h => nomatch h), (fun _ h => absurd h List.not_mem_nil)⟩)) rfl dc_MO_isMethod (fun vs μ C res h hC => ?_)
  unfold p_MO_isMethod at h
  split at h
  · cases h
    exact ⟨Nat.le_of_ble_eq_true rfl, a_MO_isMethod μ _⟩
  · cases h
set_option maxRecDepth 20000 in
theorem fl_10_17 : sr_sF "SuiteRunnerModel" sr_cl sr_WS sr_NW 17 10 3 := ⟨_, _, _, rfl, by decide, rfl, sr_in10, Or.inl (sr_ws 672 rfl rfl)⟩
set_option maxRecDepth 10000 in
theorem c_MO_is (l : Launch) (D : va_G) (cA : Nat → ClassId) (ad : Nat → Nat → Nat) : sr_Ct l D sr_cl (sr_tys cA) (sr_wd sr_SM cA sr_csM ad) (sr_cy sr_NW sr_ZS sr_KS ad) ad sr_WS ⟨"SuiteRunnerModel", "is", "(II)I"⟩ prog_12_method_4_code 3 (some .int) { frames := 0, cells := 0, slots := 0, locals := 0 } p_MO_is := by
  refine sr_met (E := e_MO_is) (by decide) sr_WS_good sr_NW_ok sr_hcsM sr_hsepM (sr_htyM cA) (sr_htoM cA) sr_hWM (fun _ _ _ h => h) (sr_hF (List.forall_mem_cons.mpr ⟨fl_10_17, (fun _ h => absurd h List.not_mem_nil)⟩)) (fun _ _ h => nomatch h) (fun _ _ h => nomatch h) (fun _ _ h => nomatch h) (fun _ _ _ _ _ _ h => nomatch h) (fun _ _ _ _ _ _ _ h => nomatch h) rfl dc_MO_is (fun vs μ C res h hC => ?_)
  unfold p_MO_is at h
  split at h
  · cases h
    exact ⟨Nat.le_of_ble_eq_true rfl, a_MO_is μ _ _ hC⟩
  · cases h
set_option maxRecDepth 20000 in
theorem fl_10_59 : sr_sF "SuiteRunnerModel" sr_cl sr_WS sr_NW 59 10 26 := ⟨_, _, _, rfl, by decide, rfl, sr_in10, Or.inl (sr_ws 695 rfl rfl)⟩
set_option maxRecDepth 10000 in
theorem c_MO_over (l : Launch) (D : va_G) (cA : Nat → ClassId) (ad : Nat → Nat → Nat) : sr_Ct l D sr_cl (sr_tys cA) (sr_wd sr_SM cA sr_csM ad) (sr_cy sr_NW sr_ZS sr_KS ad) ad sr_WS ⟨"SuiteRunnerModel", "over", "(I)Z"⟩ prog_12_method_30_code 2 (some .boolean) { frames := 0, cells := 0, slots := 0, locals := 0 } p_MO_over := by
  refine sr_met (E := e_MO_over) (by decide) sr_WS_good sr_NW_ok sr_hcsM sr_hsepM (sr_htyM cA) (sr_htoM cA) sr_hWM (fun _ _ _ h => h) (sr_hF (List.forall_mem_cons.mpr ⟨fl_10_59, (fun _ h => absurd h List.not_mem_nil)⟩)) (fun _ _ h => nomatch h) (fun _ _ h => nomatch h) (fun _ _ h => nomatch h) (fun _ _ _ _ _ _ h => nomatch h) (fun _ _ _ _ _ _ _ h => nomatch h) rfl dc_MO_over (fun vs μ C res h hC => ?_)
  unfold p_MO_over at h
  split at h
  · cases h
    exact ⟨Nat.le_of_ble_eq_true rfl, a_MO_over μ _ hC⟩
  · cases h
set_option maxRecDepth 20000 in
theorem fl_10_103 : sr_sF "SuiteRunnerModel" sr_cl sr_WS sr_NW 103 10 23 := ⟨_, _, _, rfl, by decide, rfl, sr_in10, Or.inl (sr_ws 692 rfl rfl)⟩
set_option maxRecDepth 10000 in
theorem c_MO_running (l : Launch) (D : va_G) (cA : Nat → ClassId) (ad : Nat → Nat → Nat) : sr_Ct l D sr_cl (sr_tys cA) (sr_wd sr_SM cA sr_csM ad) (sr_cy sr_NW sr_ZS sr_KS ad) ad sr_WS ⟨"SuiteRunnerModel", "running", "()Z"⟩ prog_12_method_45_code 1 (some .boolean) { frames := 0, cells := 0, slots := 0, locals := 0 } p_MO_running := by
  refine sr_met (E := e_MO_running) (by decide) sr_WS_good sr_NW_ok sr_hcsM sr_hsepM (sr_htyM cA) (sr_htoM cA) sr_hWM (fun _ _ _ h => h) (sr_hF (List.forall_mem_cons.mpr ⟨fl_10_103, (fun _ h => absurd h List.not_mem_nil)⟩)) (fun _ _ h => nomatch h) (fun _ _ h => nomatch h) (fun _ _ h => nomatch h) (fun _ _ _ _ _ _ h => nomatch h) (fun _ _ _ _ _ _ _ h => nomatch h) rfl dc_MO_running (fun vs μ C res h hC => ?_)
  unfold p_MO_running at h
  split at h
  · cases h
    exact ⟨Nat.le_of_ble_eq_true rfl, a_MO_running μ  hC⟩
  · cases h
set_option maxRecDepth 20000 in
theorem fl_10_89 : sr_sF "SuiteRunnerModel" sr_cl sr_WS sr_NW 89 10 39 := ⟨_, _, _, rfl, by decide, rfl, sr_in10, Or.inl (sr_ws 708 rfl rfl)⟩
set_option maxRecDepth 20000 in
theorem fl_10_170 : sr_sF "SuiteRunnerModel" sr_cl sr_WS sr_NW 170 10 38 := ⟨_, _, _, rfl, by decide, rfl, sr_in10, Or.inl (sr_ws 707 rfl rfl)⟩
set_option maxRecDepth 20000 in
theorem fl_10_173 : sr_sF "SuiteRunnerModel" sr_cl sr_WS sr_NW 173 10 25 := ⟨_, _, _, rfl, by decide, rfl, sr_in10, Or.inl (sr_ws 694 rfl rfl)⟩
set_option maxRecDepth 10000 in
theorem c_MO_note (l : Launch) (D : va_G) (cA : Nat → ClassId) (ad : Nat → Nat → Nat) : sr_Ct l D sr_cl (sr_tys cA) (sr_wd sr_SM cA sr_csM ad) (sr_cy sr_NW sr_ZS sr_KS ad) ad sr_WS ⟨"SuiteRunnerModel", "note", "(III)V"⟩ prog_12_method_26_code 4 none { frames := 0, cells := 0, slots := 0, locals := 0 } p_MO_note := by
  refine sr_met (E := e_MO_note) (by decide) sr_WS_good sr_NW_ok sr_hcsM sr_hsepM (sr_htyM cA) (sr_htoM cA) sr_hWM (fun _ _ _ h => h) (sr_hF (List.forall_mem_cons.mpr ⟨fl_10_89, (List.forall_mem_cons.mpr ⟨fl_10_170, (List.forall_mem_cons.mpr ⟨fl_10_173, (fun _ h => absurd h List.not_mem_nil)⟩)⟩)⟩)) (fun _ _ h => nomatch h) (fun _ _ h => nomatch h) (fun _ _ h => nomatch h) (fun _ _ _ _ _ _ h => nomatch h) (fun _ _ _ _ _ _ _ h => nomatch h) rfl dc_MO_note (fun vs μ C res h hC => ?_)
  unfold p_MO_note at h
  split at h
  · cases h
    exact ⟨Nat.le_of_ble_eq_true rfl, a_MO_note μ _ _ _⟩
  · cases h
set_option maxRecDepth 20000 in
theorem fl_10_45 : sr_sF "SuiteRunnerModel" sr_cl sr_WS sr_NW 45 10 13 := ⟨_, _, _, rfl, by decide, rfl, sr_in10, Or.inl (sr_ws 682 rfl rfl)⟩
set_option maxRecDepth 20000 in
theorem fl_10_48 : sr_sF "SuiteRunnerModel" sr_cl sr_WS sr_NW 48 10 14 := ⟨_, _, _, rfl, by decide, rfl, sr_in10, Or.inl (sr_ws 683 rfl rfl)⟩
set_option maxRecDepth 20000 in
theorem fl_10_121 : sr_sF "SuiteRunnerModel" sr_cl sr_WS sr_NW 121 10 15 := ⟨_, _, _, rfl, by decide, rfl, sr_in10, Or.inl (sr_ws 684 rfl rfl)⟩
set_option maxRecDepth 20000 in
theorem fl_10_124 : sr_sF "SuiteRunnerModel" sr_cl sr_WS sr_NW 124 10 16 := ⟨_, _, _, rfl, by decide, rfl, sr_in10, Or.inl (sr_ws 685 rfl rfl)⟩
set_option maxRecDepth 20000 in
theorem fl_10_127 : sr_sF "SuiteRunnerModel" sr_cl sr_WS sr_NW 127 10 17 := ⟨_, _, _, rfl, by decide, rfl, sr_in10, Or.inl (sr_ws 686 rfl rfl)⟩
set_option maxRecDepth 10000 in
theorem c_MO_select (l : Launch) (D : va_G) (cA : Nat → ClassId) (ad : Nat → Nat → Nat) : sr_Ct l D sr_cl (sr_tys cA) (sr_wd sr_SM cA sr_csM ad) (sr_cy sr_NW sr_ZS sr_KS ad) ad sr_WS ⟨"SuiteRunnerModel", "select", "(III)Z"⟩ prog_12_method_14_code 4 (some .boolean) { frames := 0, cells := 0, slots := 0, locals := 0 } p_MO_select := by
  refine sr_met (E := e_MO_select) (by decide) sr_WS_good sr_NW_ok sr_hcsM sr_hsepM (sr_htyM cA) (sr_htoM cA) sr_hWM (fun _ _ _ h => h) (sr_hF (List.forall_mem_cons.mpr ⟨fl_10_45, (List.forall_mem_cons.mpr ⟨fl_10_48, (List.forall_mem_cons.mpr ⟨fl_10_103, (List.forall_mem_cons.mpr ⟨fl_10_121, (List.forall_mem_cons.mpr ⟨fl_10_124, (List.forall_mem_cons.mpr ⟨fl_10_127, (fun _ h => absurd h List.not_mem_nil)⟩)⟩)⟩)⟩)⟩)⟩)) (fun _ _ h => nomatch h) (fun _ _ h => nomatch h) (fun _ _ h => nomatch h) (fun _ _ _ _ _ _ h => nomatch h) (fun _ _ _ _ _ _ _ h => nomatch h) rfl dc_MO_select (fun vs μ C res h hC => ?_)
  unfold p_MO_select at h
  split at h
  · cases h
    exact ⟨Nat.le_of_ble_eq_true rfl, a_MO_select μ _ _ _⟩
  · cases h
set_option maxRecDepth 20000 in
theorem fl_2_11 : sr_sF "SuiteRunner$Catalog" sr_cl sr_WS sr_NW 11 2 0 := ⟨_, _, _, rfl, by decide, rfl, sr_in2, Or.inl (sr_ws 142 rfl rfl)⟩
set_option maxRecDepth 20000 in
theorem fl_2_40 : sr_sF "SuiteRunner$Catalog" sr_cl sr_WS sr_NW 40 3 0 := ⟨_, _, _, rfl, by decide, rfl, sr_in3, Or.inl (sr_ws 90 rfl rfl)⟩
set_option maxRecDepth 10000 in
theorem c_CT_methodsOf (l : Launch) (D : va_G) (cA : Nat → ClassId) (ad : Nat → Nat → Nat) : sr_Ct l D sr_cl (sr_tys cA) (sr_wd sr_SC cA sr_csC ad) (sr_cy sr_NW sr_ZS sr_KS ad) ad sr_WS ⟨"SuiteRunner$Catalog", "methodsOf", "(I)I"⟩ prog_2_method_6_code 4 (some .int) { frames := 0, cells := 0, slots := 0, locals := 0 } p_CT_methodsOf := by
  refine sr_met (E := e_CT_methodsOf) (by decide) sr_WS_good sr_NW_ok sr_hcsC sr_hsepC (sr_htyC cA) (sr_htoC cA) sr_hWC (fun _ _ _ h => h) (sr_hF (List.forall_mem_cons.mpr ⟨fl_2_11, (List.forall_mem_cons.mpr ⟨fl_2_32, (List.forall_mem_cons.mpr ⟨fl_2_40, (fun _ h => absurd h List.not_mem_nil)⟩)⟩)⟩)) (fun _ _ h => nomatch h) (fun _ _ h => nomatch h) (fun _ _ h => nomatch h) (fun _ _ _ _ _ _ h => nomatch h) (fun _ _ _ _ _ _ _ h => nomatch h) rfl dc_CT_methodsOf (fun vs μ C res h hC => ?_)
  unfold p_CT_methodsOf at h
  split at h
  · cases h
    exact ⟨Nat.le_of_ble_eq_true rfl, a_CT_methodsOf μ _ hC⟩
  · cases h
set_option maxRecDepth 20000 in
theorem fl_2_61 : sr_sF "SuiteRunner$Catalog" sr_cl sr_WS sr_NW 61 3 2 := ⟨_, _, _, rfl, by decide, rfl, sr_in3, Or.inl (sr_ws 98 rfl rfl)⟩
set_option maxRecDepth 20000 in
theorem fl_2_64 : sr_sF "SuiteRunner$Catalog" sr_cl sr_WS sr_NW 64 3 3 := ⟨_, _, _, rfl, by decide, rfl, sr_in3, Or.inl (sr_ws 101 rfl rfl)⟩
set_option maxRecDepth 20000 in
theorem fl_2_67 : sr_sF "SuiteRunner$Catalog" sr_cl sr_WS sr_NW 67 3 4 := ⟨_, _, _, rfl, by decide, rfl, sr_in3, Or.inl (sr_ws 103 rfl rfl)⟩
set_option maxRecDepth 10000 in
theorem c_CT_needsWithin (l : Launch) (D : va_G) (cA : Nat → ClassId) (ad : Nat → Nat → Nat) : sr_Ct l D sr_cl (sr_tys cA) (sr_wd sr_SC cA sr_csC ad) (sr_cy sr_NW sr_ZS sr_KS ad) ad sr_WS ⟨"SuiteRunner$Catalog", "needsWithin", "(II)I"⟩ prog_2_method_7_code 6 (some .int) { frames := 0, cells := 0, slots := 0, locals := 0 } p_CT_needsWithin := by
  refine sr_met (E := e_CT_needsWithin) (by decide) sr_WS_good sr_NW_ok sr_hcsC sr_hsepC (sr_htyC cA) (sr_htoC cA) sr_hWC (fun _ _ _ h => h) (sr_hF (List.forall_mem_cons.mpr ⟨fl_2_11, (List.forall_mem_cons.mpr ⟨fl_2_32, (List.forall_mem_cons.mpr ⟨fl_2_61, (List.forall_mem_cons.mpr ⟨fl_2_64, (List.forall_mem_cons.mpr ⟨fl_2_67, (fun _ h => absurd h List.not_mem_nil)⟩)⟩)⟩)⟩)⟩)) (fun _ _ h => nomatch h) (fun _ _ h => nomatch h) (fun _ _ h => nomatch h) (fun _ _ _ _ _ _ h => nomatch h) (fun _ _ _ _ _ _ _ h => nomatch h) rfl dc_CT_needsWithin (fun vs μ C res h hC => ?_)
  unfold p_CT_needsWithin at h
  split at h
  · cases h
    exact ⟨Nat.le_of_ble_eq_true rfl, a_CT_needsWithin μ _ _ hC⟩
  · cases h
set_option maxRecDepth 20000 in
theorem ml_2_70 : Cond.methodLink "SuiteRunner$Catalog" 70 ⟨"SuiteRunner", "holds", "(II)Z"⟩ ∈ sr_WS ∨ ∃ host, Cond.methodLinkNest "SuiteRunner$Catalog" 70 ⟨"SuiteRunner", "holds", "(II)Z"⟩ host ∈ sr_NW := Or.inr ⟨"SuiteRunner", sr_nw 476 rfl rfl⟩
set_option maxRecDepth 20000 in
theorem wc_SR_holds : Cond.code ⟨"SuiteRunner", "holds", "(II)Z"⟩ prog_1_method_23_code 2 (some .boolean) ∈ sr_WS := sr_ws 400 rfl rfl
set_option maxRecDepth 20000 in
theorem wi_SR_holds : Cond.static ⟨"SuiteRunner", "holds", "(II)Z"⟩ ∈ sr_WS := sr_ws 399 rfl rfl
theorem wn_SR_holds : (parseMethodDescriptor "(II)Z").map (fun d => d.parameters.length) = some 2 := by decide +kernel
set_option maxRecDepth 10000 in
theorem c_CT_hasDanglingNeed (l : Launch) (D : va_G) (cA : Nat → ClassId) (ad : Nat → Nat → Nat) : sr_Ct l D sr_cl (sr_tys cA) (sr_wd sr_SC cA sr_csC ad) (sr_cy sr_NW sr_ZS sr_KS ad) ad sr_WS ⟨"SuiteRunner$Catalog", "hasDanglingNeed", "(I)Z"⟩ prog_2_method_8_code 6 (some .boolean) { frames := 1, cells := 0, slots := 0, locals := 21 } p_CT_hasDanglingNeed := by
  refine sr_met (E := e_CT_hasDanglingNeed) (by decide) sr_WS_good sr_NW_ok sr_hcsC sr_hsepC (sr_htyC cA) (sr_htoC cA) sr_hWC (fun _ _ _ h => h) (sr_hF (List.forall_mem_cons.mpr ⟨fl_2_11, (List.forall_mem_cons.mpr ⟨fl_2_32, (List.forall_mem_cons.mpr ⟨fl_2_61, (List.forall_mem_cons.mpr ⟨fl_2_64, (List.forall_mem_cons.mpr ⟨fl_2_67, (fun _ h => absurd h List.not_mem_nil)⟩)⟩)⟩)⟩)⟩)) (fun _ _ h => nomatch h) (fun _ _ h => nomatch h) (fun _ _ h => nomatch h) (sr_hCS (List.forall_mem_cons.mpr ⟨(fun _ => ⟨⟨"SuiteRunner", "holds", "(II)Z"⟩, prog_1_method_23_code, 2, (some .boolean), { frames := 0, cells := 0, slots := 0, locals := 0 }, c_SR_holds l D cA ad, ⟨rfl, rfl, by decide, by decide⟩, ⟨by decide, by decide, wn_SR_holds⟩, wc_SR_holds, wi_SR_holds, wz_0, ml_2_70⟩), (fun _ h => absurd h List.not_mem_nil)⟩)) (sr_hCV (List.forall_mem_cons.mpr ⟨(fun _ h => nomatch h), (fun _ h => absurd h List.not_mem_nil)⟩)) rfl dc_CT_hasDanglingNeed (fun vs μ C res h hC => ?_)
  unfold p_CT_hasDanglingNeed at h
  split at h
  · cases h
    exact ⟨Nat.le_of_ble_eq_true rfl, a_CT_hasDanglingNeed μ _ hC⟩
  · cases h
set_option maxRecDepth 20000 in
theorem fl_2_19 : sr_sF "SuiteRunner$Catalog" sr_cl sr_WS sr_NW 19 2 2 := ⟨_, _, _, rfl, by decide, rfl, sr_in2, Or.inl (sr_ws 148 rfl rfl)⟩
set_option maxRecDepth 20000 in
theorem fl_2_47 : sr_sF "SuiteRunner$Catalog" sr_cl sr_WS sr_NW 47 2 3 := ⟨_, _, _, rfl, by decide, rfl, sr_in2, Or.inl (sr_ws 150 rfl rfl)⟩
set_option maxRecDepth 20000 in
theorem fl_2_81 : sr_sF "SuiteRunner$Catalog" sr_cl sr_WS sr_NW 81 4 4 := ⟨_, _, _, rfl, by decide, rfl, sr_in4, Or.inl (sr_ws 130 rfl rfl)⟩
set_option maxRecDepth 10000 in
theorem c_CT_forgetRuns (l : Launch) (D : va_G) (cA : Nat → ClassId) (ad : Nat → Nat → Nat) : sr_Ct l D sr_cl (sr_tys cA) (sr_wd sr_SC cA sr_csC ad) (sr_cy sr_NW sr_ZS sr_KS ad) ad sr_WS ⟨"SuiteRunner$Catalog", "forgetRuns", "()V"⟩ prog_2_method_12_code 2 none { frames := 0, cells := 0, slots := 0, locals := 0 } p_CT_forgetRuns := by
  refine sr_met (E := e_CT_forgetRuns) (by decide) sr_WS_good sr_NW_ok sr_hcsC sr_hsepC (sr_htyC cA) (sr_htoC cA) sr_hWC (fun _ _ _ h => h) (sr_hF (List.forall_mem_cons.mpr ⟨fl_2_19, (List.forall_mem_cons.mpr ⟨fl_2_47, (List.forall_mem_cons.mpr ⟨fl_2_81, (fun _ h => absurd h List.not_mem_nil)⟩)⟩)⟩)) (fun _ _ h => nomatch h) (fun _ _ h => nomatch h) (fun _ _ h => nomatch h) (fun _ _ _ _ _ _ h => nomatch h) (fun _ _ _ _ _ _ _ h => nomatch h) rfl dc_CT_forgetRuns (fun vs μ C res h hC => ?_)
  unfold p_CT_forgetRuns at h
  split at h
  · cases h
    exact ⟨Nat.le_of_ble_eq_true rfl, a_CT_forgetRuns μ  hC⟩
  · cases h
set_option maxRecDepth 20000 in
theorem fl_2_43 : sr_sF "SuiteRunner$Catalog" sr_cl sr_WS sr_NW 43 3 1 := ⟨_, _, _, rfl, by decide, rfl, sr_in3, Or.inl (sr_ws 92 rfl rfl)⟩
set_option maxRecDepth 10000 in
theorem c_CT_addMethod (l : Launch) (D : va_G) (cA : Nat → ClassId) (ad : Nat → Nat → Nat) : sr_Ct l D sr_cl (sr_tys cA) (sr_wd sr_SC cA sr_csC ad) (sr_cy sr_NW sr_ZS sr_KS ad) ad sr_WS ⟨"SuiteRunner$Catalog", "addMethod", "(IJ)I"⟩ prog_2_method_3_code 5 (some .int) { frames := 0, cells := 0, slots := 0, locals := 0 } p_CT_addMethod := by
  refine sr_met (E := e_CT_addMethod) (by decide) sr_WS_good sr_NW_ok sr_hcsC sr_hsepC (sr_htyC cA) (sr_htoC cA) sr_hWC (fun _ _ _ h => h) (sr_hF (List.forall_mem_cons.mpr ⟨fl_2_11, (List.forall_mem_cons.mpr ⟨fl_2_32, (List.forall_mem_cons.mpr ⟨fl_2_40, (List.forall_mem_cons.mpr ⟨fl_2_43, (fun _ h => absurd h List.not_mem_nil)⟩)⟩)⟩)⟩)) (fun _ _ h => nomatch h) (fun _ _ h => nomatch h) (fun _ _ h => nomatch h) (fun _ _ _ _ _ _ h => nomatch h) (fun _ _ _ _ _ _ _ h => nomatch h) rfl dc_CT_addMethod (fun vs μ C res h hC => ?_)
  unfold p_CT_addMethod at h
  split at h
  · cases h
    exact ⟨Nat.le_of_ble_eq_true rfl, a_CT_addMethod μ _ _ hC⟩
  · cases h
set_option maxRecDepth 20000 in
theorem fl_2_50 : sr_sF "SuiteRunner$Catalog" sr_cl sr_WS sr_NW 50 4 0 := ⟨_, _, _, rfl, by decide, rfl, sr_in4, Or.inl (sr_ws 122 rfl rfl)⟩
set_option maxRecDepth 20000 in
theorem fl_2_53 : sr_sF "SuiteRunner$Catalog" sr_cl sr_WS sr_NW 53 4 1 := ⟨_, _, _, rfl, by decide, rfl, sr_in4, Or.inl (sr_ws 124 rfl rfl)⟩
set_option maxRecDepth 20000 in
theorem fl_2_57 : sr_sF "SuiteRunner$Catalog" sr_cl sr_WS sr_NW 57 4 2 := ⟨_, _, _, rfl, by decide, rfl, sr_in4, Or.inl (sr_ws 126 rfl rfl)⟩
set_option maxRecDepth 20000 in
theorem fl_2_58 : sr_sF "SuiteRunner$Catalog" sr_cl sr_WS sr_NW 58 4 3 := ⟨_, _, _, rfl, by decide, rfl, sr_in4, Or.inl (sr_ws 128 rfl rfl)⟩
set_option maxRecDepth 10000 in
theorem c_CT_addConfiguration (l : Launch) (D : va_G) (cA : Nat → ClassId) (ad : Nat → Nat → Nat) : sr_Ct l D sr_cl (sr_tys cA) (sr_wd sr_SC cA sr_csC ad) (sr_cy sr_NW sr_ZS sr_KS ad) ad sr_WS ⟨"SuiteRunner$Catalog", "addConfiguration", "(IZII)I"⟩ prog_2_method_4_code 6 (some .int) { frames := 0, cells := 0, slots := 0, locals := 0 } p_CT_addConfiguration := by
  refine sr_met (E := e_CT_addConfiguration) (by decide) sr_WS_good sr_NW_ok sr_hcsC sr_hsepC (sr_htyC cA) (sr_htoC cA) sr_hWC (fun _ _ _ h => h) (sr_hF (List.forall_mem_cons.mpr ⟨fl_2_19, (List.forall_mem_cons.mpr ⟨fl_2_47, (List.forall_mem_cons.mpr ⟨fl_2_50, (List.forall_mem_cons.mpr ⟨fl_2_53, (List.forall_mem_cons.mpr ⟨fl_2_57, (List.forall_mem_cons.mpr ⟨fl_2_58, (fun _ h => absurd h List.not_mem_nil)⟩)⟩)⟩)⟩)⟩)⟩)) (fun _ _ h => nomatch h) (fun _ _ h => nomatch h) (fun _ _ h => nomatch h) (fun _ _ _ _ _ _ h => nomatch h) (fun _ _ _ _ _ _ _ h => nomatch h) rfl dc_CT_addConfiguration (fun vs μ C res h hC => ?_)
  unfold p_CT_addConfiguration at h
  split at h
  · cases h
    exact ⟨Nat.le_of_ble_eq_true rfl, a_CT_addConfiguration μ _ _ _ _ hC⟩
  · cases h
set_option maxRecDepth 20000 in
theorem fl_2_23 : sr_sF "SuiteRunner$Catalog" sr_cl sr_WS sr_NW 23 2 4 := ⟨_, _, _, rfl, by decide, rfl, sr_in2, Or.inl (sr_ws 152 rfl rfl)⟩
set_option maxRecDepth 10000 in
theorem c_CT_rowsFor (l : Launch) (D : va_G) (cA : Nat → ClassId) (ad : Nat → Nat → Nat) : sr_Ct l D sr_cl (sr_tys cA) (sr_wd sr_SC cA sr_csC ad) (sr_cy sr_NW sr_ZS sr_KS ad) ad sr_WS ⟨"SuiteRunner$Catalog", "rowsFor", "(LSuiteRunner$TestMethod;)I"⟩ prog_2_method_5_code 3 (some .int) { frames := 1, cells := 0, slots := 0, locals := 21 } p_CT_rowsFor := by
  refine sr_met (E := e_CT_rowsFor) (by decide) sr_WS_good sr_NW_ok sr_hcsC sr_hsepC (sr_htyC cA) (sr_htoC cA) sr_hWC (fun _ _ _ h => h) (sr_hF (List.forall_mem_cons.mpr ⟨fl_2_23, (List.forall_mem_cons.mpr ⟨fl_2_61, (fun _ h => absurd h List.not_mem_nil)⟩)⟩)) (fun _ _ h => nomatch h) (fun _ _ h => nomatch h) (fun _ _ h => nomatch h) (sr_hCS (List.forall_mem_cons.mpr ⟨(fun _ => ⟨⟨"SuiteRunner", "isWithin", "(II)Z"⟩, prog_1_method_22_code, 2, (some .boolean), { frames := 0, cells := 0, slots := 0, locals := 0 }, c_SR_isWithin l D cA ad, ⟨rfl, rfl, by decide, by decide⟩, ⟨by decide, by decide, wn_SR_isWithin⟩, wc_SR_isWithin, wi_SR_isWithin, wz_0, ml_2_36⟩), (fun _ h => absurd h List.not_mem_nil)⟩)) (sr_hCV (List.forall_mem_cons.mpr ⟨(fun _ h => nomatch h), (fun _ h => absurd h List.not_mem_nil)⟩)) rfl dc_CT_rowsFor (fun vs μ C res h hC => ?_)
  unfold p_CT_rowsFor at h
  split at h
  · cases h
    exact ⟨Nat.le_of_ble_eq_true rfl, a_CT_rowsFor μ _ hC⟩
  · cases h
set_option maxRecDepth 20000 in
theorem ml_3_33 : Cond.methodLink "SuiteRunner$TestMethod" 33 ⟨"SuiteRunner$TestMethod", "letterAt", "(JI)I"⟩ ∈ sr_WS ∨ ∃ host, Cond.methodLinkNest "SuiteRunner$TestMethod" 33 ⟨"SuiteRunner$TestMethod", "letterAt", "(JI)I"⟩ host ∈ sr_NW := Or.inl (sr_ws 370 rfl rfl)
set_option maxRecDepth 20000 in
theorem wc_TM_letterAt : Cond.code ⟨"SuiteRunner$TestMethod", "letterAt", "(JI)I"⟩ prog_10_method_3_code 3 (some .int) ∈ sr_WS := sr_ws 372 rfl rfl
set_option maxRecDepth 20000 in
theorem wi_TM_letterAt : Cond.static ⟨"SuiteRunner$TestMethod", "letterAt", "(JI)I"⟩ ∈ sr_WS := sr_ws 371 rfl rfl
theorem wn_TM_letterAt : (parseMethodDescriptor "(JI)I").map (fun d => d.parameters.length) = some 2 := by decide +kernel
set_option maxRecDepth 20000 in
theorem wz_3 : Cond.initialized "SuiteRunner$TestMethod" ∈ sr_WS := sr_ws 43 rfl rfl
set_option maxRecDepth 10000 in
theorem c_TM_lengthOf (l : Launch) (D : va_G) (cA : Nat → ClassId) (ad : Nat → Nat → Nat) : sr_Ct l D sr_cl (sr_tys cA) (sr_wd sr_SC cA sr_csC ad) (sr_cy sr_NW sr_ZS sr_KS ad) ad sr_WS ⟨"SuiteRunner$TestMethod", "lengthOf", "(J)I"⟩ prog_10_method_4_code 3 (some .int) { frames := 1, cells := 0, slots := 0, locals := 22 } p_TM_lengthOf := by
  refine sr_met (E := e_TM_lengthOf) (by decide) sr_WS_good sr_NW_ok sr_hcsC sr_hsepC (sr_htyC cA) (sr_htoC cA) sr_hWC (fun _ _ _ h => h) (fun _ _ _ h => nomatch h) (fun _ _ h => nomatch h) (fun _ _ h => nomatch h) (fun _ _ h => nomatch h) (sr_hCS (List.forall_mem_cons.mpr ⟨(fun _ => ⟨⟨"SuiteRunner$TestMethod", "letterAt", "(JI)I"⟩, prog_10_method_3_code, 3, (some .int), { frames := 0, cells := 0, slots := 0, locals := 0 }, c_TM_letterAt l D cA ad, ⟨rfl, rfl, by decide, by decide⟩, ⟨by decide, by decide, wn_TM_letterAt⟩, wc_TM_letterAt, wi_TM_letterAt, wz_3, ml_3_33⟩), (fun _ h => absurd h List.not_mem_nil)⟩)) (sr_hCV (List.forall_mem_cons.mpr ⟨(fun _ h => nomatch h), (fun _ h => absurd h List.not_mem_nil)⟩)) rfl dc_TM_lengthOf (fun vs μ C res h hC => ?_)
  unfold p_TM_lengthOf at h
  split at h
  · cases h
    exact ⟨Nat.le_of_ble_eq_true rfl, a_TM_lengthOf μ _⟩
  · cases h
set_option maxRecDepth 10000 in
theorem c_TM_compareNames (l : Launch) (D : va_G) (cA : Nat → ClassId) (ad : Nat → Nat → Nat) : sr_Ct l D sr_cl (sr_tys cA) (sr_wd sr_SC cA sr_csC ad) (sr_cy sr_NW sr_ZS sr_KS ad) ad sr_WS ⟨"SuiteRunner$TestMethod", "compareNames", "(JJ)I"⟩ prog_10_method_6_code 6 (some .int) { frames := 1, cells := 0, slots := 0, locals := 22 } p_TM_compareNames := by
  refine sr_met (E := e_TM_compareNames) (by decide) sr_WS_good sr_NW_ok sr_hcsC sr_hsepC (sr_htyC cA) (sr_htoC cA) sr_hWC (fun _ _ _ h => h) (fun _ _ _ h => nomatch h) (fun _ _ h => nomatch h) (fun _ _ h => nomatch h) (fun _ _ h => nomatch h) (sr_hCS (List.forall_mem_cons.mpr ⟨(fun _ => ⟨⟨"SuiteRunner$TestMethod", "letterAt", "(JI)I"⟩, prog_10_method_3_code, 3, (some .int), { frames := 0, cells := 0, slots := 0, locals := 0 }, c_TM_letterAt l D cA ad, ⟨rfl, rfl, by decide, by decide⟩, ⟨by decide, by decide, wn_TM_letterAt⟩, wc_TM_letterAt, wi_TM_letterAt, wz_3, ml_3_33⟩), (fun _ h => absurd h List.not_mem_nil)⟩)) (sr_hCV (List.forall_mem_cons.mpr ⟨(fun _ h => nomatch h), (fun _ h => absurd h List.not_mem_nil)⟩)) rfl dc_TM_compareNames (fun vs μ C res h hC => ?_)
  unfold p_TM_compareNames at h
  split at h
  · cases h
    exact ⟨Nat.le_of_ble_eq_true rfl, a_TM_compareNames μ _ _⟩
  · cases h
set_option maxRecDepth 20000 in
theorem ml_3_37 : Cond.methodLink "SuiteRunner$TestMethod" 37 ⟨"SuiteRunner$TestMethod", "lengthOf", "(J)I"⟩ ∈ sr_WS ∨ ∃ host, Cond.methodLinkNest "SuiteRunner$TestMethod" 37 ⟨"SuiteRunner$TestMethod", "lengthOf", "(J)I"⟩ host ∈ sr_NW := Or.inl (sr_ws 367 rfl rfl)
set_option maxRecDepth 20000 in
theorem wc_TM_lengthOf : Cond.code ⟨"SuiteRunner$TestMethod", "lengthOf", "(J)I"⟩ prog_10_method_4_code 3 (some .int) ∈ sr_WS := sr_ws 369 rfl rfl
set_option maxRecDepth 20000 in
theorem wi_TM_lengthOf : Cond.static ⟨"SuiteRunner$TestMethod", "lengthOf", "(J)I"⟩ ∈ sr_WS := sr_ws 368 rfl rfl
theorem wn_TM_lengthOf : (parseMethodDescriptor "(J)I").map (fun d => d.parameters.length) = some 1 := by decide +kernel
set_option maxRecDepth 10000 in
theorem c_TM_isName (l : Launch) (D : va_G) (cA : Nat → ClassId) (ad : Nat → Nat → Nat) : sr_Ct l D sr_cl (sr_tys cA) (sr_wd sr_SC cA sr_csC ad) (sr_cy sr_NW sr_ZS sr_KS ad) ad sr_WS ⟨"SuiteRunner$TestMethod", "isName", "(J)Z"⟩ prog_10_method_5_code 4 (some .boolean) { frames := 2, cells := 0, slots := 0, locals := 44 } p_TM_isName := by
  refine sr_met (E := e_TM_isName) (by decide) sr_WS_good sr_NW_ok sr_hcsC sr_hsepC (sr_htyC cA) (sr_htoC cA) sr_hWC (fun _ _ _ h => h) (fun _ _ _ h => nomatch h) (fun _ _ h => nomatch h) (fun _ _ h => nomatch h) (fun _ _ h => nomatch h) (sr_hCS (List.forall_mem_cons.mpr ⟨(fun _ => ⟨⟨"SuiteRunner$TestMethod", "letterAt", "(JI)I"⟩, prog_10_method_3_code, 3, (some .int), { frames := 0, cells := 0, slots := 0, locals := 0 }, c_TM_letterAt l D cA ad, ⟨rfl, rfl, by decide, by decide⟩, ⟨by decide, by decide, wn_TM_letterAt⟩, wc_TM_letterAt, wi_TM_letterAt, wz_3, ml_3_33⟩), (List.forall_mem_cons.mpr ⟨(fun _ => ⟨⟨"SuiteRunner$TestMethod", "lengthOf", "(J)I"⟩, prog_10_method_4_code, 3, (some .int), { frames := 1, cells := 0, slots := 0, locals := 22 }, c_TM_lengthOf l D cA ad, ⟨rfl, rfl, by decide, by decide⟩, ⟨by decide, by decide, wn_TM_lengthOf⟩, wc_TM_lengthOf, wi_TM_lengthOf, wz_3, ml_3_37⟩), (fun _ h => absurd h List.not_mem_nil)⟩)⟩)) (sr_hCV (List.forall_mem_cons.mpr ⟨(fun _ h => nomatch h), (List.forall_mem_cons.mpr ⟨(fun _ h => nomatch h), (fun _ h => absurd h List.not_mem_nil)⟩)⟩)) rfl dc_TM_isName (fun vs μ C res h hC => ?_)
  unfold p_TM_isName at h
  split at h
  · cases h
    exact ⟨Nat.le_of_ble_eq_true rfl, a_TM_isName μ _⟩
  · cases h
set_option maxRecDepth 20000 in
theorem fl_3_20 : sr_sF "SuiteRunner$TestMethod" sr_cl sr_WS sr_NW 20 3 2 := ⟨_, _, _, rfl, by decide, rfl, sr_in3, Or.inl (sr_ws 95 rfl rfl)⟩
set_option maxRecDepth 20000 in
theorem fl_3_41 : sr_sF "SuiteRunner$TestMethod" sr_cl sr_WS sr_NW 41 3 1 := ⟨_, _, _, rfl, by decide, rfl, sr_in3, Or.inl (sr_ws 94 rfl rfl)⟩
set_option maxRecDepth 20000 in
theorem ml_3_45 : Cond.methodLink "SuiteRunner$TestMethod" 45 ⟨"SuiteRunner$TestMethod", "compareNames", "(JJ)I"⟩ ∈ sr_WS ∨ ∃ host, Cond.methodLinkNest "SuiteRunner$TestMethod" 45 ⟨"SuiteRunner$TestMethod", "compareNames", "(JJ)I"⟩ host ∈ sr_NW := Or.inl (sr_ws 598 rfl rfl)
set_option maxRecDepth 20000 in
theorem wc_TM_compareNames : Cond.code ⟨"SuiteRunner$TestMethod", "compareNames", "(JJ)I"⟩ prog_10_method_6_code 6 (some .int) ∈ sr_WS := sr_ws 600 rfl rfl
set_option maxRecDepth 20000 in
theorem wi_TM_compareNames : Cond.static ⟨"SuiteRunner$TestMethod", "compareNames", "(JJ)I"⟩ ∈ sr_WS := sr_ws 599 rfl rfl
theorem wn_TM_compareNames : (parseMethodDescriptor "(JJ)I").map (fun d => d.parameters.length) = some 2 := by decide +kernel
set_option maxRecDepth 10000 in
theorem c_TM_comesBefore (l : Launch) (D : va_G) (cA : Nat → ClassId) (ad : Nat → Nat → Nat) : sr_Ct l D sr_cl (sr_tys cA) (sr_wd sr_SC cA sr_csC ad) (sr_cy sr_NW sr_ZS sr_KS ad) ad sr_WS ⟨"SuiteRunner$TestMethod", "comesBefore", "(LSuiteRunner$TestMethod;)Z"⟩ prog_10_method_7_code 3 (some .boolean) { frames := 2, cells := 0, slots := 0, locals := 47 } p_TM_comesBefore := by
  refine sr_met (E := e_TM_comesBefore) (by decide) sr_WS_good sr_NW_ok sr_hcsC sr_hsepC (sr_htyC cA) (sr_htoC cA) sr_hWC (fun _ _ _ h => h) (sr_hF (List.forall_mem_cons.mpr ⟨fl_3_20, (List.forall_mem_cons.mpr ⟨fl_3_41, (fun _ h => absurd h List.not_mem_nil)⟩)⟩)) (fun _ _ h => nomatch h) (fun _ _ h => nomatch h) (fun _ _ h => nomatch h) (sr_hCS (List.forall_mem_cons.mpr ⟨(fun _ => ⟨⟨"SuiteRunner$TestMethod", "compareNames", "(JJ)I"⟩, prog_10_method_6_code, 6, (some .int), { frames := 1, cells := 0, slots := 0, locals := 22 }, c_TM_compareNames l D cA ad, ⟨rfl, rfl, by decide, by decide⟩, ⟨by decide, by decide, wn_TM_compareNames⟩, wc_TM_compareNames, wi_TM_compareNames, wz_3, ml_3_45⟩), (fun _ h => absurd h List.not_mem_nil)⟩)) (sr_hCV (List.forall_mem_cons.mpr ⟨(fun _ h => nomatch h), (fun _ h => absurd h List.not_mem_nil)⟩)) rfl dc_TM_comesBefore (fun vs μ C res h hC => ?_)
  unfold p_TM_comesBefore at h
  split at h
  · cases h
    exact ⟨Nat.le_of_ble_eq_true rfl, a_TM_comesBefore μ _ _ hC⟩
  · cases h
set_option maxRecDepth 10000 in
theorem c_TM_resultOf (l : Launch) (D : va_G) (cA : Nat → ClassId) (ad : Nat → Nat → Nat) : sr_Ct l D sr_cl (sr_tys cA) (sr_wd sr_SC cA sr_csC ad) (sr_cy sr_NW sr_ZS sr_KS ad) ad sr_WS ⟨"SuiteRunner$TestMethod", "resultOf", "(I)I"⟩ prog_10_method_8_code 6 (some .int) { frames := 0, cells := 0, slots := 0, locals := 0 } p_TM_resultOf := by
  refine sr_met (E := e_TM_resultOf) (by decide) sr_WS_good sr_NW_ok sr_hcsC sr_hsepC (sr_htyC cA) (sr_htoC cA) sr_hWC (fun _ _ _ h => h) (sr_hF (List.forall_mem_cons.mpr ⟨fl_3_20, (fun _ h => absurd h List.not_mem_nil)⟩)) (fun _ _ h => nomatch h) (fun _ _ h => nomatch h) (fun _ _ h => nomatch h) (fun _ _ _ _ _ _ h => nomatch h) (fun _ _ _ _ _ _ _ h => nomatch h) rfl dc_TM_resultOf (fun vs μ C res h hC => ?_)
  unfold p_TM_resultOf at h
  split at h
  · cases h
    exact ⟨Nat.le_of_ble_eq_true rfl, a_TM_resultOf μ _ _ hC⟩
  · cases h
set_option maxRecDepth 20000 in
theorem fl_9_9 : sr_sF "SuiteRunner$Pattern" sr_cl sr_WS sr_NW 9 9 0 := ⟨_, _, _, rfl, by decide, rfl, sr_in9, Or.inl (sr_ws 317 rfl rfl)⟩
set_option maxRecDepth 10000 in
theorem c_PT_fits (l : Launch) (D : va_G) (cA : Nat → ClassId) (ad : Nat → Nat → Nat) : sr_Ct l D sr_cl (sr_tys cA) (sr_wd sr_SC cA sr_csC ad) (sr_cy sr_NW sr_ZS sr_KS ad) ad sr_WS ⟨"SuiteRunner$Pattern", "fits", "(C)Z"⟩ prog_6_method_5_code 2 (some .boolean) { frames := 0, cells := 0, slots := 0, locals := 0 } p_PT_fits := by
  refine sr_met (E := e_PT_fits) (by decide) sr_WS_good sr_NW_ok sr_hcsC sr_hsepC (sr_htyC cA) (sr_htoC cA) sr_hWC (fun _ _ _ h => h) (sr_hF (List.forall_mem_cons.mpr ⟨fl_9_9, (List.forall_mem_cons.mpr ⟨fl_9_13, (fun _ h => absurd h List.not_mem_nil)⟩)⟩)) (fun _ _ h => nomatch h) (fun _ _ h => nomatch h) (fun _ _ h => nomatch h) (fun _ _ _ _ _ _ h => nomatch h) (fun _ _ _ _ _ _ _ h => nomatch h) rfl dc_PT_fits (fun vs μ C res h hC => ?_)
  unfold p_PT_fits at h
  split at h
  · cases h
    exact ⟨Nat.le_of_ble_eq_true rfl, a_PT_fits μ _ _ hC⟩
  · cases h
set_option maxRecDepth 20000 in
theorem ml_9_17 : Cond.methodLink "SuiteRunner$Pattern" 17 ⟨"SuiteRunner$Pattern", "fits", "(C)Z"⟩ ∈ sr_WS ∨ ∃ host, Cond.methodLinkNest "SuiteRunner$Pattern" 17 ⟨"SuiteRunner$Pattern", "fits", "(C)Z"⟩ host ∈ sr_NW := Or.inl (sr_ws 425 rfl rfl)
set_option maxRecDepth 20000 in
theorem wc_PT_fits : Cond.code ⟨"SuiteRunner$Pattern", "fits", "(C)Z"⟩ prog_6_method_5_code 2 (some .boolean) ∈ sr_WS := sr_ws 428 rfl rfl
set_option maxRecDepth 20000 in
theorem wi_PT_fits : Cond.instanceMethod ⟨"SuiteRunner$Pattern", "fits", "(C)Z"⟩ ∈ sr_WS := sr_ws 427 rfl rfl
set_option maxRecDepth 20000 in
theorem wv_PT_fits : Cond.selects "SuiteRunner$Pattern" ⟨"SuiteRunner$Pattern", "fits", "(C)Z"⟩ ⟨"SuiteRunner$Pattern", "fits", "(C)Z"⟩ ∈ sr_WS := sr_ws 0 rfl rfl
theorem wn_PT_fits : (parseMethodDescriptor "(C)Z").map (fun d => d.parameters.length) = some 1 := by decide +kernel
set_option maxRecDepth 10000 in
theorem c_PT_append (l : Launch) (D : va_G) (cA : Nat → ClassId) (ad : Nat → Nat → Nat) : sr_Ct l D sr_cl (sr_tys cA) (sr_wd sr_SC cA sr_csC ad) (sr_cy sr_NW sr_ZS sr_KS ad) ad sr_WS ⟨"SuiteRunner$Pattern", "append", "(C)Z"⟩ prog_6_method_4_code 2 (some .boolean) { frames := 1, cells := 0, slots := 0, locals := 21 } p_PT_append := by
  refine sr_met (E := e_PT_append) (by decide) sr_WS_good sr_NW_ok sr_hcsC sr_hsepC (sr_htyC cA) (sr_htoC cA) sr_hWC (fun _ _ _ h => h) (sr_hF (List.forall_mem_cons.mpr ⟨fl_9_9, (List.forall_mem_cons.mpr ⟨fl_9_13, (fun _ h => absurd h List.not_mem_nil)⟩)⟩)) (fun _ _ h => nomatch h) (fun _ _ h => nomatch h) (fun _ _ h => nomatch h) (sr_hCS (List.forall_mem_cons.mpr ⟨(fun h => nomatch h), (fun _ h => absurd h List.not_mem_nil)⟩)) (sr_hCV (List.forall_mem_cons.mpr ⟨(fun ci h => by obtain rfl : 9 = ci := Nat.succ.inj h; exact ⟨⟨"SuiteRunner$Pattern", "fits", "(C)Z"⟩, prog_6_method_5_code, 2, (some .boolean), { frames := 0, cells := 0, slots := 0, locals := 0 }, _, _, _, rfl, c_PT_fits l D cA ad, ⟨rfl, rfl, by decide, by decide⟩, ⟨by decide, by decide, wn_PT_fits⟩, wc_PT_fits, wi_PT_fits, wv_PT_fits, wz_9, ml_9_17⟩), (fun _ h => absurd h List.not_mem_nil)⟩)) rfl dc_PT_append (fun vs μ C res h hC => ?_)
  unfold p_PT_append at h
  split at h
  · cases h
    exact ⟨Nat.le_of_ble_eq_true rfl, a_PT_append μ _ _ hC⟩
  · cases h
set_option maxRecDepth 20000 in
theorem ml_9_27 : Cond.methodLink "SuiteRunner$Pattern" 27 ⟨"SuiteRunner", "holds", "(II)Z"⟩ ∈ sr_WS ∨ ∃ host, Cond.methodLinkNest "SuiteRunner$Pattern" 27 ⟨"SuiteRunner", "holds", "(II)Z"⟩ host ∈ sr_NW := Or.inr ⟨"SuiteRunner", sr_nw 467 rfl rfl⟩
set_option maxRecDepth 20000 in
theorem ml_9_37 : Cond.methodLink "SuiteRunner$Pattern" 37 ⟨"SuiteRunner$TestMethod", "letterAt", "(JI)I"⟩ ∈ sr_WS ∨ ∃ host, Cond.methodLinkNest "SuiteRunner$Pattern" 37 ⟨"SuiteRunner$TestMethod", "letterAt", "(JI)I"⟩ host ∈ sr_NW := Or.inl (sr_ws 471 rfl rfl)
set_option maxRecDepth 10000 in
theorem c_PT_afterPiece (l : Launch) (D : va_G) (cA : Nat → ClassId) (ad : Nat → Nat → Nat) : sr_Ct l D sr_cl (sr_tys cA) (sr_wd sr_SC cA sr_csC ad) (sr_cy sr_NW sr_ZS sr_KS ad) ad sr_WS ⟨"SuiteRunner$Pattern", "afterPiece", "(ICZJI)I"⟩ prog_6_method_7_code 9 (some .int) { frames := 1, cells := 0, slots := 0, locals := 22 } p_PT_afterPiece := by
  refine sr_met (E := e_PT_afterPiece) (by decide) sr_WS_good sr_NW_ok sr_hcsC sr_hsepC (sr_htyC cA) (sr_htoC cA) sr_hWC (fun _ _ _ h => h) (fun _ _ _ h => nomatch h) (fun _ _ h => nomatch h) (fun _ _ h => nomatch h) (fun _ _ h => nomatch h) (sr_hCS (List.forall_mem_cons.mpr ⟨(fun _ => ⟨⟨"SuiteRunner", "holds", "(II)Z"⟩, prog_1_method_23_code, 2, (some .boolean), { frames := 0, cells := 0, slots := 0, locals := 0 }, c_SR_holds l D cA ad, ⟨rfl, rfl, by decide, by decide⟩, ⟨by decide, by decide, wn_SR_holds⟩, wc_SR_holds, wi_SR_holds, wz_0, ml_9_27⟩), (List.forall_mem_cons.mpr ⟨(fun _ => ⟨⟨"SuiteRunner$TestMethod", "letterAt", "(JI)I"⟩, prog_10_method_3_code, 3, (some .int), { frames := 0, cells := 0, slots := 0, locals := 0 }, c_TM_letterAt l D cA ad, ⟨rfl, rfl, by decide, by decide⟩, ⟨by decide, by decide, wn_TM_letterAt⟩, wc_TM_letterAt, wi_TM_letterAt, wz_3, ml_9_37⟩), (fun _ h => absurd h List.not_mem_nil)⟩)⟩)) (sr_hCV (List.forall_mem_cons.mpr ⟨(fun _ h => nomatch h), (List.forall_mem_cons.mpr ⟨(fun _ h => nomatch h), (fun _ h => absurd h List.not_mem_nil)⟩)⟩)) rfl dc_PT_afterPiece (fun vs μ C res h hC => ?_)
  unfold p_PT_afterPiece at h
  split at h
  · cases h
    exact ⟨Nat.le_of_ble_eq_true rfl, a_PT_afterPiece μ _ _ _ _ _ hC⟩
  · cases h
set_option maxRecDepth 20000 in
theorem ml_9_21 : Cond.methodLink "SuiteRunner$Pattern" 21 ⟨"SuiteRunner$TestMethod", "lengthOf", "(J)I"⟩ ∈ sr_WS ∨ ∃ host, Cond.methodLinkNest "SuiteRunner$Pattern" 21 ⟨"SuiteRunner$TestMethod", "lengthOf", "(J)I"⟩ host ∈ sr_NW := Or.inl (sr_ws 466 rfl rfl)
set_option maxRecDepth 20000 in
theorem ml_9_33 : Cond.methodLink "SuiteRunner$Pattern" 33 ⟨"SuiteRunner$Pattern", "afterPiece", "(ICZJI)I"⟩ ∈ sr_WS ∨ ∃ host, Cond.methodLinkNest "SuiteRunner$Pattern" 33 ⟨"SuiteRunner$Pattern", "afterPiece", "(ICZJI)I"⟩ host ∈ sr_NW := Or.inl (sr_ws 468 rfl rfl)
set_option maxRecDepth 20000 in
theorem wc_PT_afterPiece : Cond.code ⟨"SuiteRunner$Pattern", "afterPiece", "(ICZJI)I"⟩ prog_6_method_7_code 9 (some .int) ∈ sr_WS := sr_ws 470 rfl rfl
set_option maxRecDepth 20000 in
theorem wi_PT_afterPiece : Cond.static ⟨"SuiteRunner$Pattern", "afterPiece", "(ICZJI)I"⟩ ∈ sr_WS := sr_ws 469 rfl rfl
theorem wn_PT_afterPiece : (parseMethodDescriptor "(ICZJI)I").map (fun d => d.parameters.length) = some 5 := by decide +kernel
set_option maxRecDepth 10000 in
theorem c_PT_matches (l : Launch) (D : va_G) (cA : Nat → ClassId) (ad : Nat → Nat → Nat) : sr_Ct l D sr_cl (sr_tys cA) (sr_wd sr_SC cA sr_csC ad) (sr_cy sr_NW sr_ZS sr_KS ad) ad sr_WS ⟨"SuiteRunner$Pattern", "matches", "(J)Z"⟩ prog_6_method_6_code 8 (some .boolean) { frames := 2, cells := 0, slots := 0, locals := 50 } p_PT_matches := by
  refine sr_met (E := e_PT_matches) (by decide) sr_WS_good sr_NW_ok sr_hcsC sr_hsepC (sr_htyC cA) (sr_htoC cA) sr_hWC (fun _ _ _ h => h) (sr_hF (List.forall_mem_cons.mpr ⟨fl_9_9, (List.forall_mem_cons.mpr ⟨fl_9_13, (fun _ h => absurd h List.not_mem_nil)⟩)⟩)) (fun _ _ h => nomatch h) (fun _ _ h => nomatch h) (fun _ _ h => nomatch h) (sr_hCS (List.forall_mem_cons.mpr ⟨(fun _ => ⟨⟨"SuiteRunner$TestMethod", "lengthOf", "(J)I"⟩, prog_10_method_4_code, 3, (some .int), { frames := 1, cells := 0, slots := 0, locals := 22 }, c_TM_lengthOf l D cA ad, ⟨rfl, rfl, by decide, by decide⟩, ⟨by decide, by decide, wn_TM_lengthOf⟩, wc_TM_lengthOf, wi_TM_lengthOf, wz_3, ml_9_21⟩), (List.forall_mem_cons.mpr ⟨(fun _ => ⟨⟨"SuiteRunner", "holds", "(II)Z"⟩, prog_1_method_23_code, 2, (some .boolean), { frames := 0, cells := 0, slots := 0, locals := 0 }, c_SR_holds l D cA ad, ⟨rfl, rfl, by decide, by decide⟩, ⟨by decide, by decide, wn_SR_holds⟩, wc_SR_holds, wi_SR_holds, wz_0, ml_9_27⟩), (List.forall_mem_cons.mpr ⟨(fun _ => ⟨⟨"SuiteRunner$Pattern", "afterPiece", "(ICZJI)I"⟩, prog_6_method_7_code, 9, (some .int), { frames := 1, cells := 0, slots := 0, locals := 22 }, c_PT_afterPiece l D cA ad, ⟨rfl, rfl, by decide, by decide⟩, ⟨by decide, by decide, wn_PT_afterPiece⟩, wc_PT_afterPiece, wi_PT_afterPiece, wz_9, ml_9_33⟩), (fun _ h => absurd h List.not_mem_nil)⟩)⟩)⟩)) (sr_hCV (List.forall_mem_cons.mpr ⟨(fun _ h => nomatch h), (List.forall_mem_cons.mpr ⟨(fun _ h => nomatch h), (List.forall_mem_cons.mpr ⟨(fun _ h => nomatch h), (fun _ h => absurd h List.not_mem_nil)⟩)⟩)⟩)) rfl dc_PT_matches (fun vs μ C res h hC => ?_)
  unfold p_PT_matches at h
  split at h
  · cases h
    exact ⟨Nat.le_of_ble_eq_true rfl, a_PT_matches μ _ _ hC⟩
  · cases h
set_option maxRecDepth 20000 in
theorem ml_6_19 : Cond.methodLink "SuiteRunner$Log" 19 ⟨"SuiteRunner", "isWithin", "(II)Z"⟩ ∈ sr_WS ∨ ∃ host, Cond.methodLinkNest "SuiteRunner$Log" 19 ⟨"SuiteRunner", "isWithin", "(II)Z"⟩ host ∈ sr_NW := Or.inr ⟨"SuiteRunner", sr_nw 662 rfl rfl⟩
set_option maxRecDepth 10000 in
theorem c_LG_latest (l : Launch) (D : va_G) (cA : Nat → ClassId) (ad : Nat → Nat → Nat) : sr_Ct l D sr_cl (sr_tys cA) (sr_wd sr_SC cA sr_csC ad) (sr_cy sr_NW sr_ZS sr_KS ad) ad sr_WS ⟨"SuiteRunner$Log", "latest", "(I)I"⟩ prog_4_method_4_code 2 (some .int) { frames := 1, cells := 0, slots := 0, locals := 21 } p_LG_latest := by
  refine sr_met (E := e_LG_latest) (by decide) sr_WS_good sr_NW_ok sr_hcsC sr_hsepC (sr_htyC cA) (sr_htoC cA) sr_hWC (fun _ _ _ h => h) (sr_hF (List.forall_mem_cons.mpr ⟨fl_6_11, (List.forall_mem_cons.mpr ⟨fl_6_15, (fun _ h => absurd h List.not_mem_nil)⟩)⟩)) (fun _ _ h => nomatch h) (fun _ _ h => nomatch h) (fun _ _ h => nomatch h) (sr_hCS (List.forall_mem_cons.mpr ⟨(fun _ => ⟨⟨"SuiteRunner", "isWithin", "(II)Z"⟩, prog_1_method_22_code, 2, (some .boolean), { frames := 0, cells := 0, slots := 0, locals := 0 }, c_SR_isWithin l D cA ad, ⟨rfl, rfl, by decide, by decide⟩, ⟨by decide, by decide, wn_SR_isWithin⟩, wc_SR_isWithin, wi_SR_isWithin, wz_0, ml_6_19⟩), (fun _ h => absurd h List.not_mem_nil)⟩)) (sr_hCV (List.forall_mem_cons.mpr ⟨(fun _ h => nomatch h), (fun _ h => absurd h List.not_mem_nil)⟩)) rfl dc_LG_latest (fun vs μ C res h hC => ?_)
  unfold p_LG_latest at h
  split at h
  · cases h
    exact ⟨Nat.le_of_ble_eq_true rfl, a_LG_latest μ _ hC⟩
  · cases h
set_option maxRecDepth 10000 in
theorem c_PR_figure (l : Launch) (D : va_G) (cA : Nat → ClassId) (ad : Nat → Nat → Nat) : sr_Ct l D sr_cl (sr_tys cA) (sr_wd sr_SC cA sr_csC ad) (sr_cy sr_NW sr_ZS sr_KS ad) ad sr_WS ⟨"SuiteRunner$Progress", "figure", "(I)I"⟩ prog_7_method_6_code 2 (some .int) { frames := 0, cells := 0, slots := 0, locals := 0 } p_PR_figure := by
  refine sr_met (E := e_PR_figure) (by decide) sr_WS_good sr_NW_ok sr_hcsC sr_hsepC (sr_htyC cA) (sr_htoC cA) sr_hWC (fun _ _ _ h => h) (sr_hF (List.forall_mem_cons.mpr ⟨fl_7_9, (List.forall_mem_cons.mpr ⟨fl_7_15, (List.forall_mem_cons.mpr ⟨fl_7_18, (List.forall_mem_cons.mpr ⟨fl_7_30, (List.forall_mem_cons.mpr ⟨fl_7_33, (List.forall_mem_cons.mpr ⟨fl_7_36, (List.forall_mem_cons.mpr ⟨fl_7_39, (fun _ h => absurd h List.not_mem_nil)⟩)⟩)⟩)⟩)⟩)⟩)⟩)) (fun _ _ h => nomatch h) (fun _ _ h => nomatch h) (fun _ _ h => nomatch h) (fun _ _ _ _ _ _ h => nomatch h) (fun _ _ _ _ _ _ _ h => nomatch h) rfl dc_PR_figure (fun vs μ C res h hC => ?_)
  unfold p_PR_figure at h
  split at h
  · cases h
    exact ⟨Nat.le_of_ble_eq_true rfl, a_PR_figure μ _ _ hC⟩
  · cases h
set_option maxRecDepth 20000 in
theorem fl_8_37 : sr_sF "SuiteRunner$Selection" sr_cl sr_WS sr_NW 37 3 2 := ⟨_, _, _, rfl, by decide, rfl, sr_in3, Or.inl (sr_ws 96 rfl rfl)⟩
set_option maxRecDepth 20000 in
theorem fl_8_43 : sr_sF "SuiteRunner$Selection" sr_cl sr_WS sr_NW 43 3 0 := ⟨_, _, _, rfl, by decide, rfl, sr_in3, Or.inl (sr_ws 89 rfl rfl)⟩
set_option maxRecDepth 20000 in
theorem fl_8_54 : sr_sF "SuiteRunner$Selection" sr_cl sr_WS sr_NW 54 3 1 := ⟨_, _, _, rfl, by decide, rfl, sr_in3, Or.inl (sr_ws 93 rfl rfl)⟩
set_option maxRecDepth 20000 in
theorem ml_8_46 : Cond.methodLink "SuiteRunner$Selection" 46 ⟨"SuiteRunner", "holds", "(II)Z"⟩ ∈ sr_WS ∨ ∃ host, Cond.methodLinkNest "SuiteRunner$Selection" 46 ⟨"SuiteRunner", "holds", "(II)Z"⟩ host ∈ sr_NW := Or.inr ⟨"SuiteRunner", sr_nw 457 rfl rfl⟩
set_option maxRecDepth 20000 in
theorem ml_8_50 : Cond.methodLink "SuiteRunner$Selection" 50 ⟨"SuiteRunner$Pattern", "isEmpty", "()Z"⟩ ∈ sr_WS ∨ ∃ host, Cond.methodLinkNest "SuiteRunner$Selection" 50 ⟨"SuiteRunner$Pattern", "isEmpty", "()Z"⟩ host ∈ sr_NW := Or.inl (sr_ws 458 rfl rfl)
set_option maxRecDepth 20000 in
theorem wc_PT_isEmpty : Cond.code ⟨"SuiteRunner$Pattern", "isEmpty", "()Z"⟩ prog_6_method_3_code 1 (some .boolean) ∈ sr_WS := sr_ws 461 rfl rfl
set_option maxRecDepth 20000 in
theorem wi_PT_isEmpty : Cond.instanceMethod ⟨"SuiteRunner$Pattern", "isEmpty", "()Z"⟩ ∈ sr_WS := sr_ws 459 rfl rfl
set_option maxRecDepth 20000 in
theorem wv_PT_isEmpty : Cond.selects "SuiteRunner$Pattern" ⟨"SuiteRunner$Pattern", "isEmpty", "()Z"⟩ ⟨"SuiteRunner$Pattern", "isEmpty", "()Z"⟩ ∈ sr_WS := sr_ws 460 rfl rfl
theorem wn_PT_isEmpty : (parseMethodDescriptor "()Z").map (fun d => d.parameters.length) = some 0 := by decide +kernel
set_option maxRecDepth 20000 in
theorem ml_8_58 : Cond.methodLink "SuiteRunner$Selection" 58 ⟨"SuiteRunner$Pattern", "matches", "(J)Z"⟩ ∈ sr_WS ∨ ∃ host, Cond.methodLinkNest "SuiteRunner$Selection" 58 ⟨"SuiteRunner$Pattern", "matches", "(J)Z"⟩ host ∈ sr_NW := Or.inl (sr_ws 462 rfl rfl)
set_option maxRecDepth 20000 in
theorem wc_PT_matches : Cond.code ⟨"SuiteRunner$Pattern", "matches", "(J)Z"⟩ prog_6_method_6_code 8 (some .boolean) ∈ sr_WS := sr_ws 465 rfl rfl
set_option maxRecDepth 20000 in
theorem wi_PT_matches : Cond.instanceMethod ⟨"SuiteRunner$Pattern", "matches", "(J)Z"⟩ ∈ sr_WS := sr_ws 463 rfl rfl
set_option maxRecDepth 20000 in
theorem wv_PT_matches : Cond.selects "SuiteRunner$Pattern" ⟨"SuiteRunner$Pattern", "matches", "(J)Z"⟩ ⟨"SuiteRunner$Pattern", "matches", "(J)Z"⟩ ∈ sr_WS := sr_ws 464 rfl rfl
theorem wn_PT_matches : (parseMethodDescriptor "(J)Z").map (fun d => d.parameters.length) = some 1 := by decide +kernel
set_option maxRecDepth 10000 in
theorem c_SE_admits (l : Launch) (D : va_G) (cA : Nat → ClassId) (ad : Nat → Nat → Nat) : sr_Ct l D sr_cl (sr_tys cA) (sr_wd sr_SC cA sr_csC ad) (sr_cy sr_NW sr_ZS sr_KS ad) ad sr_WS ⟨"SuiteRunner$Selection", "admits", "(ILSuiteRunner$TestMethod;)Z"⟩ prog_9_method_3_code 4 (some .boolean) { frames := 3, cells := 0, slots := 0, locals := 77 } p_SE_admits := by
  refine sr_met (E := e_SE_admits) (by decide) sr_WS_good sr_NW_ok sr_hcsC sr_hsepC (sr_htyC cA) (sr_htoC cA) sr_hWC (fun _ _ _ h => h) (sr_hF (List.forall_mem_cons.mpr ⟨fl_8_12, (List.forall_mem_cons.mpr ⟨fl_8_18, (List.forall_mem_cons.mpr ⟨fl_8_21, (List.forall_mem_cons.mpr ⟨fl_8_25, (List.forall_mem_cons.mpr ⟨fl_8_28, (List.forall_mem_cons.mpr ⟨fl_8_34, (List.forall_mem_cons.mpr ⟨fl_8_37, (List.forall_mem_cons.mpr ⟨fl_8_43, (List.forall_mem_cons.mpr ⟨fl_8_54, (fun _ h => absurd h List.not_mem_nil)⟩)⟩)⟩)⟩)⟩)⟩)⟩)⟩)⟩)) (fun _ _ h => nomatch h) (fun _ _ h => nomatch h) (fun _ _ h => nomatch h) (sr_hCS (List.forall_mem_cons.mpr ⟨(fun _ => ⟨⟨"SuiteRunner", "holds", "(II)Z"⟩, prog_1_method_23_code, 2, (some .boolean), { frames := 0, cells := 0, slots := 0, locals := 0 }, c_SR_holds l D cA ad, ⟨rfl, rfl, by decide, by decide⟩, ⟨by decide, by decide, wn_SR_holds⟩, wc_SR_holds, wi_SR_holds, wz_0, ml_8_46⟩), (List.forall_mem_cons.mpr ⟨(fun h => nomatch h), (List.forall_mem_cons.mpr ⟨(fun h => nomatch h), (fun _ h => absurd h List.not_mem_nil)⟩)⟩)⟩)) (sr_hCV (List.forall_mem_cons.mpr ⟨(fun _ h => nomatch h), (List.forall_mem_cons.mpr ⟨(fun ci h => by obtain rfl : 9 = ci := Nat.succ.inj h; exact ⟨⟨"SuiteRunner$Pattern", "isEmpty", "()Z"⟩, prog_6_method_3_code, 1, (some .boolean), { frames := 0, cells := 0, slots := 0, locals := 0 }, _, _, _, rfl, c_PT_isEmpty l D cA ad, ⟨rfl, rfl, by decide, by decide⟩, ⟨by decide, by decide, wn_PT_isEmpty⟩, wc_PT_isEmpty, wi_PT_isEmpty, wv_PT_isEmpty, wz_9, ml_8_50⟩), (List.forall_mem_cons.mpr ⟨(fun ci h => by obtain rfl : 9 = ci := Nat.succ.inj h; exact ⟨⟨"SuiteRunner$Pattern", "matches", "(J)Z"⟩, prog_6_method_6_code, 8, (some .boolean), { frames := 2, cells := 0, slots := 0, locals := 50 }, _, _, _, rfl, c_PT_matches l D cA ad, ⟨rfl, rfl, by decide, by decide⟩, ⟨by decide, by decide, wn_PT_matches⟩, wc_PT_matches, wi_PT_matches, wv_PT_matches, wz_9, ml_8_58⟩), (fun _ h => absurd h List.not_mem_nil)⟩)⟩)⟩)) rfl dc_SE_admits (fun vs μ C res h hC => ?_)
  unfold p_SE_admits at h
  split at h
  · cases h
    exact ⟨Nat.le_of_ble_eq_true rfl, a_SE_admits μ _ _ hC⟩
  · cases h
set_option maxRecDepth 20000 in
theorem fl_0_20 : sr_sF "SuiteRunner" sr_cl sr_WS sr_NW 20 0 1 := ⟨_, _, _, rfl, by decide, rfl, sr_in0, Or.inl (sr_ws 348 rfl rfl)⟩
set_option maxRecDepth 20000 in
theorem fl_0_24 : sr_sF "SuiteRunner" sr_cl sr_WS sr_NW 24 0 2 := ⟨_, _, _, rfl, by decide, rfl, sr_in0, Or.inl (sr_ws 349 rfl rfl)⟩
set_option maxRecDepth 20000 in
theorem fl_0_55 : sr_sF "SuiteRunner" sr_cl sr_WS sr_NW 55 2 0 := ⟨_, _, _, rfl, by decide, rfl, sr_in2, Or.inl (sr_ws 143 rfl rfl)⟩
set_option maxRecDepth 20000 in
theorem fl_0_176 : sr_sF "SuiteRunner" sr_cl sr_WS sr_NW 176 2 1 := ⟨_, _, _, rfl, by decide, rfl, sr_in2, Or.inl (sr_ws 147 rfl rfl)⟩
set_option maxRecDepth 20000 in
theorem ml_0_179 : Cond.methodLink "SuiteRunner" 179 ⟨"SuiteRunner$Selection", "admits", "(ILSuiteRunner$TestMethod;)Z"⟩ ∈ sr_WS ∨ ∃ host, Cond.methodLinkNest "SuiteRunner" 179 ⟨"SuiteRunner$Selection", "admits", "(ILSuiteRunner$TestMethod;)Z"⟩ host ∈ sr_NW := Or.inl (sr_ws 453 rfl rfl)
set_option maxRecDepth 20000 in
theorem wc_SE_admits : Cond.code ⟨"SuiteRunner$Selection", "admits", "(ILSuiteRunner$TestMethod;)Z"⟩ prog_9_method_3_code 4 (some .boolean) ∈ sr_WS := sr_ws 456 rfl rfl
set_option maxRecDepth 20000 in
theorem wi_SE_admits : Cond.instanceMethod ⟨"SuiteRunner$Selection", "admits", "(ILSuiteRunner$TestMethod;)Z"⟩ ∈ sr_WS := sr_ws 454 rfl rfl
set_option maxRecDepth 20000 in
theorem wv_SE_admits : Cond.selects "SuiteRunner$Selection" ⟨"SuiteRunner$Selection", "admits", "(ILSuiteRunner$TestMethod;)Z"⟩ ⟨"SuiteRunner$Selection", "admits", "(ILSuiteRunner$TestMethod;)Z"⟩ ∈ sr_WS := sr_ws 455 rfl rfl
theorem wn_SE_admits : (parseMethodDescriptor "(ILSuiteRunner$TestMethod;)Z").map (fun d => d.parameters.length) = some 2 := by decide +kernel
set_option maxRecDepth 20000 in
theorem wz_8 : Cond.initialized "SuiteRunner$Selection" ∈ sr_WS := sr_ws 48 rfl rfl
set_option maxRecDepth 10000 in
theorem c_SR_chosenNow (l : Launch) (D : va_G) (cA : Nat → ClassId) (ad : Nat → Nat → Nat) : sr_Ct l D sr_cl (sr_tys cA) (sr_wd sr_SC cA sr_csC ad) (sr_cy sr_NW sr_ZS sr_KS ad) ad sr_WS ⟨"SuiteRunner", "chosenNow", "()I"⟩ prog_1_method_21_code 3 (some .int) { frames := 4, cells := 0, slots := 0, locals := 100 } p_SR_chosenNow := by
  refine sr_met (E := e_SR_chosenNow) (by decide) sr_WS_good sr_NW_ok sr_hcsC sr_hsepC (sr_htyC cA) (sr_htoC cA) sr_hWC (fun _ _ _ h => h) (sr_hF (List.forall_mem_cons.mpr ⟨fl_0_20, (List.forall_mem_cons.mpr ⟨fl_0_24, (List.forall_mem_cons.mpr ⟨fl_0_55, (List.forall_mem_cons.mpr ⟨fl_0_176, (fun _ h => absurd h List.not_mem_nil)⟩)⟩)⟩)⟩)) (fun _ _ h => nomatch h) (fun _ _ h => nomatch h) (fun _ _ h => nomatch h) (sr_hCS (List.forall_mem_cons.mpr ⟨(fun h => nomatch h), (fun _ h => absurd h List.not_mem_nil)⟩)) (sr_hCV (List.forall_mem_cons.mpr ⟨(fun ci h => by obtain rfl : 8 = ci := Nat.succ.inj h; exact ⟨⟨"SuiteRunner$Selection", "admits", "(ILSuiteRunner$TestMethod;)Z"⟩, prog_9_method_3_code, 4, (some .boolean), { frames := 3, cells := 0, slots := 0, locals := 77 }, _, _, _, rfl, c_SE_admits l D cA ad, ⟨rfl, rfl, by decide, by decide⟩, ⟨by decide, by decide, wn_SE_admits⟩, wc_SE_admits, wi_SE_admits, wv_SE_admits, wz_8, ml_0_179⟩), (fun _ h => absurd h List.not_mem_nil)⟩)) rfl dc_SR_chosenNow (fun vs μ C res h hC => ?_)
  unfold p_SR_chosenNow at h
  split at h
  · cases h
    exact ⟨Nat.le_of_ble_eq_true rfl, a_SR_chosenNow μ  hC⟩
  · cases h
set_option maxRecDepth 20000 in
theorem fl_2_27 : sr_sF "SuiteRunner$Catalog" sr_cl sr_WS sr_NW 27 2 5 := ⟨_, _, _, rfl, by decide, rfl, sr_in2, Or.inl (sr_ws 154 rfl rfl)⟩
set_option maxRecDepth 20000 in
theorem ml_2_77 : Cond.methodLink "SuiteRunner$Catalog" 77 ⟨"SuiteRunner$Catalog", "needsWithin", "(II)I"⟩ ∈ sr_WS ∨ ∃ host, Cond.methodLinkNest "SuiteRunner$Catalog" 77 ⟨"SuiteRunner$Catalog", "needsWithin", "(II)I"⟩ host ∈ sr_NW := Or.inl (sr_ws 485 rfl rfl)
set_option maxRecDepth 20000 in
theorem wc_CT_needsWithin : Cond.code ⟨"SuiteRunner$Catalog", "needsWithin", "(II)I"⟩ prog_2_method_7_code 6 (some .int) ∈ sr_WS := sr_ws 488 rfl rfl
set_option maxRecDepth 20000 in
theorem wi_CT_needsWithin : Cond.instanceMethod ⟨"SuiteRunner$Catalog", "needsWithin", "(II)I"⟩ ∈ sr_WS := sr_ws 486 rfl rfl
set_option maxRecDepth 20000 in
theorem wv_CT_needsWithin : Cond.selects "SuiteRunner$Catalog" ⟨"SuiteRunner$Catalog", "needsWithin", "(II)I"⟩ ⟨"SuiteRunner$Catalog", "needsWithin", "(II)I"⟩ ∈ sr_WS := sr_ws 487 rfl rfl
theorem wn_CT_needsWithin : (parseMethodDescriptor "(II)I").map (fun d => d.parameters.length) = some 2 := by decide +kernel
set_option maxRecDepth 20000 in
theorem wz_2 : Cond.initialized "SuiteRunner$Catalog" ∈ sr_WS := sr_ws 42 rfl rfl
set_option maxRecDepth 10000 in
theorem c_CT_findReach (l : Launch) (D : va_G) (cA : Nat → ClassId) (ad : Nat → Nat → Nat) : sr_Ct l D sr_cl (sr_tys cA) (sr_wd sr_SC cA sr_csC ad) (sr_cy sr_NW sr_ZS sr_KS ad) ad sr_WS ⟨"SuiteRunner$Catalog", "findReach", "(I)V"⟩ prog_2_method_11_code 4 none { frames := 1, cells := 0, slots := 0, locals := 25 } p_CT_findReach := by
  refine sr_met (E := e_CT_findReach) (by decide) sr_WS_good sr_NW_ok sr_hcsC sr_hsepC (sr_htyC cA) (sr_htoC cA) sr_hWC (fun _ _ _ h => h) (sr_hF (List.forall_mem_cons.mpr ⟨fl_2_27, (List.forall_mem_cons.mpr ⟨fl_2_32, (fun _ h => absurd h List.not_mem_nil)⟩)⟩)) (fun _ _ h => nomatch h) (fun _ _ h => nomatch h) (fun _ _ h => nomatch h) (sr_hCS (List.forall_mem_cons.mpr ⟨(fun _ => ⟨⟨"SuiteRunner", "holds", "(II)Z"⟩, prog_1_method_23_code, 2, (some .boolean), { frames := 0, cells := 0, slots := 0, locals := 0 }, c_SR_holds l D cA ad, ⟨rfl, rfl, by decide, by decide⟩, ⟨by decide, by decide, wn_SR_holds⟩, wc_SR_holds, wi_SR_holds, wz_0, ml_2_70⟩), (List.forall_mem_cons.mpr ⟨(fun h => nomatch h), (fun _ h => absurd h List.not_mem_nil)⟩)⟩)) (sr_hCV (List.forall_mem_cons.mpr ⟨(fun _ h => nomatch h), (List.forall_mem_cons.mpr ⟨(fun ci h => by obtain rfl : 2 = ci := Nat.succ.inj h; exact ⟨⟨"SuiteRunner$Catalog", "needsWithin", "(II)I"⟩, prog_2_method_7_code, 6, (some .int), { frames := 0, cells := 0, slots := 0, locals := 0 }, _, _, _, rfl, c_CT_needsWithin l D cA ad, ⟨rfl, rfl, by decide, by decide⟩, ⟨by decide, by decide, wn_CT_needsWithin⟩, wc_CT_needsWithin, wi_CT_needsWithin, wv_CT_needsWithin, wz_2, ml_2_77⟩), (fun _ h => absurd h List.not_mem_nil)⟩)⟩)) rfl dc_CT_findReach (fun vs μ C res h hC => ?_)
  unfold p_CT_findReach at h
  split at h
  · cases h
    exact ⟨Nat.le_of_ble_eq_true rfl, a_CT_findReach μ _ hC⟩
  · cases h
set_option maxRecDepth 20000 in
theorem ml_2_73 : Cond.methodLink "SuiteRunner$Catalog" 73 ⟨"SuiteRunner$Catalog", "findReach", "(I)V"⟩ ∈ sr_WS ∨ ∃ host, Cond.methodLinkNest "SuiteRunner$Catalog" 73 ⟨"SuiteRunner$Catalog", "findReach", "(I)V"⟩ host ∈ sr_NW := Or.inl (sr_ws 481 rfl rfl)
set_option maxRecDepth 20000 in
theorem wc_CT_findReach : Cond.code ⟨"SuiteRunner$Catalog", "findReach", "(I)V"⟩ prog_2_method_11_code 4 none ∈ sr_WS := sr_ws 484 rfl rfl
set_option maxRecDepth 20000 in
theorem wi_CT_findReach : Cond.instanceMethod ⟨"SuiteRunner$Catalog", "findReach", "(I)V"⟩ ∈ sr_WS := sr_ws 483 rfl rfl
set_option maxRecDepth 20000 in
theorem wv_CT_findReach : Cond.selects "SuiteRunner$Catalog" ⟨"SuiteRunner$Catalog", "findReach", "(I)V"⟩ ⟨"SuiteRunner$Catalog", "findReach", "(I)V"⟩ ∈ sr_WS := sr_ws 2 rfl rfl
theorem wn_CT_findReach : (parseMethodDescriptor "(I)V").map (fun d => d.parameters.length) = some 1 := by decide +kernel
set_option maxRecDepth 10000 in
theorem c_CT_circleWithin (l : Launch) (D : va_G) (cA : Nat → ClassId) (ad : Nat → Nat → Nat) : sr_Ct l D sr_cl (sr_tys cA) (sr_wd sr_SC cA sr_csC ad) (sr_cy sr_NW sr_ZS sr_KS ad) ad sr_WS ⟨"SuiteRunner$Catalog", "circleWithin", "(I)I"⟩ prog_2_method_9_code 4 (some .int) { frames := 2, cells := 0, slots := 0, locals := 48 } p_CT_circleWithin := by
  refine sr_met (E := e_CT_circleWithin) (by decide) sr_WS_good sr_NW_ok sr_hcsC sr_hsepC (sr_htyC cA) (sr_htoC cA) sr_hWC (fun _ _ _ h => h) (sr_hF (List.forall_mem_cons.mpr ⟨fl_2_27, (List.forall_mem_cons.mpr ⟨fl_2_32, (fun _ h => absurd h List.not_mem_nil)⟩)⟩)) (fun _ _ h => nomatch h) (fun _ _ h => nomatch h) (fun _ _ h => nomatch h) (sr_hCS (List.forall_mem_cons.mpr ⟨(fun _ => ⟨⟨"SuiteRunner", "holds", "(II)Z"⟩, prog_1_method_23_code, 2, (some .boolean), { frames := 0, cells := 0, slots := 0, locals := 0 }, c_SR_holds l D cA ad, ⟨rfl, rfl, by decide, by decide⟩, ⟨by decide, by decide, wn_SR_holds⟩, wc_SR_holds, wi_SR_holds, wz_0, ml_2_70⟩), (List.forall_mem_cons.mpr ⟨(fun h => nomatch h), (fun _ h => absurd h List.not_mem_nil)⟩)⟩)) (sr_hCV (List.forall_mem_cons.mpr ⟨(fun _ h => nomatch h), (List.forall_mem_cons.mpr ⟨(fun ci h => by obtain rfl : 2 = ci := Nat.succ.inj h; exact ⟨⟨"SuiteRunner$Catalog", "findReach", "(I)V"⟩, prog_2_method_11_code, 4, none, { frames := 1, cells := 0, slots := 0, locals := 25 }, _, _, _, rfl, c_CT_findReach l D cA ad, ⟨rfl, rfl, by decide, by decide⟩, ⟨by decide, by decide, wn_CT_findReach⟩, wc_CT_findReach, wi_CT_findReach, wv_CT_findReach, wz_2, ml_2_73⟩), (fun _ h => absurd h List.not_mem_nil)⟩)⟩)) rfl dc_CT_circleWithin (fun vs μ C res h hC => ?_)
  unfold p_CT_circleWithin at h
  split at h
  · cases h
    exact ⟨Nat.le_of_ble_eq_true rfl, a_CT_circleWithin μ _ hC⟩
  · cases h
set_option maxRecDepth 10000 in
theorem c_CT_withAllNeeded (l : Launch) (D : va_G) (cA : Nat → ClassId) (ad : Nat → Nat → Nat) : sr_Ct l D sr_cl (sr_tys cA) (sr_wd sr_SC cA sr_csC ad) (sr_cy sr_NW sr_ZS sr_KS ad) ad sr_WS ⟨"SuiteRunner$Catalog", "withAllNeeded", "(II)I"⟩ prog_2_method_10_code 5 (some .int) { frames := 2, cells := 0, slots := 0, locals := 48 } p_CT_withAllNeeded := by
  refine sr_met (E := e_CT_withAllNeeded) (by decide) sr_WS_good sr_NW_ok sr_hcsC sr_hsepC (sr_htyC cA) (sr_htoC cA) sr_hWC (fun _ _ _ h => h) (sr_hF (List.forall_mem_cons.mpr ⟨fl_2_27, (List.forall_mem_cons.mpr ⟨fl_2_32, (fun _ h => absurd h List.not_mem_nil)⟩)⟩)) (fun _ _ h => nomatch h) (fun _ _ h => nomatch h) (fun _ _ h => nomatch h) (sr_hCS (List.forall_mem_cons.mpr ⟨(fun _ => ⟨⟨"SuiteRunner", "holds", "(II)Z"⟩, prog_1_method_23_code, 2, (some .boolean), { frames := 0, cells := 0, slots := 0, locals := 0 }, c_SR_holds l D cA ad, ⟨rfl, rfl, by decide, by decide⟩, ⟨by decide, by decide, wn_SR_holds⟩, wc_SR_holds, wi_SR_holds, wz_0, ml_2_70⟩), (List.forall_mem_cons.mpr ⟨(fun h => nomatch h), (fun _ h => absurd h List.not_mem_nil)⟩)⟩)) (sr_hCV (List.forall_mem_cons.mpr ⟨(fun _ h => nomatch h), (List.forall_mem_cons.mpr ⟨(fun ci h => by obtain rfl : 2 = ci := Nat.succ.inj h; exact ⟨⟨"SuiteRunner$Catalog", "findReach", "(I)V"⟩, prog_2_method_11_code, 4, none, { frames := 1, cells := 0, slots := 0, locals := 25 }, _, _, _, rfl, c_CT_findReach l D cA ad, ⟨rfl, rfl, by decide, by decide⟩, ⟨by decide, by decide, wn_CT_findReach⟩, wc_CT_findReach, wi_CT_findReach, wv_CT_findReach, wz_2, ml_2_73⟩), (fun _ h => absurd h List.not_mem_nil)⟩)⟩)) rfl dc_CT_withAllNeeded (fun vs μ C res h hC => ?_)
  unfold p_CT_withAllNeeded at h
  split at h
  · cases h
    exact ⟨Nat.le_of_ble_eq_true rfl, a_CT_withAllNeeded μ _ _ hC⟩
  · cases h
set_option maxRecDepth 20000 in
theorem ml_0_32 : Cond.methodLink "SuiteRunner" 32 ⟨"SuiteRunner", "isWithin", "(II)Z"⟩ ∈ sr_WS ∨ ∃ host, Cond.methodLinkNest "SuiteRunner" 32 ⟨"SuiteRunner", "isWithin", "(II)Z"⟩ host ∈ sr_NW := Or.inl (sr_ws 361 rfl rfl)
set_option maxRecDepth 20000 in
theorem ml_0_36 : Cond.methodLink "SuiteRunner" 36 ⟨"SuiteRunner$TestMethod", "isName", "(J)Z"⟩ ∈ sr_WS ∨ ∃ host, Cond.methodLinkNest "SuiteRunner" 36 ⟨"SuiteRunner$TestMethod", "isName", "(J)Z"⟩ host ∈ sr_NW := Or.inl (sr_ws 364 rfl rfl)
set_option maxRecDepth 20000 in
theorem wc_TM_isName : Cond.code ⟨"SuiteRunner$TestMethod", "isName", "(J)Z"⟩ prog_10_method_5_code 4 (some .boolean) ∈ sr_WS := sr_ws 366 rfl rfl
set_option maxRecDepth 20000 in
theorem wi_TM_isName : Cond.static ⟨"SuiteRunner$TestMethod", "isName", "(J)Z"⟩ ∈ sr_WS := sr_ws 365 rfl rfl
theorem wn_TM_isName : (parseMethodDescriptor "(J)Z").map (fun d => d.parameters.length) = some 1 := by decide +kernel
set_option maxRecDepth 20000 in
theorem ml_0_42 : Cond.methodLink "SuiteRunner" 42 ⟨"SuiteRunner$Catalog", "addMethod", "(IJ)I"⟩ ∈ sr_WS ∨ ∃ host, Cond.methodLinkNest "SuiteRunner" 42 ⟨"SuiteRunner$Catalog", "addMethod", "(IJ)I"⟩ host ∈ sr_NW := Or.inl (sr_ws 373 rfl rfl)
set_option maxRecDepth 20000 in
theorem wc_CT_addMethod : Cond.code ⟨"SuiteRunner$Catalog", "addMethod", "(IJ)I"⟩ prog_2_method_3_code 5 (some .int) ∈ sr_WS := sr_ws 376 rfl rfl
set_option maxRecDepth 20000 in
theorem wi_CT_addMethod : Cond.instanceMethod ⟨"SuiteRunner$Catalog", "addMethod", "(IJ)I"⟩ ∈ sr_WS := sr_ws 374 rfl rfl
set_option maxRecDepth 20000 in
theorem wv_CT_addMethod : Cond.selects "SuiteRunner$Catalog" ⟨"SuiteRunner$Catalog", "addMethod", "(IJ)I"⟩ ⟨"SuiteRunner$Catalog", "addMethod", "(IJ)I"⟩ ∈ sr_WS := sr_ws 375 rfl rfl
theorem wn_CT_addMethod : (parseMethodDescriptor "(IJ)I").map (fun d => d.parameters.length) = some 2 := by decide +kernel
set_option maxRecDepth 10000 in
theorem c_SR_method (l : Launch) (D : va_G) (cA : Nat → ClassId) (ad : Nat → Nat → Nat) : sr_Ct l D sr_cl (sr_tys cA) (sr_wd sr_SC cA sr_csC ad) (sr_cy sr_NW sr_ZS sr_KS ad) ad sr_WS ⟨"SuiteRunner", "method", "(IJ)I"⟩ prog_1_method_2_code 4 (some .int) { frames := 3, cells := 0, slots := 0, locals := 67 } p_SR_method := by
  refine sr_met (E := e_SR_method) (by decide) sr_WS_good sr_NW_ok sr_hcsC sr_hsepC (sr_htyC cA) (sr_htoC cA) sr_hWC (fun _ _ _ h => h) (sr_hF (List.forall_mem_cons.mpr ⟨fl_0_10, (List.forall_mem_cons.mpr ⟨fl_0_20, (List.forall_mem_cons.mpr ⟨fl_0_28, (fun _ h => absurd h List.not_mem_nil)⟩)⟩)⟩)) (fun _ _ h => nomatch h) (fun _ _ h => nomatch h) (fun _ _ h => nomatch h) (sr_hCS (List.forall_mem_cons.mpr ⟨(fun _ => ⟨⟨"SuiteRunner", "isWithin", "(II)Z"⟩, prog_1_method_22_code, 2, (some .boolean), { frames := 0, cells := 0, slots := 0, locals := 0 }, c_SR_isWithin l D cA ad, ⟨rfl, rfl, by decide, by decide⟩, ⟨by decide, by decide, wn_SR_isWithin⟩, wc_SR_isWithin, wi_SR_isWithin, wz_0, ml_0_32⟩), (List.forall_mem_cons.mpr ⟨(fun _ => ⟨⟨"SuiteRunner$TestMethod", "isName", "(J)Z"⟩, prog_10_method_5_code, 4, (some .boolean), { frames := 2, cells := 0, slots := 0, locals := 44 }, c_TM_isName l D cA ad, ⟨rfl, rfl, by decide, by decide⟩, ⟨by decide, by decide, wn_TM_isName⟩, wc_TM_isName, wi_TM_isName, wz_3, ml_0_36⟩), (List.forall_mem_cons.mpr ⟨(fun h => nomatch h), (fun _ h => absurd h List.not_mem_nil)⟩)⟩)⟩)) (sr_hCV (List.forall_mem_cons.mpr ⟨(fun _ h => nomatch h), (List.forall_mem_cons.mpr ⟨(fun _ h => nomatch h), (List.forall_mem_cons.mpr ⟨(fun ci h => by obtain rfl : 2 = ci := Nat.succ.inj h; exact ⟨⟨"SuiteRunner$Catalog", "addMethod", "(IJ)I"⟩, prog_2_method_3_code, 5, (some .int), { frames := 0, cells := 0, slots := 0, locals := 0 }, _, _, _, rfl, c_CT_addMethod l D cA ad, ⟨rfl, rfl, by decide, by decide⟩, ⟨by decide, by decide, wn_CT_addMethod⟩, wc_CT_addMethod, wi_CT_addMethod, wv_CT_addMethod, wz_2, ml_0_42⟩), (fun _ h => absurd h List.not_mem_nil)⟩)⟩)⟩)) rfl dc_SR_method (fun vs μ C res h hC => ?_)
  unfold p_SR_method at h
  split at h
  · cases h
    exact ⟨Nat.le_of_ble_eq_true rfl, a_SR_method μ _ _ hC⟩
  · cases h
set_option maxRecDepth 20000 in
theorem fl_0_59 : sr_sF "SuiteRunner" sr_cl sr_WS sr_NW 59 3 2 := ⟨_, _, _, rfl, by decide, rfl, sr_in3, Or.inl (sr_ws 97 rfl rfl)⟩
set_option maxRecDepth 20000 in
theorem ml_0_48 : Cond.methodLink "SuiteRunner" 48 ⟨"SuiteRunner$Catalog", "hasMethod", "(I)Z"⟩ ∈ sr_WS ∨ ∃ host, Cond.methodLinkNest "SuiteRunner" 48 ⟨"SuiteRunner$Catalog", "hasMethod", "(I)Z"⟩ host ∈ sr_NW := Or.inl (sr_ws 381 rfl rfl)
set_option maxRecDepth 20000 in
theorem wc_CT_hasMethod : Cond.code ⟨"SuiteRunner$Catalog", "hasMethod", "(I)Z"⟩ prog_2_method_2_code 2 (some .boolean) ∈ sr_WS := sr_ws 384 rfl rfl
set_option maxRecDepth 20000 in
theorem wi_CT_hasMethod : Cond.instanceMethod ⟨"SuiteRunner$Catalog", "hasMethod", "(I)Z"⟩ ∈ sr_WS := sr_ws 382 rfl rfl
set_option maxRecDepth 20000 in
theorem wv_CT_hasMethod : Cond.selects "SuiteRunner$Catalog" ⟨"SuiteRunner$Catalog", "hasMethod", "(I)Z"⟩ ⟨"SuiteRunner$Catalog", "hasMethod", "(I)Z"⟩ ∈ sr_WS := sr_ws 383 rfl rfl
theorem wn_CT_hasMethod : (parseMethodDescriptor "(I)Z").map (fun d => d.parameters.length) = some 1 := by decide +kernel
set_option maxRecDepth 20000 in
theorem ml_0_52 : Cond.methodLink "SuiteRunner" 52 ⟨"SuiteRunner$TestMethod", "allows", "(II)Z"⟩ ∈ sr_WS ∨ ∃ host, Cond.methodLinkNest "SuiteRunner" 52 ⟨"SuiteRunner$TestMethod", "allows", "(II)Z"⟩ host ∈ sr_NW := Or.inl (sr_ws 386 rfl rfl)
set_option maxRecDepth 20000 in
theorem wc_TM_allows : Cond.code ⟨"SuiteRunner$TestMethod", "allows", "(II)Z"⟩ prog_10_method_2_code 2 (some .boolean) ∈ sr_WS := sr_ws 388 rfl rfl
set_option maxRecDepth 20000 in
theorem wi_TM_allows : Cond.static ⟨"SuiteRunner$TestMethod", "allows", "(II)Z"⟩ ∈ sr_WS := sr_ws 387 rfl rfl
theorem wn_TM_allows : (parseMethodDescriptor "(II)Z").map (fun d => d.parameters.length) = some 2 := by decide +kernel
set_option maxRecDepth 10000 in
theorem c_SR_trait (l : Launch) (D : va_G) (cA : Nat → ClassId) (ad : Nat → Nat → Nat) : sr_Ct l D sr_cl (sr_tys cA) (sr_wd sr_SC cA sr_csC ad) (sr_cy sr_NW sr_ZS sr_KS ad) ad sr_WS ⟨"SuiteRunner", "trait", "(III)Z"⟩ prog_1_method_3_code 4 (some .boolean) { frames := 2, cells := 0, slots := 0, locals := 42 } p_SR_trait := by
  refine sr_met (E := e_SR_trait) (by decide) sr_WS_good sr_NW_ok sr_hcsC sr_hsepC (sr_htyC cA) (sr_htoC cA) sr_hWC (fun _ _ _ h => h) (sr_hF (List.forall_mem_cons.mpr ⟨fl_0_10, (List.forall_mem_cons.mpr ⟨fl_0_20, (List.forall_mem_cons.mpr ⟨fl_0_28, (List.forall_mem_cons.mpr ⟨fl_0_55, (List.forall_mem_cons.mpr ⟨fl_0_59, (fun _ h => absurd h List.not_mem_nil)⟩)⟩)⟩)⟩)⟩)) (fun _ _ h => nomatch h) (fun _ _ h => nomatch h) (fun _ _ h => nomatch h) (sr_hCS (List.forall_mem_cons.mpr ⟨(fun h => nomatch h), (List.forall_mem_cons.mpr ⟨(fun _ => ⟨⟨"SuiteRunner$TestMethod", "allows", "(II)Z"⟩, prog_10_method_2_code, 2, (some .boolean), { frames := 1, cells := 0, slots := 0, locals := 21 }, c_TM_allows l D cA ad, ⟨rfl, rfl, by decide, by decide⟩, ⟨by decide, by decide, wn_TM_allows⟩, wc_TM_allows, wi_TM_allows, wz_3, ml_0_52⟩), (fun _ h => absurd h List.not_mem_nil)⟩)⟩)) (sr_hCV (List.forall_mem_cons.mpr ⟨(fun ci h => by obtain rfl : 2 = ci := Nat.succ.inj h; exact ⟨⟨"SuiteRunner$Catalog", "hasMethod", "(I)Z"⟩, prog_2_method_2_code, 2, (some .boolean), { frames := 1, cells := 0, slots := 0, locals := 21 }, _, _, _, rfl, c_CT_hasMethod l D cA ad, ⟨rfl, rfl, by decide, by decide⟩, ⟨by decide, by decide, wn_CT_hasMethod⟩, wc_CT_hasMethod, wi_CT_hasMethod, wv_CT_hasMethod, wz_2, ml_0_48⟩), (List.forall_mem_cons.mpr ⟨(fun _ h => nomatch h), (fun _ h => absurd h List.not_mem_nil)⟩)⟩)) rfl dc_SR_trait (fun vs μ C res h hC => ?_)
  unfold p_SR_trait at h
  split at h
  · cases h
    exact ⟨Nat.le_of_ble_eq_true rfl, a_SR_trait μ _ _ _ hC⟩
  · cases h
set_option maxRecDepth 20000 in
theorem fl_0_63 : sr_sF "SuiteRunner" sr_cl sr_WS sr_NW 63 3 3 := ⟨_, _, _, rfl, by decide, rfl, sr_in3, Or.inl (sr_ws 100 rfl rfl)⟩
set_option maxRecDepth 20000 in
theorem ml_0_67 : Cond.methodLink "SuiteRunner" 67 ⟨"SuiteRunner", "holds", "(II)Z"⟩ ∈ sr_WS ∨ ∃ host, Cond.methodLinkNest "SuiteRunner" 67 ⟨"SuiteRunner", "holds", "(II)Z"⟩ host ∈ sr_NW := Or.inl (sr_ws 398 rfl rfl)
set_option maxRecDepth 10000 in
theorem c_SR_needs (l : Launch) (D : va_G) (cA : Nat → ClassId) (ad : Nat → Nat → Nat) : sr_Ct l D sr_cl (sr_tys cA) (sr_wd sr_SC cA sr_csC ad) (sr_cy sr_NW sr_ZS sr_KS ad) ad sr_WS ⟨"SuiteRunner", "needs", "(II)Z"⟩ prog_1_method_4_code 4 (some .boolean) { frames := 2, cells := 0, slots := 0, locals := 42 } p_SR_needs := by
  refine sr_met (E := e_SR_needs) (by decide) sr_WS_good sr_NW_ok sr_hcsC sr_hsepC (sr_htyC cA) (sr_htoC cA) sr_hWC (fun _ _ _ h => h) (sr_hF (List.forall_mem_cons.mpr ⟨fl_0_10, (List.forall_mem_cons.mpr ⟨fl_0_20, (List.forall_mem_cons.mpr ⟨fl_0_28, (List.forall_mem_cons.mpr ⟨fl_0_55, (List.forall_mem_cons.mpr ⟨fl_0_63, (fun _ h => absurd h List.not_mem_nil)⟩)⟩)⟩)⟩)⟩)) (fun _ _ h => nomatch h) (fun _ _ h => nomatch h) (fun _ _ h => nomatch h) (sr_hCS (List.forall_mem_cons.mpr ⟨(fun h => nomatch h), (List.forall_mem_cons.mpr ⟨(fun _ => ⟨⟨"SuiteRunner", "holds", "(II)Z"⟩, prog_1_method_23_code, 2, (some .boolean), { frames := 0, cells := 0, slots := 0, locals := 0 }, c_SR_holds l D cA ad, ⟨rfl, rfl, by decide, by decide⟩, ⟨by decide, by decide, wn_SR_holds⟩, wc_SR_holds, wi_SR_holds, wz_0, ml_0_67⟩), (fun _ h => absurd h List.not_mem_nil)⟩)⟩)) (sr_hCV (List.forall_mem_cons.mpr ⟨(fun ci h => by obtain rfl : 2 = ci := Nat.succ.inj h; exact ⟨⟨"SuiteRunner$Catalog", "hasMethod", "(I)Z"⟩, prog_2_method_2_code, 2, (some .boolean), { frames := 1, cells := 0, slots := 0, locals := 21 }, _, _, _, rfl, c_CT_hasMethod l D cA ad, ⟨rfl, rfl, by decide, by decide⟩, ⟨by decide, by decide, wn_CT_hasMethod⟩, wc_CT_hasMethod, wi_CT_hasMethod, wv_CT_hasMethod, wz_2, ml_0_48⟩), (List.forall_mem_cons.mpr ⟨(fun _ h => nomatch h), (fun _ h => absurd h List.not_mem_nil)⟩)⟩)) rfl dc_SR_needs (fun vs μ C res h hC => ?_)
  unfold p_SR_needs at h
  split at h
  · cases h
    exact ⟨Nat.le_of_ble_eq_true rfl, a_SR_needs μ _ _ hC⟩
  · cases h
set_option maxRecDepth 20000 in
theorem fl_0_70 : sr_sF "SuiteRunner" sr_cl sr_WS sr_NW 70 3 4 := ⟨_, _, _, rfl, by decide, rfl, sr_in3, Or.inl (sr_ws 102 rfl rfl)⟩
set_option maxRecDepth 10000 in
theorem c_SR_needsGroup (l : Launch) (D : va_G) (cA : Nat → ClassId) (ad : Nat → Nat → Nat) : sr_Ct l D sr_cl (sr_tys cA) (sr_wd sr_SC cA sr_csC ad) (sr_cy sr_NW sr_ZS sr_KS ad) ad sr_WS ⟨"SuiteRunner", "needsGroup", "(II)Z"⟩ prog_1_method_5_code 4 (some .boolean) { frames := 2, cells := 0, slots := 0, locals := 42 } p_SR_needsGroup := by
  refine sr_met (E := e_SR_needsGroup) (by decide) sr_WS_good sr_NW_ok sr_hcsC sr_hsepC (sr_htyC cA) (sr_htoC cA) sr_hWC (fun _ _ _ h => h) (sr_hF (List.forall_mem_cons.mpr ⟨fl_0_10, (List.forall_mem_cons.mpr ⟨fl_0_20, (List.forall_mem_cons.mpr ⟨fl_0_28, (List.forall_mem_cons.mpr ⟨fl_0_55, (List.forall_mem_cons.mpr ⟨fl_0_70, (fun _ h => absurd h List.not_mem_nil)⟩)⟩)⟩)⟩)⟩)) (fun _ _ h => nomatch h) (fun _ _ h => nomatch h) (fun _ _ h => nomatch h) (sr_hCS (List.forall_mem_cons.mpr ⟨(fun _ => ⟨⟨"SuiteRunner", "isWithin", "(II)Z"⟩, prog_1_method_22_code, 2, (some .boolean), { frames := 0, cells := 0, slots := 0, locals := 0 }, c_SR_isWithin l D cA ad, ⟨rfl, rfl, by decide, by decide⟩, ⟨by decide, by decide, wn_SR_isWithin⟩, wc_SR_isWithin, wi_SR_isWithin, wz_0, ml_0_32⟩), (List.forall_mem_cons.mpr ⟨(fun h => nomatch h), (List.forall_mem_cons.mpr ⟨(fun _ => ⟨⟨"SuiteRunner", "holds", "(II)Z"⟩, prog_1_method_23_code, 2, (some .boolean), { frames := 0, cells := 0, slots := 0, locals := 0 }, c_SR_holds l D cA ad, ⟨rfl, rfl, by decide, by decide⟩, ⟨by decide, by decide, wn_SR_holds⟩, wc_SR_holds, wi_SR_holds, wz_0, ml_0_67⟩), (fun _ h => absurd h List.not_mem_nil)⟩)⟩)⟩)) (sr_hCV (List.forall_mem_cons.mpr ⟨(fun _ h => nomatch h), (List.forall_mem_cons.mpr ⟨(fun ci h => by obtain rfl : 2 = ci := Nat.succ.inj h; exact ⟨⟨"SuiteRunner$Catalog", "hasMethod", "(I)Z"⟩, prog_2_method_2_code, 2, (some .boolean), { frames := 1, cells := 0, slots := 0, locals := 21 }, _, _, _, rfl, c_CT_hasMethod l D cA ad, ⟨rfl, rfl, by decide, by decide⟩, ⟨by decide, by decide, wn_CT_hasMethod⟩, wc_CT_hasMethod, wi_CT_hasMethod, wv_CT_hasMethod, wz_2, ml_0_48⟩), (List.forall_mem_cons.mpr ⟨(fun _ h => nomatch h), (fun _ h => absurd h List.not_mem_nil)⟩)⟩)⟩)) rfl dc_SR_needsGroup (fun vs μ C res h hC => ?_)
  unfold p_SR_needsGroup at h
  split at h
  · cases h
    exact ⟨Nat.le_of_ble_eq_true rfl, a_SR_needsGroup μ _ _ hC⟩
  · cases h
set_option maxRecDepth 20000 in
theorem fl_0_73 : sr_sF "SuiteRunner" sr_cl sr_WS sr_NW 73 2 4 := ⟨_, _, _, rfl, by decide, rfl, sr_in2, Or.inl (sr_ws 153 rfl rfl)⟩
set_option maxRecDepth 10000 in
theorem c_SR_provider (l : Launch) (D : va_G) (cA : Nat → ClassId) (ad : Nat → Nat → Nat) : sr_Ct l D sr_cl (sr_tys cA) (sr_wd sr_SC cA sr_csC ad) (sr_cy sr_NW sr_ZS sr_KS ad) ad sr_WS ⟨"SuiteRunner", "provider", "(II)Z"⟩ prog_1_method_6_code 3 (some .boolean) { frames := 1, cells := 0, slots := 0, locals := 21 } p_SR_provider := by
  refine sr_met (E := e_SR_provider) (by decide) sr_WS_good sr_NW_ok sr_hcsC sr_hsepC (sr_htyC cA) (sr_htoC cA) sr_hWC (fun _ _ _ h => h) (sr_hF (List.forall_mem_cons.mpr ⟨fl_0_10, (List.forall_mem_cons.mpr ⟨fl_0_20, (List.forall_mem_cons.mpr ⟨fl_0_28, (List.forall_mem_cons.mpr ⟨fl_0_73, (fun _ h => absurd h List.not_mem_nil)⟩)⟩)⟩)⟩)) (fun _ _ h => nomatch h) (fun _ _ h => nomatch h) (fun _ _ h => nomatch h) (sr_hCS (List.forall_mem_cons.mpr ⟨(fun _ => ⟨⟨"SuiteRunner", "isWithin", "(II)Z"⟩, prog_1_method_22_code, 2, (some .boolean), { frames := 0, cells := 0, slots := 0, locals := 0 }, c_SR_isWithin l D cA ad, ⟨rfl, rfl, by decide, by decide⟩, ⟨by decide, by decide, wn_SR_isWithin⟩, wc_SR_isWithin, wi_SR_isWithin, wz_0, ml_0_32⟩), (fun _ h => absurd h List.not_mem_nil)⟩)) (sr_hCV (List.forall_mem_cons.mpr ⟨(fun _ h => nomatch h), (fun _ h => absurd h List.not_mem_nil)⟩)) rfl dc_SR_provider (fun vs μ C res h hC => ?_)
  unfold p_SR_provider at h
  split at h
  · cases h
    exact ⟨Nat.le_of_ble_eq_true rfl, a_SR_provider μ _ _⟩
  · cases h
set_option maxRecDepth 20000 in
theorem ml_0_76 : Cond.methodLink "SuiteRunner" 76 ⟨"SuiteRunner$Catalog", "addConfiguration", "(IZII)I"⟩ ∈ sr_WS ∨ ∃ host, Cond.methodLinkNest "SuiteRunner" 76 ⟨"SuiteRunner$Catalog", "addConfiguration", "(IZII)I"⟩ host ∈ sr_NW := Or.inl (sr_ws 413 rfl rfl)
set_option maxRecDepth 20000 in
theorem wc_CT_addConfiguration : Cond.code ⟨"SuiteRunner$Catalog", "addConfiguration", "(IZII)I"⟩ prog_2_method_4_code 6 (some .int) ∈ sr_WS := sr_ws 416 rfl rfl
set_option maxRecDepth 20000 in
theorem wi_CT_addConfiguration : Cond.instanceMethod ⟨"SuiteRunner$Catalog", "addConfiguration", "(IZII)I"⟩ ∈ sr_WS := sr_ws 414 rfl rfl
set_option maxRecDepth 20000 in
theorem wv_CT_addConfiguration : Cond.selects "SuiteRunner$Catalog" ⟨"SuiteRunner$Catalog", "addConfiguration", "(IZII)I"⟩ ⟨"SuiteRunner$Catalog", "addConfiguration", "(IZII)I"⟩ ∈ sr_WS := sr_ws 415 rfl rfl
theorem wn_CT_addConfiguration : (parseMethodDescriptor "(IZII)I").map (fun d => d.parameters.length) = some 4 := by decide +kernel
set_option maxRecDepth 10000 in
theorem c_SR_configuration (l : Launch) (D : va_G) (cA : Nat → ClassId) (ad : Nat → Nat → Nat) : sr_Ct l D sr_cl (sr_tys cA) (sr_wd sr_SC cA sr_csC ad) (sr_cy sr_NW sr_ZS sr_KS ad) ad sr_WS ⟨"SuiteRunner", "configuration", "(IZII)I"⟩ prog_1_method_7_code 5 (some .int) { frames := 1, cells := 0, slots := 0, locals := 25 } p_SR_configuration := by
  refine sr_met (E := e_SR_configuration) (by decide) sr_WS_good sr_NW_ok sr_hcsC sr_hsepC (sr_htyC cA) (sr_htoC cA) sr_hWC (fun _ _ _ h => h) (sr_hF (List.forall_mem_cons.mpr ⟨fl_0_10, (List.forall_mem_cons.mpr ⟨fl_0_20, (List.forall_mem_cons.mpr ⟨fl_0_28, (fun _ h => absurd h List.not_mem_nil)⟩)⟩)⟩)) (fun _ _ h => nomatch h) (fun _ _ h => nomatch h) (fun _ _ h => nomatch h) (sr_hCS (List.forall_mem_cons.mpr ⟨(fun _ => ⟨⟨"SuiteRunner", "isWithin", "(II)Z"⟩, prog_1_method_22_code, 2, (some .boolean), { frames := 0, cells := 0, slots := 0, locals := 0 }, c_SR_isWithin l D cA ad, ⟨rfl, rfl, by decide, by decide⟩, ⟨by decide, by decide, wn_SR_isWithin⟩, wc_SR_isWithin, wi_SR_isWithin, wz_0, ml_0_32⟩), (List.forall_mem_cons.mpr ⟨(fun h => nomatch h), (fun _ h => absurd h List.not_mem_nil)⟩)⟩)) (sr_hCV (List.forall_mem_cons.mpr ⟨(fun _ h => nomatch h), (List.forall_mem_cons.mpr ⟨(fun ci h => by obtain rfl : 2 = ci := Nat.succ.inj h; exact ⟨⟨"SuiteRunner$Catalog", "addConfiguration", "(IZII)I"⟩, prog_2_method_4_code, 6, (some .int), { frames := 0, cells := 0, slots := 0, locals := 0 }, _, _, _, rfl, c_CT_addConfiguration l D cA ad, ⟨rfl, rfl, by decide, by decide⟩, ⟨by decide, by decide, wn_CT_addConfiguration⟩, wc_CT_addConfiguration, wi_CT_addConfiguration, wv_CT_addConfiguration, wz_2, ml_0_76⟩), (fun _ h => absurd h List.not_mem_nil)⟩)⟩)) rfl dc_SR_configuration (fun vs μ C res h hC => ?_)
  unfold p_SR_configuration at h
  split at h
  · cases h
    exact ⟨Nat.le_of_ble_eq_true rfl, a_SR_configuration μ _ _ _ _ hC⟩
  · cases h
set_option maxRecDepth 20000 in
theorem fl_0_80 : sr_sF "SuiteRunner" sr_cl sr_WS sr_NW 80 8 0 := ⟨_, _, _, rfl, by decide, rfl, sr_in8, Or.inl (sr_ws 326 rfl rfl)⟩
set_option maxRecDepth 20000 in
theorem fl_0_90 : sr_sF "SuiteRunner" sr_cl sr_WS sr_NW 90 8 1 := ⟨_, _, _, rfl, by decide, rfl, sr_in8, Or.inl (sr_ws 328 rfl rfl)⟩
set_option maxRecDepth 20000 in
theorem ml_0_84 : Cond.methodLink "SuiteRunner" 84 ⟨"SuiteRunner$Pattern", "append", "(C)Z"⟩ ∈ sr_WS ∨ ∃ host, Cond.methodLinkNest "SuiteRunner" 84 ⟨"SuiteRunner$Pattern", "append", "(C)Z"⟩ host ∈ sr_NW := Or.inl (sr_ws 421 rfl rfl)
set_option maxRecDepth 20000 in
theorem wc_PT_append : Cond.code ⟨"SuiteRunner$Pattern", "append", "(C)Z"⟩ prog_6_method_4_code 2 (some .boolean) ∈ sr_WS := sr_ws 424 rfl rfl
set_option maxRecDepth 20000 in
theorem wi_PT_append : Cond.instanceMethod ⟨"SuiteRunner$Pattern", "append", "(C)Z"⟩ ∈ sr_WS := sr_ws 422 rfl rfl
set_option maxRecDepth 20000 in
theorem wv_PT_append : Cond.selects "SuiteRunner$Pattern" ⟨"SuiteRunner$Pattern", "append", "(C)Z"⟩ ⟨"SuiteRunner$Pattern", "append", "(C)Z"⟩ ∈ sr_WS := sr_ws 423 rfl rfl
theorem wn_PT_append : (parseMethodDescriptor "(C)Z").map (fun d => d.parameters.length) = some 1 := by decide +kernel
set_option maxRecDepth 10000 in
theorem c_SR_type (l : Launch) (D : va_G) (cA : Nat → ClassId) (ad : Nat → Nat → Nat) : sr_Ct l D sr_cl (sr_tys cA) (sr_wd sr_SC cA sr_csC ad) (sr_cy sr_NW sr_ZS sr_KS ad) ad sr_WS ⟨"SuiteRunner", "type", "(ZC)Z"⟩ prog_1_method_8_code 3 (some .boolean) { frames := 2, cells := 0, slots := 0, locals := 42 } p_SR_type := by
  refine sr_met (E := e_SR_type) (by decide) sr_WS_good sr_NW_ok sr_hcsC sr_hsepC (sr_htyC cA) (sr_htoC cA) sr_hWC (fun _ _ _ h => h) (sr_hF (List.forall_mem_cons.mpr ⟨fl_0_10, (List.forall_mem_cons.mpr ⟨fl_0_24, (List.forall_mem_cons.mpr ⟨fl_0_28, (List.forall_mem_cons.mpr ⟨fl_0_80, (List.forall_mem_cons.mpr ⟨fl_0_90, (fun _ h => absurd h List.not_mem_nil)⟩)⟩)⟩)⟩)⟩)) (fun _ _ h => nomatch h) (fun _ _ h => nomatch h) (fun _ _ h => nomatch h) (sr_hCS (List.forall_mem_cons.mpr ⟨(fun h => nomatch h), (fun _ h => absurd h List.not_mem_nil)⟩)) (sr_hCV (List.forall_mem_cons.mpr ⟨(fun ci h => by obtain rfl : 9 = ci := Nat.succ.inj h; exact ⟨⟨"SuiteRunner$Pattern", "append", "(C)Z"⟩, prog_6_method_4_code, 2, (some .boolean), { frames := 1, cells := 0, slots := 0, locals := 21 }, _, _, _, rfl, c_PT_append l D cA ad, ⟨rfl, rfl, by decide, by decide⟩, ⟨by decide, by decide, wn_PT_append⟩, wc_PT_append, wi_PT_append, wv_PT_append, wz_9, ml_0_84⟩), (fun _ h => absurd h List.not_mem_nil)⟩)) rfl dc_SR_type (fun vs μ C res h hC => ?_)
  unfold p_SR_type at h
  split at h
  · cases h
    exact ⟨Nat.le_of_ble_eq_true rfl, a_SR_type μ _ _ hC⟩
  · cases h
set_option maxRecDepth 20000 in
theorem ml_0_93 : Cond.methodLink "SuiteRunner" 93 ⟨"SuiteRunner$Selection", "pick", "(III)V"⟩ ∈ sr_WS ∨ ∃ host, Cond.methodLinkNest "SuiteRunner" 93 ⟨"SuiteRunner$Selection", "pick", "(III)V"⟩ host ∈ sr_NW := Or.inl (sr_ws 433 rfl rfl)
set_option maxRecDepth 20000 in
theorem wc_SE_pick : Cond.code ⟨"SuiteRunner$Selection", "pick", "(III)V"⟩ prog_9_method_2_code 4 none ∈ sr_WS := sr_ws 436 rfl rfl
set_option maxRecDepth 20000 in
theorem wi_SE_pick : Cond.instanceMethod ⟨"SuiteRunner$Selection", "pick", "(III)V"⟩ ∈ sr_WS := sr_ws 434 rfl rfl
set_option maxRecDepth 20000 in
theorem wv_SE_pick : Cond.selects "SuiteRunner$Selection" ⟨"SuiteRunner$Selection", "pick", "(III)V"⟩ ⟨"SuiteRunner$Selection", "pick", "(III)V"⟩ ∈ sr_WS := sr_ws 435 rfl rfl
theorem wn_SE_pick : (parseMethodDescriptor "(III)V").map (fun d => d.parameters.length) = some 3 := by decide +kernel
set_option maxRecDepth 10000 in
theorem c_SR_select (l : Launch) (D : va_G) (cA : Nat → ClassId) (ad : Nat → Nat → Nat) : sr_Ct l D sr_cl (sr_tys cA) (sr_wd sr_SC cA sr_csC ad) (sr_cy sr_NW sr_ZS sr_KS ad) ad sr_WS ⟨"SuiteRunner", "select", "(III)Z"⟩ prog_1_method_9_code 4 (some .boolean) { frames := 2, cells := 0, slots := 0, locals := 43 } p_SR_select := by
  refine sr_met (E := e_SR_select) (by decide) sr_WS_good sr_NW_ok sr_hcsC sr_hsepC (sr_htyC cA) (sr_htoC cA) sr_hWC (fun _ _ _ h => h) (sr_hF (List.forall_mem_cons.mpr ⟨fl_0_10, (List.forall_mem_cons.mpr ⟨fl_0_24, (List.forall_mem_cons.mpr ⟨fl_0_28, (fun _ h => absurd h List.not_mem_nil)⟩)⟩)⟩)) (fun _ _ h => nomatch h) (fun _ _ h => nomatch h) (fun _ _ h => nomatch h) (sr_hCS (List.forall_mem_cons.mpr ⟨(fun h => nomatch h), (fun _ h => absurd h List.not_mem_nil)⟩)) (sr_hCV (List.forall_mem_cons.mpr ⟨(fun ci h => by obtain rfl : 8 = ci := Nat.succ.inj h; exact ⟨⟨"SuiteRunner$Selection", "pick", "(III)V"⟩, prog_9_method_2_code, 4, none, { frames := 1, cells := 0, slots := 0, locals := 20 }, _, _, _, rfl, c_SE_pick l D cA ad, ⟨rfl, rfl, by decide, by decide⟩, ⟨by decide, by decide, wn_SE_pick⟩, wc_SE_pick, wi_SE_pick, wv_SE_pick, wz_8, ml_0_93⟩), (fun _ h => absurd h List.not_mem_nil)⟩)) rfl dc_SR_select (fun vs μ C res h hC => ?_)
  unfold p_SR_select at h
  split at h
  · cases h
    exact ⟨Nat.le_of_ble_eq_true rfl, a_SR_select μ _ _ _⟩
  · cases h
set_option maxRecDepth 20000 in
theorem fl_0_97 : sr_sF "SuiteRunner" sr_cl sr_WS sr_NW 97 1 1 := ⟨_, _, _, rfl, by decide, rfl, sr_in1, Or.inl (sr_ws 257 rfl rfl)⟩
set_option maxRecDepth 20000 in
theorem fl_0_101 : sr_sF "SuiteRunner" sr_cl sr_WS sr_NW 101 5 0 := ⟨_, _, _, rfl, by decide, rfl, sr_in5, Or.inl (sr_ws 176 rfl rfl)⟩
set_option maxRecDepth 20000 in
theorem fl_0_106 : sr_sF "SuiteRunner" sr_cl sr_WS sr_NW 106 5 1 := ⟨_, _, _, rfl, by decide, rfl, sr_in5, Or.inl (sr_ws 178 rfl rfl)⟩
set_option maxRecDepth 20000 in
theorem fl_0_109 : sr_sF "SuiteRunner" sr_cl sr_WS sr_NW 109 5 2 := ⟨_, _, _, rfl, by decide, rfl, sr_in5, Or.inl (sr_ws 180 rfl rfl)⟩
set_option maxRecDepth 20000 in
theorem fl_0_112 : sr_sF "SuiteRunner" sr_cl sr_WS sr_NW 112 5 3 := ⟨_, _, _, rfl, by decide, rfl, sr_in5, Or.inl (sr_ws 183 rfl rfl)⟩
set_option maxRecDepth 20000 in
theorem fl_0_115 : sr_sF "SuiteRunner" sr_cl sr_WS sr_NW 115 5 4 := ⟨_, _, _, rfl, by decide, rfl, sr_in5, Or.inl (sr_ws 184 rfl rfl)⟩
set_option maxRecDepth 10000 in
theorem c_SR_options (l : Launch) (D : va_G) (cA : Nat → ClassId) (ad : Nat → Nat → Nat) : sr_Ct l D sr_cl (sr_tys cA) (sr_wd sr_SC cA sr_csC ad) (sr_cy sr_NW sr_ZS sr_KS ad) ad sr_WS ⟨"SuiteRunner", "options", "(IZZZZ)Z"⟩ prog_1_method_10_code 7 (some .boolean) { frames := 0, cells := 0, slots := 0, locals := 0 } p_SR_options := by
  refine sr_met (E := e_SR_options) (by decide) sr_WS_good sr_NW_ok sr_hcsC sr_hsepC (sr_htyC cA) (sr_htoC cA) sr_hWC (fun _ _ _ h => h) (sr_hF (List.forall_mem_cons.mpr ⟨fl_0_10, (List.forall_mem_cons.mpr ⟨fl_0_28, (List.forall_mem_cons.mpr ⟨fl_0_97, (List.forall_mem_cons.mpr ⟨fl_0_101, (List.forall_mem_cons.mpr ⟨fl_0_106, (List.forall_mem_cons.mpr ⟨fl_0_109, (List.forall_mem_cons.mpr ⟨fl_0_112, (List.forall_mem_cons.mpr ⟨fl_0_115, (fun _ h => absurd h List.not_mem_nil)⟩)⟩)⟩)⟩)⟩)⟩)⟩)⟩)) (fun _ _ h => nomatch h) (fun _ _ h => nomatch h) (fun _ _ h => nomatch h) (fun _ _ _ _ _ _ h => nomatch h) (fun _ _ _ _ _ _ _ h => nomatch h) rfl dc_SR_options (fun vs μ C res h hC => ?_)
  unfold p_SR_options at h
  split at h
  · cases h
    exact ⟨Nat.le_of_ble_eq_true rfl, a_SR_options μ _ _ _ _ _ hC⟩
  · cases h
set_option maxRecDepth 20000 in
theorem ml_0_118 : Cond.methodLink "SuiteRunner" 118 ⟨"SuiteRunner", "chosenNow", "()I"⟩ ∈ sr_WS ∨ ∃ host, Cond.methodLinkNest "SuiteRunner" 118 ⟨"SuiteRunner", "chosenNow", "()I"⟩ host ∈ sr_NW := Or.inl (sr_ws 449 rfl rfl)
set_option maxRecDepth 20000 in
theorem wc_SR_chosenNow : Cond.code ⟨"SuiteRunner", "chosenNow", "()I"⟩ prog_1_method_21_code 3 (some .int) ∈ sr_WS := sr_ws 452 rfl rfl
set_option maxRecDepth 20000 in
theorem wi_SR_chosenNow : Cond.instanceMethod ⟨"SuiteRunner", "chosenNow", "()I"⟩ ∈ sr_WS := sr_ws 451 rfl rfl
set_option maxRecDepth 20000 in
theorem wv_SR_chosenNow : Cond.selects "SuiteRunner" ⟨"SuiteRunner", "chosenNow", "()I"⟩ ⟨"SuiteRunner", "chosenNow", "()I"⟩ ∈ sr_WS := sr_ws 1 rfl rfl
theorem wn_SR_chosenNow : (parseMethodDescriptor "()I").map (fun d => d.parameters.length) = some 0 := by decide +kernel
set_option maxRecDepth 10000 in
theorem c_SR_selected (l : Launch) (D : va_G) (cA : Nat → ClassId) (ad : Nat → Nat → Nat) : sr_Ct l D sr_cl (sr_tys cA) (sr_wd sr_SC cA sr_csC ad) (sr_cy sr_NW sr_ZS sr_KS ad) ad sr_WS ⟨"SuiteRunner", "selected", "()I"⟩ prog_1_method_15_code 1 (some .int) { frames := 5, cells := 0, slots := 0, locals := 122 } p_SR_selected := by
  refine sr_met (E := e_SR_selected) (by decide) sr_WS_good sr_NW_ok sr_hcsC sr_hsepC (sr_htyC cA) (sr_htoC cA) sr_hWC (fun _ _ _ h => h) (fun _ _ _ h => nomatch h) (fun _ _ h => nomatch h) (fun _ _ h => nomatch h) (fun _ _ h => nomatch h) (sr_hCS (List.forall_mem_cons.mpr ⟨(fun h => nomatch h), (fun _ h => absurd h List.not_mem_nil)⟩)) (sr_hCV (List.forall_mem_cons.mpr ⟨(fun ci h => by obtain rfl : 0 = ci := Nat.succ.inj h; exact ⟨⟨"SuiteRunner", "chosenNow", "()I"⟩, prog_1_method_21_code, 3, (some .int), { frames := 4, cells := 0, slots := 0, locals := 100 }, _, _, _, rfl, c_SR_chosenNow l D cA ad, ⟨rfl, rfl, by decide, by decide⟩, ⟨by decide, by decide, wn_SR_chosenNow⟩, wc_SR_chosenNow, wi_SR_chosenNow, wv_SR_chosenNow, wz_0, ml_0_118⟩), (fun _ h => absurd h List.not_mem_nil)⟩)) rfl dc_SR_selected (fun vs μ C res h hC => ?_)
  unfold p_SR_selected at h
  split at h
  · cases h
    exact ⟨Nat.le_of_ble_eq_true rfl, a_SR_selected μ  hC⟩
  · cases h
set_option maxRecDepth 20000 in
theorem ml_0_149 : Cond.methodLink "SuiteRunner" 149 ⟨"SuiteRunner$Catalog", "needsWithin", "(II)I"⟩ ∈ sr_WS ∨ ∃ host, Cond.methodLinkNest "SuiteRunner" 149 ⟨"SuiteRunner$Catalog", "needsWithin", "(II)I"⟩ host ∈ sr_NW := Or.inl (sr_ws 637 rfl rfl)
set_option maxRecDepth 10000 in
theorem c_SR_edges (l : Launch) (D : va_G) (cA : Nat → ClassId) (ad : Nat → Nat → Nat) : sr_Ct l D sr_cl (sr_tys cA) (sr_wd sr_SC cA sr_csC ad) (sr_cy sr_NW sr_ZS sr_KS ad) ad sr_WS ⟨"SuiteRunner", "edges", "(I)I"⟩ prog_1_method_16_code 3 (some .int) { frames := 5, cells := 0, slots := 0, locals := 122 } p_SR_edges := by
  refine sr_met (E := e_SR_edges) (by decide) sr_WS_good sr_NW_ok sr_hcsC sr_hsepC (sr_htyC cA) (sr_htoC cA) sr_hWC (fun _ _ _ h => h) (sr_hF (List.forall_mem_cons.mpr ⟨fl_0_20, (fun _ h => absurd h List.not_mem_nil)⟩)) (fun _ _ h => nomatch h) (fun _ _ h => nomatch h) (fun _ _ h => nomatch h) (sr_hCS (List.forall_mem_cons.mpr ⟨(fun h => nomatch h), (List.forall_mem_cons.mpr ⟨(fun _ => ⟨⟨"SuiteRunner", "holds", "(II)Z"⟩, prog_1_method_23_code, 2, (some .boolean), { frames := 0, cells := 0, slots := 0, locals := 0 }, c_SR_holds l D cA ad, ⟨rfl, rfl, by decide, by decide⟩, ⟨by decide, by decide, wn_SR_holds⟩, wc_SR_holds, wi_SR_holds, wz_0, ml_0_67⟩), (List.forall_mem_cons.mpr ⟨(fun h => nomatch h), (List.forall_mem_cons.mpr ⟨(fun h => nomatch h), (fun _ h => absurd h List.not_mem_nil)⟩)⟩)⟩)⟩)) (sr_hCV (List.forall_mem_cons.mpr ⟨(fun ci h => by obtain rfl : 2 = ci := Nat.succ.inj h; exact ⟨⟨"SuiteRunner$Catalog", "hasMethod", "(I)Z"⟩, prog_2_method_2_code, 2, (some .boolean), { frames := 1, cells := 0, slots := 0, locals := 21 }, _, _, _, rfl, c_CT_hasMethod l D cA ad, ⟨rfl, rfl, by decide, by decide⟩, ⟨by decide, by decide, wn_CT_hasMethod⟩, wc_CT_hasMethod, wi_CT_hasMethod, wv_CT_hasMethod, wz_2, ml_0_48⟩), (List.forall_mem_cons.mpr ⟨(fun _ h => nomatch h), (List.forall_mem_cons.mpr ⟨(fun ci h => by obtain rfl : 0 = ci := Nat.succ.inj h; exact ⟨⟨"SuiteRunner", "chosenNow", "()I"⟩, prog_1_method_21_code, 3, (some .int), { frames := 4, cells := 0, slots := 0, locals := 100 }, _, _, _, rfl, c_SR_chosenNow l D cA ad, ⟨rfl, rfl, by decide, by decide⟩, ⟨by decide, by decide, wn_SR_chosenNow⟩, wc_SR_chosenNow, wi_SR_chosenNow, wv_SR_chosenNow, wz_0, ml_0_118⟩), (List.forall_mem_cons.mpr ⟨(fun ci h => by obtain rfl : 2 = ci := Nat.succ.inj h; exact ⟨⟨"SuiteRunner$Catalog", "needsWithin", "(II)I"⟩, prog_2_method_7_code, 6, (some .int), { frames := 0, cells := 0, slots := 0, locals := 0 }, _, _, _, rfl, c_CT_needsWithin l D cA ad, ⟨rfl, rfl, by decide, by decide⟩, ⟨by decide, by decide, wn_CT_needsWithin⟩, wc_CT_needsWithin, wi_CT_needsWithin, wv_CT_needsWithin, wz_2, ml_0_149⟩), (fun _ h => absurd h List.not_mem_nil)⟩)⟩)⟩)⟩)) rfl dc_SR_edges (fun vs μ C res h hC => ?_)
  unfold p_SR_edges at h
  split at h
  · cases h
    exact ⟨Nat.le_of_ble_eq_true rfl, a_SR_edges μ _ hC⟩
  · cases h
set_option maxRecDepth 20000 in
theorem ml_0_125 : Cond.methodLink "SuiteRunner" 125 ⟨"SuiteRunner$Catalog", "circleWithin", "(I)I"⟩ ∈ sr_WS ∨ ∃ host, Cond.methodLinkNest "SuiteRunner" 125 ⟨"SuiteRunner$Catalog", "circleWithin", "(I)I"⟩ host ∈ sr_NW := Or.inl (sr_ws 477 rfl rfl)
set_option maxRecDepth 20000 in
theorem wc_CT_circleWithin : Cond.code ⟨"SuiteRunner$Catalog", "circleWithin", "(I)I"⟩ prog_2_method_9_code 4 (some .int) ∈ sr_WS := sr_ws 480 rfl rfl
set_option maxRecDepth 20000 in
theorem wi_CT_circleWithin : Cond.instanceMethod ⟨"SuiteRunner$Catalog", "circleWithin", "(I)I"⟩ ∈ sr_WS := sr_ws 478 rfl rfl
set_option maxRecDepth 20000 in
theorem wv_CT_circleWithin : Cond.selects "SuiteRunner$Catalog" ⟨"SuiteRunner$Catalog", "circleWithin", "(I)I"⟩ ⟨"SuiteRunner$Catalog", "circleWithin", "(I)I"⟩ ∈ sr_WS := sr_ws 479 rfl rfl
theorem wn_CT_circleWithin : (parseMethodDescriptor "(I)I").map (fun d => d.parameters.length) = some 1 := by decide +kernel
set_option maxRecDepth 10000 in
theorem c_SR_circle (l : Launch) (D : va_G) (cA : Nat → ClassId) (ad : Nat → Nat → Nat) : sr_Ct l D sr_cl (sr_tys cA) (sr_wd sr_SC cA sr_csC ad) (sr_cy sr_NW sr_ZS sr_KS ad) ad sr_WS ⟨"SuiteRunner", "circle", "()I"⟩ prog_1_method_17_code 1 (some .int) { frames := 5, cells := 0, slots := 0, locals := 122 } p_SR_circle := by
  refine sr_met (E := e_SR_circle) (by decide) sr_WS_good sr_NW_ok sr_hcsC sr_hsepC (sr_htyC cA) (sr_htoC cA) sr_hWC (fun _ _ _ h => h) (sr_hF (List.forall_mem_cons.mpr ⟨fl_0_20, (fun _ h => absurd h List.not_mem_nil)⟩)) (fun _ _ h => nomatch h) (fun _ _ h => nomatch h) (fun _ _ h => nomatch h) (sr_hCS (List.forall_mem_cons.mpr ⟨(fun h => nomatch h), (List.forall_mem_cons.mpr ⟨(fun h => nomatch h), (fun _ h => absurd h List.not_mem_nil)⟩)⟩)) (sr_hCV (List.forall_mem_cons.mpr ⟨(fun ci h => by obtain rfl : 0 = ci := Nat.succ.inj h; exact ⟨⟨"SuiteRunner", "chosenNow", "()I"⟩, prog_1_method_21_code, 3, (some .int), { frames := 4, cells := 0, slots := 0, locals := 100 }, _, _, _, rfl, c_SR_chosenNow l D cA ad, ⟨rfl, rfl, by decide, by decide⟩, ⟨by decide, by decide, wn_SR_chosenNow⟩, wc_SR_chosenNow, wi_SR_chosenNow, wv_SR_chosenNow, wz_0, ml_0_118⟩), (List.forall_mem_cons.mpr ⟨(fun ci h => by obtain rfl : 2 = ci := Nat.succ.inj h; exact ⟨⟨"SuiteRunner$Catalog", "circleWithin", "(I)I"⟩, prog_2_method_9_code, 4, (some .int), { frames := 2, cells := 0, slots := 0, locals := 48 }, _, _, _, rfl, c_CT_circleWithin l D cA ad, ⟨rfl, rfl, by decide, by decide⟩, ⟨by decide, by decide, wn_CT_circleWithin⟩, wc_CT_circleWithin, wi_CT_circleWithin, wv_CT_circleWithin, wz_2, ml_0_125⟩), (fun _ h => absurd h List.not_mem_nil)⟩)⟩)) rfl dc_SR_circle (fun vs μ C res h hC => ?_)
  unfold p_SR_circle at h
  split at h
  · cases h
    exact ⟨Nat.le_of_ble_eq_true rfl, a_SR_circle μ  hC⟩
  · cases h
set_option maxRecDepth 20000 in
theorem fl_0_136 : sr_sF "SuiteRunner" sr_cl sr_WS sr_NW 136 1 6 := ⟨_, _, _, rfl, by decide, rfl, sr_in1, Or.inl (sr_ws 267 rfl rfl)⟩
set_option maxRecDepth 20000 in
theorem fl_0_139 : sr_sF "SuiteRunner" sr_cl sr_WS sr_NW 139 1 7 := ⟨_, _, _, rfl, by decide, rfl, sr_in1, Or.inl (sr_ws 269 rfl rfl)⟩
set_option maxRecDepth 20000 in
theorem fl_0_146 : sr_sF "SuiteRunner" sr_cl sr_WS sr_NW 146 8 2 := ⟨_, _, _, rfl, by decide, rfl, sr_in8, Or.inl (sr_ws 330 rfl rfl)⟩
set_option maxRecDepth 20000 in
theorem ml_0_142 : Cond.methodLink "SuiteRunner" 142 ⟨"SuiteRunner$Catalog", "withAllNeeded", "(II)I"⟩ ∈ sr_WS ∨ ∃ host, Cond.methodLinkNest "SuiteRunner" 142 ⟨"SuiteRunner$Catalog", "withAllNeeded", "(II)I"⟩ host ∈ sr_NW := Or.inl (sr_ws 621 rfl rfl)
set_option maxRecDepth 20000 in
theorem wc_CT_withAllNeeded : Cond.code ⟨"SuiteRunner$Catalog", "withAllNeeded", "(II)I"⟩ prog_2_method_10_code 5 (some .int) ∈ sr_WS := sr_ws 624 rfl rfl
set_option maxRecDepth 20000 in
theorem wi_CT_withAllNeeded : Cond.instanceMethod ⟨"SuiteRunner$Catalog", "withAllNeeded", "(II)I"⟩ ∈ sr_WS := sr_ws 622 rfl rfl
set_option maxRecDepth 20000 in
theorem wv_CT_withAllNeeded : Cond.selects "SuiteRunner$Catalog" ⟨"SuiteRunner$Catalog", "withAllNeeded", "(II)I"⟩ ⟨"SuiteRunner$Catalog", "withAllNeeded", "(II)I"⟩ ∈ sr_WS := sr_ws 623 rfl rfl
theorem wn_CT_withAllNeeded : (parseMethodDescriptor "(II)I").map (fun d => d.parameters.length) = some 2 := by decide +kernel
set_option maxRecDepth 10000 in
theorem c_SR_again (l : Launch) (D : va_G) (cA : Nat → ClassId) (ad : Nat → Nat → Nat) : sr_Ct l D sr_cl (sr_tys cA) (sr_wd sr_SC cA sr_csC ad) (sr_cy sr_NW sr_ZS sr_KS ad) ad sr_WS ⟨"SuiteRunner", "again", "()I"⟩ prog_1_method_13_code 1 (some .int) { frames := 5, cells := 0, slots := 0, locals := 122 } p_SR_again := by
  refine sr_met (E := e_SR_again) (by decide) sr_WS_good sr_NW_ok sr_hcsC sr_hsepC (sr_htyC cA) (sr_htoC cA) sr_hWC (fun _ _ _ h => h) (sr_hF (List.forall_mem_cons.mpr ⟨fl_0_10, (List.forall_mem_cons.mpr ⟨fl_0_20, (List.forall_mem_cons.mpr ⟨fl_0_24, (List.forall_mem_cons.mpr ⟨fl_0_28, (List.forall_mem_cons.mpr ⟨fl_0_136, (List.forall_mem_cons.mpr ⟨fl_0_139, (List.forall_mem_cons.mpr ⟨fl_0_146, (fun _ h => absurd h List.not_mem_nil)⟩)⟩)⟩)⟩)⟩)⟩)⟩)) (fun _ _ h => nomatch h) (fun _ _ h => nomatch h) (fun _ _ h => nomatch h) (sr_hCS (List.forall_mem_cons.mpr ⟨(fun h => nomatch h), (List.forall_mem_cons.mpr ⟨(fun h => nomatch h), (fun _ h => absurd h List.not_mem_nil)⟩)⟩)) (sr_hCV (List.forall_mem_cons.mpr ⟨(fun ci h => by obtain rfl : 0 = ci := Nat.succ.inj h; exact ⟨⟨"SuiteRunner", "chosenNow", "()I"⟩, prog_1_method_21_code, 3, (some .int), { frames := 4, cells := 0, slots := 0, locals := 100 }, _, _, _, rfl, c_SR_chosenNow l D cA ad, ⟨rfl, rfl, by decide, by decide⟩, ⟨by decide, by decide, wn_SR_chosenNow⟩, wc_SR_chosenNow, wi_SR_chosenNow, wv_SR_chosenNow, wz_0, ml_0_118⟩), (List.forall_mem_cons.mpr ⟨(fun ci h => by obtain rfl : 2 = ci := Nat.succ.inj h; exact ⟨⟨"SuiteRunner$Catalog", "withAllNeeded", "(II)I"⟩, prog_2_method_10_code, 5, (some .int), { frames := 2, cells := 0, slots := 0, locals := 48 }, _, _, _, rfl, c_CT_withAllNeeded l D cA ad, ⟨rfl, rfl, by decide, by decide⟩, ⟨by decide, by decide, wn_CT_withAllNeeded⟩, wc_CT_withAllNeeded, wi_CT_withAllNeeded, wv_CT_withAllNeeded, wz_2, ml_0_142⟩), (fun _ h => absurd h List.not_mem_nil)⟩)⟩)) rfl dc_SR_again (fun vs μ C res h hC => ?_)
  unfold p_SR_again at h
  split at h
  · cases h
    exact ⟨Nat.le_of_ble_eq_true rfl, a_SR_again μ  hC⟩
  · cases h
set_option maxRecDepth 20000 in
theorem fl_0_152 : sr_sF "SuiteRunner" sr_cl sr_WS sr_NW 152 1 3 := ⟨_, _, _, rfl, by decide, rfl, sr_in1, Or.inl (sr_ws 261 rfl rfl)⟩
set_option maxRecDepth 20000 in
theorem ml_0_156 : Cond.methodLink "SuiteRunner" 156 ⟨"SuiteRunner$Progress", "figure", "(I)I"⟩ ∈ sr_WS ∨ ∃ host, Cond.methodLinkNest "SuiteRunner" 156 ⟨"SuiteRunner$Progress", "figure", "(I)I"⟩ host ∈ sr_NW := Or.inl (sr_ws 646 rfl rfl)
set_option maxRecDepth 20000 in
theorem wc_PR_figure : Cond.code ⟨"SuiteRunner$Progress", "figure", "(I)I"⟩ prog_7_method_6_code 2 (some .int) ∈ sr_WS := sr_ws 649 rfl rfl
set_option maxRecDepth 20000 in
theorem wi_PR_figure : Cond.instanceMethod ⟨"SuiteRunner$Progress", "figure", "(I)I"⟩ ∈ sr_WS := sr_ws 647 rfl rfl
set_option maxRecDepth 20000 in
theorem wv_PR_figure : Cond.selects "SuiteRunner$Progress" ⟨"SuiteRunner$Progress", "figure", "(I)I"⟩ ⟨"SuiteRunner$Progress", "figure", "(I)I"⟩ ∈ sr_WS := sr_ws 648 rfl rfl
theorem wn_PR_figure : (parseMethodDescriptor "(I)I").map (fun d => d.parameters.length) = some 1 := by decide +kernel
set_option maxRecDepth 20000 in
theorem wz_7 : Cond.initialized "SuiteRunner$Progress" ∈ sr_WS := sr_ws 47 rfl rfl
set_option maxRecDepth 10000 in
theorem c_SR_report (l : Launch) (D : va_G) (cA : Nat → ClassId) (ad : Nat → Nat → Nat) : sr_Ct l D sr_cl (sr_tys cA) (sr_wd sr_SC cA sr_csC ad) (sr_cy sr_NW sr_ZS sr_KS ad) ad sr_WS ⟨"SuiteRunner", "report", "(II)I"⟩ prog_1_method_18_code 3 (some .int) { frames := 2, cells := 0, slots := 0, locals := 42 } p_SR_report := by
  refine sr_met (E := e_SR_report) (by decide) sr_WS_good sr_NW_ok sr_hcsC sr_hsepC (sr_htyC cA) (sr_htoC cA) sr_hWC (fun _ _ _ h => h) (sr_hF (List.forall_mem_cons.mpr ⟨fl_0_10, (List.forall_mem_cons.mpr ⟨fl_0_20, (List.forall_mem_cons.mpr ⟨fl_0_152, (fun _ h => absurd h List.not_mem_nil)⟩)⟩)⟩)) (fun _ _ h => nomatch h) (fun _ _ h => nomatch h) (fun _ _ h => nomatch h) (sr_hCS (List.forall_mem_cons.mpr ⟨(fun h => nomatch h), (List.forall_mem_cons.mpr ⟨(fun h => nomatch h), (fun _ h => absurd h List.not_mem_nil)⟩)⟩)) (sr_hCV (List.forall_mem_cons.mpr ⟨(fun ci h => by obtain rfl : 2 = ci := Nat.succ.inj h; exact ⟨⟨"SuiteRunner$Catalog", "hasMethod", "(I)Z"⟩, prog_2_method_2_code, 2, (some .boolean), { frames := 1, cells := 0, slots := 0, locals := 21 }, _, _, _, rfl, c_CT_hasMethod l D cA ad, ⟨rfl, rfl, by decide, by decide⟩, ⟨by decide, by decide, wn_CT_hasMethod⟩, wc_CT_hasMethod, wi_CT_hasMethod, wv_CT_hasMethod, wz_2, ml_0_48⟩), (List.forall_mem_cons.mpr ⟨(fun ci h => by obtain rfl : 7 = ci := Nat.succ.inj h; exact ⟨⟨"SuiteRunner$Progress", "figure", "(I)I"⟩, prog_7_method_6_code, 2, (some .int), { frames := 0, cells := 0, slots := 0, locals := 0 }, _, _, _, rfl, c_PR_figure l D cA ad, ⟨rfl, rfl, by decide, by decide⟩, ⟨by decide, by decide, wn_PR_figure⟩, wc_PR_figure, wi_PR_figure, wv_PR_figure, wz_7, ml_0_156⟩), (fun _ h => absurd h List.not_mem_nil)⟩)⟩)) rfl dc_SR_report (fun vs μ C res h hC => ?_)
  unfold p_SR_report at h
  split at h
  · cases h
    exact ⟨Nat.le_of_ble_eq_true rfl, a_SR_report μ _ _ hC⟩
  · cases h
set_option maxRecDepth 20000 in
theorem fl_0_161 : sr_sF "SuiteRunner" sr_cl sr_WS sr_NW 161 1 4 := ⟨_, _, _, rfl, by decide, rfl, sr_in1, Or.inl (sr_ws 263 rfl rfl)⟩
set_option maxRecDepth 10000 in
theorem c_SR_worker (l : Launch) (D : va_G) (cA : Nat → ClassId) (ad : Nat → Nat → Nat) : sr_Ct l D sr_cl (sr_tys cA) (sr_wd sr_SC cA sr_csC ad) (sr_cy sr_NW sr_ZS sr_KS ad) ad sr_WS ⟨"SuiteRunner", "worker", "(I)I"⟩ prog_1_method_19_code 2 (some .int) { frames := 1, cells := 0, slots := 0, locals := 21 } p_SR_worker := by
  refine sr_met (E := e_SR_worker) (by decide) sr_WS_good sr_NW_ok sr_hcsC sr_hsepC (sr_htyC cA) (sr_htoC cA) sr_hWC (fun _ _ _ h => h) (sr_hF (List.forall_mem_cons.mpr ⟨fl_0_10, (List.forall_mem_cons.mpr ⟨fl_0_161, (fun _ h => absurd h List.not_mem_nil)⟩)⟩)) (fun _ _ h => nomatch h) (fun _ _ h => nomatch h) (fun _ _ h => nomatch h) (sr_hCS (List.forall_mem_cons.mpr ⟨(fun _ => ⟨⟨"SuiteRunner", "isWithin", "(II)Z"⟩, prog_1_method_22_code, 2, (some .boolean), { frames := 0, cells := 0, slots := 0, locals := 0 }, c_SR_isWithin l D cA ad, ⟨rfl, rfl, by decide, by decide⟩, ⟨by decide, by decide, wn_SR_isWithin⟩, wc_SR_isWithin, wi_SR_isWithin, wz_0, ml_0_32⟩), (fun _ h => absurd h List.not_mem_nil)⟩)) (sr_hCV (List.forall_mem_cons.mpr ⟨(fun _ h => nomatch h), (fun _ h => absurd h List.not_mem_nil)⟩)) rfl dc_SR_worker (fun vs μ C res h hC => ?_)
  unfold p_SR_worker at h
  split at h
  · cases h
    exact ⟨Nat.le_of_ble_eq_true rfl, a_SR_worker μ _⟩
  · cases h
set_option maxRecDepth 20000 in
theorem fl_0_164 : sr_sF "SuiteRunner" sr_cl sr_WS sr_NW 164 1 2 := ⟨_, _, _, rfl, by decide, rfl, sr_in1, Or.inl (sr_ws 259 rfl rfl)⟩
set_option maxRecDepth 20000 in
theorem fl_0_168 : sr_sF "SuiteRunner" sr_cl sr_WS sr_NW 168 6 1 := ⟨_, _, _, rfl, by decide, rfl, sr_in6, Or.inl (sr_ws 204 rfl rfl)⟩
set_option maxRecDepth 20000 in
theorem ml_0_173 : Cond.methodLink "SuiteRunner" 173 ⟨"SuiteRunner$Log", "latest", "(I)I"⟩ ∈ sr_WS ∨ ∃ host, Cond.methodLinkNest "SuiteRunner" 173 ⟨"SuiteRunner$Log", "latest", "(I)I"⟩ host ∈ sr_NW := Or.inl (sr_ws 658 rfl rfl)
set_option maxRecDepth 20000 in
theorem wc_LG_latest : Cond.code ⟨"SuiteRunner$Log", "latest", "(I)I"⟩ prog_4_method_4_code 2 (some .int) ∈ sr_WS := sr_ws 661 rfl rfl
set_option maxRecDepth 20000 in
theorem wi_LG_latest : Cond.instanceMethod ⟨"SuiteRunner$Log", "latest", "(I)I"⟩ ∈ sr_WS := sr_ws 659 rfl rfl
set_option maxRecDepth 20000 in
theorem wv_LG_latest : Cond.selects "SuiteRunner$Log" ⟨"SuiteRunner$Log", "latest", "(I)I"⟩ ⟨"SuiteRunner$Log", "latest", "(I)I"⟩ ∈ sr_WS := sr_ws 660 rfl rfl
theorem wn_LG_latest : (parseMethodDescriptor "(I)I").map (fun d => d.parameters.length) = some 1 := by decide +kernel
set_option maxRecDepth 20000 in
theorem wz_6 : Cond.initialized "SuiteRunner$Log" ∈ sr_WS := sr_ws 46 rfl rfl
set_option maxRecDepth 10000 in
theorem c_SR_event (l : Launch) (D : va_G) (cA : Nat → ClassId) (ad : Nat → Nat → Nat) : sr_Ct l D sr_cl (sr_tys cA) (sr_wd sr_SC cA sr_csC ad) (sr_cy sr_NW sr_ZS sr_KS ad) ad sr_WS ⟨"SuiteRunner", "event", "(I)I"⟩ prog_1_method_20_code 2 (some .int) { frames := 2, cells := 0, slots := 0, locals := 42 } p_SR_event := by
  refine sr_met (E := e_SR_event) (by decide) sr_WS_good sr_NW_ok sr_hcsC sr_hsepC (sr_htyC cA) (sr_htoC cA) sr_hWC (fun _ _ _ h => h) (sr_hF (List.forall_mem_cons.mpr ⟨fl_0_10, (List.forall_mem_cons.mpr ⟨fl_0_164, (List.forall_mem_cons.mpr ⟨fl_0_168, (fun _ h => absurd h List.not_mem_nil)⟩)⟩)⟩)) (fun _ _ h => nomatch h) (fun _ _ h => nomatch h) (fun _ _ h => nomatch h) (sr_hCS (List.forall_mem_cons.mpr ⟨(fun h => nomatch h), (fun _ h => absurd h List.not_mem_nil)⟩)) (sr_hCV (List.forall_mem_cons.mpr ⟨(fun ci h => by obtain rfl : 6 = ci := Nat.succ.inj h; exact ⟨⟨"SuiteRunner$Log", "latest", "(I)I"⟩, prog_4_method_4_code, 2, (some .int), { frames := 1, cells := 0, slots := 0, locals := 21 }, _, _, _, rfl, c_LG_latest l D cA ad, ⟨rfl, rfl, by decide, by decide⟩, ⟨by decide, by decide, wn_LG_latest⟩, wc_LG_latest, wi_LG_latest, wv_LG_latest, wz_6, ml_0_173⟩), (fun _ h => absurd h List.not_mem_nil)⟩)) rfl dc_SR_event (fun vs μ C res h hC => ?_)
  unfold p_SR_event at h
  split at h
  · cases h
    exact ⟨Nat.le_of_ble_eq_true rfl, a_SR_event μ _ hC⟩
  · cases h
set_option maxRecDepth 20000 in
theorem fl_1_12 : sr_sF "SuiteRunner$Runner" sr_cl sr_WS sr_NW 12 1 0 := ⟨_, _, _, rfl, by decide, rfl, sr_in1, Or.inl (sr_ws 254 rfl rfl)⟩
set_option maxRecDepth 20000 in
theorem fl_1_28 : sr_sF "SuiteRunner$Runner" sr_cl sr_WS sr_NW 28 1 2 := ⟨_, _, _, rfl, by decide, rfl, sr_in1, Or.inl (sr_ws 258 rfl rfl)⟩
set_option maxRecDepth 20000 in
theorem fl_1_50 : sr_sF "SuiteRunner$Runner" sr_cl sr_WS sr_NW 50 1 9 := ⟨_, _, _, rfl, by decide, rfl, sr_in1, Or.inl (sr_ws 271 rfl rfl)⟩
set_option maxRecDepth 20000 in
theorem fl_1_212 : sr_sF "SuiteRunner$Runner" sr_cl sr_WS sr_NW 212 2 3 := ⟨_, _, _, rfl, by decide, rfl, sr_in2, Or.inl (sr_ws 151 rfl rfl)⟩
set_option maxRecDepth 20000 in
theorem fl_1_215 : sr_sF "SuiteRunner$Runner" sr_cl sr_WS sr_NW 215 2 2 := ⟨_, _, _, rfl, by decide, rfl, sr_in2, Or.inl (sr_ws 149 rfl rfl)⟩
set_option maxRecDepth 20000 in
theorem ml_1_123 : Cond.methodLink "SuiteRunner$Runner" 123 ⟨"SuiteRunner$Log", "add", "(IIII)V"⟩ ∈ sr_WS ∨ ∃ host, Cond.methodLinkNest "SuiteRunner$Runner" 123 ⟨"SuiteRunner$Log", "add", "(IIII)V"⟩ host ∈ sr_NW := Or.inl (sr_ws 535 rfl rfl)
set_option maxRecDepth 20000 in
theorem wc_LG_add : Cond.code ⟨"SuiteRunner$Log", "add", "(IIII)V"⟩ prog_4_method_3_code 5 none ∈ sr_WS := sr_ws 538 rfl rfl
set_option maxRecDepth 20000 in
theorem wi_LG_add : Cond.instanceMethod ⟨"SuiteRunner$Log", "add", "(IIII)V"⟩ ∈ sr_WS := sr_ws 536 rfl rfl
set_option maxRecDepth 20000 in
theorem wv_LG_add : Cond.selects "SuiteRunner$Log" ⟨"SuiteRunner$Log", "add", "(IIII)V"⟩ ⟨"SuiteRunner$Log", "add", "(IIII)V"⟩ ∈ sr_WS := sr_ws 537 rfl rfl
theorem wn_LG_add : (parseMethodDescriptor "(IIII)V").map (fun d => d.parameters.length) = some 4 := by decide +kernel
set_option maxRecDepth 20000 in
theorem ml_1_178 : Cond.methodLink "SuiteRunner$Runner" 178 ⟨"SuiteRunner$Runner", "placeOf", "(II)I"⟩ ∈ sr_WS ∨ ∃ host, Cond.methodLinkNest "SuiteRunner$Runner" 178 ⟨"SuiteRunner$Runner", "placeOf", "(II)I"⟩ host ∈ sr_NW := Or.inl (sr_ws 551 rfl rfl)
set_option maxRecDepth 20000 in
theorem wc_RN_placeOf : Cond.code ⟨"SuiteRunner$Runner", "placeOf", "(II)I"⟩ prog_8_method_18_code 2 (some .int) ∈ sr_WS := sr_ws 553 rfl rfl
set_option maxRecDepth 20000 in
theorem wi_RN_placeOf : Cond.static ⟨"SuiteRunner$Runner", "placeOf", "(II)I"⟩ ∈ sr_WS := sr_ws 552 rfl rfl
theorem wn_RN_placeOf : (parseMethodDescriptor "(II)I").map (fun d => d.parameters.length) = some 2 := by decide +kernel
set_option maxRecDepth 20000 in
theorem wz_1 : Cond.initialized "SuiteRunner$Runner" ∈ sr_WS := sr_ws 41 rfl rfl
set_option maxRecDepth 20000 in
theorem ml_1_219 : Cond.methodLink "SuiteRunner$Runner" 219 ⟨"SuiteRunner$Configuration", "isOf", "(IZI)Z"⟩ ∈ sr_WS ∨ ∃ host, Cond.methodLinkNest "SuiteRunner$Runner" 219 ⟨"SuiteRunner$Configuration", "isOf", "(IZI)Z"⟩ host ∈ sr_NW := Or.inl (sr_ws 543 rfl rfl)
set_option maxRecDepth 20000 in
theorem wc_CF_isOf : Cond.code ⟨"SuiteRunner$Configuration", "isOf", "(IZI)Z"⟩ prog_3_method_2_code 4 (some .boolean) ∈ sr_WS := sr_ws 546 rfl rfl
set_option maxRecDepth 20000 in
theorem wi_CF_isOf : Cond.instanceMethod ⟨"SuiteRunner$Configuration", "isOf", "(IZI)Z"⟩ ∈ sr_WS := sr_ws 544 rfl rfl
set_option maxRecDepth 20000 in
theorem wv_CF_isOf : Cond.selects "SuiteRunner$Configuration" ⟨"SuiteRunner$Configuration", "isOf", "(IZI)Z"⟩ ⟨"SuiteRunner$Configuration", "isOf", "(IZI)Z"⟩ ∈ sr_WS := sr_ws 545 rfl rfl
theorem wn_CF_isOf : (parseMethodDescriptor "(IZI)Z").map (fun d => d.parameters.length) = some 3 := by decide +kernel
set_option maxRecDepth 20000 in
theorem wz_4 : Cond.initialized "SuiteRunner$Configuration" ∈ sr_WS := sr_ws 44 rfl rfl
set_option maxRecDepth 20000 in
theorem ml_1_225 : Cond.methodLink "SuiteRunner$Runner" 225 ⟨"SuiteRunner$Configuration", "failsNow", "()Z"⟩ ∈ sr_WS ∨ ∃ host, Cond.methodLinkNest "SuiteRunner$Runner" 225 ⟨"SuiteRunner$Configuration", "failsNow", "()Z"⟩ host ∈ sr_NW := Or.inl (sr_ws 547 rfl rfl)
set_option maxRecDepth 20000 in
theorem wc_CF_failsNow : Cond.code ⟨"SuiteRunner$Configuration", "failsNow", "()Z"⟩ prog_3_method_3_code 2 (some .boolean) ∈ sr_WS := sr_ws 550 rfl rfl
set_option maxRecDepth 20000 in
theorem wi_CF_failsNow : Cond.instanceMethod ⟨"SuiteRunner$Configuration", "failsNow", "()Z"⟩ ∈ sr_WS := sr_ws 548 rfl rfl
set_option maxRecDepth 20000 in
theorem wv_CF_failsNow : Cond.selects "SuiteRunner$Configuration" ⟨"SuiteRunner$Configuration", "failsNow", "()Z"⟩ ⟨"SuiteRunner$Configuration", "failsNow", "()Z"⟩ ∈ sr_WS := sr_ws 549 rfl rfl
theorem wn_CF_failsNow : (parseMethodDescriptor "()Z").map (fun d => d.parameters.length) = some 0 := by decide +kernel
set_option maxRecDepth 10000 in
theorem c_RN_runConfigurations (l : Launch) (D : va_G) (cA : Nat → ClassId) (ad : Nat → Nat → Nat) : sr_Ct l D sr_cl (sr_tys cA) (sr_wd sr_SC cA sr_csC ad) (sr_cy sr_NW sr_ZS sr_KS ad) ad sr_WS ⟨"SuiteRunner$Runner", "runConfigurations", "(IZI)V"⟩ prog_8_method_17_code 7 none { frames := 1, cells := 0, slots := 0, locals := 24 } p_RN_runConfigurations := by
  refine sr_met (E := e_RN_runConfigurations) (by decide) sr_WS_good sr_NW_ok sr_hcsC sr_hsepC (sr_htyC cA) (sr_htoC cA) sr_hWC (fun _ _ _ h => h) (sr_hF (List.forall_mem_cons.mpr ⟨fl_1_12, (List.forall_mem_cons.mpr ⟨fl_1_28, (List.forall_mem_cons.mpr ⟨fl_1_50, (List.forall_mem_cons.mpr ⟨fl_1_66, (List.forall_mem_cons.mpr ⟨fl_1_212, (List.forall_mem_cons.mpr ⟨fl_1_215, (fun _ h => absurd h List.not_mem_nil)⟩)⟩)⟩)⟩)⟩)⟩)) (fun _ _ h => nomatch h) (fun _ _ h => nomatch h) (fun _ _ h => nomatch h) (sr_hCS (List.forall_mem_cons.mpr ⟨(fun h => nomatch h), (List.forall_mem_cons.mpr ⟨(fun _ => ⟨⟨"SuiteRunner$Runner", "placeOf", "(II)I"⟩, prog_8_method_18_code, 2, (some .int), { frames := 0, cells := 0, slots := 0, locals := 0 }, c_RN_placeOf l D cA ad, ⟨rfl, rfl, by decide, by decide⟩, ⟨by decide, by decide, wn_RN_placeOf⟩, wc_RN_placeOf, wi_RN_placeOf, wz_1, ml_1_178⟩), (List.forall_mem_cons.mpr ⟨(fun h => nomatch h), (List.forall_mem_cons.mpr ⟨(fun h => nomatch h), (fun _ h => absurd h List.not_mem_nil)⟩)⟩)⟩)⟩)) (sr_hCV (List.forall_mem_cons.mpr ⟨(fun ci h => by obtain rfl : 6 = ci := Nat.succ.inj h; exact ⟨⟨"SuiteRunner$Log", "add", "(IIII)V"⟩, prog_4_method_3_code, 5, none, { frames := 0, cells := 0, slots := 0, locals := 0 }, _, _, _, rfl, c_LG_add l D cA ad, ⟨rfl, rfl, by decide, by decide⟩, ⟨by decide, by decide, wn_LG_add⟩, wc_LG_add, wi_LG_add, wv_LG_add, wz_6, ml_1_123⟩), (List.forall_mem_cons.mpr ⟨(fun _ h => nomatch h), (List.forall_mem_cons.mpr ⟨(fun ci h => by obtain rfl : 4 = ci := Nat.succ.inj h; exact ⟨⟨"SuiteRunner$Configuration", "isOf", "(IZI)Z"⟩, prog_3_method_2_code, 4, (some .boolean), { frames := 0, cells := 0, slots := 0, locals := 0 }, _, _, _, rfl, c_CF_isOf l D cA ad, ⟨rfl, rfl, by decide, by decide⟩, ⟨by decide, by decide, wn_CF_isOf⟩, wc_CF_isOf, wi_CF_isOf, wv_CF_isOf, wz_4, ml_1_219⟩), (List.forall_mem_cons.mpr ⟨(fun ci h => by obtain rfl : 4 = ci := Nat.succ.inj h; exact ⟨⟨"SuiteRunner$Configuration", "failsNow", "()Z"⟩, prog_3_method_3_code, 2, (some .boolean), { frames := 0, cells := 0, slots := 0, locals := 0 }, _, _, _, rfl, c_CF_failsNow l D cA ad, ⟨rfl, rfl, by decide, by decide⟩, ⟨by decide, by decide, wn_CF_failsNow⟩, wc_CF_failsNow, wi_CF_failsNow, wv_CF_failsNow, wz_4, ml_1_225⟩), (fun _ h => absurd h List.not_mem_nil)⟩)⟩)⟩)⟩)) rfl dc_RN_runConfigurations (fun vs μ C res h hC => ?_)
  unfold p_RN_runConfigurations at h
  split at h
  · cases h
    exact ⟨Nat.le_of_ble_eq_true rfl, a_RN_runConfigurations μ _ _ _ hC⟩
  · cases h
set_option maxRecDepth 20000 in
theorem fl_1_63 : sr_sF "SuiteRunner$Runner" sr_cl sr_WS sr_NW 63 1 12 := ⟨_, _, _, rfl, by decide, rfl, sr_in1, Or.inl (sr_ws 274 rfl rfl)⟩
set_option maxRecDepth 20000 in
theorem ml_1_116 : Cond.methodLink "SuiteRunner$Runner" 116 ⟨"SuiteRunner$Runner", "runConfigurations", "(IZI)V"⟩ ∈ sr_WS ∨ ∃ host, Cond.methodLinkNest "SuiteRunner$Runner" 116 ⟨"SuiteRunner$Runner", "runConfigurations", "(IZI)V"⟩ host ∈ sr_NW := Or.inl (sr_ws 539 rfl rfl)
set_option maxRecDepth 20000 in
theorem wc_RN_runConfigurations : Cond.code ⟨"SuiteRunner$Runner", "runConfigurations", "(IZI)V"⟩ prog_8_method_17_code 7 none ∈ sr_WS := sr_ws 542 rfl rfl
set_option maxRecDepth 20000 in
theorem wi_RN_runConfigurations : Cond.instanceMethod ⟨"SuiteRunner$Runner", "runConfigurations", "(IZI)V"⟩ ∈ sr_WS := sr_ws 541 rfl rfl
set_option maxRecDepth 20000 in
theorem wv_RN_runConfigurations : Cond.selects "SuiteRunner$Runner" ⟨"SuiteRunner$Runner", "runConfigurations", "(IZI)V"⟩ ⟨"SuiteRunner$Runner", "runConfigurations", "(IZI)V"⟩ ∈ sr_WS := sr_ws 6 rfl rfl
theorem wn_RN_runConfigurations : (parseMethodDescriptor "(IZI)V").map (fun d => d.parameters.length) = some 3 := by decide +kernel
set_option maxRecDepth 10000 in
theorem c_RN_giveTurn (l : Launch) (D : va_G) (cA : Nat → ClassId) (ad : Nat → Nat → Nat) : sr_Ct l D sr_cl (sr_tys cA) (sr_wd sr_SC cA sr_csC ad) (sr_cy sr_NW sr_ZS sr_KS ad) ad sr_WS ⟨"SuiteRunner$Runner", "giveTurn", "(II)V"⟩ prog_8_method_10_code 4 none { frames := 2, cells := 0, slots := 0, locals := 50 } p_RN_giveTurn := by
  refine sr_met (E := e_RN_giveTurn) (by decide) sr_WS_good sr_NW_ok sr_hcsC sr_hsepC (sr_htyC cA) (sr_htoC cA) sr_hWC (fun _ _ _ h => h) (sr_hF (List.forall_mem_cons.mpr ⟨fl_1_63, (fun _ h => absurd h List.not_mem_nil)⟩)) (fun _ _ h => nomatch h) (fun _ _ h => nomatch h) (fun _ _ h => nomatch h) (sr_hCS (List.forall_mem_cons.mpr ⟨(fun h => nomatch h), (List.forall_mem_cons.mpr ⟨(fun _ => ⟨⟨"SuiteRunner$Runner", "placeOf", "(II)I"⟩, prog_8_method_18_code, 2, (some .int), { frames := 0, cells := 0, slots := 0, locals := 0 }, c_RN_placeOf l D cA ad, ⟨rfl, rfl, by decide, by decide⟩, ⟨by decide, by decide, wn_RN_placeOf⟩, wc_RN_placeOf, wi_RN_placeOf, wz_1, ml_1_178⟩), (fun _ h => absurd h List.not_mem_nil)⟩)⟩)) (sr_hCV (List.forall_mem_cons.mpr ⟨(fun ci h => by obtain rfl : 1 = ci := Nat.succ.inj h; exact ⟨⟨"SuiteRunner$Runner", "runConfigurations", "(IZI)V"⟩, prog_8_method_17_code, 7, none, { frames := 1, cells := 0, slots := 0, locals := 24 }, _, _, _, rfl, c_RN_runConfigurations l D cA ad, ⟨rfl, rfl, by decide, by decide⟩, ⟨by decide, by decide, wn_RN_runConfigurations⟩, wc_RN_runConfigurations, wi_RN_runConfigurations, wv_RN_runConfigurations, wz_1, ml_1_116⟩), (List.forall_mem_cons.mpr ⟨(fun _ h => nomatch h), (fun _ h => absurd h List.not_mem_nil)⟩)⟩)) rfl dc_RN_giveTurn (fun vs μ C res h hC => ?_)
  unfold p_RN_giveTurn at h
  split at h
  · cases h
    exact ⟨Nat.le_of_ble_eq_true rfl, a_RN_giveTurn μ _ _ hC⟩
  · cases h
set_option maxRecDepth 20000 in
theorem fl_1_34 : sr_sF "SuiteRunner$Runner" sr_cl sr_WS sr_NW 34 1 3 := ⟨_, _, _, rfl, by decide, rfl, sr_in1, Or.inl (sr_ws 260 rfl rfl)⟩
set_option maxRecDepth 20000 in
theorem ml_1_200 : Cond.methodLink "SuiteRunner$Runner" 200 ⟨"SuiteRunner$Progress", "count", "(I)V"⟩ ∈ sr_WS ∨ ∃ host, Cond.methodLinkNest "SuiteRunner$Runner" 200 ⟨"SuiteRunner$Progress", "count", "(I)V"⟩ host ∈ sr_NW := Or.inl (sr_ws 531 rfl rfl)
set_option maxRecDepth 20000 in
theorem wc_PR_count : Cond.code ⟨"SuiteRunner$Progress", "count", "(I)V"⟩ prog_7_method_4_code 2 none ∈ sr_WS := sr_ws 534 rfl rfl
set_option maxRecDepth 20000 in
theorem wi_PR_count : Cond.instanceMethod ⟨"SuiteRunner$Progress", "count", "(I)V"⟩ ∈ sr_WS := sr_ws 532 rfl rfl
set_option maxRecDepth 20000 in
theorem wv_PR_count : Cond.selects "SuiteRunner$Progress" ⟨"SuiteRunner$Progress", "count", "(I)V"⟩ ⟨"SuiteRunner$Progress", "count", "(I)V"⟩ ∈ sr_WS := sr_ws 533 rfl rfl
theorem wn_PR_count : (parseMethodDescriptor "(I)V").map (fun d => d.parameters.length) = some 1 := by decide +kernel
set_option maxRecDepth 10000 in
theorem c_RN_endInvocation (l : Launch) (D : va_G) (cA : Nat → ClassId) (ad : Nat → Nat → Nat) : sr_Ct l D sr_cl (sr_tys cA) (sr_wd sr_SC cA sr_csC ad) (sr_cy sr_NW sr_ZS sr_KS ad) ad sr_WS ⟨"SuiteRunner$Runner", "endInvocation", "(II)V"⟩ prog_8_method_14_code 3 none { frames := 1, cells := 0, slots := 0, locals := 24 } p_RN_endInvocation := by
  refine sr_met (E := e_RN_endInvocation) (by decide) sr_WS_good sr_NW_ok sr_hcsC sr_hsepC (sr_htyC cA) (sr_htoC cA) sr_hWC (fun _ _ _ h => h) (sr_hF (List.forall_mem_cons.mpr ⟨fl_1_28, (List.forall_mem_cons.mpr ⟨fl_1_34, (List.forall_mem_cons.mpr ⟨fl_1_50, (fun _ h => absurd h List.not_mem_nil)⟩)⟩)⟩)) (fun _ _ h => nomatch h) (fun _ _ h => nomatch h) (fun _ _ h => nomatch h) (sr_hCS (List.forall_mem_cons.mpr ⟨(fun h => nomatch h), (List.forall_mem_cons.mpr ⟨(fun h => nomatch h), (fun _ h => absurd h List.not_mem_nil)⟩)⟩)) (sr_hCV (List.forall_mem_cons.mpr ⟨(fun ci h => by obtain rfl : 6 = ci := Nat.succ.inj h; exact ⟨⟨"SuiteRunner$Log", "add", "(IIII)V"⟩, prog_4_method_3_code, 5, none, { frames := 0, cells := 0, slots := 0, locals := 0 }, _, _, _, rfl, c_LG_add l D cA ad, ⟨rfl, rfl, by decide, by decide⟩, ⟨by decide, by decide, wn_LG_add⟩, wc_LG_add, wi_LG_add, wv_LG_add, wz_6, ml_1_123⟩), (List.forall_mem_cons.mpr ⟨(fun ci h => by obtain rfl : 7 = ci := Nat.succ.inj h; exact ⟨⟨"SuiteRunner$Progress", "count", "(I)V"⟩, prog_7_method_4_code, 2, none, { frames := 0, cells := 0, slots := 0, locals := 0 }, _, _, _, rfl, c_PR_count l D cA ad, ⟨rfl, rfl, by decide, by decide⟩, ⟨by decide, by decide, wn_PR_count⟩, wc_PR_count, wi_PR_count, wv_PR_count, wz_7, ml_1_200⟩), (fun _ h => absurd h List.not_mem_nil)⟩)⟩)) rfl dc_RN_endInvocation (fun vs μ C res h hC => ?_)
  unfold p_RN_endInvocation at h
  split at h
  · cases h
    exact ⟨Nat.le_of_ble_eq_true rfl, a_RN_endInvocation μ _ _ hC⟩
  · cases h
set_option maxRecDepth 20000 in
theorem fl_1_136 : sr_sF "SuiteRunner$Runner" sr_cl sr_WS sr_NW 136 2 0 := ⟨_, _, _, rfl, by decide, rfl, sr_in2, Or.inl (sr_ws 144 rfl rfl)⟩
set_option maxRecDepth 20000 in
theorem fl_1_143 : sr_sF "SuiteRunner$Runner" sr_cl sr_WS sr_NW 143 3 0 := ⟨_, _, _, rfl, by decide, rfl, sr_in3, Or.inl (sr_ws 91 rfl rfl)⟩
set_option maxRecDepth 20000 in
theorem fl_1_181 : sr_sF "SuiteRunner$Runner" sr_cl sr_WS sr_NW 181 7 4 := ⟨_, _, _, rfl, by decide, rfl, sr_in7, Or.inl (sr_ws 226 rfl rfl)⟩
set_option maxRecDepth 20000 in
theorem ml_1_191 : Cond.methodLink "SuiteRunner$Runner" 191 ⟨"SuiteRunner$Runner", "endInvocation", "(II)V"⟩ ∈ sr_WS ∨ ∃ host, Cond.methodLinkNest "SuiteRunner$Runner" 191 ⟨"SuiteRunner$Runner", "endInvocation", "(II)V"⟩ host ∈ sr_NW := Or.inl (sr_ws 527 rfl rfl)
set_option maxRecDepth 20000 in
theorem wc_RN_endInvocation : Cond.code ⟨"SuiteRunner$Runner", "endInvocation", "(II)V"⟩ prog_8_method_14_code 3 none ∈ sr_WS := sr_ws 530 rfl rfl
set_option maxRecDepth 20000 in
theorem wi_RN_endInvocation : Cond.instanceMethod ⟨"SuiteRunner$Runner", "endInvocation", "(II)V"⟩ ∈ sr_WS := sr_ws 529 rfl rfl
set_option maxRecDepth 20000 in
theorem wv_RN_endInvocation : Cond.selects "SuiteRunner$Runner" ⟨"SuiteRunner$Runner", "endInvocation", "(II)V"⟩ ⟨"SuiteRunner$Runner", "endInvocation", "(II)V"⟩ ∈ sr_WS := sr_ws 5 rfl rfl
theorem wn_RN_endInvocation : (parseMethodDescriptor "(II)V").map (fun d => d.parameters.length) = some 2 := by decide +kernel
set_option maxRecDepth 20000 in
theorem ml_1_197 : Cond.methodLink "SuiteRunner$Runner" 197 ⟨"SuiteRunner$TestMethod", "resultOf", "(I)I"⟩ ∈ sr_WS ∨ ∃ host, Cond.methodLinkNest "SuiteRunner$Runner" 197 ⟨"SuiteRunner$TestMethod", "resultOf", "(I)I"⟩ host ∈ sr_NW := Or.inl (sr_ws 523 rfl rfl)
set_option maxRecDepth 20000 in
theorem wc_TM_resultOf : Cond.code ⟨"SuiteRunner$TestMethod", "resultOf", "(I)I"⟩ prog_10_method_8_code 6 (some .int) ∈ sr_WS := sr_ws 526 rfl rfl
set_option maxRecDepth 20000 in
theorem wi_TM_resultOf : Cond.instanceMethod ⟨"SuiteRunner$TestMethod", "resultOf", "(I)I"⟩ ∈ sr_WS := sr_ws 524 rfl rfl
set_option maxRecDepth 20000 in
theorem wv_TM_resultOf : Cond.selects "SuiteRunner$TestMethod" ⟨"SuiteRunner$TestMethod", "resultOf", "(I)I"⟩ ⟨"SuiteRunner$TestMethod", "resultOf", "(I)I"⟩ ∈ sr_WS := sr_ws 525 rfl rfl
theorem wn_TM_resultOf : (parseMethodDescriptor "(I)I").map (fun d => d.parameters.length) = some 1 := by decide +kernel
set_option maxRecDepth 10000 in
theorem c_RN_endEntered (l : Launch) (D : va_G) (cA : Nat → ClassId) (ad : Nat → Nat → Nat) : sr_Ct l D sr_cl (sr_tys cA) (sr_wd sr_SC cA sr_csC ad) (sr_cy sr_NW sr_ZS sr_KS ad) ad sr_WS ⟨"SuiteRunner$Runner", "endEntered", "(I)V"⟩ prog_8_method_13_code 3 none { frames := 2, cells := 0, slots := 0, locals := 50 } p_RN_endEntered := by
  refine sr_met (E := e_RN_endEntered) (by decide) sr_WS_good sr_NW_ok sr_hcsC sr_hsepC (sr_htyC cA) (sr_htoC cA) sr_hWC (fun _ _ _ h => h) (sr_hF (List.forall_mem_cons.mpr ⟨fl_1_12, (List.forall_mem_cons.mpr ⟨fl_1_34, (List.forall_mem_cons.mpr ⟨fl_1_136, (List.forall_mem_cons.mpr ⟨fl_1_143, (List.forall_mem_cons.mpr ⟨fl_1_181, (fun _ h => absurd h List.not_mem_nil)⟩)⟩)⟩)⟩)⟩)) (fun _ _ h => nomatch h) (fun _ _ h => nomatch h) (fun _ _ h => nomatch h) (sr_hCS (List.forall_mem_cons.mpr ⟨(fun h => nomatch h), (List.forall_mem_cons.mpr ⟨(fun h => nomatch h), (List.forall_mem_cons.mpr ⟨(fun h => nomatch h), (fun _ h => absurd h List.not_mem_nil)⟩)⟩)⟩)) (sr_hCV (List.forall_mem_cons.mpr ⟨(fun ci h => by obtain rfl : 1 = ci := Nat.succ.inj h; exact ⟨⟨"SuiteRunner$Runner", "runConfigurations", "(IZI)V"⟩, prog_8_method_17_code, 7, none, { frames := 1, cells := 0, slots := 0, locals := 24 }, _, _, _, rfl, c_RN_runConfigurations l D cA ad, ⟨rfl, rfl, by decide, by decide⟩, ⟨by decide, by decide, wn_RN_runConfigurations⟩, wc_RN_runConfigurations, wi_RN_runConfigurations, wv_RN_runConfigurations, wz_1, ml_1_116⟩), (List.forall_mem_cons.mpr ⟨(fun ci h => by obtain rfl : 1 = ci := Nat.succ.inj h; exact ⟨⟨"SuiteRunner$Runner", "endInvocation", "(II)V"⟩, prog_8_method_14_code, 3, none, { frames := 1, cells := 0, slots := 0, locals := 24 }, _, _, _, rfl, c_RN_endInvocation l D cA ad, ⟨rfl, rfl, by decide, by decide⟩, ⟨by decide, by decide, wn_RN_endInvocation⟩, wc_RN_endInvocation, wi_RN_endInvocation, wv_RN_endInvocation, wz_1, ml_1_191⟩), (List.forall_mem_cons.mpr ⟨(fun ci h => by obtain rfl : 3 = ci := Nat.succ.inj h; exact ⟨⟨"SuiteRunner$TestMethod", "resultOf", "(I)I"⟩, prog_10_method_8_code, 6, (some .int), { frames := 0, cells := 0, slots := 0, locals := 0 }, _, _, _, rfl, c_TM_resultOf l D cA ad, ⟨rfl, rfl, by decide, by decide⟩, ⟨by decide, by decide, wn_TM_resultOf⟩, wc_TM_resultOf, wi_TM_resultOf, wv_TM_resultOf, wz_3, ml_1_197⟩), (fun _ h => absurd h List.not_mem_nil)⟩)⟩)⟩)) rfl dc_RN_endEntered (fun vs μ C res h hC => ?_)
  unfold p_RN_endEntered at h
  split at h
  · cases h
    exact ⟨Nat.le_of_ble_eq_true rfl, a_RN_endEntered μ _ hC⟩
  · cases h
set_option maxRecDepth 20000 in
theorem fl_1_54 : sr_sF "SuiteRunner$Runner" sr_cl sr_WS sr_NW 54 1 10 := ⟨_, _, _, rfl, by decide, rfl, sr_in1, Or.inl (sr_ws 272 rfl rfl)⟩
set_option maxRecDepth 20000 in
theorem fl_1_57 : sr_sF "SuiteRunner$Runner" sr_cl sr_WS sr_NW 57 1 11 := ⟨_, _, _, rfl, by decide, rfl, sr_in1, Or.inl (sr_ws 273 rfl rfl)⟩
set_option maxRecDepth 20000 in
theorem fl_1_60 : sr_sF "SuiteRunner$Runner" sr_cl sr_WS sr_NW 60 1 7 := ⟨_, _, _, rfl, by decide, rfl, sr_in1, Or.inl (sr_ws 268 rfl rfl)⟩
set_option maxRecDepth 20000 in
theorem fl_1_140 : sr_sF "SuiteRunner$Runner" sr_cl sr_WS sr_NW 140 7 0 := ⟨_, _, _, rfl, by decide, rfl, sr_in7, Or.inl (sr_ws 218 rfl rfl)⟩
set_option maxRecDepth 20000 in
theorem fl_1_203 : sr_sF "SuiteRunner$Runner" sr_cl sr_WS sr_NW 203 7 2 := ⟨_, _, _, rfl, by decide, rfl, sr_in7, Or.inl (sr_ws 222 rfl rfl)⟩
set_option maxRecDepth 20000 in
theorem ml_1_206 : Cond.methodLink "SuiteRunner$Runner" 206 ⟨"SuiteRunner$Catalog", "methodsOf", "(I)I"⟩ ∈ sr_WS ∨ ∃ host, Cond.methodLinkNest "SuiteRunner$Runner" 206 ⟨"SuiteRunner$Catalog", "methodsOf", "(I)I"⟩ host ∈ sr_NW := Or.inl (sr_ws 578 rfl rfl)
set_option maxRecDepth 20000 in
theorem wc_CT_methodsOf : Cond.code ⟨"SuiteRunner$Catalog", "methodsOf", "(I)I"⟩ prog_2_method_6_code 4 (some .int) ∈ sr_WS := sr_ws 581 rfl rfl
set_option maxRecDepth 20000 in
theorem wi_CT_methodsOf : Cond.instanceMethod ⟨"SuiteRunner$Catalog", "methodsOf", "(I)I"⟩ ∈ sr_WS := sr_ws 579 rfl rfl
set_option maxRecDepth 20000 in
theorem wv_CT_methodsOf : Cond.selects "SuiteRunner$Catalog" ⟨"SuiteRunner$Catalog", "methodsOf", "(I)I"⟩ ⟨"SuiteRunner$Catalog", "methodsOf", "(I)I"⟩ ∈ sr_WS := sr_ws 580 rfl rfl
theorem wn_CT_methodsOf : (parseMethodDescriptor "(I)I").map (fun d => d.parameters.length) = some 1 := by decide +kernel
set_option maxRecDepth 10000 in
theorem c_RN_endMethod (l : Launch) (D : va_G) (cA : Nat → ClassId) (ad : Nat → Nat → Nat) : sr_Ct l D sr_cl (sr_tys cA) (sr_wd sr_SC cA sr_csC ad) (sr_cy sr_NW sr_ZS sr_KS ad) ad sr_WS ⟨"SuiteRunner$Runner", "endMethod", "(II)V"⟩ prog_8_method_15_code 5 none { frames := 2, cells := 0, slots := 0, locals := 50 } p_RN_endMethod := by
  refine sr_met (E := e_RN_endMethod) (by decide) sr_WS_good sr_NW_ok sr_hcsC sr_hsepC (sr_htyC cA) (sr_htoC cA) sr_hWC (fun _ _ _ h => h) (sr_hF (List.forall_mem_cons.mpr ⟨fl_1_12, (List.forall_mem_cons.mpr ⟨fl_1_28, (List.forall_mem_cons.mpr ⟨fl_1_34, (List.forall_mem_cons.mpr ⟨fl_1_50, (List.forall_mem_cons.mpr ⟨fl_1_54, (List.forall_mem_cons.mpr ⟨fl_1_57, (List.forall_mem_cons.mpr ⟨fl_1_60, (List.forall_mem_cons.mpr ⟨fl_1_63, (List.forall_mem_cons.mpr ⟨fl_1_136, (List.forall_mem_cons.mpr ⟨fl_1_140, (List.forall_mem_cons.mpr ⟨fl_1_143, (List.forall_mem_cons.mpr ⟨fl_1_203, (fun _ h => absurd h List.not_mem_nil)⟩)⟩)⟩)⟩)⟩)⟩)⟩)⟩)⟩)⟩)⟩)⟩)) (fun _ _ h => nomatch h) (fun _ _ h => nomatch h) (fun _ _ h => nomatch h) (sr_hCS (List.forall_mem_cons.mpr ⟨(fun h => nomatch h), (List.forall_mem_cons.mpr ⟨(fun h => nomatch h), (List.forall_mem_cons.mpr ⟨(fun _ => ⟨⟨"SuiteRunner$Runner", "placeOf", "(II)I"⟩, prog_8_method_18_code, 2, (some .int), { frames := 0, cells := 0, slots := 0, locals := 0 }, c_RN_placeOf l D cA ad, ⟨rfl, rfl, by decide, by decide⟩, ⟨by decide, by decide, wn_RN_placeOf⟩, wc_RN_placeOf, wi_RN_placeOf, wz_1, ml_1_178⟩), (List.forall_mem_cons.mpr ⟨(fun h => nomatch h), (fun _ h => absurd h List.not_mem_nil)⟩)⟩)⟩)⟩)) (sr_hCV (List.forall_mem_cons.mpr ⟨(fun ci h => by obtain rfl : 1 = ci := Nat.succ.inj h; exact ⟨⟨"SuiteRunner$Runner", "runConfigurations", "(IZI)V"⟩, prog_8_method_17_code, 7, none, { frames := 1, cells := 0, slots := 0, locals := 24 }, _, _, _, rfl, c_RN_runConfigurations l D cA ad, ⟨rfl, rfl, by decide, by decide⟩, ⟨by decide, by decide, wn_RN_runConfigurations⟩, wc_RN_runConfigurations, wi_RN_runConfigurations, wv_RN_runConfigurations, wz_1, ml_1_116⟩), (List.forall_mem_cons.mpr ⟨(fun ci h => by obtain rfl : 6 = ci := Nat.succ.inj h; exact ⟨⟨"SuiteRunner$Log", "add", "(IIII)V"⟩, prog_4_method_3_code, 5, none, { frames := 0, cells := 0, slots := 0, locals := 0 }, _, _, _, rfl, c_LG_add l D cA ad, ⟨rfl, rfl, by decide, by decide⟩, ⟨by decide, by decide, wn_LG_add⟩, wc_LG_add, wi_LG_add, wv_LG_add, wz_6, ml_1_123⟩), (List.forall_mem_cons.mpr ⟨(fun _ h => nomatch h), (List.forall_mem_cons.mpr ⟨(fun ci h => by obtain rfl : 2 = ci := Nat.succ.inj h; exact ⟨⟨"SuiteRunner$Catalog", "methodsOf", "(I)I"⟩, prog_2_method_6_code, 4, (some .int), { frames := 0, cells := 0, slots := 0, locals := 0 }, _, _, _, rfl, c_CT_methodsOf l D cA ad, ⟨rfl, rfl, by decide, by decide⟩, ⟨by decide, by decide, wn_CT_methodsOf⟩, wc_CT_methodsOf, wi_CT_methodsOf, wv_CT_methodsOf, wz_2, ml_1_206⟩), (fun _ h => absurd h List.not_mem_nil)⟩)⟩)⟩)⟩)) rfl dc_RN_endMethod (fun vs μ C res h hC => ?_)
  unfold p_RN_endMethod at h
  split at h
  · cases h
    exact ⟨Nat.le_of_ble_eq_true rfl, a_RN_endMethod μ _ _ hC⟩
  · cases h
set_option maxRecDepth 20000 in
theorem fl_1_155 : sr_sF "SuiteRunner$Runner" sr_cl sr_WS sr_NW 155 3 2 := ⟨_, _, _, rfl, by decide, rfl, sr_in3, Or.inl (sr_ws 99 rfl rfl)⟩
set_option maxRecDepth 20000 in
theorem ml_1_165 : Cond.methodLink "SuiteRunner$Runner" 165 ⟨"SuiteRunner$Runner", "isBlocked", "(I)Z"⟩ ∈ sr_WS ∨ ∃ host, Cond.methodLinkNest "SuiteRunner$Runner" 165 ⟨"SuiteRunner$Runner", "isBlocked", "(I)Z"⟩ host ∈ sr_NW := Or.inl (sr_ws 562 rfl rfl)
set_option maxRecDepth 20000 in
theorem wc_RN_isBlocked : Cond.code ⟨"SuiteRunner$Runner", "isBlocked", "(I)Z"⟩ prog_8_method_16_code 2 (some .boolean) ∈ sr_WS := sr_ws 565 rfl rfl
set_option maxRecDepth 20000 in
theorem wi_RN_isBlocked : Cond.instanceMethod ⟨"SuiteRunner$Runner", "isBlocked", "(I)Z"⟩ ∈ sr_WS := sr_ws 564 rfl rfl
set_option maxRecDepth 20000 in
theorem wv_RN_isBlocked : Cond.selects "SuiteRunner$Runner" ⟨"SuiteRunner$Runner", "isBlocked", "(I)Z"⟩ ⟨"SuiteRunner$Runner", "isBlocked", "(I)Z"⟩ ∈ sr_WS := sr_ws 9 rfl rfl
theorem wn_RN_isBlocked : (parseMethodDescriptor "(I)Z").map (fun d => d.parameters.length) = some 1 := by decide +kernel
set_option maxRecDepth 20000 in
theorem ml_1_194 : Cond.methodLink "SuiteRunner$Runner" 194 ⟨"SuiteRunner$Progress", "enter", "(I)V"⟩ ∈ sr_WS ∨ ∃ host, Cond.methodLinkNest "SuiteRunner$Runner" 194 ⟨"SuiteRunner$Progress", "enter", "(I)V"⟩ host ∈ sr_NW := Or.inl (sr_ws 566 rfl rfl)
set_option maxRecDepth 20000 in
theorem wc_PR_enter : Cond.code ⟨"SuiteRunner$Progress", "enter", "(I)V"⟩ prog_7_method_3_code 2 none ∈ sr_WS := sr_ws 569 rfl rfl
set_option maxRecDepth 20000 in
theorem wi_PR_enter : Cond.instanceMethod ⟨"SuiteRunner$Progress", "enter", "(I)V"⟩ ∈ sr_WS := sr_ws 567 rfl rfl
set_option maxRecDepth 20000 in
theorem wv_PR_enter : Cond.selects "SuiteRunner$Progress" ⟨"SuiteRunner$Progress", "enter", "(I)V"⟩ ⟨"SuiteRunner$Progress", "enter", "(I)V"⟩ ∈ sr_WS := sr_ws 568 rfl rfl
theorem wn_PR_enter : (parseMethodDescriptor "(I)V").map (fun d => d.parameters.length) = some 1 := by decide +kernel
set_option maxRecDepth 10000 in
theorem c_RN_enterLatest (l : Launch) (D : va_G) (cA : Nat → ClassId) (ad : Nat → Nat → Nat) : sr_Ct l D sr_cl (sr_tys cA) (sr_wd sr_SC cA sr_csC ad) (sr_cy sr_NW sr_ZS sr_KS ad) ad sr_WS ⟨"SuiteRunner$Runner", "enterLatest", "(I)Z"⟩ prog_8_method_12_code 3 (some .boolean) { frames := 2, cells := 0, slots := 0, locals := 50 } p_RN_enterLatest := by
  refine sr_met (E := e_RN_enterLatest) (by decide) sr_WS_good sr_NW_ok sr_hcsC sr_hsepC (sr_htyC cA) (sr_htoC cA) sr_hWC (fun _ _ _ h => h) (sr_hF (List.forall_mem_cons.mpr ⟨fl_1_12, (List.forall_mem_cons.mpr ⟨fl_1_28, (List.forall_mem_cons.mpr ⟨fl_1_34, (List.forall_mem_cons.mpr ⟨fl_1_50, (List.forall_mem_cons.mpr ⟨fl_1_136, (List.forall_mem_cons.mpr ⟨fl_1_143, (List.forall_mem_cons.mpr ⟨fl_1_155, (List.forall_mem_cons.mpr ⟨fl_1_181, (fun _ h => absurd h List.not_mem_nil)⟩)⟩)⟩)⟩)⟩)⟩)⟩)⟩)) (fun _ _ h => nomatch h) (fun _ _ h => nomatch h) (fun _ _ h => nomatch h) (sr_hCS (List.forall_mem_cons.mpr ⟨(fun h => nomatch h), (List.forall_mem_cons.mpr ⟨(fun h => nomatch h), (List.forall_mem_cons.mpr ⟨(fun h => nomatch h), (List.forall_mem_cons.mpr ⟨(fun h => nomatch h), (List.forall_mem_cons.mpr ⟨(fun h => nomatch h), (fun _ h => absurd h List.not_mem_nil)⟩)⟩)⟩)⟩)⟩)) (sr_hCV (List.forall_mem_cons.mpr ⟨(fun ci h => by obtain rfl : 1 = ci := Nat.succ.inj h; exact ⟨⟨"SuiteRunner$Runner", "runConfigurations", "(IZI)V"⟩, prog_8_method_17_code, 7, none, { frames := 1, cells := 0, slots := 0, locals := 24 }, _, _, _, rfl, c_RN_runConfigurations l D cA ad, ⟨rfl, rfl, by decide, by decide⟩, ⟨by decide, by decide, wn_RN_runConfigurations⟩, wc_RN_runConfigurations, wi_RN_runConfigurations, wv_RN_runConfigurations, wz_1, ml_1_116⟩), (List.forall_mem_cons.mpr ⟨(fun ci h => by obtain rfl : 6 = ci := Nat.succ.inj h; exact ⟨⟨"SuiteRunner$Log", "add", "(IIII)V"⟩, prog_4_method_3_code, 5, none, { frames := 0, cells := 0, slots := 0, locals := 0 }, _, _, _, rfl, c_LG_add l D cA ad, ⟨rfl, rfl, by decide, by decide⟩, ⟨by decide, by decide, wn_LG_add⟩, wc_LG_add, wi_LG_add, wv_LG_add, wz_6, ml_1_123⟩), (List.forall_mem_cons.mpr ⟨(fun ci h => by obtain rfl : 1 = ci := Nat.succ.inj h; exact ⟨⟨"SuiteRunner$Runner", "isBlocked", "(I)Z"⟩, prog_8_method_16_code, 2, (some .boolean), { frames := 0, cells := 0, slots := 0, locals := 0 }, _, _, _, rfl, c_RN_isBlocked l D cA ad, ⟨rfl, rfl, by decide, by decide⟩, ⟨by decide, by decide, wn_RN_isBlocked⟩, wc_RN_isBlocked, wi_RN_isBlocked, wv_RN_isBlocked, wz_1, ml_1_165⟩), (List.forall_mem_cons.mpr ⟨(fun ci h => by obtain rfl : 1 = ci := Nat.succ.inj h; exact ⟨⟨"SuiteRunner$Runner", "endInvocation", "(II)V"⟩, prog_8_method_14_code, 3, none, { frames := 1, cells := 0, slots := 0, locals := 24 }, _, _, _, rfl, c_RN_endInvocation l D cA ad, ⟨rfl, rfl, by decide, by decide⟩, ⟨by decide, by decide, wn_RN_endInvocation⟩, wc_RN_endInvocation, wi_RN_endInvocation, wv_RN_endInvocation, wz_1, ml_1_191⟩), (List.forall_mem_cons.mpr ⟨(fun ci h => by obtain rfl : 7 = ci := Nat.succ.inj h; exact ⟨⟨"SuiteRunner$Progress", "enter", "(I)V"⟩, prog_7_method_3_code, 2, none, { frames := 0, cells := 0, slots := 0, locals := 0 }, _, _, _, rfl, c_PR_enter l D cA ad, ⟨rfl, rfl, by decide, by decide⟩, ⟨by decide, by decide, wn_PR_enter⟩, wc_PR_enter, wi_PR_enter, wv_PR_enter, wz_7, ml_1_194⟩), (fun _ h => absurd h List.not_mem_nil)⟩)⟩)⟩)⟩)⟩)) rfl dc_RN_enterLatest (fun vs μ C res h hC => ?_)
  unfold p_RN_enterLatest at h
  split at h
  · cases h
    exact ⟨Nat.le_of_ble_eq_true rfl, a_RN_enterLatest μ _ hC⟩
  · cases h
set_option maxRecDepth 20000 in
theorem fl_1_42 : sr_sF "SuiteRunner$Runner" sr_cl sr_WS sr_NW 42 1 8 := ⟨_, _, _, rfl, by decide, rfl, sr_in1, Or.inl (sr_ws 270 rfl rfl)⟩
set_option maxRecDepth 20000 in
theorem fl_1_152 : sr_sF "SuiteRunner$Runner" sr_cl sr_WS sr_NW 152 7 1 := ⟨_, _, _, rfl, by decide, rfl, sr_in7, Or.inl (sr_ws 220 rfl rfl)⟩
set_option maxRecDepth 20000 in
theorem fl_1_172 : sr_sF "SuiteRunner$Runner" sr_cl sr_WS sr_NW 172 5 3 := ⟨_, _, _, rfl, by decide, rfl, sr_in5, Or.inl (sr_ws 182 rfl rfl)⟩
set_option maxRecDepth 20000 in
theorem fl_1_175 : sr_sF "SuiteRunner$Runner" sr_cl sr_WS sr_NW 175 7 3 := ⟨_, _, _, rfl, by decide, rfl, sr_in7, Or.inl (sr_ws 224 rfl rfl)⟩
set_option maxRecDepth 20000 in
theorem ml_1_158 : Cond.methodLink "SuiteRunner$Runner" 158 ⟨"SuiteRunner$Runner", "endMethod", "(II)V"⟩ ∈ sr_WS ∨ ∃ host, Cond.methodLinkNest "SuiteRunner$Runner" 158 ⟨"SuiteRunner$Runner", "endMethod", "(II)V"⟩ host ∈ sr_NW := Or.inl (sr_ws 574 rfl rfl)
set_option maxRecDepth 20000 in
theorem wc_RN_endMethod : Cond.code ⟨"SuiteRunner$Runner", "endMethod", "(II)V"⟩ prog_8_method_15_code 5 none ∈ sr_WS := sr_ws 577 rfl rfl
set_option maxRecDepth 20000 in
theorem wi_RN_endMethod : Cond.instanceMethod ⟨"SuiteRunner$Runner", "endMethod", "(II)V"⟩ ∈ sr_WS := sr_ws 576 rfl rfl
set_option maxRecDepth 20000 in
theorem wv_RN_endMethod : Cond.selects "SuiteRunner$Runner" ⟨"SuiteRunner$Runner", "endMethod", "(II)V"⟩ ⟨"SuiteRunner$Runner", "endMethod", "(II)V"⟩ ∈ sr_WS := sr_ws 10 rfl rfl
theorem wn_RN_endMethod : (parseMethodDescriptor "(II)V").map (fun d => d.parameters.length) = some 2 := by decide +kernel
set_option maxRecDepth 20000 in
theorem ml_1_162 : Cond.methodLink "SuiteRunner$Runner" 162 ⟨"SuiteRunner$Runner", "giveTurn", "(II)V"⟩ ∈ sr_WS ∨ ∃ host, Cond.methodLinkNest "SuiteRunner$Runner" 162 ⟨"SuiteRunner$Runner", "giveTurn", "(II)V"⟩ host ∈ sr_NW := Or.inl (sr_ws 605 rfl rfl)
set_option maxRecDepth 20000 in
theorem wc_RN_giveTurn : Cond.code ⟨"SuiteRunner$Runner", "giveTurn", "(II)V"⟩ prog_8_method_10_code 4 none ∈ sr_WS := sr_ws 608 rfl rfl
set_option maxRecDepth 20000 in
theorem wi_RN_giveTurn : Cond.instanceMethod ⟨"SuiteRunner$Runner", "giveTurn", "(II)V"⟩ ∈ sr_WS := sr_ws 607 rfl rfl
set_option maxRecDepth 20000 in
theorem wv_RN_giveTurn : Cond.selects "SuiteRunner$Runner" ⟨"SuiteRunner$Runner", "giveTurn", "(II)V"⟩ ⟨"SuiteRunner$Runner", "giveTurn", "(II)V"⟩ ∈ sr_WS := sr_ws 15 rfl rfl
theorem wn_RN_giveTurn : (parseMethodDescriptor "(II)V").map (fun d => d.parameters.length) = some 2 := by decide +kernel
set_option maxRecDepth 20000 in
theorem ml_1_168 : Cond.methodLink "SuiteRunner$Runner" 168 ⟨"SuiteRunner$Catalog", "rowsFor", "(LSuiteRunner$TestMethod;)I"⟩ ∈ sr_WS ∨ ∃ host, Cond.methodLinkNest "SuiteRunner$Runner" 168 ⟨"SuiteRunner$Catalog", "rowsFor", "(LSuiteRunner$TestMethod;)I"⟩ host ∈ sr_NW := Or.inl (sr_ws 609 rfl rfl)
set_option maxRecDepth 20000 in
theorem wc_CT_rowsFor : Cond.code ⟨"SuiteRunner$Catalog", "rowsFor", "(LSuiteRunner$TestMethod;)I"⟩ prog_2_method_5_code 3 (some .int) ∈ sr_WS := sr_ws 612 rfl rfl
set_option maxRecDepth 20000 in
theorem wi_CT_rowsFor : Cond.instanceMethod ⟨"SuiteRunner$Catalog", "rowsFor", "(LSuiteRunner$TestMethod;)I"⟩ ∈ sr_WS := sr_ws 610 rfl rfl
set_option maxRecDepth 20000 in
theorem wv_CT_rowsFor : Cond.selects "SuiteRunner$Catalog" ⟨"SuiteRunner$Catalog", "rowsFor", "(LSuiteRunner$TestMethod;)I"⟩ ⟨"SuiteRunner$Catalog", "rowsFor", "(LSuiteRunner$TestMethod;)I"⟩ ∈ sr_WS := sr_ws 611 rfl rfl
theorem wn_CT_rowsFor : (parseMethodDescriptor "(LSuiteRunner$TestMethod;)I").map (fun d => d.parameters.length) = some 1 := by decide +kernel
set_option maxRecDepth 10000 in
theorem c_RN_take (l : Launch) (D : va_G) (cA : Nat → ClassId) (ad : Nat → Nat → Nat) : sr_Ct l D sr_cl (sr_tys cA) (sr_wd sr_SC cA sr_csC ad) (sr_cy sr_NW sr_ZS sr_KS ad) ad sr_WS ⟨"SuiteRunner$Runner", "take", "(I)Z"⟩ prog_8_method_9_code 4 (some .boolean) { frames := 3, cells := 0, slots := 0, locals := 74 } p_RN_take := by
  refine sr_met (E := e_RN_take) (by decide) sr_WS_good sr_NW_ok sr_hcsC sr_hsepC (sr_htyC cA) (sr_htoC cA) sr_hWC (fun _ _ _ h => h) (sr_hF (List.forall_mem_cons.mpr ⟨fl_1_12, (List.forall_mem_cons.mpr ⟨fl_1_21, (List.forall_mem_cons.mpr ⟨fl_1_34, (List.forall_mem_cons.mpr ⟨fl_1_42, (List.forall_mem_cons.mpr ⟨fl_1_50, (List.forall_mem_cons.mpr ⟨fl_1_60, (List.forall_mem_cons.mpr ⟨fl_1_136, (List.forall_mem_cons.mpr ⟨fl_1_140, (List.forall_mem_cons.mpr ⟨fl_1_143, (List.forall_mem_cons.mpr ⟨fl_1_152, (List.forall_mem_cons.mpr ⟨fl_1_155, (List.forall_mem_cons.mpr ⟨fl_1_172, (List.forall_mem_cons.mpr ⟨fl_1_175, (fun _ h => absurd h List.not_mem_nil)⟩)⟩)⟩)⟩)⟩)⟩)⟩)⟩)⟩)⟩)⟩)⟩)⟩)) (fun _ _ h => nomatch h) (fun _ _ h => nomatch h) (fun _ _ h => nomatch h) (sr_hCS (List.forall_mem_cons.mpr ⟨(fun h => nomatch h), (List.forall_mem_cons.mpr ⟨(fun h => nomatch h), (List.forall_mem_cons.mpr ⟨(fun h => nomatch h), (List.forall_mem_cons.mpr ⟨(fun h => nomatch h), (fun _ h => absurd h List.not_mem_nil)⟩)⟩)⟩)⟩)) (sr_hCV (List.forall_mem_cons.mpr ⟨(fun ci h => by obtain rfl : 1 = ci := Nat.succ.inj h; exact ⟨⟨"SuiteRunner$Runner", "endMethod", "(II)V"⟩, prog_8_method_15_code, 5, none, { frames := 2, cells := 0, slots := 0, locals := 50 }, _, _, _, rfl, c_RN_endMethod l D cA ad, ⟨rfl, rfl, by decide, by decide⟩, ⟨by decide, by decide, wn_RN_endMethod⟩, wc_RN_endMethod, wi_RN_endMethod, wv_RN_endMethod, wz_1, ml_1_158⟩), (List.forall_mem_cons.mpr ⟨(fun ci h => by obtain rfl : 1 = ci := Nat.succ.inj h; exact ⟨⟨"SuiteRunner$Runner", "giveTurn", "(II)V"⟩, prog_8_method_10_code, 4, none, { frames := 2, cells := 0, slots := 0, locals := 50 }, _, _, _, rfl, c_RN_giveTurn l D cA ad, ⟨rfl, rfl, by decide, by decide⟩, ⟨by decide, by decide, wn_RN_giveTurn⟩, wc_RN_giveTurn, wi_RN_giveTurn, wv_RN_giveTurn, wz_1, ml_1_162⟩), (List.forall_mem_cons.mpr ⟨(fun ci h => by obtain rfl : 1 = ci := Nat.succ.inj h; exact ⟨⟨"SuiteRunner$Runner", "isBlocked", "(I)Z"⟩, prog_8_method_16_code, 2, (some .boolean), { frames := 0, cells := 0, slots := 0, locals := 0 }, _, _, _, rfl, c_RN_isBlocked l D cA ad, ⟨rfl, rfl, by decide, by decide⟩, ⟨by decide, by decide, wn_RN_isBlocked⟩, wc_RN_isBlocked, wi_RN_isBlocked, wv_RN_isBlocked, wz_1, ml_1_165⟩), (List.forall_mem_cons.mpr ⟨(fun ci h => by obtain rfl : 2 = ci := Nat.succ.inj h; exact ⟨⟨"SuiteRunner$Catalog", "rowsFor", "(LSuiteRunner$TestMethod;)I"⟩, prog_2_method_5_code, 3, (some .int), { frames := 1, cells := 0, slots := 0, locals := 21 }, _, _, _, rfl, c_CT_rowsFor l D cA ad, ⟨rfl, rfl, by decide, by decide⟩, ⟨by decide, by decide, wn_CT_rowsFor⟩, wc_CT_rowsFor, wi_CT_rowsFor, wv_CT_rowsFor, wz_2, ml_1_168⟩), (fun _ h => absurd h List.not_mem_nil)⟩)⟩)⟩)⟩)) rfl dc_RN_take (fun vs μ C res h hC => ?_)
  unfold p_RN_take at h
  split at h
  · cases h
    exact ⟨Nat.le_of_ble_eq_true rfl, a_RN_take μ _ hC⟩
  · cases h
set_option maxRecDepth 20000 in
theorem fl_1_46 : sr_sF "SuiteRunner$Runner" sr_cl sr_WS sr_NW 46 1 5 := ⟨_, _, _, rfl, by decide, rfl, sr_in1, Or.inl (sr_ws 264 rfl rfl)⟩
set_option maxRecDepth 20000 in
theorem fl_1_120 : sr_sF "SuiteRunner$Runner" sr_cl sr_WS sr_NW 120 1 6 := ⟨_, _, _, rfl, by decide, rfl, sr_in1, Or.inl (sr_ws 266 rfl rfl)⟩
set_option maxRecDepth 10000 in
theorem c_RN_finish (l : Launch) (D : va_G) (cA : Nat → ClassId) (ad : Nat → Nat → Nat) : sr_Ct l D sr_cl (sr_tys cA) (sr_wd sr_SC cA sr_csC ad) (sr_cy sr_NW sr_ZS sr_KS ad) ad sr_WS ⟨"SuiteRunner$Runner", "finish", "()V"⟩ prog_8_method_6_code 1 none { frames := 2, cells := 0, slots := 0, locals := 50 } p_RN_finish := by
  refine sr_met (E := e_RN_finish) (by decide) sr_WS_good sr_NW_ok sr_hcsC sr_hsepC (sr_htyC cA) (sr_htoC cA) sr_hWC (fun _ _ _ h => h) (sr_hF (List.forall_mem_cons.mpr ⟨fl_1_28, (List.forall_mem_cons.mpr ⟨fl_1_46, (List.forall_mem_cons.mpr ⟨fl_1_50, (List.forall_mem_cons.mpr ⟨fl_1_63, (List.forall_mem_cons.mpr ⟨fl_1_120, (fun _ h => absurd h List.not_mem_nil)⟩)⟩)⟩)⟩)⟩)) (fun _ _ h => nomatch h) (fun _ _ h => nomatch h) (fun _ _ h => nomatch h) (sr_hCS (List.forall_mem_cons.mpr ⟨(fun h => nomatch h), (List.forall_mem_cons.mpr ⟨(fun h => nomatch h), (fun _ h => absurd h List.not_mem_nil)⟩)⟩)) (sr_hCV (List.forall_mem_cons.mpr ⟨(fun ci h => by obtain rfl : 1 = ci := Nat.succ.inj h; exact ⟨⟨"SuiteRunner$Runner", "runConfigurations", "(IZI)V"⟩, prog_8_method_17_code, 7, none, { frames := 1, cells := 0, slots := 0, locals := 24 }, _, _, _, rfl, c_RN_runConfigurations l D cA ad, ⟨rfl, rfl, by decide, by decide⟩, ⟨by decide, by decide, wn_RN_runConfigurations⟩, wc_RN_runConfigurations, wi_RN_runConfigurations, wv_RN_runConfigurations, wz_1, ml_1_116⟩), (List.forall_mem_cons.mpr ⟨(fun ci h => by obtain rfl : 6 = ci := Nat.succ.inj h; exact ⟨⟨"SuiteRunner$Log", "add", "(IIII)V"⟩, prog_4_method_3_code, 5, none, { frames := 0, cells := 0, slots := 0, locals := 0 }, _, _, _, rfl, c_LG_add l D cA ad, ⟨rfl, rfl, by decide, by decide⟩, ⟨by decide, by decide, wn_LG_add⟩, wc_LG_add, wi_LG_add, wv_LG_add, wz_6, ml_1_123⟩), (fun _ h => absurd h List.not_mem_nil)⟩)⟩)) rfl dc_RN_finish (fun vs μ C res h hC => ?_)
  unfold p_RN_finish at h
  split at h
  · cases h
    exact ⟨Nat.le_of_ble_eq_true rfl, a_RN_finish μ  hC⟩
  · cases h
set_option maxRecDepth 20000 in
theorem fl_1_38 : sr_sF "SuiteRunner$Runner" sr_cl sr_WS sr_NW 38 1 4 := ⟨_, _, _, rfl, by decide, rfl, sr_in1, Or.inl (sr_ws 262 rfl rfl)⟩
set_option maxRecDepth 20000 in
theorem fl_1_87 : sr_sF "SuiteRunner$Runner" sr_cl sr_WS sr_NW 87 5 0 := ⟨_, _, _, rfl, by decide, rfl, sr_in5, Or.inl (sr_ws 175 rfl rfl)⟩
set_option maxRecDepth 10000 in
theorem c_RN_busyClasses (l : Launch) (D : va_G) (cA : Nat → ClassId) (ad : Nat → Nat → Nat) : sr_Ct l D sr_cl (sr_tys cA) (sr_wd sr_SC cA sr_csC ad) (sr_cy sr_NW sr_ZS sr_KS ad) ad sr_WS ⟨"SuiteRunner$Runner", "busyClasses", "()I"⟩ prog_8_method_8_code 3 (some .int) { frames := 0, cells := 0, slots := 0, locals := 0 } p_RN_busyClasses := by
  refine sr_met (E := e_RN_busyClasses) (by decide) sr_WS_good sr_NW_ok sr_hcsC sr_hsepC (sr_htyC cA) (sr_htoC cA) sr_hWC (fun _ _ _ h => h) (sr_hF (List.forall_mem_cons.mpr ⟨fl_1_12, (List.forall_mem_cons.mpr ⟨fl_1_21, (List.forall_mem_cons.mpr ⟨fl_1_38, (List.forall_mem_cons.mpr ⟨fl_1_87, (List.forall_mem_cons.mpr ⟨fl_1_136, (List.forall_mem_cons.mpr ⟨fl_1_143, (fun _ h => absurd h List.not_mem_nil)⟩)⟩)⟩)⟩)⟩)⟩)) (fun _ _ h => nomatch h) (fun _ _ h => nomatch h) (fun _ _ h => nomatch h) (fun _ _ _ _ _ _ h => nomatch h) (fun _ _ _ _ _ _ _ h => nomatch h) rfl dc_RN_busyClasses (fun vs μ C res h hC => ?_)
  unfold p_RN_busyClasses at h
  split at h
  · cases h
    exact ⟨Nat.le_of_ble_eq_true rfl, a_RN_busyClasses μ  hC⟩
  · cases h
set_option maxRecDepth 20000 in
theorem fl_1_127 : sr_sF "SuiteRunner$Runner" sr_cl sr_WS sr_NW 127 5 1 := ⟨_, _, _, rfl, by decide, rfl, sr_in5, Or.inl (sr_ws 177 rfl rfl)⟩
set_option maxRecDepth 20000 in
theorem fl_1_133 : sr_sF "SuiteRunner$Runner" sr_cl sr_WS sr_NW 133 2 1 := ⟨_, _, _, rfl, by decide, rfl, sr_in2, Or.inl (sr_ws 146 rfl rfl)⟩
set_option maxRecDepth 20000 in
theorem ml_1_75 : Cond.methodLink "SuiteRunner$Runner" 75 ⟨"SuiteRunner", "holds", "(II)Z"⟩ ∈ sr_WS ∨ ∃ host, Cond.methodLinkNest "SuiteRunner$Runner" 75 ⟨"SuiteRunner", "holds", "(II)Z"⟩ host ∈ sr_NW := Or.inr ⟨"SuiteRunner", sr_nw 501 rfl rfl⟩
set_option maxRecDepth 20000 in
theorem ml_1_130 : Cond.methodLink "SuiteRunner$Runner" 130 ⟨"SuiteRunner$Runner", "busyClasses", "()I"⟩ ∈ sr_WS ∨ ∃ host, Cond.methodLinkNest "SuiteRunner$Runner" 130 ⟨"SuiteRunner$Runner", "busyClasses", "()I"⟩ host ∈ sr_NW := Or.inl (sr_ws 590 rfl rfl)
set_option maxRecDepth 20000 in
theorem wc_RN_busyClasses : Cond.code ⟨"SuiteRunner$Runner", "busyClasses", "()I"⟩ prog_8_method_8_code 3 (some .int) ∈ sr_WS := sr_ws 593 rfl rfl
set_option maxRecDepth 20000 in
theorem wi_RN_busyClasses : Cond.instanceMethod ⟨"SuiteRunner$Runner", "busyClasses", "()I"⟩ ∈ sr_WS := sr_ws 592 rfl rfl
set_option maxRecDepth 20000 in
theorem wv_RN_busyClasses : Cond.selects "SuiteRunner$Runner" ⟨"SuiteRunner$Runner", "busyClasses", "()I"⟩ ⟨"SuiteRunner$Runner", "busyClasses", "()I"⟩ ∈ sr_WS := sr_ws 13 rfl rfl
theorem wn_RN_busyClasses : (parseMethodDescriptor "()I").map (fun d => d.parameters.length) = some 0 := by decide +kernel
set_option maxRecDepth 20000 in
theorem ml_1_148 : Cond.methodLink "SuiteRunner$Runner" 148 ⟨"SuiteRunner$TestMethod", "comesBefore", "(LSuiteRunner$TestMethod;)Z"⟩ ∈ sr_WS ∨ ∃ host, Cond.methodLinkNest "SuiteRunner$Runner" 148 ⟨"SuiteRunner$TestMethod", "comesBefore", "(LSuiteRunner$TestMethod;)Z"⟩ host ∈ sr_NW := Or.inl (sr_ws 594 rfl rfl)
set_option maxRecDepth 20000 in
theorem wc_TM_comesBefore : Cond.code ⟨"SuiteRunner$TestMethod", "comesBefore", "(LSuiteRunner$TestMethod;)Z"⟩ prog_10_method_7_code 3 (some .boolean) ∈ sr_WS := sr_ws 597 rfl rfl
set_option maxRecDepth 20000 in
theorem wi_TM_comesBefore : Cond.instanceMethod ⟨"SuiteRunner$TestMethod", "comesBefore", "(LSuiteRunner$TestMethod;)Z"⟩ ∈ sr_WS := sr_ws 595 rfl rfl
set_option maxRecDepth 20000 in
theorem wv_TM_comesBefore : Cond.selects "SuiteRunner$TestMethod" ⟨"SuiteRunner$TestMethod", "comesBefore", "(LSuiteRunner$TestMethod;)Z"⟩ ⟨"SuiteRunner$TestMethod", "comesBefore", "(LSuiteRunner$TestMethod;)Z"⟩ ∈ sr_WS := sr_ws 596 rfl rfl
theorem wn_TM_comesBefore : (parseMethodDescriptor "(LSuiteRunner$TestMethod;)Z").map (fun d => d.parameters.length) = some 1 := by decide +kernel
set_option maxRecDepth 10000 in
theorem c_RN_firstToTake (l : Launch) (D : va_G) (cA : Nat → ClassId) (ad : Nat → Nat → Nat) : sr_Ct l D sr_cl (sr_tys cA) (sr_wd sr_SC cA sr_csC ad) (sr_cy sr_NW sr_ZS sr_KS ad) ad sr_WS ⟨"SuiteRunner$Runner", "firstToTake", "()I"⟩ prog_8_method_7_code 6 (some .int) { frames := 3, cells := 0, slots := 0, locals := 69 } p_RN_firstToTake := by
  refine sr_met (E := e_RN_firstToTake) (by decide) sr_WS_good sr_NW_ok sr_hcsC sr_hsepC (sr_htyC cA) (sr_htoC cA) sr_hWC (fun _ _ _ h => h) (sr_hF (List.forall_mem_cons.mpr ⟨fl_1_12, (List.forall_mem_cons.mpr ⟨fl_1_21, (List.forall_mem_cons.mpr ⟨fl_1_34, (List.forall_mem_cons.mpr ⟨fl_1_42, (List.forall_mem_cons.mpr ⟨fl_1_57, (List.forall_mem_cons.mpr ⟨fl_1_127, (List.forall_mem_cons.mpr ⟨fl_1_133, (List.forall_mem_cons.mpr ⟨fl_1_136, (List.forall_mem_cons.mpr ⟨fl_1_140, (List.forall_mem_cons.mpr ⟨fl_1_143, (fun _ h => absurd h List.not_mem_nil)⟩)⟩)⟩)⟩)⟩)⟩)⟩)⟩)⟩)⟩)) (fun _ _ h => nomatch h) (fun _ _ h => nomatch h) (fun _ _ h => nomatch h) (sr_hCS (List.forall_mem_cons.mpr ⟨(fun _ => ⟨⟨"SuiteRunner", "holds", "(II)Z"⟩, prog_1_method_23_code, 2, (some .boolean), { frames := 0, cells := 0, slots := 0, locals := 0 }, c_SR_holds l D cA ad, ⟨rfl, rfl, by decide, by decide⟩, ⟨by decide, by decide, wn_SR_holds⟩, wc_SR_holds, wi_SR_holds, wz_0, ml_1_75⟩), (List.forall_mem_cons.mpr ⟨(fun h => nomatch h), (List.forall_mem_cons.mpr ⟨(fun h => nomatch h), (fun _ h => absurd h List.not_mem_nil)⟩)⟩)⟩)) (sr_hCV (List.forall_mem_cons.mpr ⟨(fun _ h => nomatch h), (List.forall_mem_cons.mpr ⟨(fun ci h => by obtain rfl : 1 = ci := Nat.succ.inj h; exact ⟨⟨"SuiteRunner$Runner", "busyClasses", "()I"⟩, prog_8_method_8_code, 3, (some .int), { frames := 0, cells := 0, slots := 0, locals := 0 }, _, _, _, rfl, c_RN_busyClasses l D cA ad, ⟨rfl, rfl, by decide, by decide⟩, ⟨by decide, by decide, wn_RN_busyClasses⟩, wc_RN_busyClasses, wi_RN_busyClasses, wv_RN_busyClasses, wz_1, ml_1_130⟩), (List.forall_mem_cons.mpr ⟨(fun ci h => by obtain rfl : 3 = ci := Nat.succ.inj h; exact ⟨⟨"SuiteRunner$TestMethod", "comesBefore", "(LSuiteRunner$TestMethod;)Z"⟩, prog_10_method_7_code, 3, (some .boolean), { frames := 2, cells := 0, slots := 0, locals := 47 }, _, _, _, rfl, c_TM_comesBefore l D cA ad, ⟨rfl, rfl, by decide, by decide⟩, ⟨by decide, by decide, wn_TM_comesBefore⟩, wc_TM_comesBefore, wi_TM_comesBefore, wv_TM_comesBefore, wz_3, ml_1_148⟩), (fun _ h => absurd h List.not_mem_nil)⟩)⟩)⟩)) rfl dc_RN_firstToTake (fun vs μ C res h hC => ?_)
  unfold p_RN_firstToTake at h
  split at h
  · cases h
    exact ⟨Nat.le_of_ble_eq_true rfl, a_RN_firstToTake μ  hC⟩
  · cases h
set_option maxRecDepth 20000 in
theorem ml_1_184 : Cond.methodLink "SuiteRunner$Runner" 184 ⟨"SuiteRunner$Runner", "enterLatest", "(I)Z"⟩ ∈ sr_WS ∨ ∃ host, Cond.methodLinkNest "SuiteRunner$Runner" 184 ⟨"SuiteRunner$Runner", "enterLatest", "(I)Z"⟩ host ∈ sr_NW := Or.inl (sr_ws 558 rfl rfl)
set_option maxRecDepth 20000 in
theorem wc_RN_enterLatest : Cond.code ⟨"SuiteRunner$Runner", "enterLatest", "(I)Z"⟩ prog_8_method_12_code 3 (some .boolean) ∈ sr_WS := sr_ws 561 rfl rfl
set_option maxRecDepth 20000 in
theorem wi_RN_enterLatest : Cond.instanceMethod ⟨"SuiteRunner$Runner", "enterLatest", "(I)Z"⟩ ∈ sr_WS := sr_ws 560 rfl rfl
set_option maxRecDepth 20000 in
theorem wv_RN_enterLatest : Cond.selects "SuiteRunner$Runner" ⟨"SuiteRunner$Runner", "enterLatest", "(I)Z"⟩ ⟨"SuiteRunner$Runner", "enterLatest", "(I)Z"⟩ ∈ sr_WS := sr_ws 8 rfl rfl
theorem wn_RN_enterLatest : (parseMethodDescriptor "(I)Z").map (fun d => d.parameters.length) = some 1 := by decide +kernel
set_option maxRecDepth 20000 in
theorem ml_1_187 : Cond.methodLink "SuiteRunner$Runner" 187 ⟨"SuiteRunner$Progress", "verdict", "(I)I"⟩ ∈ sr_WS ∨ ∃ host, Cond.methodLinkNest "SuiteRunner$Runner" 187 ⟨"SuiteRunner$Progress", "verdict", "(I)I"⟩ host ∈ sr_NW := Or.inl (sr_ws 570 rfl rfl)
set_option maxRecDepth 20000 in
theorem wc_PR_verdict : Cond.code ⟨"SuiteRunner$Progress", "verdict", "(I)I"⟩ prog_7_method_5_code 3 (some .int) ∈ sr_WS := sr_ws 573 rfl rfl
set_option maxRecDepth 20000 in
theorem wi_PR_verdict : Cond.instanceMethod ⟨"SuiteRunner$Progress", "verdict", "(I)I"⟩ ∈ sr_WS := sr_ws 571 rfl rfl
set_option maxRecDepth 20000 in
theorem wv_PR_verdict : Cond.selects "SuiteRunner$Progress" ⟨"SuiteRunner$Progress", "verdict", "(I)I"⟩ ⟨"SuiteRunner$Progress", "verdict", "(I)I"⟩ ∈ sr_WS := sr_ws 572 rfl rfl
theorem wn_PR_verdict : (parseMethodDescriptor "(I)I").map (fun d => d.parameters.length) = some 1 := by decide +kernel
set_option maxRecDepth 10000 in
theorem c_RN_proceed (l : Launch) (D : va_G) (cA : Nat → ClassId) (ad : Nat → Nat → Nat) : sr_Ct l D sr_cl (sr_tys cA) (sr_wd sr_SC cA sr_csC ad) (sr_cy sr_NW sr_ZS sr_KS ad) ad sr_WS ⟨"SuiteRunner$Runner", "proceed", "(I)Z"⟩ prog_8_method_11_code 3 (some .boolean) { frames := 3, cells := 0, slots := 0, locals := 74 } p_RN_proceed := by
  refine sr_met (E := e_RN_proceed) (by decide) sr_WS_good sr_NW_ok sr_hcsC sr_hsepC (sr_htyC cA) (sr_htoC cA) sr_hWC (fun _ _ _ h => h) (sr_hF (List.forall_mem_cons.mpr ⟨fl_1_12, (List.forall_mem_cons.mpr ⟨fl_1_34, (List.forall_mem_cons.mpr ⟨fl_1_136, (List.forall_mem_cons.mpr ⟨fl_1_155, (List.forall_mem_cons.mpr ⟨fl_1_175, (List.forall_mem_cons.mpr ⟨fl_1_181, (fun _ h => absurd h List.not_mem_nil)⟩)⟩)⟩)⟩)⟩)⟩)) (fun _ _ h => nomatch h) (fun _ _ h => nomatch h) (fun _ _ h => nomatch h) (sr_hCS (List.forall_mem_cons.mpr ⟨(fun h => nomatch h), (List.forall_mem_cons.mpr ⟨(fun h => nomatch h), (List.forall_mem_cons.mpr ⟨(fun h => nomatch h), (fun _ h => absurd h List.not_mem_nil)⟩)⟩)⟩)) (sr_hCV (List.forall_mem_cons.mpr ⟨(fun ci h => by obtain rfl : 1 = ci := Nat.succ.inj h; exact ⟨⟨"SuiteRunner$Runner", "endMethod", "(II)V"⟩, prog_8_method_15_code, 5, none, { frames := 2, cells := 0, slots := 0, locals := 50 }, _, _, _, rfl, c_RN_endMethod l D cA ad, ⟨rfl, rfl, by decide, by decide⟩, ⟨by decide, by decide, wn_RN_endMethod⟩, wc_RN_endMethod, wi_RN_endMethod, wv_RN_endMethod, wz_1, ml_1_158⟩), (List.forall_mem_cons.mpr ⟨(fun ci h => by obtain rfl : 1 = ci := Nat.succ.inj h; exact ⟨⟨"SuiteRunner$Runner", "enterLatest", "(I)Z"⟩, prog_8_method_12_code, 3, (some .boolean), { frames := 2, cells := 0, slots := 0, locals := 50 }, _, _, _, rfl, c_RN_enterLatest l D cA ad, ⟨rfl, rfl, by decide, by decide⟩, ⟨by decide, by decide, wn_RN_enterLatest⟩, wc_RN_enterLatest, wi_RN_enterLatest, wv_RN_enterLatest, wz_1, ml_1_184⟩), (List.forall_mem_cons.mpr ⟨(fun ci h => by obtain rfl : 7 = ci := Nat.succ.inj h; exact ⟨⟨"SuiteRunner$Progress", "verdict", "(I)I"⟩, prog_7_method_5_code, 3, (some .int), { frames := 0, cells := 0, slots := 0, locals := 0 }, _, _, _, rfl, c_PR_verdict l D cA ad, ⟨rfl, rfl, by decide, by decide⟩, ⟨by decide, by decide, wn_PR_verdict⟩, wc_PR_verdict, wi_PR_verdict, wv_PR_verdict, wz_7, ml_1_187⟩), (fun _ h => absurd h List.not_mem_nil)⟩)⟩)⟩)) rfl dc_RN_proceed (fun vs μ C res h hC => ?_)
  unfold p_RN_proceed at h
  split at h
  · cases h
    exact ⟨Nat.le_of_ble_eq_true rfl, a_RN_proceed μ _ hC⟩
  · cases h
set_option maxRecDepth 20000 in
theorem fl_1_99 : sr_sF "SuiteRunner$Runner" sr_cl sr_WS sr_NW 99 7 5 := ⟨_, _, _, rfl, by decide, rfl, sr_in7, Or.inl (sr_ws 228 rfl rfl)⟩
set_option maxRecDepth 20000 in
theorem ml_1_102 : Cond.methodLink "SuiteRunner$Runner" 102 ⟨"SuiteRunner$Runner", "endEntered", "(I)V"⟩ ∈ sr_WS ∨ ∃ host, Cond.methodLinkNest "SuiteRunner$Runner" 102 ⟨"SuiteRunner$Runner", "endEntered", "(I)V"⟩ host ∈ sr_NW := Or.inl (sr_ws 519 rfl rfl)
set_option maxRecDepth 20000 in
theorem wc_RN_endEntered : Cond.code ⟨"SuiteRunner$Runner", "endEntered", "(I)V"⟩ prog_8_method_13_code 3 none ∈ sr_WS := sr_ws 522 rfl rfl
set_option maxRecDepth 20000 in
theorem wi_RN_endEntered : Cond.instanceMethod ⟨"SuiteRunner$Runner", "endEntered", "(I)V"⟩ ∈ sr_WS := sr_ws 521 rfl rfl
set_option maxRecDepth 20000 in
theorem wv_RN_endEntered : Cond.selects "SuiteRunner$Runner" ⟨"SuiteRunner$Runner", "endEntered", "(I)V"⟩ ⟨"SuiteRunner$Runner", "endEntered", "(I)V"⟩ ∈ sr_WS := sr_ws 4 rfl rfl
theorem wn_RN_endEntered : (parseMethodDescriptor "(I)V").map (fun d => d.parameters.length) = some 1 := by decide +kernel
set_option maxRecDepth 20000 in
theorem ml_1_105 : Cond.methodLink "SuiteRunner$Runner" 105 ⟨"SuiteRunner$Runner", "proceed", "(I)Z"⟩ ∈ sr_WS ∨ ∃ host, Cond.methodLinkNest "SuiteRunner$Runner" 105 ⟨"SuiteRunner$Runner", "proceed", "(I)Z"⟩ host ∈ sr_NW := Or.inl (sr_ws 554 rfl rfl)
set_option maxRecDepth 20000 in
theorem wc_RN_proceed : Cond.code ⟨"SuiteRunner$Runner", "proceed", "(I)Z"⟩ prog_8_method_11_code 3 (some .boolean) ∈ sr_WS := sr_ws 557 rfl rfl
set_option maxRecDepth 20000 in
theorem wi_RN_proceed : Cond.instanceMethod ⟨"SuiteRunner$Runner", "proceed", "(I)Z"⟩ ∈ sr_WS := sr_ws 556 rfl rfl
set_option maxRecDepth 20000 in
theorem wv_RN_proceed : Cond.selects "SuiteRunner$Runner" ⟨"SuiteRunner$Runner", "proceed", "(I)Z"⟩ ⟨"SuiteRunner$Runner", "proceed", "(I)Z"⟩ ∈ sr_WS := sr_ws 7 rfl rfl
theorem wn_RN_proceed : (parseMethodDescriptor "(I)Z").map (fun d => d.parameters.length) = some 1 := by decide +kernel
set_option maxRecDepth 10000 in
theorem c_RN_advance (l : Launch) (D : va_G) (cA : Nat → ClassId) (ad : Nat → Nat → Nat) : sr_Ct l D sr_cl (sr_tys cA) (sr_wd sr_SC cA sr_csC ad) (sr_cy sr_NW sr_ZS sr_KS ad) ad sr_WS ⟨"SuiteRunner$Runner", "advance", "(I)V"⟩ prog_8_method_4_code 3 none { frames := 4, cells := 0, slots := 0, locals := 96 } p_RN_advance := by
  refine sr_met (E := e_RN_advance) (by decide) sr_WS_good sr_NW_ok sr_hcsC sr_hsepC (sr_htyC cA) (sr_htoC cA) sr_hWC (fun _ _ _ h => h) (sr_hF (List.forall_mem_cons.mpr ⟨fl_1_34, (List.forall_mem_cons.mpr ⟨fl_1_38, (List.forall_mem_cons.mpr ⟨fl_1_99, (fun _ h => absurd h List.not_mem_nil)⟩)⟩)⟩)) (fun _ _ h => nomatch h) (fun _ _ h => nomatch h) (fun _ _ h => nomatch h) (sr_hCS (List.forall_mem_cons.mpr ⟨(fun h => nomatch h), (List.forall_mem_cons.mpr ⟨(fun h => nomatch h), (fun _ h => absurd h List.not_mem_nil)⟩)⟩)) (sr_hCV (List.forall_mem_cons.mpr ⟨(fun ci h => by obtain rfl : 1 = ci := Nat.succ.inj h; exact ⟨⟨"SuiteRunner$Runner", "endEntered", "(I)V"⟩, prog_8_method_13_code, 3, none, { frames := 2, cells := 0, slots := 0, locals := 50 }, _, _, _, rfl, c_RN_endEntered l D cA ad, ⟨rfl, rfl, by decide, by decide⟩, ⟨by decide, by decide, wn_RN_endEntered⟩, wc_RN_endEntered, wi_RN_endEntered, wv_RN_endEntered, wz_1, ml_1_102⟩), (List.forall_mem_cons.mpr ⟨(fun ci h => by obtain rfl : 1 = ci := Nat.succ.inj h; exact ⟨⟨"SuiteRunner$Runner", "proceed", "(I)Z"⟩, prog_8_method_11_code, 3, (some .boolean), { frames := 3, cells := 0, slots := 0, locals := 74 }, _, _, _, rfl, c_RN_proceed l D cA ad, ⟨rfl, rfl, by decide, by decide⟩, ⟨by decide, by decide, wn_RN_proceed⟩, wc_RN_proceed, wi_RN_proceed, wv_RN_proceed, wz_1, ml_1_105⟩), (fun _ h => absurd h List.not_mem_nil)⟩)⟩)) rfl dc_RN_advance (fun vs μ C res h hC => ?_)
  unfold p_RN_advance at h
  split at h
  · cases h
    exact ⟨Nat.le_of_ble_eq_true rfl, a_RN_advance μ _ hC⟩
  · cases h
set_option maxRecDepth 20000 in
theorem ml_1_109 : Cond.methodLink "SuiteRunner$Runner" 109 ⟨"SuiteRunner$Runner", "firstToTake", "()I"⟩ ∈ sr_WS ∨ ∃ host, Cond.methodLinkNest "SuiteRunner$Runner" 109 ⟨"SuiteRunner$Runner", "firstToTake", "()I"⟩ host ∈ sr_NW := Or.inl (sr_ws 586 rfl rfl)
set_option maxRecDepth 20000 in
theorem wc_RN_firstToTake : Cond.code ⟨"SuiteRunner$Runner", "firstToTake", "()I"⟩ prog_8_method_7_code 6 (some .int) ∈ sr_WS := sr_ws 589 rfl rfl
set_option maxRecDepth 20000 in
theorem wi_RN_firstToTake : Cond.instanceMethod ⟨"SuiteRunner$Runner", "firstToTake", "()I"⟩ ∈ sr_WS := sr_ws 588 rfl rfl
set_option maxRecDepth 20000 in
theorem wv_RN_firstToTake : Cond.selects "SuiteRunner$Runner" ⟨"SuiteRunner$Runner", "firstToTake", "()I"⟩ ⟨"SuiteRunner$Runner", "firstToTake", "()I"⟩ ∈ sr_WS := sr_ws 12 rfl rfl
theorem wn_RN_firstToTake : (parseMethodDescriptor "()I").map (fun d => d.parameters.length) = some 0 := by decide +kernel
set_option maxRecDepth 20000 in
theorem ml_1_113 : Cond.methodLink "SuiteRunner$Runner" 113 ⟨"SuiteRunner$Runner", "take", "(I)Z"⟩ ∈ sr_WS ∨ ∃ host, Cond.methodLinkNest "SuiteRunner$Runner" 113 ⟨"SuiteRunner$Runner", "take", "(I)Z"⟩ host ∈ sr_NW := Or.inl (sr_ws 601 rfl rfl)
set_option maxRecDepth 20000 in
theorem wc_RN_take : Cond.code ⟨"SuiteRunner$Runner", "take", "(I)Z"⟩ prog_8_method_9_code 4 (some .boolean) ∈ sr_WS := sr_ws 604 rfl rfl
set_option maxRecDepth 20000 in
theorem wi_RN_take : Cond.instanceMethod ⟨"SuiteRunner$Runner", "take", "(I)Z"⟩ ∈ sr_WS := sr_ws 603 rfl rfl
set_option maxRecDepth 20000 in
theorem wv_RN_take : Cond.selects "SuiteRunner$Runner" ⟨"SuiteRunner$Runner", "take", "(I)Z"⟩ ⟨"SuiteRunner$Runner", "take", "(I)Z"⟩ ∈ sr_WS := sr_ws 14 rfl rfl
theorem wn_RN_take : (parseMethodDescriptor "(I)Z").map (fun d => d.parameters.length) = some 1 := by decide +kernel
set_option maxRecDepth 10000 in
theorem c_RN_serve (l : Launch) (D : va_G) (cA : Nat → ClassId) (ad : Nat → Nat → Nat) : sr_Ct l D sr_cl (sr_tys cA) (sr_wd sr_SC cA sr_csC ad) (sr_cy sr_NW sr_ZS sr_KS ad) ad sr_WS ⟨"SuiteRunner$Runner", "serve", "(I)V"⟩ prog_8_method_5_code 4 none { frames := 4, cells := 0, slots := 0, locals := 97 } p_RN_serve := by
  refine sr_met (E := e_RN_serve) (by decide) sr_WS_good sr_NW_ok sr_hcsC sr_hsepC (sr_htyC cA) (sr_htoC cA) sr_hWC (fun _ _ _ h => h) (sr_hF (List.forall_mem_cons.mpr ⟨fl_1_38, (fun _ h => absurd h List.not_mem_nil)⟩)) (fun _ _ h => nomatch h) (fun _ _ h => nomatch h) (fun _ _ h => nomatch h) (sr_hCS (List.forall_mem_cons.mpr ⟨(fun h => nomatch h), (List.forall_mem_cons.mpr ⟨(fun h => nomatch h), (List.forall_mem_cons.mpr ⟨(fun h => nomatch h), (fun _ h => absurd h List.not_mem_nil)⟩)⟩)⟩)) (sr_hCV (List.forall_mem_cons.mpr ⟨(fun ci h => by obtain rfl : 1 = ci := Nat.succ.inj h; exact ⟨⟨"SuiteRunner$Runner", "proceed", "(I)Z"⟩, prog_8_method_11_code, 3, (some .boolean), { frames := 3, cells := 0, slots := 0, locals := 74 }, _, _, _, rfl, c_RN_proceed l D cA ad, ⟨rfl, rfl, by decide, by decide⟩, ⟨by decide, by decide, wn_RN_proceed⟩, wc_RN_proceed, wi_RN_proceed, wv_RN_proceed, wz_1, ml_1_105⟩), (List.forall_mem_cons.mpr ⟨(fun ci h => by obtain rfl : 1 = ci := Nat.succ.inj h; exact ⟨⟨"SuiteRunner$Runner", "firstToTake", "()I"⟩, prog_8_method_7_code, 6, (some .int), { frames := 3, cells := 0, slots := 0, locals := 69 }, _, _, _, rfl, c_RN_firstToTake l D cA ad, ⟨rfl, rfl, by decide, by decide⟩, ⟨by decide, by decide, wn_RN_firstToTake⟩, wc_RN_firstToTake, wi_RN_firstToTake, wv_RN_firstToTake, wz_1, ml_1_109⟩), (List.forall_mem_cons.mpr ⟨(fun ci h => by obtain rfl : 1 = ci := Nat.succ.inj h; exact ⟨⟨"SuiteRunner$Runner", "take", "(I)Z"⟩, prog_8_method_9_code, 4, (some .boolean), { frames := 3, cells := 0, slots := 0, locals := 74 }, _, _, _, rfl, c_RN_take l D cA ad, ⟨rfl, rfl, by decide, by decide⟩, ⟨by decide, by decide, wn_RN_take⟩, wc_RN_take, wi_RN_take, wv_RN_take, wz_1, ml_1_113⟩), (fun _ h => absurd h List.not_mem_nil)⟩)⟩)⟩)) rfl dc_RN_serve (fun vs μ C res h hC => ?_)
  unfold p_RN_serve at h
  split at h
  · cases h
    exact ⟨Nat.le_of_ble_eq_true rfl, a_RN_serve μ _ hC⟩
  · cases h
set_option maxRecDepth 20000 in
theorem ml_1_90 : Cond.methodLink "SuiteRunner$Runner" 90 ⟨"SuiteRunner$Runner", "advance", "(I)V"⟩ ∈ sr_WS ∨ ∃ host, Cond.methodLinkNest "SuiteRunner$Runner" 90 ⟨"SuiteRunner$Runner", "advance", "(I)V"⟩ host ∈ sr_NW := Or.inl (sr_ws 515 rfl rfl)
set_option maxRecDepth 20000 in
theorem wc_RN_advance : Cond.code ⟨"SuiteRunner$Runner", "advance", "(I)V"⟩ prog_8_method_4_code 3 none ∈ sr_WS := sr_ws 518 rfl rfl
set_option maxRecDepth 20000 in
theorem wi_RN_advance : Cond.instanceMethod ⟨"SuiteRunner$Runner", "advance", "(I)V"⟩ ∈ sr_WS := sr_ws 517 rfl rfl
set_option maxRecDepth 20000 in
theorem wv_RN_advance : Cond.selects "SuiteRunner$Runner" ⟨"SuiteRunner$Runner", "advance", "(I)V"⟩ ⟨"SuiteRunner$Runner", "advance", "(I)V"⟩ ∈ sr_WS := sr_ws 3 rfl rfl
theorem wn_RN_advance : (parseMethodDescriptor "(I)V").map (fun d => d.parameters.length) = some 1 := by decide +kernel
set_option maxRecDepth 20000 in
theorem ml_1_93 : Cond.methodLink "SuiteRunner$Runner" 93 ⟨"SuiteRunner$Runner", "serve", "(I)V"⟩ ∈ sr_WS ∨ ∃ host, Cond.methodLinkNest "SuiteRunner$Runner" 93 ⟨"SuiteRunner$Runner", "serve", "(I)V"⟩ host ∈ sr_NW := Or.inl (sr_ws 582 rfl rfl)
set_option maxRecDepth 20000 in
theorem wc_RN_serve : Cond.code ⟨"SuiteRunner$Runner", "serve", "(I)V"⟩ prog_8_method_5_code 4 none ∈ sr_WS := sr_ws 585 rfl rfl
set_option maxRecDepth 20000 in
theorem wi_RN_serve : Cond.instanceMethod ⟨"SuiteRunner$Runner", "serve", "(I)V"⟩ ∈ sr_WS := sr_ws 584 rfl rfl
set_option maxRecDepth 20000 in
theorem wv_RN_serve : Cond.selects "SuiteRunner$Runner" ⟨"SuiteRunner$Runner", "serve", "(I)V"⟩ ⟨"SuiteRunner$Runner", "serve", "(I)V"⟩ ∈ sr_WS := sr_ws 11 rfl rfl
theorem wn_RN_serve : (parseMethodDescriptor "(I)V").map (fun d => d.parameters.length) = some 1 := by decide +kernel
set_option maxRecDepth 20000 in
theorem ml_1_96 : Cond.methodLink "SuiteRunner$Runner" 96 ⟨"SuiteRunner$Runner", "finish", "()V"⟩ ∈ sr_WS ∨ ∃ host, Cond.methodLinkNest "SuiteRunner$Runner" 96 ⟨"SuiteRunner$Runner", "finish", "()V"⟩ host ∈ sr_NW := Or.inl (sr_ws 613 rfl rfl)
set_option maxRecDepth 20000 in
theorem wc_RN_finish : Cond.code ⟨"SuiteRunner$Runner", "finish", "()V"⟩ prog_8_method_6_code 1 none ∈ sr_WS := sr_ws 616 rfl rfl
set_option maxRecDepth 20000 in
theorem wi_RN_finish : Cond.instanceMethod ⟨"SuiteRunner$Runner", "finish", "()V"⟩ ∈ sr_WS := sr_ws 615 rfl rfl
set_option maxRecDepth 20000 in
theorem wv_RN_finish : Cond.selects "SuiteRunner$Runner" ⟨"SuiteRunner$Runner", "finish", "()V"⟩ ⟨"SuiteRunner$Runner", "finish", "()V"⟩ ∈ sr_WS := sr_ws 16 rfl rfl
theorem wn_RN_finish : (parseMethodDescriptor "()V").map (fun d => d.parameters.length) = some 0 := by decide +kernel
set_option maxRecDepth 10000 in
theorem c_RN_step (l : Launch) (D : va_G) (cA : Nat → ClassId) (ad : Nat → Nat → Nat) : sr_Ct l D sr_cl (sr_tys cA) (sr_wd sr_SC cA sr_csC ad) (sr_cy sr_NW sr_ZS sr_KS ad) ad sr_WS ⟨"SuiteRunner$Runner", "step", "()V"⟩ prog_8_method_3_code 2 none { frames := 5, cells := 0, slots := 0, locals := 120 } p_RN_step := by
  refine sr_met (E := e_RN_step) (by decide) sr_WS_good sr_NW_ok sr_hcsC sr_hsepC (sr_htyC cA) (sr_htoC cA) sr_hWC (fun _ _ _ h => h) (sr_hF (List.forall_mem_cons.mpr ⟨fl_1_21, (List.forall_mem_cons.mpr ⟨fl_1_50, (List.forall_mem_cons.mpr ⟨fl_1_54, (List.forall_mem_cons.mpr ⟨fl_1_57, (List.forall_mem_cons.mpr ⟨fl_1_87, (fun _ h => absurd h List.not_mem_nil)⟩)⟩)⟩)⟩)⟩)) (fun _ _ h => nomatch h) (fun _ _ h => nomatch h) (fun _ _ h => nomatch h) (sr_hCS (List.forall_mem_cons.mpr ⟨(fun h => nomatch h), (List.forall_mem_cons.mpr ⟨(fun h => nomatch h), (List.forall_mem_cons.mpr ⟨(fun h => nomatch h), (fun _ h => absurd h List.not_mem_nil)⟩)⟩)⟩)) (sr_hCV (List.forall_mem_cons.mpr ⟨(fun ci h => by obtain rfl : 1 = ci := Nat.succ.inj h; exact ⟨⟨"SuiteRunner$Runner", "advance", "(I)V"⟩, prog_8_method_4_code, 3, none, { frames := 4, cells := 0, slots := 0, locals := 96 }, _, _, _, rfl, c_RN_advance l D cA ad, ⟨rfl, rfl, by decide, by decide⟩, ⟨by decide, by decide, wn_RN_advance⟩, wc_RN_advance, wi_RN_advance, wv_RN_advance, wz_1, ml_1_90⟩), (List.forall_mem_cons.mpr ⟨(fun ci h => by obtain rfl : 1 = ci := Nat.succ.inj h; exact ⟨⟨"SuiteRunner$Runner", "serve", "(I)V"⟩, prog_8_method_5_code, 4, none, { frames := 4, cells := 0, slots := 0, locals := 97 }, _, _, _, rfl, c_RN_serve l D cA ad, ⟨rfl, rfl, by decide, by decide⟩, ⟨by decide, by decide, wn_RN_serve⟩, wc_RN_serve, wi_RN_serve, wv_RN_serve, wz_1, ml_1_93⟩), (List.forall_mem_cons.mpr ⟨(fun ci h => by obtain rfl : 1 = ci := Nat.succ.inj h; exact ⟨⟨"SuiteRunner$Runner", "finish", "()V"⟩, prog_8_method_6_code, 1, none, { frames := 2, cells := 0, slots := 0, locals := 50 }, _, _, _, rfl, c_RN_finish l D cA ad, ⟨rfl, rfl, by decide, by decide⟩, ⟨by decide, by decide, wn_RN_finish⟩, wc_RN_finish, wi_RN_finish, wv_RN_finish, wz_1, ml_1_96⟩), (fun _ h => absurd h List.not_mem_nil)⟩)⟩)⟩)) rfl dc_RN_step (fun vs μ C res h hC => ?_)
  unfold p_RN_step at h
  split at h
  · cases h
    exact ⟨Nat.le_of_ble_eq_true rfl, a_RN_step μ  hC⟩
  · cases h
set_option maxRecDepth 20000 in
theorem ml_1_69 : Cond.methodLink "SuiteRunner$Runner" 69 ⟨"SuiteRunner$Log", "clear", "()V"⟩ ∈ sr_WS ∨ ∃ host, Cond.methodLinkNest "SuiteRunner$Runner" 69 ⟨"SuiteRunner$Log", "clear", "()V"⟩ host ∈ sr_NW := Or.inl (sr_ws 493 rfl rfl)
set_option maxRecDepth 20000 in
theorem wc_LG_clear : Cond.code ⟨"SuiteRunner$Log", "clear", "()V"⟩ prog_4_method_2_code 1 none ∈ sr_WS := sr_ws 496 rfl rfl
set_option maxRecDepth 20000 in
theorem wi_LG_clear : Cond.instanceMethod ⟨"SuiteRunner$Log", "clear", "()V"⟩ ∈ sr_WS := sr_ws 494 rfl rfl
set_option maxRecDepth 20000 in
theorem wv_LG_clear : Cond.selects "SuiteRunner$Log" ⟨"SuiteRunner$Log", "clear", "()V"⟩ ⟨"SuiteRunner$Log", "clear", "()V"⟩ ∈ sr_WS := sr_ws 495 rfl rfl
theorem wn_LG_clear : (parseMethodDescriptor "()V").map (fun d => d.parameters.length) = some 0 := by decide +kernel
set_option maxRecDepth 20000 in
theorem ml_1_72 : Cond.methodLink "SuiteRunner$Runner" 72 ⟨"SuiteRunner$Catalog", "forgetRuns", "()V"⟩ ∈ sr_WS ∨ ∃ host, Cond.methodLinkNest "SuiteRunner$Runner" 72 ⟨"SuiteRunner$Catalog", "forgetRuns", "()V"⟩ host ∈ sr_NW := Or.inl (sr_ws 497 rfl rfl)
set_option maxRecDepth 20000 in
theorem wc_CT_forgetRuns : Cond.code ⟨"SuiteRunner$Catalog", "forgetRuns", "()V"⟩ prog_2_method_12_code 2 none ∈ sr_WS := sr_ws 500 rfl rfl
set_option maxRecDepth 20000 in
theorem wi_CT_forgetRuns : Cond.instanceMethod ⟨"SuiteRunner$Catalog", "forgetRuns", "()V"⟩ ∈ sr_WS := sr_ws 498 rfl rfl
set_option maxRecDepth 20000 in
theorem wv_CT_forgetRuns : Cond.selects "SuiteRunner$Catalog" ⟨"SuiteRunner$Catalog", "forgetRuns", "()V"⟩ ⟨"SuiteRunner$Catalog", "forgetRuns", "()V"⟩ ∈ sr_WS := sr_ws 499 rfl rfl
theorem wn_CT_forgetRuns : (parseMethodDescriptor "()V").map (fun d => d.parameters.length) = some 0 := by decide +kernel
set_option maxRecDepth 20000 in
theorem ml_1_79 : Cond.methodLink "SuiteRunner$Runner" 79 ⟨"SuiteRunner$Progress", "reset", "(I)V"⟩ ∈ sr_WS ∨ ∃ host, Cond.methodLinkNest "SuiteRunner$Runner" 79 ⟨"SuiteRunner$Progress", "reset", "(I)V"⟩ host ∈ sr_NW := Or.inl (sr_ws 502 rfl rfl)
set_option maxRecDepth 20000 in
theorem wc_PR_reset : Cond.code ⟨"SuiteRunner$Progress", "reset", "(I)V"⟩ prog_7_method_2_code 2 none ∈ sr_WS := sr_ws 505 rfl rfl
set_option maxRecDepth 20000 in
theorem wi_PR_reset : Cond.instanceMethod ⟨"SuiteRunner$Progress", "reset", "(I)V"⟩ ∈ sr_WS := sr_ws 503 rfl rfl
set_option maxRecDepth 20000 in
theorem wv_PR_reset : Cond.selects "SuiteRunner$Progress" ⟨"SuiteRunner$Progress", "reset", "(I)V"⟩ ⟨"SuiteRunner$Progress", "reset", "(I)V"⟩ ∈ sr_WS := sr_ws 504 rfl rfl
theorem wn_PR_reset : (parseMethodDescriptor "(I)V").map (fun d => d.parameters.length) = some 1 := by decide +kernel
set_option maxRecDepth 20000 in
theorem ml_1_83 : Cond.methodLink "SuiteRunner$Runner" 83 ⟨"SuiteRunner$Catalog", "needsWithin", "(II)I"⟩ ∈ sr_WS ∨ ∃ host, Cond.methodLinkNest "SuiteRunner$Runner" 83 ⟨"SuiteRunner$Catalog", "needsWithin", "(II)I"⟩ host ∈ sr_NW := Or.inl (sr_ws 506 rfl rfl)
set_option maxRecDepth 10000 in
theorem c_RN_begin (l : Launch) (D : va_G) (cA : Nat → ClassId) (ad : Nat → Nat → Nat) : sr_Ct l D sr_cl (sr_tys cA) (sr_wd sr_SC cA sr_csC ad) (sr_cy sr_NW sr_ZS sr_KS ad) ad sr_WS ⟨"SuiteRunner$Runner", "begin", "(I)V"⟩ prog_8_method_2_code 3 none { frames := 1, cells := 0, slots := 0, locals := 25 } p_RN_begin := by
  refine sr_met (E := e_RN_begin) (by decide) sr_WS_good sr_NW_ok sr_hcsC sr_hsepC (sr_htyC cA) (sr_htoC cA) sr_hWC (fun _ _ _ h => h) (sr_hF (List.forall_mem_cons.mpr ⟨fl_1_12, (List.forall_mem_cons.mpr ⟨fl_1_28, (List.forall_mem_cons.mpr ⟨fl_1_34, (List.forall_mem_cons.mpr ⟨fl_1_42, (List.forall_mem_cons.mpr ⟨fl_1_46, (List.forall_mem_cons.mpr ⟨fl_1_50, (List.forall_mem_cons.mpr ⟨fl_1_54, (List.forall_mem_cons.mpr ⟨fl_1_57, (List.forall_mem_cons.mpr ⟨fl_1_60, (List.forall_mem_cons.mpr ⟨fl_1_63, (List.forall_mem_cons.mpr ⟨fl_1_66, (fun _ h => absurd h List.not_mem_nil)⟩)⟩)⟩)⟩)⟩)⟩)⟩)⟩)⟩)⟩)⟩)) (fun _ _ h => nomatch h) (fun _ _ h => nomatch h) (fun _ _ h => nomatch h) (sr_hCS (List.forall_mem_cons.mpr ⟨(fun h => nomatch h), (List.forall_mem_cons.mpr ⟨(fun h => nomatch h), (List.forall_mem_cons.mpr ⟨(fun _ => ⟨⟨"SuiteRunner", "holds", "(II)Z"⟩, prog_1_method_23_code, 2, (some .boolean), { frames := 0, cells := 0, slots := 0, locals := 0 }, c_SR_holds l D cA ad, ⟨rfl, rfl, by decide, by decide⟩, ⟨by decide, by decide, wn_SR_holds⟩, wc_SR_holds, wi_SR_holds, wz_0, ml_1_75⟩), (List.forall_mem_cons.mpr ⟨(fun h => nomatch h), (List.forall_mem_cons.mpr ⟨(fun h => nomatch h), (fun _ h => absurd h List.not_mem_nil)⟩)⟩)⟩)⟩)⟩)) (sr_hCV (List.forall_mem_cons.mpr ⟨(fun ci h => by obtain rfl : 6 = ci := Nat.succ.inj h; exact ⟨⟨"SuiteRunner$Log", "clear", "()V"⟩, prog_4_method_2_code, 1, none, { frames := 0, cells := 0, slots := 0, locals := 0 }, _, _, _, rfl, c_LG_clear l D cA ad, ⟨rfl, rfl, by decide, by decide⟩, ⟨by decide, by decide, wn_LG_clear⟩, wc_LG_clear, wi_LG_clear, wv_LG_clear, wz_6, ml_1_69⟩), (List.forall_mem_cons.mpr ⟨(fun ci h => by obtain rfl : 2 = ci := Nat.succ.inj h; exact ⟨⟨"SuiteRunner$Catalog", "forgetRuns", "()V"⟩, prog_2_method_12_code, 2, none, { frames := 0, cells := 0, slots := 0, locals := 0 }, _, _, _, rfl, c_CT_forgetRuns l D cA ad, ⟨rfl, rfl, by decide, by decide⟩, ⟨by decide, by decide, wn_CT_forgetRuns⟩, wc_CT_forgetRuns, wi_CT_forgetRuns, wv_CT_forgetRuns, wz_2, ml_1_72⟩), (List.forall_mem_cons.mpr ⟨(fun _ h => nomatch h), (List.forall_mem_cons.mpr ⟨(fun ci h => by obtain rfl : 7 = ci := Nat.succ.inj h; exact ⟨⟨"SuiteRunner$Progress", "reset", "(I)V"⟩, prog_7_method_2_code, 2, none, { frames := 0, cells := 0, slots := 0, locals := 0 }, _, _, _, rfl, c_PR_reset l D cA ad, ⟨rfl, rfl, by decide, by decide⟩, ⟨by decide, by decide, wn_PR_reset⟩, wc_PR_reset, wi_PR_reset, wv_PR_reset, wz_7, ml_1_79⟩), (List.forall_mem_cons.mpr ⟨(fun ci h => by obtain rfl : 2 = ci := Nat.succ.inj h; exact ⟨⟨"SuiteRunner$Catalog", "needsWithin", "(II)I"⟩, prog_2_method_7_code, 6, (some .int), { frames := 0, cells := 0, slots := 0, locals := 0 }, _, _, _, rfl, c_CT_needsWithin l D cA ad, ⟨rfl, rfl, by decide, by decide⟩, ⟨by decide, by decide, wn_CT_needsWithin⟩, wc_CT_needsWithin, wi_CT_needsWithin, wv_CT_needsWithin, wz_2, ml_1_83⟩), (fun _ h => absurd h List.not_mem_nil)⟩)⟩)⟩)⟩)⟩)) rfl dc_RN_begin (fun vs μ C res h hC => ?_)
  unfold p_RN_begin at h
  split at h
  · cases h
    exact ⟨Nat.le_of_ble_eq_true rfl, a_RN_begin μ _ hC⟩
  · cases h
set_option maxRecDepth 20000 in
theorem ml_0_122 : Cond.methodLink "SuiteRunner" 122 ⟨"SuiteRunner$Catalog", "hasDanglingNeed", "(I)Z"⟩ ∈ sr_WS ∨ ∃ host, Cond.methodLinkNest "SuiteRunner" 122 ⟨"SuiteRunner$Catalog", "hasDanglingNeed", "(I)Z"⟩ host ∈ sr_NW := Or.inl (sr_ws 472 rfl rfl)
set_option maxRecDepth 20000 in
theorem wc_CT_hasDanglingNeed : Cond.code ⟨"SuiteRunner$Catalog", "hasDanglingNeed", "(I)Z"⟩ prog_2_method_8_code 6 (some .boolean) ∈ sr_WS := sr_ws 475 rfl rfl
set_option maxRecDepth 20000 in
theorem wi_CT_hasDanglingNeed : Cond.instanceMethod ⟨"SuiteRunner$Catalog", "hasDanglingNeed", "(I)Z"⟩ ∈ sr_WS := sr_ws 473 rfl rfl
set_option maxRecDepth 20000 in
theorem wv_CT_hasDanglingNeed : Cond.selects "SuiteRunner$Catalog" ⟨"SuiteRunner$Catalog", "hasDanglingNeed", "(I)Z"⟩ ⟨"SuiteRunner$Catalog", "hasDanglingNeed", "(I)Z"⟩ ∈ sr_WS := sr_ws 474 rfl rfl
theorem wn_CT_hasDanglingNeed : (parseMethodDescriptor "(I)Z").map (fun d => d.parameters.length) = some 1 := by decide +kernel
set_option maxRecDepth 20000 in
theorem ml_0_129 : Cond.methodLink "SuiteRunner" 129 ⟨"SuiteRunner$Runner", "begin", "(I)V"⟩ ∈ sr_WS ∨ ∃ host, Cond.methodLinkNest "SuiteRunner" 129 ⟨"SuiteRunner$Runner", "begin", "(I)V"⟩ host ∈ sr_NW := Or.inl (sr_ws 489 rfl rfl)
set_option maxRecDepth 20000 in
theorem wc_RN_begin : Cond.code ⟨"SuiteRunner$Runner", "begin", "(I)V"⟩ prog_8_method_2_code 3 none ∈ sr_WS := sr_ws 492 rfl rfl
set_option maxRecDepth 20000 in
theorem wi_RN_begin : Cond.instanceMethod ⟨"SuiteRunner$Runner", "begin", "(I)V"⟩ ∈ sr_WS := sr_ws 490 rfl rfl
set_option maxRecDepth 20000 in
theorem wv_RN_begin : Cond.selects "SuiteRunner$Runner" ⟨"SuiteRunner$Runner", "begin", "(I)V"⟩ ⟨"SuiteRunner$Runner", "begin", "(I)V"⟩ ∈ sr_WS := sr_ws 491 rfl rfl
theorem wn_RN_begin : (parseMethodDescriptor "(I)V").map (fun d => d.parameters.length) = some 1 := by decide +kernel
set_option maxRecDepth 10000 in
theorem c_SR_start (l : Launch) (D : va_G) (cA : Nat → ClassId) (ad : Nat → Nat → Nat) : sr_Ct l D sr_cl (sr_tys cA) (sr_wd sr_SC cA sr_csC ad) (sr_cy sr_NW sr_ZS sr_KS ad) ad sr_WS ⟨"SuiteRunner", "start", "()I"⟩ prog_1_method_11_code 2 (some .int) { frames := 5, cells := 0, slots := 0, locals := 122 } p_SR_start := by
  refine sr_met (E := e_SR_start) (by decide) sr_WS_good sr_NW_ok sr_hcsC sr_hsepC (sr_htyC cA) (sr_htoC cA) sr_hWC (fun _ _ _ h => h) (sr_hF (List.forall_mem_cons.mpr ⟨fl_0_10, (List.forall_mem_cons.mpr ⟨fl_0_20, (List.forall_mem_cons.mpr ⟨fl_0_28, (List.forall_mem_cons.mpr ⟨fl_0_97, (List.forall_mem_cons.mpr ⟨fl_0_115, (fun _ h => absurd h List.not_mem_nil)⟩)⟩)⟩)⟩)⟩)) (fun _ _ h => nomatch h) (fun _ _ h => nomatch h) (fun _ _ h => nomatch h) (sr_hCS (List.forall_mem_cons.mpr ⟨(fun h => nomatch h), (List.forall_mem_cons.mpr ⟨(fun h => nomatch h), (List.forall_mem_cons.mpr ⟨(fun h => nomatch h), (List.forall_mem_cons.mpr ⟨(fun h => nomatch h), (fun _ h => absurd h List.not_mem_nil)⟩)⟩)⟩)⟩)) (sr_hCV (List.forall_mem_cons.mpr ⟨(fun ci h => by obtain rfl : 0 = ci := Nat.succ.inj h; exact ⟨⟨"SuiteRunner", "chosenNow", "()I"⟩, prog_1_method_21_code, 3, (some .int), { frames := 4, cells := 0, slots := 0, locals := 100 }, _, _, _, rfl, c_SR_chosenNow l D cA ad, ⟨rfl, rfl, by decide, by decide⟩, ⟨by decide, by decide, wn_SR_chosenNow⟩, wc_SR_chosenNow, wi_SR_chosenNow, wv_SR_chosenNow, wz_0, ml_0_118⟩), (List.forall_mem_cons.mpr ⟨(fun ci h => by obtain rfl : 2 = ci := Nat.succ.inj h; exact ⟨⟨"SuiteRunner$Catalog", "hasDanglingNeed", "(I)Z"⟩, prog_2_method_8_code, 6, (some .boolean), { frames := 1, cells := 0, slots := 0, locals := 21 }, _, _, _, rfl, c_CT_hasDanglingNeed l D cA ad, ⟨rfl, rfl, by decide, by decide⟩, ⟨by decide, by decide, wn_CT_hasDanglingNeed⟩, wc_CT_hasDanglingNeed, wi_CT_hasDanglingNeed, wv_CT_hasDanglingNeed, wz_2, ml_0_122⟩), (List.forall_mem_cons.mpr ⟨(fun ci h => by obtain rfl : 2 = ci := Nat.succ.inj h; exact ⟨⟨"SuiteRunner$Catalog", "circleWithin", "(I)I"⟩, prog_2_method_9_code, 4, (some .int), { frames := 2, cells := 0, slots := 0, locals := 48 }, _, _, _, rfl, c_CT_circleWithin l D cA ad, ⟨rfl, rfl, by decide, by decide⟩, ⟨by decide, by decide, wn_CT_circleWithin⟩, wc_CT_circleWithin, wi_CT_circleWithin, wv_CT_circleWithin, wz_2, ml_0_125⟩), (List.forall_mem_cons.mpr ⟨(fun ci h => by obtain rfl : 1 = ci := Nat.succ.inj h; exact ⟨⟨"SuiteRunner$Runner", "begin", "(I)V"⟩, prog_8_method_2_code, 3, none, { frames := 1, cells := 0, slots := 0, locals := 25 }, _, _, _, rfl, c_RN_begin l D cA ad, ⟨rfl, rfl, by decide, by decide⟩, ⟨by decide, by decide, wn_RN_begin⟩, wc_RN_begin, wi_RN_begin, wv_RN_begin, wz_1, ml_0_129⟩), (fun _ h => absurd h List.not_mem_nil)⟩)⟩)⟩)⟩)) rfl dc_SR_start (fun vs μ C res h hC => ?_)
  unfold p_SR_start at h
  split at h
  · cases h
    exact ⟨Nat.le_of_ble_eq_true rfl, a_SR_start μ  hC⟩
  · cases h
set_option maxRecDepth 20000 in
theorem ml_0_133 : Cond.methodLink "SuiteRunner" 133 ⟨"SuiteRunner$Runner", "step", "()V"⟩ ∈ sr_WS ∨ ∃ host, Cond.methodLinkNest "SuiteRunner" 133 ⟨"SuiteRunner$Runner", "step", "()V"⟩ host ∈ sr_NW := Or.inl (sr_ws 511 rfl rfl)
set_option maxRecDepth 20000 in
theorem wc_RN_step : Cond.code ⟨"SuiteRunner$Runner", "step", "()V"⟩ prog_8_method_3_code 2 none ∈ sr_WS := sr_ws 514 rfl rfl
set_option maxRecDepth 20000 in
theorem wi_RN_step : Cond.instanceMethod ⟨"SuiteRunner$Runner", "step", "()V"⟩ ∈ sr_WS := sr_ws 512 rfl rfl
set_option maxRecDepth 20000 in
theorem wv_RN_step : Cond.selects "SuiteRunner$Runner" ⟨"SuiteRunner$Runner", "step", "()V"⟩ ⟨"SuiteRunner$Runner", "step", "()V"⟩ ∈ sr_WS := sr_ws 513 rfl rfl
theorem wn_RN_step : (parseMethodDescriptor "()V").map (fun d => d.parameters.length) = some 0 := by decide +kernel
set_option maxRecDepth 10000 in
theorem c_SR_tick (l : Launch) (D : va_G) (cA : Nat → ClassId) (ad : Nat → Nat → Nat) : sr_Ct l D sr_cl (sr_tys cA) (sr_wd sr_SC cA sr_csC ad) (sr_cy sr_NW sr_ZS sr_KS ad) ad sr_WS ⟨"SuiteRunner", "tick", "(I)I"⟩ prog_1_method_12_code 3 (some .int) { frames := 6, cells := 0, slots := 0, locals := 141 } p_SR_tick := by
  refine sr_met (E := e_SR_tick) (by decide) sr_WS_good sr_NW_ok sr_hcsC sr_hsepC (sr_htyC cA) (sr_htoC cA) sr_hWC (fun _ _ _ h => h) (sr_hF (List.forall_mem_cons.mpr ⟨fl_0_10, (List.forall_mem_cons.mpr ⟨fl_0_28, (fun _ h => absurd h List.not_mem_nil)⟩)⟩)) (fun _ _ h => nomatch h) (fun _ _ h => nomatch h) (fun _ _ h => nomatch h) (sr_hCS (List.forall_mem_cons.mpr ⟨(fun h => nomatch h), (fun _ h => absurd h List.not_mem_nil)⟩)) (sr_hCV (List.forall_mem_cons.mpr ⟨(fun ci h => by obtain rfl : 1 = ci := Nat.succ.inj h; exact ⟨⟨"SuiteRunner$Runner", "step", "()V"⟩, prog_8_method_3_code, 2, none, { frames := 5, cells := 0, slots := 0, locals := 120 }, _, _, _, rfl, c_RN_step l D cA ad, ⟨rfl, rfl, by decide, by decide⟩, ⟨by decide, by decide, wn_RN_step⟩, wc_RN_step, wi_RN_step, wv_RN_step, wz_1, ml_0_133⟩), (fun _ h => absurd h List.not_mem_nil)⟩)) rfl dc_SR_tick (fun vs μ C res h hC => ?_)
  unfold p_SR_tick at h
  split at h
  · cases h
    exact ⟨Nat.le_of_ble_eq_true rfl, a_SR_tick μ _ hC⟩
  · cases h
set_option maxRecDepth 20000 in
theorem fl_10_20 : sr_sF "SuiteRunnerModel" sr_cl sr_WS sr_NW 20 10 4 := ⟨_, _, _, rfl, by decide, rfl, sr_in10, Or.inl (sr_ws 673 rfl rfl)⟩
set_option maxRecDepth 20000 in
theorem ml_10_110 : Cond.methodLink "SuiteRunnerModel" 110 ⟨"SuiteRunnerModel", "isMethod", "(I)Z"⟩ ∈ sr_WS ∨ ∃ host, Cond.methodLinkNest "SuiteRunnerModel" 110 ⟨"SuiteRunnerModel", "isMethod", "(I)Z"⟩ host ∈ sr_NW := Or.inl (sr_ws 808 rfl rfl)
set_option maxRecDepth 20000 in
theorem wc_MO_isMethod : Cond.code ⟨"SuiteRunnerModel", "isMethod", "(I)Z"⟩ prog_12_method_3_code 2 (some .boolean) ∈ sr_WS := sr_ws 811 rfl rfl
set_option maxRecDepth 20000 in
theorem wi_MO_isMethod : Cond.instanceMethod ⟨"SuiteRunnerModel", "isMethod", "(I)Z"⟩ ∈ sr_WS := sr_ws 810 rfl rfl
set_option maxRecDepth 20000 in
theorem wv_MO_isMethod : Cond.selects "SuiteRunnerModel" ⟨"SuiteRunnerModel", "isMethod", "(I)Z"⟩ ⟨"SuiteRunnerModel", "isMethod", "(I)Z"⟩ ∈ sr_WS := sr_ws 17 rfl rfl
theorem wn_MO_isMethod : (parseMethodDescriptor "(I)Z").map (fun d => d.parameters.length) = some 1 := by decide +kernel
set_option maxRecDepth 10000 in
theorem c_MO_needs (l : Launch) (D : va_G) (cA : Nat → ClassId) (ad : Nat → Nat → Nat) : sr_Ct l D sr_cl (sr_tys cA) (sr_wd sr_SM cA sr_csM ad) (sr_cy sr_NW sr_ZS sr_KS ad) ad sr_WS ⟨"SuiteRunnerModel", "needs", "(II)Z"⟩ prog_12_method_9_code 3 (some .boolean) { frames := 2, cells := 0, slots := 0, locals := 43 } p_MO_needs := by
  refine sr_met (E := e_MO_needs) (by decide) sr_WS_good sr_NW_ok sr_hcsM sr_hsepM (sr_htyM cA) (sr_htoM cA) sr_hWM (fun _ _ _ h => h) (sr_hF (List.forall_mem_cons.mpr ⟨fl_10_20, (List.forall_mem_cons.mpr ⟨fl_10_103, (fun _ h => absurd h List.not_mem_nil)⟩)⟩)) (fun _ _ h => nomatch h) (fun _ _ h => nomatch h) (fun _ _ h => nomatch h) (sr_hCS (List.forall_mem_cons.mpr ⟨(fun h => nomatch h), (fun _ h => absurd h List.not_mem_nil)⟩)) (sr_hCV (List.forall_mem_cons.mpr ⟨(fun ci h => by obtain rfl : 10 = ci := Nat.succ.inj h; exact ⟨⟨"SuiteRunnerModel", "isMethod", "(I)Z"⟩, prog_12_method_3_code, 2, (some .boolean), { frames := 1, cells := 0, slots := 0, locals := 22 }, _, _, _, rfl, c_MO_isMethod l D cA ad, ⟨rfl, rfl, by decide, by decide⟩, ⟨by decide, by decide, wn_MO_isMethod⟩, wc_MO_isMethod, wi_MO_isMethod, wv_MO_isMethod, wz_10, ml_10_110⟩), (fun _ h => absurd h List.not_mem_nil)⟩)) rfl dc_MO_needs (fun vs μ C res h hC => ?_)
  unfold p_MO_needs at h
  split at h
  · cases h
    exact ⟨Nat.le_of_ble_eq_true rfl, a_MO_needs μ _ _ hC⟩
  · cases h
set_option maxRecDepth 20000 in
theorem fl_10_23 : sr_sF "SuiteRunnerModel" sr_cl sr_WS sr_NW 23 10 5 := ⟨_, _, _, rfl, by decide, rfl, sr_in10, Or.inl (sr_ws 674 rfl rfl)⟩
set_option maxRecDepth 10000 in
theorem c_MO_needsGroup (l : Launch) (D : va_G) (cA : Nat → ClassId) (ad : Nat → Nat → Nat) : sr_Ct l D sr_cl (sr_tys cA) (sr_wd sr_SM cA sr_csM ad) (sr_cy sr_NW sr_ZS sr_KS ad) ad sr_WS ⟨"SuiteRunnerModel", "needsGroup", "(II)Z"⟩ prog_12_method_10_code 3 (some .boolean) { frames := 2, cells := 0, slots := 0, locals := 43 } p_MO_needsGroup := by
  refine sr_met (E := e_MO_needsGroup) (by decide) sr_WS_good sr_NW_ok sr_hcsM sr_hsepM (sr_htyM cA) (sr_htoM cA) sr_hWM (fun _ _ _ h => h) (sr_hF (List.forall_mem_cons.mpr ⟨fl_10_23, (List.forall_mem_cons.mpr ⟨fl_10_103, (fun _ h => absurd h List.not_mem_nil)⟩)⟩)) (fun _ _ h => nomatch h) (fun _ _ h => nomatch h) (fun _ _ h => nomatch h) (sr_hCS (List.forall_mem_cons.mpr ⟨(fun _ => ⟨⟨"SuiteRunnerModel", "in", "(III)Z"⟩, prog_12_method_2_code, 3, (some .boolean), { frames := 0, cells := 0, slots := 0, locals := 0 }, c_MO_in l D cA ad, ⟨rfl, rfl, by decide, by decide⟩, ⟨by decide, by decide, wn_MO_in⟩, wc_MO_in, wi_MO_in, wz_10, ml_10_95⟩), (List.forall_mem_cons.mpr ⟨(fun h => nomatch h), (fun _ h => absurd h List.not_mem_nil)⟩)⟩)) (sr_hCV (List.forall_mem_cons.mpr ⟨(fun _ h => nomatch h), (List.forall_mem_cons.mpr ⟨(fun ci h => by obtain rfl : 10 = ci := Nat.succ.inj h; exact ⟨⟨"SuiteRunnerModel", "isMethod", "(I)Z"⟩, prog_12_method_3_code, 2, (some .boolean), { frames := 1, cells := 0, slots := 0, locals := 22 }, _, _, _, rfl, c_MO_isMethod l D cA ad, ⟨rfl, rfl, by decide, by decide⟩, ⟨by decide, by decide, wn_MO_isMethod⟩, wc_MO_isMethod, wi_MO_isMethod, wv_MO_isMethod, wz_10, ml_10_110⟩), (fun _ h => absurd h List.not_mem_nil)⟩)⟩)) rfl dc_MO_needsGroup (fun vs μ C res h hC => ?_)
  unfold p_MO_needsGroup at h
  split at h
  · cases h
    exact ⟨Nat.le_of_ble_eq_true rfl, a_MO_needsGroup μ _ _ hC⟩
  · cases h
set_option maxRecDepth 20000 in
theorem fl_10_26 : sr_sF "SuiteRunnerModel" sr_cl sr_WS sr_NW 26 10 6 := ⟨_, _, _, rfl, by decide, rfl, sr_in10, Or.inl (sr_ws 675 rfl rfl)⟩
set_option maxRecDepth 10000 in
theorem c_MO_provider (l : Launch) (D : va_G) (cA : Nat → ClassId) (ad : Nat → Nat → Nat) : sr_Ct l D sr_cl (sr_tys cA) (sr_wd sr_SM cA sr_csM ad) (sr_cy sr_NW sr_ZS sr_KS ad) ad sr_WS ⟨"SuiteRunnerModel", "provider", "(II)Z"⟩ prog_12_method_11_code 3 (some .boolean) { frames := 1, cells := 0, slots := 0, locals := 22 } p_MO_provider := by
  refine sr_met (E := e_MO_provider) (by decide) sr_WS_good sr_NW_ok sr_hcsM sr_hsepM (sr_htyM cA) (sr_htoM cA) sr_hWM (fun _ _ _ h => h) (sr_hF (List.forall_mem_cons.mpr ⟨fl_10_26, (List.forall_mem_cons.mpr ⟨fl_10_103, (fun _ h => absurd h List.not_mem_nil)⟩)⟩)) (fun _ _ h => nomatch h) (fun _ _ h => nomatch h) (fun _ _ h => nomatch h) (sr_hCS (List.forall_mem_cons.mpr ⟨(fun _ => ⟨⟨"SuiteRunnerModel", "in", "(III)Z"⟩, prog_12_method_2_code, 3, (some .boolean), { frames := 0, cells := 0, slots := 0, locals := 0 }, c_MO_in l D cA ad, ⟨rfl, rfl, by decide, by decide⟩, ⟨by decide, by decide, wn_MO_in⟩, wc_MO_in, wi_MO_in, wz_10, ml_10_95⟩), (fun _ h => absurd h List.not_mem_nil)⟩)) (sr_hCV (List.forall_mem_cons.mpr ⟨(fun _ h => nomatch h), (fun _ h => absurd h List.not_mem_nil)⟩)) rfl dc_MO_provider (fun vs μ C res h hC => ?_)
  unfold p_MO_provider at h
  split at h
  · cases h
    exact ⟨Nat.le_of_ble_eq_true rfl, a_MO_provider μ _ _⟩
  · cases h
set_option maxRecDepth 20000 in
theorem fl_10_52 : sr_sF "SuiteRunnerModel" sr_cl sr_WS sr_NW 52 10 18 := ⟨_, _, _, rfl, by decide, rfl, sr_in10, Or.inl (sr_ws 687 rfl rfl)⟩
set_option maxRecDepth 20000 in
theorem fl_10_55 : sr_sF "SuiteRunnerModel" sr_cl sr_WS sr_NW 55 10 20 := ⟨_, _, _, rfl, by decide, rfl, sr_in10, Or.inl (sr_ws 689 rfl rfl)⟩
set_option maxRecDepth 20000 in
theorem fl_10_130 : sr_sF "SuiteRunnerModel" sr_cl sr_WS sr_NW 130 10 19 := ⟨_, _, _, rfl, by decide, rfl, sr_in10, Or.inl (sr_ws 688 rfl rfl)⟩
set_option maxRecDepth 20000 in
theorem fl_10_133 : sr_sF "SuiteRunnerModel" sr_cl sr_WS sr_NW 133 10 21 := ⟨_, _, _, rfl, by decide, rfl, sr_in10, Or.inl (sr_ws 690 rfl rfl)⟩
set_option maxRecDepth 20000 in
theorem fl_10_136 : sr_sF "SuiteRunnerModel" sr_cl sr_WS sr_NW 136 10 22 := ⟨_, _, _, rfl, by decide, rfl, sr_in10, Or.inl (sr_ws 691 rfl rfl)⟩
set_option maxRecDepth 10000 in
theorem c_MO_options (l : Launch) (D : va_G) (cA : Nat → ClassId) (ad : Nat → Nat → Nat) : sr_Ct l D sr_cl (sr_tys cA) (sr_wd sr_SM cA sr_csM ad) (sr_cy sr_NW sr_ZS sr_KS ad) ad sr_WS ⟨"SuiteRunnerModel", "options", "(IZZZZ)Z"⟩ prog_12_method_15_code 6 (some .boolean) { frames := 1, cells := 0, slots := 0, locals := 22 } p_MO_options := by
  refine sr_met (E := e_MO_options) (by decide) sr_WS_good sr_NW_ok sr_hcsM sr_hsepM (sr_htyM cA) (sr_htoM cA) sr_hWM (fun _ _ _ h => h) (sr_hF (List.forall_mem_cons.mpr ⟨fl_10_52, (List.forall_mem_cons.mpr ⟨fl_10_55, (List.forall_mem_cons.mpr ⟨fl_10_103, (List.forall_mem_cons.mpr ⟨fl_10_130, (List.forall_mem_cons.mpr ⟨fl_10_133, (List.forall_mem_cons.mpr ⟨fl_10_136, (fun _ h => absurd h List.not_mem_nil)⟩)⟩)⟩)⟩)⟩)⟩)) (fun _ _ h => nomatch h) (fun _ _ h => nomatch h) (fun _ _ h => nomatch h) (sr_hCS (List.forall_mem_cons.mpr ⟨(fun _ => ⟨⟨"SuiteRunnerModel", "in", "(III)Z"⟩, prog_12_method_2_code, 3, (some .boolean), { frames := 0, cells := 0, slots := 0, locals := 0 }, c_MO_in l D cA ad, ⟨rfl, rfl, by decide, by decide⟩, ⟨by decide, by decide, wn_MO_in⟩, wc_MO_in, wi_MO_in, wz_10, ml_10_95⟩), (fun _ h => absurd h List.not_mem_nil)⟩)) (sr_hCV (List.forall_mem_cons.mpr ⟨(fun _ h => nomatch h), (fun _ h => absurd h List.not_mem_nil)⟩)) rfl dc_MO_options (fun vs μ C res h hC => ?_)
  unfold p_MO_options at h
  split at h
  · cases h
    exact ⟨Nat.le_of_ble_eq_true rfl, a_MO_options μ _ _ _ _ _ hC⟩
  · cases h
set_option maxRecDepth 10000 in
theorem c_MO_isName (l : Launch) (D : va_G) (cA : Nat → ClassId) (ad : Nat → Nat → Nat) : sr_Ct l D sr_cl (sr_tys cA) (sr_wd sr_SM cA sr_csM ad) (sr_cy sr_NW sr_ZS sr_KS ad) ad sr_WS ⟨"SuiteRunnerModel", "isName", "(J)Z"⟩ prog_12_method_5_code 7 (some .boolean) { frames := 0, cells := 0, slots := 0, locals := 0 } p_MO_isName := by
  refine sr_met (E := e_MO_isName) (by decide) sr_WS_good sr_NW_ok sr_hcsM sr_hsepM (sr_htyM cA) (sr_htoM cA) sr_hWM (fun _ _ _ h => h) (fun _ _ _ h => nomatch h) (fun _ _ h => nomatch h) (sr_hL (List.forall_mem_cons.mpr ⟨(sr_ws 802 rfl rfl), (List.forall_mem_cons.mpr ⟨(sr_ws 803 rfl rfl), (fun _ h => absurd h List.not_mem_nil)⟩)⟩)) (fun _ _ h => nomatch h) (fun _ _ _ _ _ _ h => nomatch h) (fun _ _ _ _ _ _ _ h => nomatch h) rfl dc_MO_isName (fun vs μ C res h hC => ?_)
  unfold p_MO_isName at h
  split at h
  · cases h
    exact ⟨Nat.le_of_ble_eq_true rfl, a_MO_isName μ _⟩
  · cases h
set_option maxRecDepth 10000 in
theorem c_MO_letters (l : Launch) (D : va_G) (cA : Nat → ClassId) (ad : Nat → Nat → Nat) : sr_Ct l D sr_cl (sr_tys cA) (sr_wd sr_SM cA sr_csM ad) (sr_cy sr_NW sr_ZS sr_KS ad) ad sr_WS ⟨"SuiteRunnerModel", "letters", "(J)I"⟩ prog_12_method_16_code 3 (some .int) { frames := 0, cells := 0, slots := 0, locals := 0 } p_MO_letters := by
  refine sr_met (E := e_MO_letters) (by decide) sr_WS_good sr_NW_ok sr_hcsM sr_hsepM (sr_htyM cA) (sr_htoM cA) sr_hWM (fun _ _ _ h => h) (fun _ _ _ h => nomatch h) (fun _ _ h => nomatch h) (sr_hL (List.forall_mem_cons.mpr ⟨(sr_ws 802 rfl rfl), (fun _ h => absurd h List.not_mem_nil)⟩)) (fun _ _ h => nomatch h) (fun _ _ _ _ _ _ h => nomatch h) (fun _ _ _ _ _ _ _ h => nomatch h) rfl dc_MO_letters (fun vs μ C res h hC => ?_)
  unfold p_MO_letters at h
  split at h
  · cases h
    exact ⟨Nat.le_of_ble_eq_true rfl, a_MO_letters μ _⟩
  · cases h
set_option maxRecDepth 10000 in
theorem c_MO_through (l : Launch) (D : va_G) (cA : Nat → ClassId) (ad : Nat → Nat → Nat) : sr_Ct l D sr_cl (sr_tys cA) (sr_wd sr_SM cA sr_csM ad) (sr_cy sr_NW sr_ZS sr_KS ad) ad sr_WS ⟨"SuiteRunnerModel", "through", "(IIZJI)I"⟩ prog_12_method_18_code 10 (some .int) { frames := 0, cells := 0, slots := 0, locals := 0 } p_MO_through := by
  refine sr_met (E := e_MO_through) (by decide) sr_WS_good sr_NW_ok sr_hcsM sr_hsepM (sr_htyM cA) (sr_htoM cA) sr_hWM (fun _ _ _ h => h) (fun _ _ _ h => nomatch h) (fun _ _ h => nomatch h) (sr_hL (List.forall_mem_cons.mpr ⟨(sr_ws 802 rfl rfl), (List.forall_mem_cons.mpr ⟨(sr_ws 865 rfl rfl), (fun _ h => absurd h List.not_mem_nil)⟩)⟩)) (fun _ _ h => nomatch h) (fun _ _ _ _ _ _ h => nomatch h) (fun _ _ _ _ _ _ _ h => nomatch h) rfl dc_MO_through (fun vs μ C res h hC => ?_)
  unfold p_MO_through at h
  split at h
  · cases h
    exact ⟨Nat.le_of_ble_eq_true rfl, a_MO_through μ _ _ _ _ _ hC⟩
  · cases h
set_option maxRecDepth 10000 in
theorem c_MO_lesser (l : Launch) (D : va_G) (cA : Nat → ClassId) (ad : Nat → Nat → Nat) : sr_Ct l D sr_cl (sr_tys cA) (sr_wd sr_SM cA sr_csM ad) (sr_cy sr_NW sr_ZS sr_KS ad) ad sr_WS ⟨"SuiteRunnerModel", "lesser", "(JJ)Z"⟩ prog_12_method_33_code 9 (some .boolean) { frames := 0, cells := 0, slots := 0, locals := 0 } p_MO_lesser := by
  refine sr_met (E := e_MO_lesser) (by decide) sr_WS_good sr_NW_ok sr_hcsM sr_hsepM (sr_htyM cA) (sr_htoM cA) sr_hWM (fun _ _ _ h => h) (fun _ _ _ h => nomatch h) (fun _ _ h => nomatch h) (sr_hL (List.forall_mem_cons.mpr ⟨(sr_ws 802 rfl rfl), (fun _ h => absurd h List.not_mem_nil)⟩)) (fun _ _ h => nomatch h) (fun _ _ _ _ _ _ h => nomatch h) (fun _ _ _ _ _ _ _ h => nomatch h) rfl dc_MO_lesser (fun vs μ C res h hC => ?_)
  unfold p_MO_lesser at h
  split at h
  · cases h
    exact ⟨Nat.le_of_ble_eq_true rfl, a_MO_lesser μ _ _⟩
  · cases h
set_option maxRecDepth 20000 in
theorem fl_10_42 : sr_sF "SuiteRunnerModel" sr_cl sr_WS sr_NW 42 10 12 := ⟨_, _, _, rfl, by decide, rfl, sr_in10, Or.inl (sr_ws 681 rfl rfl)⟩
set_option maxRecDepth 20000 in
theorem ml_10_139 : Cond.methodLink "SuiteRunnerModel" 139 ⟨"SuiteRunnerModel", "letters", "(J)I"⟩ ∈ sr_WS ∨ ∃ host, Cond.methodLinkNest "SuiteRunnerModel" 139 ⟨"SuiteRunnerModel", "letters", "(J)I"⟩ host ∈ sr_NW := Or.inl (sr_ws 859 rfl rfl)
set_option maxRecDepth 20000 in
theorem wc_MO_letters : Cond.code ⟨"SuiteRunnerModel", "letters", "(J)I"⟩ prog_12_method_16_code 3 (some .int) ∈ sr_WS := sr_ws 861 rfl rfl
set_option maxRecDepth 20000 in
theorem wi_MO_letters : Cond.static ⟨"SuiteRunnerModel", "letters", "(J)I"⟩ ∈ sr_WS := sr_ws 860 rfl rfl
theorem wn_MO_letters : (parseMethodDescriptor "(J)I").map (fun d => d.parameters.length) = some 1 := by decide +kernel
set_option maxRecDepth 20000 in
theorem ml_10_143 : Cond.methodLink "SuiteRunnerModel" 143 ⟨"SuiteRunnerModel", "through", "(IIZJI)I"⟩ ∈ sr_WS ∨ ∃ host, Cond.methodLinkNest "SuiteRunnerModel" 143 ⟨"SuiteRunnerModel", "through", "(IIZJI)I"⟩ host ∈ sr_NW := Or.inl (sr_ws 862 rfl rfl)
set_option maxRecDepth 20000 in
theorem wc_MO_through : Cond.code ⟨"SuiteRunnerModel", "through", "(IIZJI)I"⟩ prog_12_method_18_code 10 (some .int) ∈ sr_WS := sr_ws 864 rfl rfl
set_option maxRecDepth 20000 in
theorem wi_MO_through : Cond.static ⟨"SuiteRunnerModel", "through", "(IIZJI)I"⟩ ∈ sr_WS := sr_ws 863 rfl rfl
theorem wn_MO_through : (parseMethodDescriptor "(IIZJI)I").map (fun d => d.parameters.length) = some 5 := by decide +kernel
set_option maxRecDepth 10000 in
theorem c_MO_matches (l : Launch) (D : va_G) (cA : Nat → ClassId) (ad : Nat → Nat → Nat) : sr_Ct l D sr_cl (sr_tys cA) (sr_wd sr_SM cA sr_csM ad) (sr_cy sr_NW sr_ZS sr_KS ad) ad sr_WS ⟨"SuiteRunnerModel", "matches", "(IJ)Z"⟩ prog_12_method_17_code 10 (some .boolean) { frames := 1, cells := 0, slots := 0, locals := 29 } p_MO_matches := by
  refine sr_met (E := e_MO_matches) (by decide) sr_WS_good sr_NW_ok sr_hcsM sr_hsepM (sr_htyM cA) (sr_htoM cA) sr_hWM (fun _ _ _ h => h) (sr_hF (List.forall_mem_cons.mpr ⟨fl_10_42, (List.forall_mem_cons.mpr ⟨fl_10_45, (fun _ h => absurd h List.not_mem_nil)⟩)⟩)) (fun _ _ h => nomatch h) (fun _ _ h => nomatch h) (fun _ _ h => nomatch h) (sr_hCS (List.forall_mem_cons.mpr ⟨(fun _ => ⟨⟨"SuiteRunnerModel", "letters", "(J)I"⟩, prog_12_method_16_code, 3, (some .int), { frames := 0, cells := 0, slots := 0, locals := 0 }, c_MO_letters l D cA ad, ⟨rfl, rfl, by decide, by decide⟩, ⟨by decide, by decide, wn_MO_letters⟩, wc_MO_letters, wi_MO_letters, wz_10, ml_10_139⟩), (List.forall_mem_cons.mpr ⟨(fun _ => ⟨⟨"SuiteRunnerModel", "through", "(IIZJI)I"⟩, prog_12_method_18_code, 10, (some .int), { frames := 0, cells := 0, slots := 0, locals := 0 }, c_MO_through l D cA ad, ⟨rfl, rfl, by decide, by decide⟩, ⟨by decide, by decide, wn_MO_through⟩, wc_MO_through, wi_MO_through, wz_10, ml_10_143⟩), (fun _ h => absurd h List.not_mem_nil)⟩)⟩)) (sr_hCV (List.forall_mem_cons.mpr ⟨(fun _ h => nomatch h), (List.forall_mem_cons.mpr ⟨(fun _ h => nomatch h), (fun _ h => absurd h List.not_mem_nil)⟩)⟩)) rfl dc_MO_matches (fun vs μ C res h hC => ?_)
  unfold p_MO_matches at h
  split at h
  · cases h
    exact ⟨Nat.le_of_ble_eq_true rfl, a_MO_matches μ _ _ hC⟩
  · cases h
set_option maxRecDepth 20000 in
theorem fl_10_7 : sr_sF "SuiteRunnerModel" sr_cl sr_WS sr_NW 7 10 1 := ⟨_, _, _, rfl, by decide, rfl, sr_in10, Or.inl (sr_ws 670 rfl rfl)⟩
set_option maxRecDepth 20000 in
theorem fl_10_13 : sr_sF "SuiteRunnerModel" sr_cl sr_WS sr_NW 13 10 2 := ⟨_, _, _, rfl, by decide, rfl, sr_in10, Or.inl (sr_ws 671 rfl rfl)⟩
set_option maxRecDepth 20000 in
theorem ml_10_149 : Cond.methodLink "SuiteRunnerModel" 149 ⟨"SuiteRunnerModel", "is", "(II)I"⟩ ∈ sr_WS ∨ ∃ host, Cond.methodLinkNest "SuiteRunnerModel" 149 ⟨"SuiteRunnerModel", "is", "(II)I"⟩ host ∈ sr_NW := Or.inl (sr_ws 851 rfl rfl)
set_option maxRecDepth 20000 in
theorem wc_MO_is : Cond.code ⟨"SuiteRunnerModel", "is", "(II)I"⟩ prog_12_method_4_code 3 (some .int) ∈ sr_WS := sr_ws 854 rfl rfl
set_option maxRecDepth 20000 in
theorem wi_MO_is : Cond.instanceMethod ⟨"SuiteRunnerModel", "is", "(II)I"⟩ ∈ sr_WS := sr_ws 853 rfl rfl
set_option maxRecDepth 20000 in
theorem wv_MO_is : Cond.selects "SuiteRunnerModel" ⟨"SuiteRunnerModel", "is", "(II)I"⟩ ⟨"SuiteRunnerModel", "is", "(II)I"⟩ ∈ sr_WS := sr_ws 19 rfl rfl
theorem wn_MO_is : (parseMethodDescriptor "(II)I").map (fun d => d.parameters.length) = some 2 := by decide +kernel
set_option maxRecDepth 20000 in
theorem ml_10_153 : Cond.methodLink "SuiteRunnerModel" 153 ⟨"SuiteRunnerModel", "matches", "(IJ)Z"⟩ ∈ sr_WS ∨ ∃ host, Cond.methodLinkNest "SuiteRunnerModel" 153 ⟨"SuiteRunnerModel", "matches", "(IJ)Z"⟩ host ∈ sr_NW := Or.inl (sr_ws 855 rfl rfl)
set_option maxRecDepth 20000 in
theorem wc_MO_matches : Cond.code ⟨"SuiteRunnerModel", "matches", "(IJ)Z"⟩ prog_12_method_17_code 10 (some .boolean) ∈ sr_WS := sr_ws 858 rfl rfl
set_option maxRecDepth 20000 in
theorem wi_MO_matches : Cond.instanceMethod ⟨"SuiteRunnerModel", "matches", "(IJ)Z"⟩ ∈ sr_WS := sr_ws 857 rfl rfl
set_option maxRecDepth 20000 in
theorem wv_MO_matches : Cond.selects "SuiteRunnerModel" ⟨"SuiteRunnerModel", "matches", "(IJ)Z"⟩ ⟨"SuiteRunnerModel", "matches", "(IJ)Z"⟩ ∈ sr_WS := sr_ws 20 rfl rfl
theorem wn_MO_matches : (parseMethodDescriptor "(IJ)Z").map (fun d => d.parameters.length) = some 2 := by decide +kernel
set_option maxRecDepth 10000 in
theorem c_MO_isSelected (l : Launch) (D : va_G) (cA : Nat → ClassId) (ad : Nat → Nat → Nat) : sr_Ct l D sr_cl (sr_tys cA) (sr_wd sr_SM cA sr_csM ad) (sr_cy sr_NW sr_ZS sr_KS ad) ad sr_WS ⟨"SuiteRunnerModel", "isSelected", "(I)Z"⟩ prog_12_method_19_code 4 (some .boolean) { frames := 2, cells := 0, slots := 0, locals := 58 } p_MO_isSelected := by
  refine sr_met (E := e_MO_isSelected) (by decide) sr_WS_good sr_NW_ok sr_hcsM sr_hsepM (sr_htyM cA) (sr_htoM cA) sr_hWM (fun _ _ _ h => h) (sr_hF (List.forall_mem_cons.mpr ⟨fl_10_7, (List.forall_mem_cons.mpr ⟨fl_10_13, (List.forall_mem_cons.mpr ⟨fl_10_45, (List.forall_mem_cons.mpr ⟨fl_10_48, (List.forall_mem_cons.mpr ⟨fl_10_121, (List.forall_mem_cons.mpr ⟨fl_10_124, (List.forall_mem_cons.mpr ⟨fl_10_127, (fun _ h => absurd h List.not_mem_nil)⟩)⟩)⟩)⟩)⟩)⟩)⟩)) (fun _ _ h => nomatch h) (fun _ _ h => nomatch h) (fun _ _ h => nomatch h) (sr_hCS (List.forall_mem_cons.mpr ⟨(fun h => nomatch h), (List.forall_mem_cons.mpr ⟨(fun h => nomatch h), (fun _ h => absurd h List.not_mem_nil)⟩)⟩)) (sr_hCV (List.forall_mem_cons.mpr ⟨(fun ci h => by obtain rfl : 10 = ci := Nat.succ.inj h; exact ⟨⟨"SuiteRunnerModel", "is", "(II)I"⟩, prog_12_method_4_code, 3, (some .int), { frames := 0, cells := 0, slots := 0, locals := 0 }, _, _, _, rfl, c_MO_is l D cA ad, ⟨rfl, rfl, by decide, by decide⟩, ⟨by decide, by decide, wn_MO_is⟩, wc_MO_is, wi_MO_is, wv_MO_is, wz_10, ml_10_149⟩), (List.forall_mem_cons.mpr ⟨(fun ci h => by obtain rfl : 10 = ci := Nat.succ.inj h; exact ⟨⟨"SuiteRunnerModel", "matches", "(IJ)Z"⟩, prog_12_method_17_code, 10, (some .boolean), { frames := 1, cells := 0, slots := 0, locals := 29 }, _, _, _, rfl, c_MO_matches l D cA ad, ⟨rfl, rfl, by decide, by decide⟩, ⟨by decide, by decide, wn_MO_matches⟩, wc_MO_matches, wi_MO_matches, wv_MO_matches, wz_10, ml_10_153⟩), (fun _ h => absurd h List.not_mem_nil)⟩)⟩)) rfl dc_MO_isSelected (fun vs μ C res h hC => ?_)
  unfold p_MO_isSelected at h
  split at h
  · cases h
    exact ⟨Nat.le_of_ble_eq_true rfl, a_MO_isSelected μ _ hC⟩
  · cases h
set_option maxRecDepth 20000 in
theorem ml_10_157 : Cond.methodLink "SuiteRunnerModel" 157 ⟨"SuiteRunnerModel", "isSelected", "(I)Z"⟩ ∈ sr_WS ∨ ∃ host, Cond.methodLinkNest "SuiteRunnerModel" 157 ⟨"SuiteRunnerModel", "isSelected", "(I)Z"⟩ host ∈ sr_NW := Or.inl (sr_ws 847 rfl rfl)
set_option maxRecDepth 20000 in
theorem wc_MO_isSelected : Cond.code ⟨"SuiteRunnerModel", "isSelected", "(I)Z"⟩ prog_12_method_19_code 4 (some .boolean) ∈ sr_WS := sr_ws 850 rfl rfl
set_option maxRecDepth 20000 in
theorem wi_MO_isSelected : Cond.instanceMethod ⟨"SuiteRunnerModel", "isSelected", "(I)Z"⟩ ∈ sr_WS := sr_ws 849 rfl rfl
set_option maxRecDepth 20000 in
theorem wv_MO_isSelected : Cond.selects "SuiteRunnerModel" ⟨"SuiteRunnerModel", "isSelected", "(I)Z"⟩ ⟨"SuiteRunnerModel", "isSelected", "(I)Z"⟩ ∈ sr_WS := sr_ws 18 rfl rfl
theorem wn_MO_isSelected : (parseMethodDescriptor "(I)Z").map (fun d => d.parameters.length) = some 1 := by decide +kernel
set_option maxRecDepth 10000 in
theorem c_MO_selected (l : Launch) (D : va_G) (cA : Nat → ClassId) (ad : Nat → Nat → Nat) : sr_Ct l D sr_cl (sr_tys cA) (sr_wd sr_SM cA sr_csM ad) (sr_cy sr_NW sr_ZS sr_KS ad) ad sr_WS ⟨"SuiteRunnerModel", "selected", "()I"⟩ prog_12_method_20_code 3 (some .int) { frames := 3, cells := 0, slots := 0, locals := 81 } p_MO_selected := by
  refine sr_met (E := e_MO_selected) (by decide) sr_WS_good sr_NW_ok sr_hcsM sr_hsepM (sr_htyM cA) (sr_htoM cA) sr_hWM (fun _ _ _ h => h) (sr_hF (List.forall_mem_cons.mpr ⟨fl_10_92, (fun _ h => absurd h List.not_mem_nil)⟩)) (fun _ _ h => nomatch h) (fun _ _ h => nomatch h) (fun _ _ h => nomatch h) (sr_hCS (List.forall_mem_cons.mpr ⟨(fun h => nomatch h), (fun _ h => absurd h List.not_mem_nil)⟩)) (sr_hCV (List.forall_mem_cons.mpr ⟨(fun ci h => by obtain rfl : 10 = ci := Nat.succ.inj h; exact ⟨⟨"SuiteRunnerModel", "isSelected", "(I)Z"⟩, prog_12_method_19_code, 4, (some .boolean), { frames := 2, cells := 0, slots := 0, locals := 58 }, _, _, _, rfl, c_MO_isSelected l D cA ad, ⟨rfl, rfl, by decide, by decide⟩, ⟨by decide, by decide, wn_MO_isSelected⟩, wc_MO_isSelected, wi_MO_isSelected, wv_MO_isSelected, wz_10, ml_10_157⟩), (fun _ h => absurd h List.not_mem_nil)⟩)) rfl dc_MO_selected (fun vs μ C res h hC => ?_)
  unfold p_MO_selected at h
  split at h
  · cases h
    exact ⟨Nat.le_of_ble_eq_true rfl, a_MO_selected μ  hC⟩
  · cases h
set_option maxRecDepth 10000 in
theorem c_MO_needsOf (l : Launch) (D : va_G) (cA : Nat → ClassId) (ad : Nat → Nat → Nat) : sr_Ct l D sr_cl (sr_tys cA) (sr_wd sr_SM cA sr_csM ad) (sr_cy sr_NW sr_ZS sr_KS ad) ad sr_WS ⟨"SuiteRunnerModel", "needsOf", "(II)I"⟩ prog_12_method_21_code 5 (some .int) { frames := 1, cells := 0, slots := 0, locals := 22 } p_MO_needsOf := by
  refine sr_met (E := e_MO_needsOf) (by decide) sr_WS_good sr_NW_ok sr_hcsM sr_hsepM (sr_htyM cA) (sr_htoM cA) sr_hWM (fun _ _ _ h => h) (sr_hF (List.forall_mem_cons.mpr ⟨fl_10_20, (List.forall_mem_cons.mpr ⟨fl_10_23, (List.forall_mem_cons.mpr ⟨fl_10_92, (fun _ h => absurd h List.not_mem_nil)⟩)⟩)⟩)) (fun _ _ h => nomatch h) (fun _ _ h => nomatch h) (fun _ _ h => nomatch h) (sr_hCS (List.forall_mem_cons.mpr ⟨(fun h => nomatch h), (fun _ h => absurd h List.not_mem_nil)⟩)) (sr_hCV (List.forall_mem_cons.mpr ⟨(fun ci h => by obtain rfl : 10 = ci := Nat.succ.inj h; exact ⟨⟨"SuiteRunnerModel", "is", "(II)I"⟩, prog_12_method_4_code, 3, (some .int), { frames := 0, cells := 0, slots := 0, locals := 0 }, _, _, _, rfl, c_MO_is l D cA ad, ⟨rfl, rfl, by decide, by decide⟩, ⟨by decide, by decide, wn_MO_is⟩, wc_MO_is, wi_MO_is, wv_MO_is, wz_10, ml_10_149⟩), (fun _ h => absurd h List.not_mem_nil)⟩)) rfl dc_MO_needsOf (fun vs μ C res h hC => ?_)
  unfold p_MO_needsOf at h
  split at h
  · cases h
    exact ⟨Nat.le_of_ble_eq_true rfl, a_MO_needsOf μ _ _ hC⟩
  · cases h
set_option maxRecDepth 20000 in
theorem ml_10_160 : Cond.methodLink "SuiteRunnerModel" 160 ⟨"SuiteRunnerModel", "selected", "()I"⟩ ∈ sr_WS ∨ ∃ host, Cond.methodLinkNest "SuiteRunnerModel" 160 ⟨"SuiteRunnerModel", "selected", "()I"⟩ host ∈ sr_NW := Or.inl (sr_ws 870 rfl rfl)
set_option maxRecDepth 20000 in
theorem wc_MO_selected : Cond.code ⟨"SuiteRunnerModel", "selected", "()I"⟩ prog_12_method_20_code 3 (some .int) ∈ sr_WS := sr_ws 846 rfl rfl
set_option maxRecDepth 20000 in
theorem wi_MO_selected : Cond.instanceMethod ⟨"SuiteRunnerModel", "selected", "()I"⟩ ∈ sr_WS := sr_ws 844 rfl rfl
set_option maxRecDepth 20000 in
theorem wv_MO_selected : Cond.selects "SuiteRunnerModel" ⟨"SuiteRunnerModel", "selected", "()I"⟩ ⟨"SuiteRunnerModel", "selected", "()I"⟩ ∈ sr_WS := sr_ws 845 rfl rfl
theorem wn_MO_selected : (parseMethodDescriptor "()I").map (fun d => d.parameters.length) = some 0 := by decide +kernel
set_option maxRecDepth 20000 in
theorem ml_10_164 : Cond.methodLink "SuiteRunnerModel" 164 ⟨"SuiteRunnerModel", "needsOf", "(II)I"⟩ ∈ sr_WS ∨ ∃ host, Cond.methodLinkNest "SuiteRunnerModel" 164 ⟨"SuiteRunnerModel", "needsOf", "(II)I"⟩ host ∈ sr_NW := Or.inl (sr_ws 871 rfl rfl)
set_option maxRecDepth 20000 in
theorem wc_MO_needsOf : Cond.code ⟨"SuiteRunnerModel", "needsOf", "(II)I"⟩ prog_12_method_21_code 5 (some .int) ∈ sr_WS := sr_ws 874 rfl rfl
set_option maxRecDepth 20000 in
theorem wi_MO_needsOf : Cond.instanceMethod ⟨"SuiteRunnerModel", "needsOf", "(II)I"⟩ ∈ sr_WS := sr_ws 873 rfl rfl
set_option maxRecDepth 20000 in
theorem wv_MO_needsOf : Cond.selects "SuiteRunnerModel" ⟨"SuiteRunnerModel", "needsOf", "(II)I"⟩ ⟨"SuiteRunnerModel", "needsOf", "(II)I"⟩ ∈ sr_WS := sr_ws 21 rfl rfl
theorem wn_MO_needsOf : (parseMethodDescriptor "(II)I").map (fun d => d.parameters.length) = some 2 := by decide +kernel
set_option maxRecDepth 10000 in
theorem c_MO_edges (l : Launch) (D : va_G) (cA : Nat → ClassId) (ad : Nat → Nat → Nat) : sr_Ct l D sr_cl (sr_tys cA) (sr_wd sr_SM cA sr_csM ad) (sr_cy sr_NW sr_ZS sr_KS ad) ad sr_WS ⟨"SuiteRunnerModel", "edges", "(I)I"⟩ prog_12_method_22_code 3 (some .int) { frames := 4, cells := 0, slots := 0, locals := 103 } p_MO_edges := by
  refine sr_met (E := e_MO_edges) (by decide) sr_WS_good sr_NW_ok sr_hcsM sr_hsepM (sr_htyM cA) (sr_htoM cA) sr_hWM (fun _ _ _ h => h) (fun _ _ _ h => nomatch h) (fun _ _ h => nomatch h) (fun _ _ h => nomatch h) (fun _ _ h => nomatch h) (sr_hCS (List.forall_mem_cons.mpr ⟨(fun h => nomatch h), (List.forall_mem_cons.mpr ⟨(fun h => nomatch h), (List.forall_mem_cons.mpr ⟨(fun h => nomatch h), (fun _ h => absurd h List.not_mem_nil)⟩)⟩)⟩)) (sr_hCV (List.forall_mem_cons.mpr ⟨(fun ci h => by obtain rfl : 10 = ci := Nat.succ.inj h; exact ⟨⟨"SuiteRunnerModel", "isMethod", "(I)Z"⟩, prog_12_method_3_code, 2, (some .boolean), { frames := 1, cells := 0, slots := 0, locals := 22 }, _, _, _, rfl, c_MO_isMethod l D cA ad, ⟨rfl, rfl, by decide, by decide⟩, ⟨by decide, by decide, wn_MO_isMethod⟩, wc_MO_isMethod, wi_MO_isMethod, wv_MO_isMethod, wz_10, ml_10_110⟩), (List.forall_mem_cons.mpr ⟨(fun ci h => by obtain rfl : 10 = ci := Nat.succ.inj h; exact ⟨⟨"SuiteRunnerModel", "selected", "()I"⟩, prog_12_method_20_code, 3, (some .int), { frames := 3, cells := 0, slots := 0, locals := 81 }, _, _, _, rfl, c_MO_selected l D cA ad, ⟨rfl, rfl, by decide, by decide⟩, ⟨by decide, by decide, wn_MO_selected⟩, wc_MO_selected, wi_MO_selected, wv_MO_selected, wz_10, ml_10_160⟩), (List.forall_mem_cons.mpr ⟨(fun ci h => by obtain rfl : 10 = ci := Nat.succ.inj h; exact ⟨⟨"SuiteRunnerModel", "needsOf", "(II)I"⟩, prog_12_method_21_code, 5, (some .int), { frames := 1, cells := 0, slots := 0, locals := 22 }, _, _, _, rfl, c_MO_needsOf l D cA ad, ⟨rfl, rfl, by decide, by decide⟩, ⟨by decide, by decide, wn_MO_needsOf⟩, wc_MO_needsOf, wi_MO_needsOf, wv_MO_needsOf, wz_10, ml_10_164⟩), (fun _ h => absurd h List.not_mem_nil)⟩)⟩)⟩)) rfl dc_MO_edges (fun vs μ C res h hC => ?_)
  unfold p_MO_edges at h
  split at h
  · cases h
    exact ⟨Nat.le_of_ble_eq_true rfl, a_MO_edges μ _ hC⟩
  · cases h
set_option maxRecDepth 10000 in
theorem c_MO_reach (l : Launch) (D : va_G) (cA : Nat → ClassId) (ad : Nat → Nat → Nat) : sr_Ct l D sr_cl (sr_tys cA) (sr_wd sr_SM cA sr_csM ad) (sr_cy sr_NW sr_ZS sr_KS ad) ad sr_WS ⟨"SuiteRunnerModel", "reach", "(II)I"⟩ prog_12_method_24_code 8 (some .int) { frames := 2, cells := 0, slots := 0, locals := 46 } p_MO_reach := by
  refine sr_met (E := e_MO_reach) (by decide) sr_WS_good sr_NW_ok sr_hcsM sr_hsepM (sr_htyM cA) (sr_htoM cA) sr_hWM (fun _ _ _ h => h) (sr_hF (List.forall_mem_cons.mpr ⟨fl_10_92, (fun _ h => absurd h List.not_mem_nil)⟩)) (fun _ _ h => nomatch h) (fun _ _ h => nomatch h) (fun _ _ h => nomatch h) (sr_hCS (List.forall_mem_cons.mpr ⟨(fun h => nomatch h), (fun _ h => absurd h List.not_mem_nil)⟩)) (sr_hCV (List.forall_mem_cons.mpr ⟨(fun ci h => by obtain rfl : 10 = ci := Nat.succ.inj h; exact ⟨⟨"SuiteRunnerModel", "needsOf", "(II)I"⟩, prog_12_method_21_code, 5, (some .int), { frames := 1, cells := 0, slots := 0, locals := 22 }, _, _, _, rfl, c_MO_needsOf l D cA ad, ⟨rfl, rfl, by decide, by decide⟩, ⟨by decide, by decide, wn_MO_needsOf⟩, wc_MO_needsOf, wi_MO_needsOf, wv_MO_needsOf, wz_10, ml_10_164⟩), (fun _ h => absurd h List.not_mem_nil)⟩)) rfl dc_MO_reach (fun vs μ C res h hC => ?_)
  unfold p_MO_reach at h
  split at h
  · cases h
    exact ⟨Nat.le_of_ble_eq_true rfl, a_MO_reach μ _ _ hC⟩
  · cases h
set_option maxRecDepth 20000 in
theorem ml_10_167 : Cond.methodLink "SuiteRunnerModel" 167 ⟨"SuiteRunnerModel", "reach", "(II)I"⟩ ∈ sr_WS ∨ ∃ host, Cond.methodLinkNest "SuiteRunnerModel" 167 ⟨"SuiteRunnerModel", "reach", "(II)I"⟩ host ∈ sr_NW := Or.inl (sr_ws 879 rfl rfl)
set_option maxRecDepth 20000 in
theorem wc_MO_reach : Cond.code ⟨"SuiteRunnerModel", "reach", "(II)I"⟩ prog_12_method_24_code 8 (some .int) ∈ sr_WS := sr_ws 882 rfl rfl
set_option maxRecDepth 20000 in
theorem wi_MO_reach : Cond.instanceMethod ⟨"SuiteRunnerModel", "reach", "(II)I"⟩ ∈ sr_WS := sr_ws 881 rfl rfl
set_option maxRecDepth 20000 in
theorem wv_MO_reach : Cond.selects "SuiteRunnerModel" ⟨"SuiteRunnerModel", "reach", "(II)I"⟩ ⟨"SuiteRunnerModel", "reach", "(II)I"⟩ ∈ sr_WS := sr_ws 22 rfl rfl
theorem wn_MO_reach : (parseMethodDescriptor "(II)I").map (fun d => d.parameters.length) = some 2 := by decide +kernel
set_option maxRecDepth 10000 in
theorem c_MO_circle (l : Launch) (D : va_G) (cA : Nat → ClassId) (ad : Nat → Nat → Nat) : sr_Ct l D sr_cl (sr_tys cA) (sr_wd sr_SM cA sr_csM ad) (sr_cy sr_NW sr_ZS sr_KS ad) ad sr_WS ⟨"SuiteRunnerModel", "circle", "()I"⟩ prog_12_method_25_code 5 (some .int) { frames := 4, cells := 0, slots := 0, locals := 103 } p_MO_circle := by
  refine sr_met (E := e_MO_circle) (by decide) sr_WS_good sr_NW_ok sr_hcsM sr_hsepM (sr_htyM cA) (sr_htoM cA) sr_hWM (fun _ _ _ h => h) (sr_hF (List.forall_mem_cons.mpr ⟨fl_10_92, (fun _ h => absurd h List.not_mem_nil)⟩)) (fun _ _ h => nomatch h) (fun _ _ h => nomatch h) (fun _ _ h => nomatch h) (sr_hCS (List.forall_mem_cons.mpr ⟨(fun h => nomatch h), (List.forall_mem_cons.mpr ⟨(fun h => nomatch h), (fun _ h => absurd h List.not_mem_nil)⟩)⟩)) (sr_hCV (List.forall_mem_cons.mpr ⟨(fun ci h => by obtain rfl : 10 = ci := Nat.succ.inj h; exact ⟨⟨"SuiteRunnerModel", "selected", "()I"⟩, prog_12_method_20_code, 3, (some .int), { frames := 3, cells := 0, slots := 0, locals := 81 }, _, _, _, rfl, c_MO_selected l D cA ad, ⟨rfl, rfl, by decide, by decide⟩, ⟨by decide, by decide, wn_MO_selected⟩, wc_MO_selected, wi_MO_selected, wv_MO_selected, wz_10, ml_10_160⟩), (List.forall_mem_cons.mpr ⟨(fun ci h => by obtain rfl : 10 = ci := Nat.succ.inj h; exact ⟨⟨"SuiteRunnerModel", "reach", "(II)I"⟩, prog_12_method_24_code, 8, (some .int), { frames := 2, cells := 0, slots := 0, locals := 46 }, _, _, _, rfl, c_MO_reach l D cA ad, ⟨rfl, rfl, by decide, by decide⟩, ⟨by decide, by decide, wn_MO_reach⟩, wc_MO_reach, wi_MO_reach, wv_MO_reach, wz_10, ml_10_167⟩), (fun _ h => absurd h List.not_mem_nil)⟩)⟩)) rfl dc_MO_circle (fun vs μ C res h hC => ?_)
  unfold p_MO_circle at h
  split at h
  · cases h
    exact ⟨Nat.le_of_ble_eq_true rfl, a_MO_circle μ  hC⟩
  · cases h
set_option maxRecDepth 10000 in
theorem c_MO_fits (l : Launch) (D : va_G) (cA : Nat → ClassId) (ad : Nat → Nat → Nat) : sr_Ct l D sr_cl (sr_tys cA) (sr_wd sr_SM cA sr_csM ad) (sr_cy sr_NW sr_ZS sr_KS ad) ad sr_WS ⟨"SuiteRunnerModel", "fits", "(II)Z"⟩ prog_12_method_7_code 2 (some .boolean) { frames := 1, cells := 0, slots := 0, locals := 22 } p_MO_fits := by
  refine sr_met (E := e_MO_fits) (by decide) sr_WS_good sr_NW_ok sr_hcsM sr_hsepM (sr_htyM cA) (sr_htoM cA) sr_hWM (fun _ _ _ h => h) (fun _ _ _ h => nomatch h) (fun _ _ h => nomatch h) (fun _ _ h => nomatch h) (fun _ _ h => nomatch h) (sr_hCS (List.forall_mem_cons.mpr ⟨(fun _ => ⟨⟨"SuiteRunnerModel", "in", "(III)Z"⟩, prog_12_method_2_code, 3, (some .boolean), { frames := 0, cells := 0, slots := 0, locals := 0 }, c_MO_in l D cA ad, ⟨rfl, rfl, by decide, by decide⟩, ⟨by decide, by decide, wn_MO_in⟩, wc_MO_in, wi_MO_in, wz_10, ml_10_95⟩), (fun _ h => absurd h List.not_mem_nil)⟩)) (sr_hCV (List.forall_mem_cons.mpr ⟨(fun _ h => nomatch h), (fun _ h => absurd h List.not_mem_nil)⟩)) rfl dc_MO_fits (fun vs μ C res h hC => ?_)
  unfold p_MO_fits at h
  split at h
  · cases h
    exact ⟨Nat.le_of_ble_eq_true rfl, a_MO_fits μ _ _⟩
  · cases h
set_option maxRecDepth 20000 in
theorem ml_10_114 : Cond.methodLink "SuiteRunnerModel" 114 ⟨"SuiteRunnerModel", "fits", "(II)Z"⟩ ∈ sr_WS ∨ ∃ host, Cond.methodLinkNest "SuiteRunnerModel" 114 ⟨"SuiteRunnerModel", "fits", "(II)Z"⟩ host ∈ sr_NW := Or.inl (sr_ws 812 rfl rfl)
set_option maxRecDepth 20000 in
theorem wc_MO_fits : Cond.code ⟨"SuiteRunnerModel", "fits", "(II)Z"⟩ prog_12_method_7_code 2 (some .boolean) ∈ sr_WS := sr_ws 814 rfl rfl
set_option maxRecDepth 20000 in
theorem wi_MO_fits : Cond.static ⟨"SuiteRunnerModel", "fits", "(II)Z"⟩ ∈ sr_WS := sr_ws 813 rfl rfl
theorem wn_MO_fits : (parseMethodDescriptor "(II)Z").map (fun d => d.parameters.length) = some 2 := by decide +kernel
set_option maxRecDepth 10000 in
theorem c_MO_trait (l : Launch) (D : va_G) (cA : Nat → ClassId) (ad : Nat → Nat → Nat) : sr_Ct l D sr_cl (sr_tys cA) (sr_wd sr_SM cA sr_csM ad) (sr_cy sr_NW sr_ZS sr_KS ad) ad sr_WS ⟨"SuiteRunnerModel", "trait", "(III)Z"⟩ prog_12_method_8_code 4 (some .boolean) { frames := 2, cells := 0, slots := 0, locals := 43 } p_MO_trait := by
  refine sr_met (E := e_MO_trait) (by decide) sr_WS_good sr_NW_ok sr_hcsM sr_hsepM (sr_htyM cA) (sr_htoM cA) sr_hWM (fun _ _ _ h => h) (sr_hF (List.forall_mem_cons.mpr ⟨fl_10_17, (List.forall_mem_cons.mpr ⟨fl_10_103, (fun _ h => absurd h List.not_mem_nil)⟩)⟩)) (fun _ _ h => nomatch h) (fun _ _ h => nomatch h) (fun _ _ h => nomatch h) (sr_hCS (List.forall_mem_cons.mpr ⟨(fun h => nomatch h), (List.forall_mem_cons.mpr ⟨(fun _ => ⟨⟨"SuiteRunnerModel", "fits", "(II)Z"⟩, prog_12_method_7_code, 2, (some .boolean), { frames := 1, cells := 0, slots := 0, locals := 22 }, c_MO_fits l D cA ad, ⟨rfl, rfl, by decide, by decide⟩, ⟨by decide, by decide, wn_MO_fits⟩, wc_MO_fits, wi_MO_fits, wz_10, ml_10_114⟩), (fun _ h => absurd h List.not_mem_nil)⟩)⟩)) (sr_hCV (List.forall_mem_cons.mpr ⟨(fun ci h => by obtain rfl : 10 = ci := Nat.succ.inj h; exact ⟨⟨"SuiteRunnerModel", "isMethod", "(I)Z"⟩, prog_12_method_3_code, 2, (some .boolean), { frames := 1, cells := 0, slots := 0, locals := 22 }, _, _, _, rfl, c_MO_isMethod l D cA ad, ⟨rfl, rfl, by decide, by decide⟩, ⟨by decide, by decide, wn_MO_isMethod⟩, wc_MO_isMethod, wi_MO_isMethod, wv_MO_isMethod, wz_10, ml_10_110⟩), (List.forall_mem_cons.mpr ⟨(fun _ h => nomatch h), (fun _ h => absurd h List.not_mem_nil)⟩)⟩)) rfl dc_MO_trait (fun vs μ C res h hC => ?_)
  unfold p_MO_trait at h
  split at h
  · cases h
    exact ⟨Nat.le_of_ble_eq_true rfl, a_MO_trait μ _ _ _ hC⟩
  · cases h
set_option maxRecDepth 20000 in
theorem ml_10_106 : Cond.methodLink "SuiteRunnerModel" 106 ⟨"SuiteRunnerModel", "isName", "(J)Z"⟩ ∈ sr_WS ∨ ∃ host, Cond.methodLinkNest "SuiteRunnerModel" 106 ⟨"SuiteRunnerModel", "isName", "(J)Z"⟩ host ∈ sr_NW := Or.inl (sr_ws 799 rfl rfl)
set_option maxRecDepth 20000 in
theorem wc_MO_isName : Cond.code ⟨"SuiteRunnerModel", "isName", "(J)Z"⟩ prog_12_method_5_code 7 (some .boolean) ∈ sr_WS := sr_ws 801 rfl rfl
set_option maxRecDepth 20000 in
theorem wi_MO_isName : Cond.static ⟨"SuiteRunnerModel", "isName", "(J)Z"⟩ ∈ sr_WS := sr_ws 800 rfl rfl
theorem wn_MO_isName : (parseMethodDescriptor "(J)Z").map (fun d => d.parameters.length) = some 1 := by decide +kernel
set_option maxRecDepth 10000 in
theorem c_MO_method (l : Launch) (D : va_G) (cA : Nat → ClassId) (ad : Nat → Nat → Nat) : sr_Ct l D sr_cl (sr_tys cA) (sr_wd sr_SM cA sr_csM ad) (sr_cy sr_NW sr_ZS sr_KS ad) ad sr_WS ⟨"SuiteRunnerModel", "method", "(IJ)I"⟩ prog_12_method_6_code 5 (some .int) { frames := 1, cells := 0, slots := 0, locals := 26 } p_MO_method := by
  refine sr_met (E := e_MO_method) (by decide) sr_WS_good sr_NW_ok sr_hcsM sr_hsepM (sr_htyM cA) (sr_htoM cA) sr_hWM (fun _ _ _ h => h) (sr_hF (List.forall_mem_cons.mpr ⟨fl_10_7, (List.forall_mem_cons.mpr ⟨fl_10_13, (List.forall_mem_cons.mpr ⟨fl_10_17, (List.forall_mem_cons.mpr ⟨fl_10_92, (List.forall_mem_cons.mpr ⟨fl_10_103, (fun _ h => absurd h List.not_mem_nil)⟩)⟩)⟩)⟩)⟩)) (fun _ _ h => nomatch h) (fun _ _ h => nomatch h) (fun _ _ h => nomatch h) (sr_hCS (List.forall_mem_cons.mpr ⟨(fun _ => ⟨⟨"SuiteRunnerModel", "in", "(III)Z"⟩, prog_12_method_2_code, 3, (some .boolean), { frames := 0, cells := 0, slots := 0, locals := 0 }, c_MO_in l D cA ad, ⟨rfl, rfl, by decide, by decide⟩, ⟨by decide, by decide, wn_MO_in⟩, wc_MO_in, wi_MO_in, wz_10, ml_10_95⟩), (List.forall_mem_cons.mpr ⟨(fun _ => ⟨⟨"SuiteRunnerModel", "isName", "(J)Z"⟩, prog_12_method_5_code, 7, (some .boolean), { frames := 0, cells := 0, slots := 0, locals := 0 }, c_MO_isName l D cA ad, ⟨rfl, rfl, by decide, by decide⟩, ⟨by decide, by decide, wn_MO_isName⟩, wc_MO_isName, wi_MO_isName, wz_10, ml_10_106⟩), (fun _ h => absurd h List.not_mem_nil)⟩)⟩)) (sr_hCV (List.forall_mem_cons.mpr ⟨(fun _ h => nomatch h), (List.forall_mem_cons.mpr ⟨(fun _ h => nomatch h), (fun _ h => absurd h List.not_mem_nil)⟩)⟩)) rfl dc_MO_method (fun vs μ C res h hC => ?_)
  unfold p_MO_method at h
  split at h
  · cases h
    exact ⟨Nat.le_of_ble_eq_true rfl, a_MO_method μ _ _ hC⟩
  · cases h
set_option maxRecDepth 20000 in
theorem fl_10_29 : sr_sF "SuiteRunnerModel" sr_cl sr_WS sr_NW 29 10 8 := ⟨_, _, _, rfl, by decide, rfl, sr_in10, Or.inl (sr_ws 677 rfl rfl)⟩
set_option maxRecDepth 20000 in
theorem fl_10_32 : sr_sF "SuiteRunnerModel" sr_cl sr_WS sr_NW 32 10 9 := ⟨_, _, _, rfl, by decide, rfl, sr_in10, Or.inl (sr_ws 678 rfl rfl)⟩
set_option maxRecDepth 20000 in
theorem fl_10_36 : sr_sF "SuiteRunnerModel" sr_cl sr_WS sr_NW 36 10 10 := ⟨_, _, _, rfl, by decide, rfl, sr_in10, Or.inl (sr_ws 679 rfl rfl)⟩
set_option maxRecDepth 20000 in
theorem fl_10_39 : sr_sF "SuiteRunnerModel" sr_cl sr_WS sr_NW 39 10 11 := ⟨_, _, _, rfl, by decide, rfl, sr_in10, Or.inl (sr_ws 680 rfl rfl)⟩
set_option maxRecDepth 20000 in
theorem fl_10_118 : sr_sF "SuiteRunnerModel" sr_cl sr_WS sr_NW 118 10 7 := ⟨_, _, _, rfl, by decide, rfl, sr_in10, Or.inl (sr_ws 676 rfl rfl)⟩
set_option maxRecDepth 10000 in
theorem c_MO_configuration (l : Launch) (D : va_G) (cA : Nat → ClassId) (ad : Nat → Nat → Nat) : sr_Ct l D sr_cl (sr_tys cA) (sr_wd sr_SM cA sr_csM ad) (sr_cy sr_NW sr_ZS sr_KS ad) ad sr_WS ⟨"SuiteRunnerModel", "configuration", "(IZII)I"⟩ prog_12_method_12_code 5 (some .int) { frames := 1, cells := 0, slots := 0, locals := 22 } p_MO_configuration := by
  refine sr_met (E := e_MO_configuration) (by decide) sr_WS_good sr_NW_ok sr_hcsM sr_hsepM (sr_htyM cA) (sr_htoM cA) sr_hWM (fun _ _ _ h => h) (sr_hF (List.forall_mem_cons.mpr ⟨fl_10_29, (List.forall_mem_cons.mpr ⟨fl_10_32, (List.forall_mem_cons.mpr ⟨fl_10_36, (List.forall_mem_cons.mpr ⟨fl_10_39, (List.forall_mem_cons.mpr ⟨fl_10_103, (List.forall_mem_cons.mpr ⟨fl_10_118, (fun _ h => absurd h List.not_mem_nil)⟩)⟩)⟩)⟩)⟩)⟩)) (fun _ _ h => nomatch h) (fun _ _ h => nomatch h) (fun _ _ h => nomatch h) (sr_hCS (List.forall_mem_cons.mpr ⟨(fun _ => ⟨⟨"SuiteRunnerModel", "in", "(III)Z"⟩, prog_12_method_2_code, 3, (some .boolean), { frames := 0, cells := 0, slots := 0, locals := 0 }, c_MO_in l D cA ad, ⟨rfl, rfl, by decide, by decide⟩, ⟨by decide, by decide, wn_MO_in⟩, wc_MO_in, wi_MO_in, wz_10, ml_10_95⟩), (fun _ h => absurd h List.not_mem_nil)⟩)) (sr_hCV (List.forall_mem_cons.mpr ⟨(fun _ h => nomatch h), (fun _ h => absurd h List.not_mem_nil)⟩)) rfl dc_MO_configuration (fun vs μ C res h hC => ?_)
  unfold p_MO_configuration at h
  split at h
  · cases h
    exact ⟨Nat.le_of_ble_eq_true rfl, a_MO_configuration μ _ _ _ _ hC⟩
  · cases h
set_option maxRecDepth 20000 in
theorem fl_10_62 : sr_sF "SuiteRunnerModel" sr_cl sr_WS sr_NW 62 10 27 := ⟨_, _, _, rfl, by decide, rfl, sr_in10, Or.inl (sr_ws 696 rfl rfl)⟩
set_option maxRecDepth 20000 in
theorem fl_10_65 : sr_sF "SuiteRunnerModel" sr_cl sr_WS sr_NW 65 10 28 := ⟨_, _, _, rfl, by decide, rfl, sr_in10, Or.inl (sr_ws 697 rfl rfl)⟩
set_option maxRecDepth 20000 in
theorem fl_10_68 : sr_sF "SuiteRunnerModel" sr_cl sr_WS sr_NW 68 10 29 := ⟨_, _, _, rfl, by decide, rfl, sr_in10, Or.inl (sr_ws 698 rfl rfl)⟩
set_option maxRecDepth 10000 in
theorem c_MO_report (l : Launch) (D : va_G) (cA : Nat → ClassId) (ad : Nat → Nat → Nat) : sr_Ct l D sr_cl (sr_tys cA) (sr_wd sr_SM cA sr_csM ad) (sr_cy sr_NW sr_ZS sr_KS ad) ad sr_WS ⟨"SuiteRunnerModel", "report", "(II)I"⟩ prog_12_method_46_code 3 (some .int) { frames := 2, cells := 0, slots := 0, locals := 43 } p_MO_report := by
  refine sr_met (E := e_MO_report) (by decide) sr_WS_good sr_NW_ok sr_hcsM sr_hsepM (sr_htyM cA) (sr_htoM cA) sr_hWM (fun _ _ _ h => h) (sr_hF (List.forall_mem_cons.mpr ⟨fl_10_59, (List.forall_mem_cons.mpr ⟨fl_10_62, (List.forall_mem_cons.mpr ⟨fl_10_65, (List.forall_mem_cons.mpr ⟨fl_10_68, (fun _ h => absurd h List.not_mem_nil)⟩)⟩)⟩)⟩)) (fun _ _ h => nomatch h) (fun _ _ h => nomatch h) (fun _ _ h => nomatch h) (sr_hCS (List.forall_mem_cons.mpr ⟨(fun _ => ⟨⟨"SuiteRunnerModel", "in", "(III)Z"⟩, prog_12_method_2_code, 3, (some .boolean), { frames := 0, cells := 0, slots := 0, locals := 0 }, c_MO_in l D cA ad, ⟨rfl, rfl, by decide, by decide⟩, ⟨by decide, by decide, wn_MO_in⟩, wc_MO_in, wi_MO_in, wz_10, ml_10_95⟩), (List.forall_mem_cons.mpr ⟨(fun h => nomatch h), (fun _ h => absurd h List.not_mem_nil)⟩)⟩)) (sr_hCV (List.forall_mem_cons.mpr ⟨(fun _ h => nomatch h), (List.forall_mem_cons.mpr ⟨(fun ci h => by obtain rfl : 10 = ci := Nat.succ.inj h; exact ⟨⟨"SuiteRunnerModel", "isMethod", "(I)Z"⟩, prog_12_method_3_code, 2, (some .boolean), { frames := 1, cells := 0, slots := 0, locals := 22 }, _, _, _, rfl, c_MO_isMethod l D cA ad, ⟨rfl, rfl, by decide, by decide⟩, ⟨by decide, by decide, wn_MO_isMethod⟩, wc_MO_isMethod, wi_MO_isMethod, wv_MO_isMethod, wz_10, ml_10_110⟩), (fun _ h => absurd h List.not_mem_nil)⟩)⟩)) rfl dc_MO_report (fun vs μ C res h hC => ?_)
  unfold p_MO_report at h
  split at h
  · cases h
    exact ⟨Nat.le_of_ble_eq_true rfl, a_MO_report μ _ _ hC⟩
  · cases h
set_option maxRecDepth 20000 in
theorem fl_10_80 : sr_sF "SuiteRunnerModel" sr_cl sr_WS sr_NW 80 10 35 := ⟨_, _, _, rfl, by decide, rfl, sr_in10, Or.inl (sr_ws 704 rfl rfl)⟩
set_option maxRecDepth 10000 in
theorem c_MO_worker (l : Launch) (D : va_G) (cA : Nat → ClassId) (ad : Nat → Nat → Nat) : sr_Ct l D sr_cl (sr_tys cA) (sr_wd sr_SM cA sr_csM ad) (sr_cy sr_NW sr_ZS sr_KS ad) ad sr_WS ⟨"SuiteRunnerModel", "worker", "(I)I"⟩ prog_12_method_47_code 2 (some .int) { frames := 1, cells := 0, slots := 0, locals := 22 } p_MO_worker := by
  refine sr_met (E := e_MO_worker) (by decide) sr_WS_good sr_NW_ok sr_hcsM sr_hsepM (sr_htyM cA) (sr_htoM cA) sr_hWM (fun _ _ _ h => h) (sr_hF (List.forall_mem_cons.mpr ⟨fl_10_52, (List.forall_mem_cons.mpr ⟨fl_10_80, (fun _ h => absurd h List.not_mem_nil)⟩)⟩)) (fun _ _ h => nomatch h) (fun _ _ h => nomatch h) (fun _ _ h => nomatch h) (sr_hCS (List.forall_mem_cons.mpr ⟨(fun _ => ⟨⟨"SuiteRunnerModel", "in", "(III)Z"⟩, prog_12_method_2_code, 3, (some .boolean), { frames := 0, cells := 0, slots := 0, locals := 0 }, c_MO_in l D cA ad, ⟨rfl, rfl, by decide, by decide⟩, ⟨by decide, by decide, wn_MO_in⟩, wc_MO_in, wi_MO_in, wz_10, ml_10_95⟩), (fun _ h => absurd h List.not_mem_nil)⟩)) (sr_hCV (List.forall_mem_cons.mpr ⟨(fun _ h => nomatch h), (fun _ h => absurd h List.not_mem_nil)⟩)) rfl dc_MO_worker (fun vs μ C res h hC => ?_)
  unfold p_MO_worker at h
  split at h
  · cases h
    exact ⟨Nat.le_of_ble_eq_true rfl, a_MO_worker μ _ hC⟩
  · cases h
set_option maxRecDepth 10000 in
theorem c_MO_event (l : Launch) (D : va_G) (cA : Nat → ClassId) (ad : Nat → Nat → Nat) : sr_Ct l D sr_cl (sr_tys cA) (sr_wd sr_SM cA sr_csM ad) (sr_cy sr_NW sr_ZS sr_KS ad) ad sr_WS ⟨"SuiteRunnerModel", "event", "(I)I"⟩ prog_12_method_48_code 2 (some .int) { frames := 1, cells := 0, slots := 0, locals := 22 } p_MO_event := by
  refine sr_met (E := e_MO_event) (by decide) sr_WS_good sr_NW_ok sr_hcsM sr_hsepM (sr_htyM cA) (sr_htoM cA) sr_hWM (fun _ _ _ h => h) (sr_hF (List.forall_mem_cons.mpr ⟨fl_10_89, (List.forall_mem_cons.mpr ⟨fl_10_170, (fun _ h => absurd h List.not_mem_nil)⟩)⟩)) (fun _ _ h => nomatch h) (fun _ _ h => nomatch h) (fun _ _ h => nomatch h) (sr_hCS (List.forall_mem_cons.mpr ⟨(fun _ => ⟨⟨"SuiteRunnerModel", "in", "(III)Z"⟩, prog_12_method_2_code, 3, (some .boolean), { frames := 0, cells := 0, slots := 0, locals := 0 }, c_MO_in l D cA ad, ⟨rfl, rfl, by decide, by decide⟩, ⟨by decide, by decide, wn_MO_in⟩, wc_MO_in, wi_MO_in, wz_10, ml_10_95⟩), (fun _ h => absurd h List.not_mem_nil)⟩)) (sr_hCV (List.forall_mem_cons.mpr ⟨(fun _ h => nomatch h), (fun _ h => absurd h List.not_mem_nil)⟩)) rfl dc_MO_event (fun vs μ C res h hC => ?_)
  unfold p_MO_event at h
  split at h
  · cases h
    exact ⟨Nat.le_of_ble_eq_true rfl, a_MO_event μ _⟩
  · cases h
set_option maxRecDepth 10000 in
theorem c_MO_result (l : Launch) (D : va_G) (cA : Nat → ClassId) (ad : Nat → Nat → Nat) : sr_Ct l D sr_cl (sr_tys cA) (sr_wd sr_SM cA sr_csM ad) (sr_cy sr_NW sr_ZS sr_KS ad) ad sr_WS ⟨"SuiteRunnerModel", "result", "(II)I"⟩ prog_12_method_40_code 7 (some .int) { frames := 1, cells := 0, slots := 0, locals := 22 } p_MO_result := by
  refine sr_met (E := e_MO_result) (by decide) sr_WS_good sr_NW_ok sr_hcsM sr_hsepM (sr_htyM cA) (sr_htoM cA) sr_hWM (fun _ _ _ h => h) (fun _ _ _ h => nomatch h) (fun _ _ h => nomatch h) (fun _ _ h => nomatch h) (fun _ _ h => nomatch h) (sr_hCS (List.forall_mem_cons.mpr ⟨(fun h => nomatch h), (fun _ h => absurd h List.not_mem_nil)⟩)) (sr_hCV (List.forall_mem_cons.mpr ⟨(fun ci h => by obtain rfl : 10 = ci := Nat.succ.inj h; exact ⟨⟨"SuiteRunnerModel", "is", "(II)I"⟩, prog_12_method_4_code, 3, (some .int), { frames := 0, cells := 0, slots := 0, locals := 0 }, _, _, _, rfl, c_MO_is l D cA ad, ⟨rfl, rfl, by decide, by decide⟩, ⟨by decide, by decide, wn_MO_is⟩, wc_MO_is, wi_MO_is, wv_MO_is, wz_10, ml_10_149⟩), (fun _ h => absurd h List.not_mem_nil)⟩)) rfl dc_MO_result (fun vs μ C res h hC => ?_)
  unfold p_MO_result at h
  split at h
  · cases h
    exact ⟨Nat.le_of_ble_eq_true rfl, a_MO_result μ _ _ hC⟩
  · cases h
set_option maxRecDepth 20000 in
theorem ml_10_192 : Cond.methodLink "SuiteRunnerModel" 192 ⟨"SuiteRunnerModel", "over", "(I)Z"⟩ ∈ sr_WS ∨ ∃ host, Cond.methodLinkNest "SuiteRunnerModel" 192 ⟨"SuiteRunnerModel", "over", "(I)Z"⟩ host ∈ sr_NW := Or.inl (sr_ws 932 rfl rfl)
set_option maxRecDepth 20000 in
theorem wc_MO_over : Cond.code ⟨"SuiteRunnerModel", "over", "(I)Z"⟩ prog_12_method_30_code 2 (some .boolean) ∈ sr_WS := sr_ws 935 rfl rfl
set_option maxRecDepth 20000 in
theorem wi_MO_over : Cond.instanceMethod ⟨"SuiteRunnerModel", "over", "(I)Z"⟩ ∈ sr_WS := sr_ws 934 rfl rfl
set_option maxRecDepth 20000 in
theorem wv_MO_over : Cond.selects "SuiteRunnerModel" ⟨"SuiteRunnerModel", "over", "(I)Z"⟩ ⟨"SuiteRunnerModel", "over", "(I)Z"⟩ ∈ sr_WS := sr_ws 33 rfl rfl
theorem wn_MO_over : (parseMethodDescriptor "(I)Z").map (fun d => d.parameters.length) = some 1 := by decide +kernel
set_option maxRecDepth 10000 in
theorem c_MO_allOver (l : Launch) (D : va_G) (cA : Nat → ClassId) (ad : Nat → Nat → Nat) : sr_Ct l D sr_cl (sr_tys cA) (sr_wd sr_SM cA sr_csM ad) (sr_cy sr_NW sr_ZS sr_KS ad) ad sr_WS ⟨"SuiteRunnerModel", "allOver", "(I)Z"⟩ prog_12_method_31_code 4 (some .boolean) { frames := 1, cells := 0, slots := 0, locals := 21 } p_MO_allOver := by
  refine sr_met (E := e_MO_allOver) (by decide) sr_WS_good sr_NW_ok sr_hcsM sr_hsepM (sr_htyM cA) (sr_htoM cA) sr_hWM (fun _ _ _ h => h) (fun _ _ _ h => nomatch h) (fun _ _ h => nomatch h) (fun _ _ h => nomatch h) (fun _ _ h => nomatch h) (sr_hCS (List.forall_mem_cons.mpr ⟨(fun h => nomatch h), (fun _ h => absurd h List.not_mem_nil)⟩)) (sr_hCV (List.forall_mem_cons.mpr ⟨(fun ci h => by obtain rfl : 10 = ci := Nat.succ.inj h; exact ⟨⟨"SuiteRunnerModel", "over", "(I)Z"⟩, prog_12_method_30_code, 2, (some .boolean), { frames := 0, cells := 0, slots := 0, locals := 0 }, _, _, _, rfl, c_MO_over l D cA ad, ⟨rfl, rfl, by decide, by decide⟩, ⟨by decide, by decide, wn_MO_over⟩, wc_MO_over, wi_MO_over, wv_MO_over, wz_10, ml_10_192⟩), (fun _ h => absurd h List.not_mem_nil)⟩)) rfl dc_MO_allOver (fun vs μ C res h hC => ?_)
  unfold p_MO_allOver at h
  split at h
  · cases h
    exact ⟨Nat.le_of_ble_eq_true rfl, a_MO_allOver μ _⟩
  · cases h
set_option maxRecDepth 10000 in
theorem c_MO_chosenNow (l : Launch) (D : va_G) (cA : Nat → ClassId) (ad : Nat → Nat → Nat) : sr_Ct l D sr_cl (sr_tys cA) (sr_wd sr_SM cA sr_csM ad) (sr_cy sr_NW sr_ZS sr_KS ad) ad sr_WS ⟨"SuiteRunnerModel", "chosenNow", "()I"⟩ prog_12_method_42_code 3 (some .int) { frames := 0, cells := 0, slots := 0, locals := 0 } p_MO_chosenNow := by
  refine sr_met (E := e_MO_chosenNow) (by decide) sr_WS_good sr_NW_ok sr_hcsM sr_hsepM (sr_htyM cA) (sr_htoM cA) sr_hWM (fun _ _ _ h => h) (sr_hF (List.forall_mem_cons.mpr ⟨fl_10_59, (fun _ h => absurd h List.not_mem_nil)⟩)) (fun _ _ h => nomatch h) (fun _ _ h => nomatch h) (fun _ _ h => nomatch h) (fun _ _ _ _ _ _ h => nomatch h) (fun _ _ _ _ _ _ _ h => nomatch h) rfl dc_MO_chosenNow (fun vs μ C res h hC => ?_)
  unfold p_MO_chosenNow at h
  split at h
  · cases h
    exact ⟨Nat.le_of_ble_eq_true rfl, a_MO_chosenNow μ ⟩
  · cases h
set_option maxRecDepth 10000 in
theorem c_MO_busy (l : Launch) (D : va_G) (cA : Nat → ClassId) (ad : Nat → Nat → Nat) : sr_Ct l D sr_cl (sr_tys cA) (sr_wd sr_SM cA sr_csM ad) (sr_cy sr_NW sr_ZS sr_KS ad) ad sr_WS ⟨"SuiteRunnerModel", "busy", "(II)Z"⟩ prog_12_method_32_code 5 (some .boolean) { frames := 0, cells := 0, slots := 0, locals := 0 } p_MO_busy := by
  refine sr_met (E := e_MO_busy) (by decide) sr_WS_good sr_NW_ok sr_hcsM sr_hsepM (sr_htyM cA) (sr_htoM cA) sr_hWM (fun _ _ _ h => h) (sr_hF (List.forall_mem_cons.mpr ⟨fl_10_7, (List.forall_mem_cons.mpr ⟨fl_10_80, (fun _ h => absurd h List.not_mem_nil)⟩)⟩)) (fun _ _ h => nomatch h) (fun _ _ h => nomatch h) (fun _ _ h => nomatch h) (fun _ _ _ _ _ _ h => nomatch h) (fun _ _ _ _ _ _ _ h => nomatch h) rfl dc_MO_busy (fun vs μ C res h hC => ?_)
  unfold p_MO_busy at h
  split at h
  · cases h
    exact ⟨Nat.le_of_ble_eq_true rfl, a_MO_busy μ _ _ hC⟩
  · cases h
set_option maxRecDepth 20000 in
theorem fl_10_86 : sr_sF "SuiteRunnerModel" sr_cl sr_WS sr_NW 86 10 37 := ⟨_, _, _, rfl, by decide, rfl, sr_in10, Or.inl (sr_ws 706 rfl rfl)⟩
set_option maxRecDepth 20000 in
theorem ml_10_176 : Cond.methodLink "SuiteRunnerModel" 176 ⟨"SuiteRunnerModel", "note", "(III)V"⟩ ∈ sr_WS ∨ ∃ host, Cond.methodLinkNest "SuiteRunnerModel" 176 ⟨"SuiteRunnerModel", "note", "(III)V"⟩ host ∈ sr_NW := Or.inl (sr_ws 908 rfl rfl)
set_option maxRecDepth 20000 in
theorem wc_MO_note : Cond.code ⟨"SuiteRunnerModel", "note", "(III)V"⟩ prog_12_method_26_code 4 none ∈ sr_WS := sr_ws 911 rfl rfl
set_option maxRecDepth 20000 in
theorem wi_MO_note : Cond.instanceMethod ⟨"SuiteRunnerModel", "note", "(III)V"⟩ ∈ sr_WS := sr_ws 910 rfl rfl
set_option maxRecDepth 20000 in
theorem wv_MO_note : Cond.selects "SuiteRunnerModel" ⟨"SuiteRunnerModel", "note", "(III)V"⟩ ⟨"SuiteRunnerModel", "note", "(III)V"⟩ ∈ sr_WS := sr_ws 27 rfl rfl
theorem wn_MO_note : (parseMethodDescriptor "(III)V").map (fun d => d.parameters.length) = some 3 := by decide +kernel
set_option maxRecDepth 10000 in
theorem c_MO_close (l : Launch) (D : va_G) (cA : Nat → ClassId) (ad : Nat → Nat → Nat) : sr_Ct l D sr_cl (sr_tys cA) (sr_wd sr_SM cA sr_csM ad) (sr_cy sr_NW sr_ZS sr_KS ad) ad sr_WS ⟨"SuiteRunnerModel", "close", "(II)V"⟩ prog_12_method_39_code 4 none { frames := 1, cells := 0, slots := 0, locals := 23 } p_MO_close := by
  refine sr_met (E := e_MO_close) (by decide) sr_WS_good sr_NW_ok sr_hcsM sr_hsepM (sr_htyM cA) (sr_htoM cA) sr_hWM (fun _ _ _ h => h) (sr_hF (List.forall_mem_cons.mpr ⟨fl_10_62, (List.forall_mem_cons.mpr ⟨fl_10_80, (List.forall_mem_cons.mpr ⟨fl_10_86, (fun _ h => absurd h List.not_mem_nil)⟩)⟩)⟩)) (fun _ _ h => nomatch h) (fun _ _ h => nomatch h) (fun _ _ h => nomatch h) (sr_hCS (List.forall_mem_cons.mpr ⟨(fun h => nomatch h), (fun _ h => absurd h List.not_mem_nil)⟩)) (sr_hCV (List.forall_mem_cons.mpr ⟨(fun ci h => by obtain rfl : 10 = ci := Nat.succ.inj h; exact ⟨⟨"SuiteRunnerModel", "note", "(III)V"⟩, prog_12_method_26_code, 4, none, { frames := 0, cells := 0, slots := 0, locals := 0 }, _, _, _, rfl, c_MO_note l D cA ad, ⟨rfl, rfl, by decide, by decide⟩, ⟨by decide, by decide, wn_MO_note⟩, wc_MO_note, wi_MO_note, wv_MO_note, wz_10, ml_10_176⟩), (fun _ h => absurd h List.not_mem_nil)⟩)) rfl dc_MO_close (fun vs μ C res h hC => ?_)
  unfold p_MO_close at h
  split at h
  · cases h
    exact ⟨Nat.le_of_ble_eq_true rfl, a_MO_close μ _ _ hC⟩
  · cases h
set_option maxRecDepth 10000 in
theorem c_MO_due (l : Launch) (D : va_G) (cA : Nat → ClassId) (ad : Nat → Nat → Nat) : sr_Ct l D sr_cl (sr_tys cA) (sr_wd sr_SM cA sr_csM ad) (sr_cy sr_NW sr_ZS sr_KS ad) ad sr_WS ⟨"SuiteRunnerModel", "due", "(I)I"⟩ prog_12_method_36_code 3 (some .int) { frames := 1, cells := 0, slots := 0, locals := 22 } p_MO_due := by
  refine sr_met (E := e_MO_due) (by decide) sr_WS_good sr_NW_ok sr_hcsM sr_hsepM (sr_htyM cA) (sr_htoM cA) sr_hWM (fun _ _ _ h => h) (sr_hF (List.forall_mem_cons.mpr ⟨fl_10_26, (fun _ h => absurd h List.not_mem_nil)⟩)) (fun _ _ h => nomatch h) (fun _ _ h => nomatch h) (fun _ _ h => nomatch h) (sr_hCS (List.forall_mem_cons.mpr ⟨(fun h => nomatch h), (fun _ h => absurd h List.not_mem_nil)⟩)) (sr_hCV (List.forall_mem_cons.mpr ⟨(fun ci h => by obtain rfl : 10 = ci := Nat.succ.inj h; exact ⟨⟨"SuiteRunnerModel", "is", "(II)I"⟩, prog_12_method_4_code, 3, (some .int), { frames := 0, cells := 0, slots := 0, locals := 0 }, _, _, _, rfl, c_MO_is l D cA ad, ⟨rfl, rfl, by decide, by decide⟩, ⟨by decide, by decide, wn_MO_is⟩, wc_MO_is, wi_MO_is, wv_MO_is, wz_10, ml_10_149⟩), (fun _ h => absurd h List.not_mem_nil)⟩)) rfl dc_MO_due (fun vs μ C res h hC => ?_)
  unfold p_MO_due at h
  split at h
  · cases h
    exact ⟨Nat.le_of_ble_eq_true rfl, a_MO_due μ _ hC⟩
  · cases h
set_option maxRecDepth 20000 in
theorem fl_10_77 : sr_sF "SuiteRunnerModel" sr_cl sr_WS sr_NW 77 10 32 := ⟨_, _, _, rfl, by decide, rfl, sr_in10, Or.inl (sr_ws 701 rfl rfl)⟩
set_option maxRecDepth 10000 in
theorem c_MO_blocked (l : Launch) (D : va_G) (cA : Nat → ClassId) (ad : Nat → Nat → Nat) : sr_Ct l D sr_cl (sr_tys cA) (sr_wd sr_SM cA sr_csM ad) (sr_cy sr_NW sr_ZS sr_KS ad) ad sr_WS ⟨"SuiteRunnerModel", "blocked", "(I)Z"⟩ prog_12_method_28_code 4 (some .boolean) { frames := 0, cells := 0, slots := 0, locals := 0 } p_MO_blocked := by
  refine sr_met (E := e_MO_blocked) (by decide) sr_WS_good sr_NW_ok sr_hcsM sr_hsepM (sr_htyM cA) (sr_htoM cA) sr_hWM (fun _ _ _ h => h) (sr_hF (List.forall_mem_cons.mpr ⟨fl_10_7, (List.forall_mem_cons.mpr ⟨fl_10_29, (List.forall_mem_cons.mpr ⟨fl_10_36, (List.forall_mem_cons.mpr ⟨fl_10_55, (List.forall_mem_cons.mpr ⟨fl_10_77, (List.forall_mem_cons.mpr ⟨fl_10_118, (fun _ h => absurd h List.not_mem_nil)⟩)⟩)⟩)⟩)⟩)⟩)) (fun _ _ h => nomatch h) (fun _ _ h => nomatch h) (fun _ _ h => nomatch h) (fun _ _ _ _ _ _ h => nomatch h) (fun _ _ _ _ _ _ _ h => nomatch h) rfl dc_MO_blocked (fun vs μ C res h hC => ?_)
  unfold p_MO_blocked at h
  split at h
  · cases h
    exact ⟨Nat.le_of_ble_eq_true rfl, a_MO_blocked μ _ hC⟩
  · cases h
set_option maxRecDepth 10000 in
theorem c_MO_dangles (l : Launch) (D : va_G) (cA : Nat → ClassId) (ad : Nat → Nat → Nat) : sr_Ct l D sr_cl (sr_tys cA) (sr_wd sr_SM cA sr_csM ad) (sr_cy sr_NW sr_ZS sr_KS ad) ad sr_WS ⟨"SuiteRunnerModel", "dangles", "(II)Z"⟩ prog_12_method_23_code 7 (some .boolean) { frames := 1, cells := 0, slots := 0, locals := 22 } p_MO_dangles := by
  refine sr_met (E := e_MO_dangles) (by decide) sr_WS_good sr_NW_ok sr_hcsM sr_hsepM (sr_htyM cA) (sr_htoM cA) sr_hWM (fun _ _ _ h => h) (sr_hF (List.forall_mem_cons.mpr ⟨fl_10_20, (List.forall_mem_cons.mpr ⟨fl_10_23, (List.forall_mem_cons.mpr ⟨fl_10_92, (fun _ h => absurd h List.not_mem_nil)⟩)⟩)⟩)) (fun _ _ h => nomatch h) (fun _ _ h => nomatch h) (fun _ _ h => nomatch h) (sr_hCS (List.forall_mem_cons.mpr ⟨(fun h => nomatch h), (fun _ h => absurd h List.not_mem_nil)⟩)) (sr_hCV (List.forall_mem_cons.mpr ⟨(fun ci h => by obtain rfl : 10 = ci := Nat.succ.inj h; exact ⟨⟨"SuiteRunnerModel", "is", "(II)I"⟩, prog_12_method_4_code, 3, (some .int), { frames := 0, cells := 0, slots := 0, locals := 0 }, _, _, _, rfl, c_MO_is l D cA ad, ⟨rfl, rfl, by decide, by decide⟩, ⟨by decide, by decide, wn_MO_is⟩, wc_MO_is, wi_MO_is, wv_MO_is, wz_10, ml_10_149⟩), (fun _ h => absurd h List.not_mem_nil)⟩)) rfl dc_MO_dangles (fun vs μ C res h hC => ?_)
  unfold p_MO_dangles at h
  split at h
  · cases h
    exact ⟨Nat.le_of_ble_eq_true rfl, a_MO_dangles μ _ _ hC⟩
  · cases h
set_option maxRecDepth 20000 in
theorem fl_10_74 : sr_sF "SuiteRunnerModel" sr_cl sr_WS sr_NW 74 10 31 := ⟨_, _, _, rfl, by decide, rfl, sr_in10, Or.inl (sr_ws 700 rfl rfl)⟩
set_option maxRecDepth 10000 in
theorem c_MO_configure (l : Launch) (D : va_G) (cA : Nat → ClassId) (ad : Nat → Nat → Nat) : sr_Ct l D sr_cl (sr_tys cA) (sr_wd sr_SM cA sr_csM ad) (sr_cy sr_NW sr_ZS sr_KS ad) ad sr_WS ⟨"SuiteRunnerModel", "configure", "(IZI)V"⟩ prog_12_method_27_code 6 none { frames := 1, cells := 0, slots := 0, locals := 23 } p_MO_configure := by
  refine sr_met (E := e_MO_configure) (by decide) sr_WS_good sr_NW_ok sr_hcsM sr_hsepM (sr_htyM cA) (sr_htoM cA) sr_hWM (fun _ _ _ h => h) (sr_hF (List.forall_mem_cons.mpr ⟨fl_10_29, (List.forall_mem_cons.mpr ⟨fl_10_32, (List.forall_mem_cons.mpr ⟨fl_10_36, (List.forall_mem_cons.mpr ⟨fl_10_39, (List.forall_mem_cons.mpr ⟨fl_10_74, (List.forall_mem_cons.mpr ⟨fl_10_77, (List.forall_mem_cons.mpr ⟨fl_10_118, (fun _ h => absurd h List.not_mem_nil)⟩)⟩)⟩)⟩)⟩)⟩)⟩)) (fun _ _ h => nomatch h) (fun _ _ h => nomatch h) (fun _ _ h => nomatch h) (sr_hCS (List.forall_mem_cons.mpr ⟨(fun h => nomatch h), (fun _ h => absurd h List.not_mem_nil)⟩)) (sr_hCV (List.forall_mem_cons.mpr ⟨(fun ci h => by obtain rfl : 10 = ci := Nat.succ.inj h; exact ⟨⟨"SuiteRunnerModel", "note", "(III)V"⟩, prog_12_method_26_code, 4, none, { frames := 0, cells := 0, slots := 0, locals := 0 }, _, _, _, rfl, c_MO_note l D cA ad, ⟨rfl, rfl, by decide, by decide⟩, ⟨by decide, by decide, wn_MO_note⟩, wc_MO_note, wi_MO_note, wv_MO_note, wz_10, ml_10_176⟩), (fun _ h => absurd h List.not_mem_nil)⟩)) rfl dc_MO_configure (fun vs μ C res h hC => ?_)
  unfold p_MO_configure at h
  split at h
  · cases h
    exact ⟨Nat.le_of_ble_eq_true rfl, a_MO_configure μ _ _ _ hC⟩
  · cases h
set_option maxRecDepth 10000 in
theorem c_MO_type (l : Launch) (D : va_G) (cA : Nat → ClassId) (ad : Nat → Nat → Nat) : sr_Ct l D sr_cl (sr_tys cA) (sr_wd sr_SM cA sr_csM ad) (sr_cy sr_NW sr_ZS sr_KS ad) ad sr_WS ⟨"SuiteRunnerModel", "type", "(ZC)Z"⟩ prog_12_method_13_code 7 (some .boolean) { frames := 0, cells := 0, slots := 0, locals := 0 } p_MO_type := by
  refine sr_met (E := e_MO_type) (by decide) sr_WS_good sr_NW_ok sr_hcsM sr_hsepM (sr_htyM cA) (sr_htoM cA) sr_hWM (fun _ _ _ h => h) (sr_hF (List.forall_mem_cons.mpr ⟨fl_10_42, (List.forall_mem_cons.mpr ⟨fl_10_45, (List.forall_mem_cons.mpr ⟨fl_10_103, (fun _ h => absurd h List.not_mem_nil)⟩)⟩)⟩)) (fun _ _ h => nomatch h) (fun _ _ h => nomatch h) (fun _ _ h => nomatch h) (fun _ _ _ _ _ _ h => nomatch h) (fun _ _ _ _ _ _ _ h => nomatch h) rfl dc_MO_type (fun vs μ C res h hC => ?_)
  unfold p_MO_type at h
  split at h
  · cases h
    exact ⟨Nat.le_of_ble_eq_true rfl, a_MO_type μ _ _ hC⟩
  · cases h
set_option maxRecDepth 20000 in
theorem fl_10_71 : sr_sF "SuiteRunnerModel" sr_cl sr_WS sr_NW 71 10 30 := ⟨_, _, _, rfl, by decide, rfl, sr_in10, Or.inl (sr_ws 699 rfl rfl)⟩
set_option maxRecDepth 20000 in
theorem ml_10_195 : Cond.methodLink "SuiteRunnerModel" 195 ⟨"SuiteRunnerModel", "allOver", "(I)Z"⟩ ∈ sr_WS ∨ ∃ host, Cond.methodLinkNest "SuiteRunnerModel" 195 ⟨"SuiteRunnerModel", "allOver", "(I)Z"⟩ host ∈ sr_NW := Or.inl (sr_ws 940 rfl rfl)
set_option maxRecDepth 20000 in
theorem wc_MO_allOver : Cond.code ⟨"SuiteRunnerModel", "allOver", "(I)Z"⟩ prog_12_method_31_code 4 (some .boolean) ∈ sr_WS := sr_ws 943 rfl rfl
set_option maxRecDepth 20000 in
theorem wi_MO_allOver : Cond.instanceMethod ⟨"SuiteRunnerModel", "allOver", "(I)Z"⟩ ∈ sr_WS := sr_ws 942 rfl rfl
set_option maxRecDepth 20000 in
theorem wv_MO_allOver : Cond.selects "SuiteRunnerModel" ⟨"SuiteRunnerModel", "allOver", "(I)Z"⟩ ⟨"SuiteRunnerModel", "allOver", "(I)Z"⟩ ∈ sr_WS := sr_ws 35 rfl rfl
theorem wn_MO_allOver : (parseMethodDescriptor "(I)Z").map (fun d => d.parameters.length) = some 1 := by decide +kernel
set_option maxRecDepth 20000 in
theorem ml_10_198 : Cond.methodLink "SuiteRunnerModel" 198 ⟨"SuiteRunnerModel", "busy", "(II)Z"⟩ ∈ sr_WS ∨ ∃ host, Cond.methodLinkNest "SuiteRunnerModel" 198 ⟨"SuiteRunnerModel", "busy", "(II)Z"⟩ host ∈ sr_NW := Or.inl (sr_ws 944 rfl rfl)
set_option maxRecDepth 20000 in
theorem wc_MO_busy : Cond.code ⟨"SuiteRunnerModel", "busy", "(II)Z"⟩ prog_12_method_32_code 5 (some .boolean) ∈ sr_WS := sr_ws 947 rfl rfl
set_option maxRecDepth 20000 in
theorem wi_MO_busy : Cond.instanceMethod ⟨"SuiteRunnerModel", "busy", "(II)Z"⟩ ∈ sr_WS := sr_ws 946 rfl rfl
set_option maxRecDepth 20000 in
theorem wv_MO_busy : Cond.selects "SuiteRunnerModel" ⟨"SuiteRunnerModel", "busy", "(II)Z"⟩ ⟨"SuiteRunnerModel", "busy", "(II)Z"⟩ ∈ sr_WS := sr_ws 36 rfl rfl
theorem wn_MO_busy : (parseMethodDescriptor "(II)Z").map (fun d => d.parameters.length) = some 2 := by decide +kernel
set_option maxRecDepth 20000 in
theorem ml_10_201 : Cond.methodLink "SuiteRunnerModel" 201 ⟨"SuiteRunnerModel", "lesser", "(JJ)Z"⟩ ∈ sr_WS ∨ ∃ host, Cond.methodLinkNest "SuiteRunnerModel" 201 ⟨"SuiteRunnerModel", "lesser", "(JJ)Z"⟩ host ∈ sr_NW := Or.inl (sr_ws 948 rfl rfl)
set_option maxRecDepth 20000 in
theorem wc_MO_lesser : Cond.code ⟨"SuiteRunnerModel", "lesser", "(JJ)Z"⟩ prog_12_method_33_code 9 (some .boolean) ∈ sr_WS := sr_ws 950 rfl rfl
set_option maxRecDepth 20000 in
theorem wi_MO_lesser : Cond.static ⟨"SuiteRunnerModel", "lesser", "(JJ)Z"⟩ ∈ sr_WS := sr_ws 949 rfl rfl
theorem wn_MO_lesser : (parseMethodDescriptor "(JJ)Z").map (fun d => d.parameters.length) = some 2 := by decide +kernel
set_option maxRecDepth 10000 in
theorem c_MO_first (l : Launch) (D : va_G) (cA : Nat → ClassId) (ad : Nat → Nat → Nat) : sr_Ct l D sr_cl (sr_tys cA) (sr_wd sr_SM cA sr_csM ad) (sr_cy sr_NW sr_ZS sr_KS ad) ad sr_WS ⟨"SuiteRunnerModel", "first", "(I)I"⟩ prog_12_method_34_code 6 (some .int) { frames := 2, cells := 0, slots := 0, locals := 44 } p_MO_first := by
  refine sr_met (E := e_MO_first) (by decide) sr_WS_good sr_NW_ok sr_hcsM sr_hsepM (sr_htyM cA) (sr_htoM cA) sr_hWM (fun _ _ _ h => h) (sr_hF (List.forall_mem_cons.mpr ⟨fl_10_7, (List.forall_mem_cons.mpr ⟨fl_10_13, (List.forall_mem_cons.mpr ⟨fl_10_59, (List.forall_mem_cons.mpr ⟨fl_10_71, (List.forall_mem_cons.mpr ⟨fl_10_92, (List.forall_mem_cons.mpr ⟨fl_10_130, (fun _ h => absurd h List.not_mem_nil)⟩)⟩)⟩)⟩)⟩)⟩)) (fun _ _ h => nomatch h) (fun _ _ h => nomatch h) (fun _ _ h => nomatch h) (sr_hCS (List.forall_mem_cons.mpr ⟨(fun h => nomatch h), (List.forall_mem_cons.mpr ⟨(fun h => nomatch h), (List.forall_mem_cons.mpr ⟨(fun h => nomatch h), (List.forall_mem_cons.mpr ⟨(fun _ => ⟨⟨"SuiteRunnerModel", "lesser", "(JJ)Z"⟩, prog_12_method_33_code, 9, (some .boolean), { frames := 0, cells := 0, slots := 0, locals := 0 }, c_MO_lesser l D cA ad, ⟨rfl, rfl, by decide, by decide⟩, ⟨by decide, by decide, wn_MO_lesser⟩, wc_MO_lesser, wi_MO_lesser, wz_10, ml_10_201⟩), (fun _ h => absurd h List.not_mem_nil)⟩)⟩)⟩)⟩)) (sr_hCV (List.forall_mem_cons.mpr ⟨(fun ci h => by obtain rfl : 10 = ci := Nat.succ.inj h; exact ⟨⟨"SuiteRunnerModel", "is", "(II)I"⟩, prog_12_method_4_code, 3, (some .int), { frames := 0, cells := 0, slots := 0, locals := 0 }, _, _, _, rfl, c_MO_is l D cA ad, ⟨rfl, rfl, by decide, by decide⟩, ⟨by decide, by decide, wn_MO_is⟩, wc_MO_is, wi_MO_is, wv_MO_is, wz_10, ml_10_149⟩), (List.forall_mem_cons.mpr ⟨(fun ci h => by obtain rfl : 10 = ci := Nat.succ.inj h; exact ⟨⟨"SuiteRunnerModel", "allOver", "(I)Z"⟩, prog_12_method_31_code, 4, (some .boolean), { frames := 1, cells := 0, slots := 0, locals := 21 }, _, _, _, rfl, c_MO_allOver l D cA ad, ⟨rfl, rfl, by decide, by decide⟩, ⟨by decide, by decide, wn_MO_allOver⟩, wc_MO_allOver, wi_MO_allOver, wv_MO_allOver, wz_10, ml_10_195⟩), (List.forall_mem_cons.mpr ⟨(fun ci h => by obtain rfl : 10 = ci := Nat.succ.inj h; exact ⟨⟨"SuiteRunnerModel", "busy", "(II)Z"⟩, prog_12_method_32_code, 5, (some .boolean), { frames := 0, cells := 0, slots := 0, locals := 0 }, _, _, _, rfl, c_MO_busy l D cA ad, ⟨rfl, rfl, by decide, by decide⟩, ⟨by decide, by decide, wn_MO_busy⟩, wc_MO_busy, wi_MO_busy, wv_MO_busy, wz_10, ml_10_198⟩), (List.forall_mem_cons.mpr ⟨(fun _ h => nomatch h), (fun _ h => absurd h List.not_mem_nil)⟩)⟩)⟩)⟩)) rfl dc_MO_first (fun vs μ C res h hC => ?_)
  unfold p_MO_first at h
  split at h
  · cases h
    exact ⟨Nat.le_of_ble_eq_true rfl, a_MO_first μ _ hC⟩
  · cases h
set_option maxRecDepth 20000 in
theorem fl_10_189 : sr_sF "SuiteRunnerModel" sr_cl sr_WS sr_NW 189 10 34 := ⟨_, _, _, rfl, by decide, rfl, sr_in10, Or.inl (sr_ws 703 rfl rfl)⟩
set_option maxRecDepth 20000 in
theorem ml_10_205 : Cond.methodLink "SuiteRunnerModel" 205 ⟨"SuiteRunnerModel", "configure", "(IZI)V"⟩ ∈ sr_WS ∨ ∃ host, Cond.methodLinkNest "SuiteRunnerModel" 205 ⟨"SuiteRunnerModel", "configure", "(IZI)V"⟩ host ∈ sr_NW := Or.inl (sr_ws 912 rfl rfl)
set_option maxRecDepth 20000 in
theorem wc_MO_configure : Cond.code ⟨"SuiteRunnerModel", "configure", "(IZI)V"⟩ prog_12_method_27_code 6 none ∈ sr_WS := sr_ws 915 rfl rfl
set_option maxRecDepth 20000 in
theorem wi_MO_configure : Cond.instanceMethod ⟨"SuiteRunnerModel", "configure", "(IZI)V"⟩ ∈ sr_WS := sr_ws 914 rfl rfl
set_option maxRecDepth 20000 in
theorem wv_MO_configure : Cond.selects "SuiteRunnerModel" ⟨"SuiteRunnerModel", "configure", "(IZI)V"⟩ ⟨"SuiteRunnerModel", "configure", "(IZI)V"⟩ ∈ sr_WS := sr_ws 28 rfl rfl
theorem wn_MO_configure : (parseMethodDescriptor "(IZI)V").map (fun d => d.parameters.length) = some 3 := by decide +kernel
set_option maxRecDepth 10000 in
theorem c_MO_finish (l : Launch) (D : va_G) (cA : Nat → ClassId) (ad : Nat → Nat → Nat) : sr_Ct l D sr_cl (sr_tys cA) (sr_wd sr_SM cA sr_csM ad) (sr_cy sr_NW sr_ZS sr_KS ad) ad sr_WS ⟨"SuiteRunnerModel", "finish", "(II)V"⟩ prog_12_method_35_code 5 none { frames := 2, cells := 0, slots := 0, locals := 48 } p_MO_finish := by
  refine sr_met (E := e_MO_finish) (by decide) sr_WS_good sr_NW_ok sr_hcsM sr_hsepM (sr_htyM cA) (sr_htoM cA) sr_hWM (fun _ _ _ h => h) (sr_hF (List.forall_mem_cons.mpr ⟨fl_10_7, (List.forall_mem_cons.mpr ⟨fl_10_59, (List.forall_mem_cons.mpr ⟨fl_10_68, (List.forall_mem_cons.mpr ⟨fl_10_92, (List.forall_mem_cons.mpr ⟨fl_10_173, (List.forall_mem_cons.mpr ⟨fl_10_189, (fun _ h => absurd h List.not_mem_nil)⟩)⟩)⟩)⟩)⟩)⟩)) (fun _ _ h => nomatch h) (fun _ _ h => nomatch h) (fun _ _ h => nomatch h) (sr_hCS (List.forall_mem_cons.mpr ⟨(fun h => nomatch h), (List.forall_mem_cons.mpr ⟨(fun h => nomatch h), (List.forall_mem_cons.mpr ⟨(fun h => nomatch h), (fun _ h => absurd h List.not_mem_nil)⟩)⟩)⟩)) (sr_hCV (List.forall_mem_cons.mpr ⟨(fun ci h => by obtain rfl : 10 = ci := Nat.succ.inj h; exact ⟨⟨"SuiteRunnerModel", "note", "(III)V"⟩, prog_12_method_26_code, 4, none, { frames := 0, cells := 0, slots := 0, locals := 0 }, _, _, _, rfl, c_MO_note l D cA ad, ⟨rfl, rfl, by decide, by decide⟩, ⟨by decide, by decide, wn_MO_note⟩, wc_MO_note, wi_MO_note, wv_MO_note, wz_10, ml_10_176⟩), (List.forall_mem_cons.mpr ⟨(fun ci h => by obtain rfl : 10 = ci := Nat.succ.inj h; exact ⟨⟨"SuiteRunnerModel", "over", "(I)Z"⟩, prog_12_method_30_code, 2, (some .boolean), { frames := 0, cells := 0, slots := 0, locals := 0 }, _, _, _, rfl, c_MO_over l D cA ad, ⟨rfl, rfl, by decide, by decide⟩, ⟨by decide, by decide, wn_MO_over⟩, wc_MO_over, wi_MO_over, wv_MO_over, wz_10, ml_10_192⟩), (List.forall_mem_cons.mpr ⟨(fun ci h => by obtain rfl : 10 = ci := Nat.succ.inj h; exact ⟨⟨"SuiteRunnerModel", "configure", "(IZI)V"⟩, prog_12_method_27_code, 6, none, { frames := 1, cells := 0, slots := 0, locals := 23 }, _, _, _, rfl, c_MO_configure l D cA ad, ⟨rfl, rfl, by decide, by decide⟩, ⟨by decide, by decide, wn_MO_configure⟩, wc_MO_configure, wi_MO_configure, wv_MO_configure, wz_10, ml_10_205⟩), (fun _ h => absurd h List.not_mem_nil)⟩)⟩)⟩)) rfl dc_MO_finish (fun vs μ C res h hC => ?_)
  unfold p_MO_finish at h
  split at h
  · cases h
    exact ⟨Nat.le_of_ble_eq_true rfl, a_MO_finish μ _ _ hC⟩
  · cases h
set_option maxRecDepth 20000 in
theorem fl_10_239 : sr_sF "SuiteRunnerModel" sr_cl sr_WS sr_NW 239 10 24 := ⟨_, _, _, rfl, by decide, rfl, sr_in10, Or.inl (sr_ws 693 rfl rfl)⟩
set_option maxRecDepth 10000 in
theorem c_MO_again (l : Launch) (D : va_G) (cA : Nat → ClassId) (ad : Nat → Nat → Nat) : sr_Ct l D sr_cl (sr_tys cA) (sr_wd sr_SM cA sr_csM ad) (sr_cy sr_NW sr_ZS sr_KS ad) ad sr_WS ⟨"SuiteRunnerModel", "again", "()I"⟩ prog_12_method_44_code 4 (some .int) { frames := 4, cells := 0, slots := 0, locals := 103 } p_MO_again := by
  refine sr_met (E := e_MO_again) (by decide) sr_WS_good sr_NW_ok sr_hcsM sr_hsepM (sr_htyM cA) (sr_htoM cA) sr_hWM (fun _ _ _ h => h) (sr_hF (List.forall_mem_cons.mpr ⟨fl_10_59, (List.forall_mem_cons.mpr ⟨fl_10_92, (List.forall_mem_cons.mpr ⟨fl_10_103, (List.forall_mem_cons.mpr ⟨fl_10_127, (List.forall_mem_cons.mpr ⟨fl_10_239, (fun _ h => absurd h List.not_mem_nil)⟩)⟩)⟩)⟩)⟩)) (fun _ _ h => nomatch h) (fun _ _ h => nomatch h) (fun _ _ h => nomatch h) (sr_hCS (List.forall_mem_cons.mpr ⟨(fun h => nomatch h), (List.forall_mem_cons.mpr ⟨(fun h => nomatch h), (fun _ h => absurd h List.not_mem_nil)⟩)⟩)) (sr_hCV (List.forall_mem_cons.mpr ⟨(fun ci h => by obtain rfl : 10 = ci := Nat.succ.inj h; exact ⟨⟨"SuiteRunnerModel", "selected", "()I"⟩, prog_12_method_20_code, 3, (some .int), { frames := 3, cells := 0, slots := 0, locals := 81 }, _, _, _, rfl, c_MO_selected l D cA ad, ⟨rfl, rfl, by decide, by decide⟩, ⟨by decide, by decide, wn_MO_selected⟩, wc_MO_selected, wi_MO_selected, wv_MO_selected, wz_10, ml_10_160⟩), (List.forall_mem_cons.mpr ⟨(fun ci h => by obtain rfl : 10 = ci := Nat.succ.inj h; exact ⟨⟨"SuiteRunnerModel", "reach", "(II)I"⟩, prog_12_method_24_code, 8, (some .int), { frames := 2, cells := 0, slots := 0, locals := 46 }, _, _, _, rfl, c_MO_reach l D cA ad, ⟨rfl, rfl, by decide, by decide⟩, ⟨by decide, by decide, wn_MO_reach⟩, wc_MO_reach, wi_MO_reach, wv_MO_reach, wz_10, ml_10_167⟩), (fun _ h => absurd h List.not_mem_nil)⟩)⟩)) rfl dc_MO_again (fun vs μ C res h hC => ?_)
  unfold p_MO_again at h
  split at h
  · cases h
    exact ⟨Nat.le_of_ble_eq_true rfl, a_MO_again μ  hC⟩
  · cases h
set_option maxRecDepth 20000 in
theorem fl_10_83 : sr_sF "SuiteRunnerModel" sr_cl sr_WS sr_NW 83 10 36 := ⟨_, _, _, rfl, by decide, rfl, sr_in10, Or.inl (sr_ws 705 rfl rfl)⟩
set_option maxRecDepth 20000 in
theorem ml_10_209 : Cond.methodLink "SuiteRunnerModel" 209 ⟨"SuiteRunnerModel", "finish", "(II)V"⟩ ∈ sr_WS ∨ ∃ host, Cond.methodLinkNest "SuiteRunnerModel" 209 ⟨"SuiteRunnerModel", "finish", "(II)V"⟩ host ∈ sr_NW := Or.inl (sr_ws 928 rfl rfl)
set_option maxRecDepth 20000 in
theorem wc_MO_finish : Cond.code ⟨"SuiteRunnerModel", "finish", "(II)V"⟩ prog_12_method_35_code 5 none ∈ sr_WS := sr_ws 931 rfl rfl
set_option maxRecDepth 20000 in
theorem wi_MO_finish : Cond.instanceMethod ⟨"SuiteRunnerModel", "finish", "(II)V"⟩ ∈ sr_WS := sr_ws 930 rfl rfl
set_option maxRecDepth 20000 in
theorem wv_MO_finish : Cond.selects "SuiteRunnerModel" ⟨"SuiteRunnerModel", "finish", "(II)V"⟩ ⟨"SuiteRunnerModel", "finish", "(II)V"⟩ ∈ sr_WS := sr_ws 32 rfl rfl
theorem wn_MO_finish : (parseMethodDescriptor "(II)V").map (fun d => d.parameters.length) = some 2 := by decide +kernel
set_option maxRecDepth 20000 in
theorem ml_10_213 : Cond.methodLink "SuiteRunnerModel" 213 ⟨"SuiteRunnerModel", "blocked", "(I)Z"⟩ ∈ sr_WS ∨ ∃ host, Cond.methodLinkNest "SuiteRunnerModel" 213 ⟨"SuiteRunnerModel", "blocked", "(I)Z"⟩ host ∈ sr_NW := Or.inl (sr_ws 924 rfl rfl)
set_option maxRecDepth 20000 in
theorem wc_MO_blocked : Cond.code ⟨"SuiteRunnerModel", "blocked", "(I)Z"⟩ prog_12_method_28_code 4 (some .boolean) ∈ sr_WS := sr_ws 927 rfl rfl
set_option maxRecDepth 20000 in
theorem wi_MO_blocked : Cond.instanceMethod ⟨"SuiteRunnerModel", "blocked", "(I)Z"⟩ ∈ sr_WS := sr_ws 926 rfl rfl
set_option maxRecDepth 20000 in
theorem wv_MO_blocked : Cond.selects "SuiteRunnerModel" ⟨"SuiteRunnerModel", "blocked", "(I)Z"⟩ ⟨"SuiteRunnerModel", "blocked", "(I)Z"⟩ ∈ sr_WS := sr_ws 31 rfl rfl
theorem wn_MO_blocked : (parseMethodDescriptor "(I)Z").map (fun d => d.parameters.length) = some 1 := by decide +kernel
set_option maxRecDepth 20000 in
theorem ml_10_220 : Cond.methodLink "SuiteRunnerModel" 220 ⟨"SuiteRunnerModel", "due", "(I)I"⟩ ∈ sr_WS ∨ ∃ host, Cond.methodLinkNest "SuiteRunnerModel" 220 ⟨"SuiteRunnerModel", "due", "(I)I"⟩ host ∈ sr_NW := Or.inl (sr_ws 920 rfl rfl)
set_option maxRecDepth 20000 in
theorem wc_MO_due : Cond.code ⟨"SuiteRunnerModel", "due", "(I)I"⟩ prog_12_method_36_code 3 (some .int) ∈ sr_WS := sr_ws 923 rfl rfl
set_option maxRecDepth 20000 in
theorem wi_MO_due : Cond.instanceMethod ⟨"SuiteRunnerModel", "due", "(I)I"⟩ ∈ sr_WS := sr_ws 922 rfl rfl
set_option maxRecDepth 20000 in
theorem wv_MO_due : Cond.selects "SuiteRunnerModel" ⟨"SuiteRunnerModel", "due", "(I)I"⟩ ⟨"SuiteRunnerModel", "due", "(I)I"⟩ ∈ sr_WS := sr_ws 30 rfl rfl
theorem wn_MO_due : (parseMethodDescriptor "(I)I").map (fun d => d.parameters.length) = some 1 := by decide +kernel
set_option maxRecDepth 20000 in
theorem ml_10_224 : Cond.methodLink "SuiteRunnerModel" 224 ⟨"SuiteRunnerModel", "close", "(II)V"⟩ ∈ sr_WS ∨ ∃ host, Cond.methodLinkNest "SuiteRunnerModel" 224 ⟨"SuiteRunnerModel", "close", "(II)V"⟩ host ∈ sr_NW := Or.inl (sr_ws 904 rfl rfl)
set_option maxRecDepth 20000 in
theorem wc_MO_close : Cond.code ⟨"SuiteRunnerModel", "close", "(II)V"⟩ prog_12_method_39_code 4 none ∈ sr_WS := sr_ws 907 rfl rfl
set_option maxRecDepth 20000 in
theorem wi_MO_close : Cond.instanceMethod ⟨"SuiteRunnerModel", "close", "(II)V"⟩ ∈ sr_WS := sr_ws 906 rfl rfl
set_option maxRecDepth 20000 in
theorem wv_MO_close : Cond.selects "SuiteRunnerModel" ⟨"SuiteRunnerModel", "close", "(II)V"⟩ ⟨"SuiteRunnerModel", "close", "(II)V"⟩ ∈ sr_WS := sr_ws 26 rfl rfl
theorem wn_MO_close : (parseMethodDescriptor "(II)V").map (fun d => d.parameters.length) = some 2 := by decide +kernel
set_option maxRecDepth 10000 in
theorem c_MO_proceed (l : Launch) (D : va_G) (cA : Nat → ClassId) (ad : Nat → Nat → Nat) : sr_Ct l D sr_cl (sr_tys cA) (sr_wd sr_SM cA sr_csM ad) (sr_cy sr_NW sr_ZS sr_KS ad) ad sr_WS ⟨"SuiteRunnerModel", "proceed", "(I)V"⟩ prog_12_method_38_code 8 none { frames := 3, cells := 0, slots := 0, locals := 72 } p_MO_proceed := by
  refine sr_met (E := e_MO_proceed) (by decide) sr_WS_good sr_NW_ok sr_hcsM sr_hsepM (sr_htyM cA) (sr_htoM cA) sr_hWM (fun _ _ _ h => h) (sr_hF (List.forall_mem_cons.mpr ⟨fl_10_7, (List.forall_mem_cons.mpr ⟨fl_10_62, (List.forall_mem_cons.mpr ⟨fl_10_80, (List.forall_mem_cons.mpr ⟨fl_10_83, (List.forall_mem_cons.mpr ⟨fl_10_86, (fun _ h => absurd h List.not_mem_nil)⟩)⟩)⟩)⟩)⟩)) (fun _ _ h => nomatch h) (fun _ _ h => nomatch h) (fun _ _ h => nomatch h) (sr_hCS (List.forall_mem_cons.mpr ⟨(fun h => nomatch h), (List.forall_mem_cons.mpr ⟨(fun h => nomatch h), (List.forall_mem_cons.mpr ⟨(fun h => nomatch h), (List.forall_mem_cons.mpr ⟨(fun h => nomatch h), (List.forall_mem_cons.mpr ⟨(fun h => nomatch h), (List.forall_mem_cons.mpr ⟨(fun h => nomatch h), (List.forall_mem_cons.mpr ⟨(fun h => nomatch h), (fun _ h => absurd h List.not_mem_nil)⟩)⟩)⟩)⟩)⟩)⟩)⟩)) (sr_hCV (List.forall_mem_cons.mpr ⟨(fun ci h => by obtain rfl : 10 = ci := Nat.succ.inj h; exact ⟨⟨"SuiteRunnerModel", "is", "(II)I"⟩, prog_12_method_4_code, 3, (some .int), { frames := 0, cells := 0, slots := 0, locals := 0 }, _, _, _, rfl, c_MO_is l D cA ad, ⟨rfl, rfl, by decide, by decide⟩, ⟨by decide, by decide, wn_MO_is⟩, wc_MO_is, wi_MO_is, wv_MO_is, wz_10, ml_10_149⟩), (List.forall_mem_cons.mpr ⟨(fun ci h => by obtain rfl : 10 = ci := Nat.succ.inj h; exact ⟨⟨"SuiteRunnerModel", "note", "(III)V"⟩, prog_12_method_26_code, 4, none, { frames := 0, cells := 0, slots := 0, locals := 0 }, _, _, _, rfl, c_MO_note l D cA ad, ⟨rfl, rfl, by decide, by decide⟩, ⟨by decide, by decide, wn_MO_note⟩, wc_MO_note, wi_MO_note, wv_MO_note, wz_10, ml_10_176⟩), (List.forall_mem_cons.mpr ⟨(fun ci h => by obtain rfl : 10 = ci := Nat.succ.inj h; exact ⟨⟨"SuiteRunnerModel", "configure", "(IZI)V"⟩, prog_12_method_27_code, 6, none, { frames := 1, cells := 0, slots := 0, locals := 23 }, _, _, _, rfl, c_MO_configure l D cA ad, ⟨rfl, rfl, by decide, by decide⟩, ⟨by decide, by decide, wn_MO_configure⟩, wc_MO_configure, wi_MO_configure, wv_MO_configure, wz_10, ml_10_205⟩), (List.forall_mem_cons.mpr ⟨(fun ci h => by obtain rfl : 10 = ci := Nat.succ.inj h; exact ⟨⟨"SuiteRunnerModel", "finish", "(II)V"⟩, prog_12_method_35_code, 5, none, { frames := 2, cells := 0, slots := 0, locals := 48 }, _, _, _, rfl, c_MO_finish l D cA ad, ⟨rfl, rfl, by decide, by decide⟩, ⟨by decide, by decide, wn_MO_finish⟩, wc_MO_finish, wi_MO_finish, wv_MO_finish, wz_10, ml_10_209⟩), (List.forall_mem_cons.mpr ⟨(fun ci h => by obtain rfl : 10 = ci := Nat.succ.inj h; exact ⟨⟨"SuiteRunnerModel", "blocked", "(I)Z"⟩, prog_12_method_28_code, 4, (some .boolean), { frames := 0, cells := 0, slots := 0, locals := 0 }, _, _, _, rfl, c_MO_blocked l D cA ad, ⟨rfl, rfl, by decide, by decide⟩, ⟨by decide, by decide, wn_MO_blocked⟩, wc_MO_blocked, wi_MO_blocked, wv_MO_blocked, wz_10, ml_10_213⟩), (List.forall_mem_cons.mpr ⟨(fun ci h => by obtain rfl : 10 = ci := Nat.succ.inj h; exact ⟨⟨"SuiteRunnerModel", "due", "(I)I"⟩, prog_12_method_36_code, 3, (some .int), { frames := 1, cells := 0, slots := 0, locals := 22 }, _, _, _, rfl, c_MO_due l D cA ad, ⟨rfl, rfl, by decide, by decide⟩, ⟨by decide, by decide, wn_MO_due⟩, wc_MO_due, wi_MO_due, wv_MO_due, wz_10, ml_10_220⟩), (List.forall_mem_cons.mpr ⟨(fun ci h => by obtain rfl : 10 = ci := Nat.succ.inj h; exact ⟨⟨"SuiteRunnerModel", "close", "(II)V"⟩, prog_12_method_39_code, 4, none, { frames := 1, cells := 0, slots := 0, locals := 23 }, _, _, _, rfl, c_MO_close l D cA ad, ⟨rfl, rfl, by decide, by decide⟩, ⟨by decide, by decide, wn_MO_close⟩, wc_MO_close, wi_MO_close, wv_MO_close, wz_10, ml_10_224⟩), (fun _ h => absurd h List.not_mem_nil)⟩)⟩)⟩)⟩)⟩)⟩)⟩)) rfl dc_MO_proceed (fun vs μ C res h hC => ?_)
  unfold p_MO_proceed at h
  split at h
  · cases h
    exact ⟨Nat.le_of_ble_eq_true rfl, a_MO_proceed μ _ hC⟩
  · cases h
set_option maxRecDepth 20000 in
theorem fl_10_186 : sr_sF "SuiteRunnerModel" sr_cl sr_WS sr_NW 186 10 33 := ⟨_, _, _, rfl, by decide, rfl, sr_in10, Or.inl (sr_ws 702 rfl rfl)⟩
set_option maxRecDepth 20000 in
theorem ml_10_180 : Cond.methodLink "SuiteRunnerModel" 180 ⟨"SuiteRunnerModel", "dangles", "(II)Z"⟩ ∈ sr_WS ∨ ∃ host, Cond.methodLinkNest "SuiteRunnerModel" 180 ⟨"SuiteRunnerModel", "dangles", "(II)Z"⟩ host ∈ sr_NW := Or.inl (sr_ws 887 rfl rfl)
set_option maxRecDepth 20000 in
theorem wc_MO_dangles : Cond.code ⟨"SuiteRunnerModel", "dangles", "(II)Z"⟩ prog_12_method_23_code 7 (some .boolean) ∈ sr_WS := sr_ws 890 rfl rfl
set_option maxRecDepth 20000 in
theorem wi_MO_dangles : Cond.instanceMethod ⟨"SuiteRunnerModel", "dangles", "(II)Z"⟩ ∈ sr_WS := sr_ws 889 rfl rfl
set_option maxRecDepth 20000 in
theorem wv_MO_dangles : Cond.selects "SuiteRunnerModel" ⟨"SuiteRunnerModel", "dangles", "(II)Z"⟩ ⟨"SuiteRunnerModel", "dangles", "(II)Z"⟩ ∈ sr_WS := sr_ws 23 rfl rfl
theorem wn_MO_dangles : (parseMethodDescriptor "(II)Z").map (fun d => d.parameters.length) = some 2 := by decide +kernel
set_option maxRecDepth 20000 in
theorem ml_10_183 : Cond.methodLink "SuiteRunnerModel" 183 ⟨"SuiteRunnerModel", "circle", "()I"⟩ ∈ sr_WS ∨ ∃ host, Cond.methodLinkNest "SuiteRunnerModel" 183 ⟨"SuiteRunnerModel", "circle", "()I"⟩ host ∈ sr_NW := Or.inl (sr_ws 891 rfl rfl)
set_option maxRecDepth 20000 in
theorem wc_MO_circle : Cond.code ⟨"SuiteRunnerModel", "circle", "()I"⟩ prog_12_method_25_code 5 (some .int) ∈ sr_WS := sr_ws 878 rfl rfl
set_option maxRecDepth 20000 in
theorem wi_MO_circle : Cond.instanceMethod ⟨"SuiteRunnerModel", "circle", "()I"⟩ ∈ sr_WS := sr_ws 876 rfl rfl
set_option maxRecDepth 20000 in
theorem wv_MO_circle : Cond.selects "SuiteRunnerModel" ⟨"SuiteRunnerModel", "circle", "()I"⟩ ⟨"SuiteRunnerModel", "circle", "()I"⟩ ∈ sr_WS := sr_ws 877 rfl rfl
theorem wn_MO_circle : (parseMethodDescriptor "()I").map (fun d => d.parameters.length) = some 0 := by decide +kernel
set_option maxRecDepth 10000 in
theorem c_MO_start (l : Launch) (D : va_G) (cA : Nat → ClassId) (ad : Nat → Nat → Nat) : sr_Ct l D sr_cl (sr_tys cA) (sr_wd sr_SM cA sr_csM ad) (sr_cy sr_NW sr_ZS sr_KS ad) ad sr_WS ⟨"SuiteRunnerModel", "start", "()I"⟩ prog_12_method_29_code 5 (some .int) { frames := 5, cells := 0, slots := 0, locals := 127 } p_MO_start := by
  refine sr_met (E := e_MO_start) (by decide) sr_WS_good sr_NW_ok sr_hcsM sr_hsepM (sr_htyM cA) (sr_htoM cA) sr_hWM (fun _ _ _ h => h) (sr_hF (List.forall_mem_cons.mpr ⟨fl_10_59, (List.forall_mem_cons.mpr ⟨fl_10_62, (List.forall_mem_cons.mpr ⟨fl_10_65, (List.forall_mem_cons.mpr ⟨fl_10_68, (List.forall_mem_cons.mpr ⟨fl_10_71, (List.forall_mem_cons.mpr ⟨fl_10_74, (List.forall_mem_cons.mpr ⟨fl_10_77, (List.forall_mem_cons.mpr ⟨fl_10_92, (List.forall_mem_cons.mpr ⟨fl_10_103, (List.forall_mem_cons.mpr ⟨fl_10_136, (List.forall_mem_cons.mpr ⟨fl_10_170, (List.forall_mem_cons.mpr ⟨fl_10_173, (List.forall_mem_cons.mpr ⟨fl_10_186, (List.forall_mem_cons.mpr ⟨fl_10_189, (fun _ h => absurd h List.not_mem_nil)⟩)⟩)⟩)⟩)⟩)⟩)⟩)⟩)⟩)⟩)⟩)⟩)⟩)⟩)) (fun _ _ h => nomatch h) (fun _ _ h => nomatch h) (fun _ _ h => nomatch h) (sr_hCS (List.forall_mem_cons.mpr ⟨(fun h => nomatch h), (List.forall_mem_cons.mpr ⟨(fun h => nomatch h), (List.forall_mem_cons.mpr ⟨(fun h => nomatch h), (List.forall_mem_cons.mpr ⟨(fun h => nomatch h), (fun _ h => absurd h List.not_mem_nil)⟩)⟩)⟩)⟩)) (sr_hCV (List.forall_mem_cons.mpr ⟨(fun ci h => by obtain rfl : 10 = ci := Nat.succ.inj h; exact ⟨⟨"SuiteRunnerModel", "selected", "()I"⟩, prog_12_method_20_code, 3, (some .int), { frames := 3, cells := 0, slots := 0, locals := 81 }, _, _, _, rfl, c_MO_selected l D cA ad, ⟨rfl, rfl, by decide, by decide⟩, ⟨by decide, by decide, wn_MO_selected⟩, wc_MO_selected, wi_MO_selected, wv_MO_selected, wz_10, ml_10_160⟩), (List.forall_mem_cons.mpr ⟨(fun ci h => by obtain rfl : 10 = ci := Nat.succ.inj h; exact ⟨⟨"SuiteRunnerModel", "needsOf", "(II)I"⟩, prog_12_method_21_code, 5, (some .int), { frames := 1, cells := 0, slots := 0, locals := 22 }, _, _, _, rfl, c_MO_needsOf l D cA ad, ⟨rfl, rfl, by decide, by decide⟩, ⟨by decide, by decide, wn_MO_needsOf⟩, wc_MO_needsOf, wi_MO_needsOf, wv_MO_needsOf, wz_10, ml_10_164⟩), (List.forall_mem_cons.mpr ⟨(fun ci h => by obtain rfl : 10 = ci := Nat.succ.inj h; exact ⟨⟨"SuiteRunnerModel", "dangles", "(II)Z"⟩, prog_12_method_23_code, 7, (some .boolean), { frames := 1, cells := 0, slots := 0, locals := 22 }, _, _, _, rfl, c_MO_dangles l D cA ad, ⟨rfl, rfl, by decide, by decide⟩, ⟨by decide, by decide, wn_MO_dangles⟩, wc_MO_dangles, wi_MO_dangles, wv_MO_dangles, wz_10, ml_10_180⟩), (List.forall_mem_cons.mpr ⟨(fun ci h => by obtain rfl : 10 = ci := Nat.succ.inj h; exact ⟨⟨"SuiteRunnerModel", "circle", "()I"⟩, prog_12_method_25_code, 5, (some .int), { frames := 4, cells := 0, slots := 0, locals := 103 }, _, _, _, rfl, c_MO_circle l D cA ad, ⟨rfl, rfl, by decide, by decide⟩, ⟨by decide, by decide, wn_MO_circle⟩, wc_MO_circle, wi_MO_circle, wv_MO_circle, wz_10, ml_10_183⟩), (fun _ h => absurd h List.not_mem_nil)⟩)⟩)⟩)⟩)) rfl dc_MO_start (fun vs μ C res h hC => ?_)
  unfold p_MO_start at h
  split at h
  · cases h
    exact ⟨Nat.le_of_ble_eq_true rfl, a_MO_start μ  hC⟩
  · cases h
set_option maxRecDepth 20000 in
theorem ml_10_216 : Cond.methodLink "SuiteRunnerModel" 216 ⟨"SuiteRunnerModel", "proceed", "(I)V"⟩ ∈ sr_WS ∨ ∃ host, Cond.methodLinkNest "SuiteRunnerModel" 216 ⟨"SuiteRunnerModel", "proceed", "(I)V"⟩ host ∈ sr_NW := Or.inl (sr_ws 916 rfl rfl)
set_option maxRecDepth 20000 in
theorem wc_MO_proceed : Cond.code ⟨"SuiteRunnerModel", "proceed", "(I)V"⟩ prog_12_method_38_code 8 none ∈ sr_WS := sr_ws 919 rfl rfl
set_option maxRecDepth 20000 in
theorem wi_MO_proceed : Cond.instanceMethod ⟨"SuiteRunnerModel", "proceed", "(I)V"⟩ ∈ sr_WS := sr_ws 918 rfl rfl
set_option maxRecDepth 20000 in
theorem wv_MO_proceed : Cond.selects "SuiteRunnerModel" ⟨"SuiteRunnerModel", "proceed", "(I)V"⟩ ⟨"SuiteRunnerModel", "proceed", "(I)V"⟩ ∈ sr_WS := sr_ws 29 rfl rfl
theorem wn_MO_proceed : (parseMethodDescriptor "(I)V").map (fun d => d.parameters.length) = some 1 := by decide +kernel
set_option maxRecDepth 10000 in
theorem c_MO_take (l : Launch) (D : va_G) (cA : Nat → ClassId) (ad : Nat → Nat → Nat) : sr_Ct l D sr_cl (sr_tys cA) (sr_wd sr_SM cA sr_csM ad) (sr_cy sr_NW sr_ZS sr_KS ad) ad sr_WS ⟨"SuiteRunnerModel", "take", "(II)V"⟩ prog_12_method_37_code 5 none { frames := 4, cells := 0, slots := 0, locals := 99 } p_MO_take := by
  refine sr_met (E := e_MO_take) (by decide) sr_WS_good sr_NW_ok sr_hcsM sr_hsepM (sr_htyM cA) (sr_htoM cA) sr_hWM (fun _ _ _ h => h) (sr_hF (List.forall_mem_cons.mpr ⟨fl_10_7, (List.forall_mem_cons.mpr ⟨fl_10_26, (List.forall_mem_cons.mpr ⟨fl_10_59, (List.forall_mem_cons.mpr ⟨fl_10_65, (List.forall_mem_cons.mpr ⟨fl_10_71, (List.forall_mem_cons.mpr ⟨fl_10_80, (List.forall_mem_cons.mpr ⟨fl_10_86, (List.forall_mem_cons.mpr ⟨fl_10_92, (List.forall_mem_cons.mpr ⟨fl_10_133, (List.forall_mem_cons.mpr ⟨fl_10_173, (List.forall_mem_cons.mpr ⟨fl_10_186, (List.forall_mem_cons.mpr ⟨fl_10_189, (fun _ h => absurd h List.not_mem_nil)⟩)⟩)⟩)⟩)⟩)⟩)⟩)⟩)⟩)⟩)⟩)⟩)) (fun _ _ h => nomatch h) (fun _ _ h => nomatch h) (fun _ _ h => nomatch h) (sr_hCS (List.forall_mem_cons.mpr ⟨(fun h => nomatch h), (List.forall_mem_cons.mpr ⟨(fun h => nomatch h), (List.forall_mem_cons.mpr ⟨(fun h => nomatch h), (List.forall_mem_cons.mpr ⟨(fun h => nomatch h), (List.forall_mem_cons.mpr ⟨(fun h => nomatch h), (fun _ h => absurd h List.not_mem_nil)⟩)⟩)⟩)⟩)⟩)) (sr_hCV (List.forall_mem_cons.mpr ⟨(fun ci h => by obtain rfl : 10 = ci := Nat.succ.inj h; exact ⟨⟨"SuiteRunnerModel", "is", "(II)I"⟩, prog_12_method_4_code, 3, (some .int), { frames := 0, cells := 0, slots := 0, locals := 0 }, _, _, _, rfl, c_MO_is l D cA ad, ⟨rfl, rfl, by decide, by decide⟩, ⟨by decide, by decide, wn_MO_is⟩, wc_MO_is, wi_MO_is, wv_MO_is, wz_10, ml_10_149⟩), (List.forall_mem_cons.mpr ⟨(fun ci h => by obtain rfl : 10 = ci := Nat.succ.inj h; exact ⟨⟨"SuiteRunnerModel", "configure", "(IZI)V"⟩, prog_12_method_27_code, 6, none, { frames := 1, cells := 0, slots := 0, locals := 23 }, _, _, _, rfl, c_MO_configure l D cA ad, ⟨rfl, rfl, by decide, by decide⟩, ⟨by decide, by decide, wn_MO_configure⟩, wc_MO_configure, wi_MO_configure, wv_MO_configure, wz_10, ml_10_205⟩), (List.forall_mem_cons.mpr ⟨(fun ci h => by obtain rfl : 10 = ci := Nat.succ.inj h; exact ⟨⟨"SuiteRunnerModel", "finish", "(II)V"⟩, prog_12_method_35_code, 5, none, { frames := 2, cells := 0, slots := 0, locals := 48 }, _, _, _, rfl, c_MO_finish l D cA ad, ⟨rfl, rfl, by decide, by decide⟩, ⟨by decide, by decide, wn_MO_finish⟩, wc_MO_finish, wi_MO_finish, wv_MO_finish, wz_10, ml_10_209⟩), (List.forall_mem_cons.mpr ⟨(fun ci h => by obtain rfl : 10 = ci := Nat.succ.inj h; exact ⟨⟨"SuiteRunnerModel", "blocked", "(I)Z"⟩, prog_12_method_28_code, 4, (some .boolean), { frames := 0, cells := 0, slots := 0, locals := 0 }, _, _, _, rfl, c_MO_blocked l D cA ad, ⟨rfl, rfl, by decide, by decide⟩, ⟨by decide, by decide, wn_MO_blocked⟩, wc_MO_blocked, wi_MO_blocked, wv_MO_blocked, wz_10, ml_10_213⟩), (List.forall_mem_cons.mpr ⟨(fun ci h => by obtain rfl : 10 = ci := Nat.succ.inj h; exact ⟨⟨"SuiteRunnerModel", "proceed", "(I)V"⟩, prog_12_method_38_code, 8, none, { frames := 3, cells := 0, slots := 0, locals := 72 }, _, _, _, rfl, c_MO_proceed l D cA ad, ⟨rfl, rfl, by decide, by decide⟩, ⟨by decide, by decide, wn_MO_proceed⟩, wc_MO_proceed, wi_MO_proceed, wv_MO_proceed, wz_10, ml_10_216⟩), (fun _ h => absurd h List.not_mem_nil)⟩)⟩)⟩)⟩)⟩)) rfl dc_MO_take (fun vs μ C res h hC => ?_)
  unfold p_MO_take at h
  split at h
  · cases h
    exact ⟨Nat.le_of_ble_eq_true rfl, a_MO_take μ _ _ hC⟩
  · cases h
set_option maxRecDepth 20000 in
theorem ml_10_227 : Cond.methodLink "SuiteRunnerModel" 227 ⟨"SuiteRunnerModel", "result", "(II)I"⟩ ∈ sr_WS ∨ ∃ host, Cond.methodLinkNest "SuiteRunnerModel" 227 ⟨"SuiteRunnerModel", "result", "(II)I"⟩ host ∈ sr_NW := Or.inl (sr_ws 900 rfl rfl)
set_option maxRecDepth 20000 in
theorem wc_MO_result : Cond.code ⟨"SuiteRunnerModel", "result", "(II)I"⟩ prog_12_method_40_code 7 (some .int) ∈ sr_WS := sr_ws 903 rfl rfl
set_option maxRecDepth 20000 in
theorem wi_MO_result : Cond.instanceMethod ⟨"SuiteRunnerModel", "result", "(II)I"⟩ ∈ sr_WS := sr_ws 902 rfl rfl
set_option maxRecDepth 20000 in
theorem wv_MO_result : Cond.selects "SuiteRunnerModel" ⟨"SuiteRunnerModel", "result", "(II)I"⟩ ⟨"SuiteRunnerModel", "result", "(II)I"⟩ ∈ sr_WS := sr_ws 25 rfl rfl
theorem wn_MO_result : (parseMethodDescriptor "(II)I").map (fun d => d.parameters.length) = some 2 := by decide +kernel
set_option maxRecDepth 20000 in
theorem ml_10_230 : Cond.methodLink "SuiteRunnerModel" 230 ⟨"SuiteRunnerModel", "first", "(I)I"⟩ ∈ sr_WS ∨ ∃ host, Cond.methodLinkNest "SuiteRunnerModel" 230 ⟨"SuiteRunnerModel", "first", "(I)I"⟩ host ∈ sr_NW := Or.inl (sr_ws 936 rfl rfl)
set_option maxRecDepth 20000 in
theorem wc_MO_first : Cond.code ⟨"SuiteRunnerModel", "first", "(I)I"⟩ prog_12_method_34_code 6 (some .int) ∈ sr_WS := sr_ws 939 rfl rfl
set_option maxRecDepth 20000 in
theorem wi_MO_first : Cond.instanceMethod ⟨"SuiteRunnerModel", "first", "(I)I"⟩ ∈ sr_WS := sr_ws 938 rfl rfl
set_option maxRecDepth 20000 in
theorem wv_MO_first : Cond.selects "SuiteRunnerModel" ⟨"SuiteRunnerModel", "first", "(I)I"⟩ ⟨"SuiteRunnerModel", "first", "(I)I"⟩ ∈ sr_WS := sr_ws 34 rfl rfl
theorem wn_MO_first : (parseMethodDescriptor "(I)I").map (fun d => d.parameters.length) = some 1 := by decide +kernel
set_option maxRecDepth 20000 in
theorem ml_10_233 : Cond.methodLink "SuiteRunnerModel" 233 ⟨"SuiteRunnerModel", "take", "(II)V"⟩ ∈ sr_WS ∨ ∃ host, Cond.methodLinkNest "SuiteRunnerModel" 233 ⟨"SuiteRunnerModel", "take", "(II)V"⟩ host ∈ sr_NW := Or.inl (sr_ws 951 rfl rfl)
set_option maxRecDepth 20000 in
theorem wc_MO_take : Cond.code ⟨"SuiteRunnerModel", "take", "(II)V"⟩ prog_12_method_37_code 5 none ∈ sr_WS := sr_ws 954 rfl rfl
set_option maxRecDepth 20000 in
theorem wi_MO_take : Cond.instanceMethod ⟨"SuiteRunnerModel", "take", "(II)V"⟩ ∈ sr_WS := sr_ws 953 rfl rfl
set_option maxRecDepth 20000 in
theorem wv_MO_take : Cond.selects "SuiteRunnerModel" ⟨"SuiteRunnerModel", "take", "(II)V"⟩ ⟨"SuiteRunnerModel", "take", "(II)V"⟩ ∈ sr_WS := sr_ws 37 rfl rfl
theorem wn_MO_take : (parseMethodDescriptor "(II)V").map (fun d => d.parameters.length) = some 2 := by decide +kernel
set_option maxRecDepth 20000 in
theorem ml_10_236 : Cond.methodLink "SuiteRunnerModel" 236 ⟨"SuiteRunnerModel", "chosenNow", "()I"⟩ ∈ sr_WS ∨ ∃ host, Cond.methodLinkNest "SuiteRunnerModel" 236 ⟨"SuiteRunnerModel", "chosenNow", "()I"⟩ host ∈ sr_NW := Or.inl (sr_ws 955 rfl rfl)
set_option maxRecDepth 20000 in
theorem wc_MO_chosenNow : Cond.code ⟨"SuiteRunnerModel", "chosenNow", "()I"⟩ prog_12_method_42_code 3 (some .int) ∈ sr_WS := sr_ws 958 rfl rfl
set_option maxRecDepth 20000 in
theorem wi_MO_chosenNow : Cond.instanceMethod ⟨"SuiteRunnerModel", "chosenNow", "()I"⟩ ∈ sr_WS := sr_ws 957 rfl rfl
set_option maxRecDepth 20000 in
theorem wv_MO_chosenNow : Cond.selects "SuiteRunnerModel" ⟨"SuiteRunnerModel", "chosenNow", "()I"⟩ ⟨"SuiteRunnerModel", "chosenNow", "()I"⟩ ∈ sr_WS := sr_ws 38 rfl rfl
theorem wn_MO_chosenNow : (parseMethodDescriptor "()I").map (fun d => d.parameters.length) = some 0 := by decide +kernel
set_option maxRecDepth 10000 in
theorem c_MO_one (l : Launch) (D : va_G) (cA : Nat → ClassId) (ad : Nat → Nat → Nat) : sr_Ct l D sr_cl (sr_tys cA) (sr_wd sr_SM cA sr_csM ad) (sr_cy sr_NW sr_ZS sr_KS ad) ad sr_WS ⟨"SuiteRunnerModel", "one", "()V"⟩ prog_12_method_41_code 4 none { frames := 5, cells := 0, slots := 0, locals := 123 } p_MO_one := by
  refine sr_met (E := e_MO_one) (by decide) sr_WS_good sr_NW_ok sr_hcsM sr_hsepM (sr_htyM cA) (sr_htoM cA) sr_hWM (fun _ _ _ h => h) (sr_hF (List.forall_mem_cons.mpr ⟨fl_10_7, (List.forall_mem_cons.mpr ⟨fl_10_52, (List.forall_mem_cons.mpr ⟨fl_10_80, (List.forall_mem_cons.mpr ⟨fl_10_83, (List.forall_mem_cons.mpr ⟨fl_10_86, (List.forall_mem_cons.mpr ⟨fl_10_103, (List.forall_mem_cons.mpr ⟨fl_10_173, (List.forall_mem_cons.mpr ⟨fl_10_186, (List.forall_mem_cons.mpr ⟨fl_10_239, (fun _ h => absurd h List.not_mem_nil)⟩)⟩)⟩)⟩)⟩)⟩)⟩)⟩)⟩)) (fun _ _ h => nomatch h) (fun _ _ h => nomatch h) (fun _ _ h => nomatch h) (sr_hCS (List.forall_mem_cons.mpr ⟨(fun h => nomatch h), (List.forall_mem_cons.mpr ⟨(fun h => nomatch h), (List.forall_mem_cons.mpr ⟨(fun h => nomatch h), (List.forall_mem_cons.mpr ⟨(fun h => nomatch h), (List.forall_mem_cons.mpr ⟨(fun h => nomatch h), (List.forall_mem_cons.mpr ⟨(fun h => nomatch h), (List.forall_mem_cons.mpr ⟨(fun h => nomatch h), (List.forall_mem_cons.mpr ⟨(fun h => nomatch h), (List.forall_mem_cons.mpr ⟨(fun h => nomatch h), (fun _ h => absurd h List.not_mem_nil)⟩)⟩)⟩)⟩)⟩)⟩)⟩)⟩)⟩)) (sr_hCV (List.forall_mem_cons.mpr ⟨(fun ci h => by obtain rfl : 10 = ci := Nat.succ.inj h; exact ⟨⟨"SuiteRunnerModel", "note", "(III)V"⟩, prog_12_method_26_code, 4, none, { frames := 0, cells := 0, slots := 0, locals := 0 }, _, _, _, rfl, c_MO_note l D cA ad, ⟨rfl, rfl, by decide, by decide⟩, ⟨by decide, by decide, wn_MO_note⟩, wc_MO_note, wi_MO_note, wv_MO_note, wz_10, ml_10_176⟩), (List.forall_mem_cons.mpr ⟨(fun ci h => by obtain rfl : 10 = ci := Nat.succ.inj h; exact ⟨⟨"SuiteRunnerModel", "allOver", "(I)Z"⟩, prog_12_method_31_code, 4, (some .boolean), { frames := 1, cells := 0, slots := 0, locals := 21 }, _, _, _, rfl, c_MO_allOver l D cA ad, ⟨rfl, rfl, by decide, by decide⟩, ⟨by decide, by decide, wn_MO_allOver⟩, wc_MO_allOver, wi_MO_allOver, wv_MO_allOver, wz_10, ml_10_195⟩), (List.forall_mem_cons.mpr ⟨(fun ci h => by obtain rfl : 10 = ci := Nat.succ.inj h; exact ⟨⟨"SuiteRunnerModel", "configure", "(IZI)V"⟩, prog_12_method_27_code, 6, none, { frames := 1, cells := 0, slots := 0, locals := 23 }, _, _, _, rfl, c_MO_configure l D cA ad, ⟨rfl, rfl, by decide, by decide⟩, ⟨by decide, by decide, wn_MO_configure⟩, wc_MO_configure, wi_MO_configure, wv_MO_configure, wz_10, ml_10_205⟩), (List.forall_mem_cons.mpr ⟨(fun ci h => by obtain rfl : 10 = ci := Nat.succ.inj h; exact ⟨⟨"SuiteRunnerModel", "proceed", "(I)V"⟩, prog_12_method_38_code, 8, none, { frames := 3, cells := 0, slots := 0, locals := 72 }, _, _, _, rfl, c_MO_proceed l D cA ad, ⟨rfl, rfl, by decide, by decide⟩, ⟨by decide, by decide, wn_MO_proceed⟩, wc_MO_proceed, wi_MO_proceed, wv_MO_proceed, wz_10, ml_10_216⟩), (List.forall_mem_cons.mpr ⟨(fun ci h => by obtain rfl : 10 = ci := Nat.succ.inj h; exact ⟨⟨"SuiteRunnerModel", "close", "(II)V"⟩, prog_12_method_39_code, 4, none, { frames := 1, cells := 0, slots := 0, locals := 23 }, _, _, _, rfl, c_MO_close l D cA ad, ⟨rfl, rfl, by decide, by decide⟩, ⟨by decide, by decide, wn_MO_close⟩, wc_MO_close, wi_MO_close, wv_MO_close, wz_10, ml_10_224⟩), (List.forall_mem_cons.mpr ⟨(fun ci h => by obtain rfl : 10 = ci := Nat.succ.inj h; exact ⟨⟨"SuiteRunnerModel", "result", "(II)I"⟩, prog_12_method_40_code, 7, (some .int), { frames := 1, cells := 0, slots := 0, locals := 22 }, _, _, _, rfl, c_MO_result l D cA ad, ⟨rfl, rfl, by decide, by decide⟩, ⟨by decide, by decide, wn_MO_result⟩, wc_MO_result, wi_MO_result, wv_MO_result, wz_10, ml_10_227⟩), (List.forall_mem_cons.mpr ⟨(fun ci h => by obtain rfl : 10 = ci := Nat.succ.inj h; exact ⟨⟨"SuiteRunnerModel", "first", "(I)I"⟩, prog_12_method_34_code, 6, (some .int), { frames := 2, cells := 0, slots := 0, locals := 44 }, _, _, _, rfl, c_MO_first l D cA ad, ⟨rfl, rfl, by decide, by decide⟩, ⟨by decide, by decide, wn_MO_first⟩, wc_MO_first, wi_MO_first, wv_MO_first, wz_10, ml_10_230⟩), (List.forall_mem_cons.mpr ⟨(fun ci h => by obtain rfl : 10 = ci := Nat.succ.inj h; exact ⟨⟨"SuiteRunnerModel", "take", "(II)V"⟩, prog_12_method_37_code, 5, none, { frames := 4, cells := 0, slots := 0, locals := 99 }, _, _, _, rfl, c_MO_take l D cA ad, ⟨rfl, rfl, by decide, by decide⟩, ⟨by decide, by decide, wn_MO_take⟩, wc_MO_take, wi_MO_take, wv_MO_take, wz_10, ml_10_233⟩), (List.forall_mem_cons.mpr ⟨(fun ci h => by obtain rfl : 10 = ci := Nat.succ.inj h; exact ⟨⟨"SuiteRunnerModel", "chosenNow", "()I"⟩, prog_12_method_42_code, 3, (some .int), { frames := 0, cells := 0, slots := 0, locals := 0 }, _, _, _, rfl, c_MO_chosenNow l D cA ad, ⟨rfl, rfl, by decide, by decide⟩, ⟨by decide, by decide, wn_MO_chosenNow⟩, wc_MO_chosenNow, wi_MO_chosenNow, wv_MO_chosenNow, wz_10, ml_10_236⟩), (fun _ h => absurd h List.not_mem_nil)⟩)⟩)⟩)⟩)⟩)⟩)⟩)⟩)⟩)) rfl dc_MO_one (fun vs μ C res h hC => ?_)
  unfold p_MO_one px_MO_one at h
  split at h
  · cases h
    exact ⟨Nat.le_of_ble_eq_true rfl, a_MO_one μ  hC⟩
  · cases h
set_option maxRecDepth 20000 in
theorem ml_10_242 : Cond.methodLink "SuiteRunnerModel" 242 ⟨"SuiteRunnerModel", "one", "()V"⟩ ∈ sr_WS ∨ ∃ host, Cond.methodLinkNest "SuiteRunnerModel" 242 ⟨"SuiteRunnerModel", "one", "()V"⟩ host ∈ sr_NW := Or.inl (sr_ws 896 rfl rfl)
set_option maxRecDepth 20000 in
theorem wc_MO_one : Cond.code ⟨"SuiteRunnerModel", "one", "()V"⟩ prog_12_method_41_code 4 none ∈ sr_WS := sr_ws 899 rfl rfl
set_option maxRecDepth 20000 in
theorem wi_MO_one : Cond.instanceMethod ⟨"SuiteRunnerModel", "one", "()V"⟩ ∈ sr_WS := sr_ws 898 rfl rfl
set_option maxRecDepth 20000 in
theorem wv_MO_one : Cond.selects "SuiteRunnerModel" ⟨"SuiteRunnerModel", "one", "()V"⟩ ⟨"SuiteRunnerModel", "one", "()V"⟩ ∈ sr_WS := sr_ws 24 rfl rfl
theorem wn_MO_one : (parseMethodDescriptor "()V").map (fun d => d.parameters.length) = some 0 := by decide +kernel
set_option maxRecDepth 10000 in
theorem c_MO_tick (l : Launch) (D : va_G) (cA : Nat → ClassId) (ad : Nat → Nat → Nat) : sr_Ct l D sr_cl (sr_tys cA) (sr_wd sr_SM cA sr_csM ad) (sr_cy sr_NW sr_ZS sr_KS ad) ad sr_WS ⟨"SuiteRunnerModel", "tick", "(I)I"⟩ prog_12_method_43_code 3 (some .int) { frames := 6, cells := 0, slots := 0, locals := 146 } p_MO_tick := by
  refine sr_met (E := e_MO_tick) (by decide) sr_WS_good sr_NW_ok sr_hcsM sr_hsepM (sr_htyM cA) (sr_htoM cA) sr_hWM (fun _ _ _ h => h) (sr_hF (List.forall_mem_cons.mpr ⟨fl_10_103, (fun _ h => absurd h List.not_mem_nil)⟩)) (fun _ _ h => nomatch h) (fun _ _ h => nomatch h) (fun _ _ h => nomatch h) (sr_hCS (List.forall_mem_cons.mpr ⟨(fun _ => ⟨⟨"SuiteRunnerModel", "in", "(III)Z"⟩, prog_12_method_2_code, 3, (some .boolean), { frames := 0, cells := 0, slots := 0, locals := 0 }, c_MO_in l D cA ad, ⟨rfl, rfl, by decide, by decide⟩, ⟨by decide, by decide, wn_MO_in⟩, wc_MO_in, wi_MO_in, wz_10, ml_10_95⟩), (List.forall_mem_cons.mpr ⟨(fun h => nomatch h), (fun _ h => absurd h List.not_mem_nil)⟩)⟩)) (sr_hCV (List.forall_mem_cons.mpr ⟨(fun _ h => nomatch h), (List.forall_mem_cons.mpr ⟨(fun ci h => by obtain rfl : 10 = ci := Nat.succ.inj h; exact ⟨⟨"SuiteRunnerModel", "one", "()V"⟩, prog_12_method_41_code, 4, none, { frames := 5, cells := 0, slots := 0, locals := 123 }, _, _, _, rfl, c_MO_one l D cA ad, ⟨rfl, rfl, by decide, by decide⟩, ⟨by decide, by decide, wn_MO_one⟩, wc_MO_one, wi_MO_one, wv_MO_one, wz_10, ml_10_242⟩), (fun _ h => absurd h List.not_mem_nil)⟩)⟩)) rfl dc_MO_tick (fun vs μ C res h hC => ?_)
  unfold p_MO_tick px_MO_tick at h
  split at h
  · cases h
    exact ⟨Nat.le_of_ble_eq_true rfl, a_MO_tick μ _ hC⟩
  · cases h
