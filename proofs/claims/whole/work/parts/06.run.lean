/-! Calls, runs, and contracts. -/
theorem sr_sum_cat (l : List Value) : (l.map fun v => v.category).sum ≤ 2 * l.length := by
  induction l with
  | nil => exact Nat.le_refl _
  | cons a l ih =>
    have h : a.category ≤ 2 := by rcases lv_cat a with h | h <;> omega
    simp only [List.map_cons, List.sum_cons, List.length_cons]
    omega
-- a callee, as the caller's tables have it
def sr_CS (l : Launch) (R : Room) (s : State) (args : Array Value) (own : String) (D : va_G) (cl : List vw_C) (tys : List (ClassId × FieldType)) (wd : sr_M → va_W) (cy : (Nat → Prop) → State → Heap → Prop) (ad : Nat → Nat → Nat) (WS : List Cond) (k n : Nat) (f : sr_F) : Prop := ∃ (y : MethodName) (bytes : ByteArray) (maxL : Nat) (ret : Option FieldType) (rm : Room), sr_Ct l D cl tys wd cy ad WS y bytes maxL ret rm f ∧ ((CallB R s args own k y bytes maxL ret (Cond.code y bytes maxL ret :: WS) rm 0 0 n ∧ (Cond.static y).before args s = true) ∨ ∃ host, va_CN R s args own k y host bytes maxL ret (Cond.code y bytes maxL ret :: WS) rm 0 0 n ∧ (Cond.static y).before args s = true ∧ True)
def sr_CV (l : Launch) (R : Room) (s : State) (args : Array Value) (own : String) (D : va_G) (cl : List vw_C) (tys : List (ClassId × FieldType)) (wd : sr_M → va_W) (cy : (Nat → Prop) → State → Heap → Prop) (ad : Nat → Nat → Nat) (WS : List Cond) (k ci n : Nat) (f : sr_F) : Prop := ∃ (y : MethodName) (bytes : ByteArray) (maxL : Nat) (ret : Option FieldType) (rm : Room) (C : String) (T : u_T) (N : Nat), cl[ci]? = some (C, T, N) ∧ sr_Ct l D cl tys wd cy ad WS y bytes maxL ret rm f ∧ (CallW R s args own C k y bytes maxL ret (Cond.code y bytes maxL ret :: WS) rm 0 0 n ∨ ∃ host, va_CN R s args own k y host bytes maxL ret (Cond.code y bytes maxL ret :: WS) rm 0 0 n ∧ (Cond.instanceMethod y).before args s = true ∧ (Cond.selects C y y).before args s = true)
section SrCall

variable {p : Program} {l : Launch} {e : Env} {R : Room} {s : State} {m : MethodId} {args : Array Value} {below : List Frame} {meth : Method} {c : Code} {cells slots : Nat} {Q : State → Prop} {cc : ByteArray} {nL : Nat} {D : va_G} {cl : List vw_C} {tys : List (ClassId × FieldType)} {cA : Nat → ClassId} {cs : List (Nat × Nat)} {ad : Nat → Nat → Nat} {A : Nat → Prop} {own : String} {Ts WS : List Cond} {cy : (Nat → Prop) → State → Heap → Prop}

variable {S : sr_Sh}
theorem sr_callW {H : Heap} {locs : List Loc} {pc : Nat} {ls : Array Slot} {st0 rest : List Value} {μ' : sr_M} {r : Option sr_V} {A1 : Nat → Prop} {wd : sr_M → va_W} (hr : va_Run p l e R s m args below meth c H locs cells slots 0 0 (F0 m pc ls st0) rest (sr_Qc D cl wd ad r μ' A1) A1) (hS : va_S A s.heap H locs) (hA : ∀ q, A1 q → A q) (kk : ∀ (H1 : Heap) (locs1 : List Loc), va_P D cl (wd μ') H1 → va_S A s.heap H1 locs1 → W p l e R s m args below meth c H1 locs1 cells slots Q (F0 m (pc + 3) ls ((r.map (sr_cv ad)).toList ++ rest))) : W p l e R s m args below meth c H locs cells slots Q (F0 m pc ls st0) := by
  intro T hT X
  obtain ⟨v, st₀, t, T', L, h0, X', hL, e1, e2, ⟨⟨hv, hp⟩, hz, hk⟩, st⟩ := hr T hT X
  injection hv with hv
  subst hv
  rw [h0] at hz hk
  obtain ⟨t2, a1, b1⟩ := kk T'.heap (locs ++ L) (by rw [e1]; exact hp) ⟨Nat.le_trans hS.1 (by rw [e1]; exact hz), fun q h1 h2 => by
      rw [e1, hk q (Nat.lt_of_lt_of_le h1 hS.1) (fun z => h2 (hA q z))]; exact hS.2.1 q h1 h2, fun q hq => by
      rcases List.mem_append.mp hq with h | h
      · exact hS.2.2 q h
      · exact hA _ (hL q h)⟩ T' rfl X'
  exact ⟨t2, st t2 a1, b1⟩
theorem sr_blind {vs : List sr_V} {sz : Nat} {μ : sr_M} {A1 : Nat → Prop} {wd : sr_M → va_W} (hcb : ∀ A1 U g mk a H, cy A1 U H → cy A1 (State.calling U g mk a) H) : FrameBlind (va_Pc (vs.map (sr_cv ad)) (fun U => U.heap.size = sz ∧ sr_Wl D cl tys wd cy μ A1 U)) := by
  intro a U g mk q
  obtain ⟨q0, q1, qP, qK, qD, qC⟩ := q
  exact ⟨q0, q1, qP, va_K.moved (u := U) (U := U.calling g mk a) (Vm.Alike.refl U.vm) qK, qD, hcb _ _ _ _ _ _ qC⟩
theorem sr_out {H : Heap} {locs : List Loc} {wd : sr_M → va_W} {μ : sr_M} (hD : ∀ μ, va_D A (wd μ)) (hA : ∀ q, s.heap.size ≤ q → A q) (hS : va_S A s.heap H locs) : ∀ q, va_A (wd μ) H.size q → A q := by
  intro q h
  rcases h with ⟨k, e, h⟩ | h
  · exact (hD μ).2 k _ h
  · exact hA q (Nat.le_trans hS.1 h)
theorem sr_J_callS {k pc : Nat} {L : sr_L} {st : List sr_V} {μ : sr_M} {s1 : Prop × sr_S} {t : Option (Nat × Nat × sr_F)} (hx : p.tables.exec = Jvm.exec) (hb : c.code = cc) (hml : c.maxLocals = nL) (hts : ∀ w ∈ Ts, w.before args s = true) (hown : s.vm.findClass own = some m.cls) (hK : va_K D cl tys s) (hD : ∀ μ, va_D A (sr_wd S cA cs ad μ)) (hA : ∀ q, s.heap.size ≤ q → A q) (hroom : cells ≤ R.cells ∧ slots ≤ R.slots)
    (hcm : ∀ (A1 : Nat → Prop) (U : State) (H : Heap), (∀ q, A1 q → A q) → s.WarmedH U.vm → (∀ q : Nat, q < s.heap.size → ¬ A q → H[q]? = s.heap[q]?) → cy A1 U H) (hcb : ∀ A1 U g mk a H, cy A1 U H → cy A1 (State.calling U g mk a) H)
    (hC : ∀ n f, t = some (0, n, f) → sr_CS l R s args own D cl tys (sr_wd S cA cs ad) cy ad WS k n f) (hd : decode cc pc = .ok (.invokestatic k, 3)) (h : sr_inv S t false (pc, L, st, μ) = some s1) (hC1 : s1.1) (kk : sr_J p l e R s m args below meth c cells slots Q nL D cl (sr_wd S cA cs ad) ad A s1.2) : sr_J p l e R s m args below meth c cells slots Q nL D cl (sr_wd S cA cs ad) ad A (pc, L, st, μ) := by
  obtain ⟨x, hcall, rfl⟩ := sr_inv_inv h
  obtain ⟨n, f, C9, r, μ', ht, hn, h4, hf, rfl⟩ := sr_callS_inv hcall
  obtain ⟨y, bytes, maxL, ret, rm, hct, hcw⟩ := hC n f ht
  intro hL ls H locs hl hP hS
  have hM := hct H.size μ _ C9 r μ' hf hC1
  have hout := sr_out (μ := μ) hD hA hS
  have hp : PreS s H (va_Pc ((st.take n).reverse.map (sr_cv ad)) (fun U => U.heap.size = H.size ∧ sr_Wl D cl tys (sr_wd S cA cs ad) cy μ (va_A (sr_wd S cA cs ad μ) H.size) U)) ((st.take n).reverse.map (sr_cv ad)) := by
    refine ⟨sr_blind hcb, fun U hU hW => ⟨rfl, by rw [hU], by rw [hU]; exact hP, va_K.moved hW.alike hK, (hD μ).weaken (fun _ _ _ _ => trivial), ?_⟩⟩
    rw [hU]
    exact hcm _ U H hout hW hS.2.1
  have hst : (F0 m pc ls (st.map (sr_cv ad))).stack = ((st.take n).reverse.map (sr_cv ad)).reverse ++ (st.drop n).map (sr_cv ad) := by
    show st.map (sr_cv ad) = _
    rw [← List.map_reverse, List.reverse_reverse, ← List.map_append, List.take_append_drop]
  have hlen : ((st.take n).reverse.map (sr_cv ad)).length = n := by
    rw [List.length_map, List.length_reverse, List.length_take]
    omega
  have h8 : 2 * (F0 m pc ls (st.map (sr_cv ad))).monitorRoom + (((st.drop n).map (sr_cv ad)).map fun v => v.category).sum ≤ 8 := lv_room (by
    have := sr_sum_cat ((st.drop n).map (sr_cv ad))
    rw [List.length_map] at this
    omega)
  have kk2 : ∀ (H1 : Heap) (locs1 : List Loc), va_P D cl (sr_wd S cA cs ad μ') H1 → va_S A s.heap H1 locs1 → W p l e R s m args below meth c H1 locs1 cells slots Q (F0 m (pc + 3) ls ((r.map (sr_cv ad)).toList ++ (st.drop n).map (sr_cv ad))) := by
    intro H1 locs1 hP1 hS1
    have := kk hL ls H1 locs1 hl hP1 hS1
    cases r with
    | none => exact this
    | some v => exact this
  rcases hcw with hcw | ⟨host, hcw⟩
  · exact sr_callW (va_runS (As := (st.take n).reverse.map (sr_cv ad)) (rest := (st.drop n).map (sr_cv ad)) ⟨hx, hb, hml, hown, hts⟩ hM hcw hp rfl hlen hl.1 hst h8 hd hroom) hS hout kk2
  · exact sr_callW (va_runSN (As := (st.take n).reverse.map (sr_cv ad)) (rest := (st.drop n).map (sr_cv ad)) ⟨hx, hb, hml, hown, hts⟩ hM hcw hp rfl hlen hl.1 hst h8 hd hroom) hS hout kk2
theorem sr_J_callV {k pc : Nat} {L : sr_L} {st : List sr_V} {μ : sr_M} {s1 : Prop × sr_S} {t : Option (Nat × Nat × sr_F)} (hx : p.tables.exec = Jvm.exec) (hb : c.code = cc) (hml : c.maxLocals = nL) (hts : ∀ w ∈ Ts, w.before args s = true) (hown : s.vm.findClass own = some m.cls) (hK : va_K D cl tys s) (hcs : ∀ g i, ((S.1 g).isSome = true ∨ (S.2.1 g).isSome = true) → i < S.2.2 g → (g, i) ∈ cs) (hD : ∀ μ, va_D A (sr_wd S cA cs ad μ)) (hA : ∀ q, s.heap.size ≤ q → A q) (hroom : cells ≤ R.cells ∧ slots ≤ R.slots)
    (hcm : ∀ (A1 : Nat → Prop) (U : State) (H : Heap), (∀ q, A1 q → A q) → s.WarmedH U.vm → (∀ q : Nat, q < s.heap.size → ¬ A q → H[q]? = s.heap[q]?) → cy A1 U H) (hcb : ∀ A1 U g mk a H, cy A1 U H → cy A1 (State.calling U g mk a) H)
    (hC : ∀ ci n f, t = some (ci + 1, n, f) → sr_CV l R s args own D cl tys (sr_wd S cA cs ad) cy ad WS k ci n f) (hd : decode cc pc = .ok (.invokevirtual k, 3)) (h : sr_inv S t true (pc, L, st, μ) = some s1) (hC1 : s1.1) (kk : sr_J p l e R s m args below meth c cells slots Q nL D cl (sr_wd S cA cs ad) ad A s1.2) : sr_J p l e R s m args below meth c cells slots Q nL D cl (sr_wd S cA cs ad) ad A (pc, L, st, μ) := by
  obtain ⟨x, hcall, rfl⟩ := sr_inv_inv h
  obtain ⟨ci, n, f, g, i, rest, fs, C9, r, μ', ht, hdr, hg, h4, hf, rfl⟩ := sr_callV_inv hcall
  have hi : i < S.2.2 g := hC1.1
  obtain ⟨y, bytes, maxL, ret, rm, C, T, N, hc, hct, hcw⟩ := hC ci n f ht
  intro hL ls H locs hl hP hS
  have hM := hct H.size μ _ C9 r μ' hf hC1.2
  have hout := sr_out (μ := μ) hD hA hS
  have hnl : n < st.length := by
    have := congrArg List.length hdr
    rw [List.length_drop, List.length_cons] at this
    omega
  obtain ⟨q0, hq0, hq⟩ := sr_wd_at (S := S) (cA := cA) (ad := ad) (μ := μ) (hcs g i (Or.inl (by rw [hg]; rfl)) hi)
  rw [sr_cell_ob hg] at hq
  have hp : PreV s H C (ad g i) (va_Pc ((Sum.inr (Sum.inr (g, i)) :: (st.take n).reverse).map (sr_cv ad)) (fun U => U.heap.size = H.size ∧ sr_Wl D cl tys (sr_wd S cA cs ad) cy μ (va_A (sr_wd S cA cs ad μ) H.size) U)) ((st.take n).reverse.map (sr_cv ad)) := by
    refine ⟨sr_blind hcb, va_recv hK hP hc hq, fun U hU hW => ⟨rfl, by rw [hU], by rw [hU]; exact hP, va_K.moved hW.alike hK, (hD μ).weaken (fun _ _ _ _ => trivial), ?_⟩⟩
    rw [hU]
    exact hcm _ U H hout hW hS.2.1
  have hst : (F0 m pc ls (st.map (sr_cv ad))).stack = ((st.take n).reverse.map (sr_cv ad)).reverse ++ .ref (ad g i) :: rest.map (sr_cv ad) := by
    show st.map (sr_cv ad) = _
    rw [← List.map_reverse, List.reverse_reverse]
    have h1 : st = st.take n ++ (Sum.inr (Sum.inr (g, i)) :: rest) := by rw [← hdr, List.take_append_drop]
    conv => lhs; rw [h1]
    rw [List.map_append]
    rfl
  have hlen : ((st.take n).reverse.map (sr_cv ad)).length = n := by
    rw [List.length_map, List.length_reverse, List.length_take]
    omega
  have h8 : 2 * (F0 m pc ls (st.map (sr_cv ad))).monitorRoom + ((rest.map (sr_cv ad)).map fun v => v.category).sum ≤ 8 := lv_room (by
    have := sr_sum_cat (rest.map (sr_cv ad))
    rw [List.length_map] at this
    omega)
  have kk2 : ∀ (H1 : Heap) (locs1 : List Loc), va_P D cl (sr_wd S cA cs ad μ') H1 → va_S A s.heap H1 locs1 → W p l e R s m args below meth c H1 locs1 cells slots Q (F0 m (pc + 3) ls ((r.map (sr_cv ad)).toList ++ rest.map (sr_cv ad))) := by
    intro H1 locs1 hP1 hS1
    have := kk hL ls H1 locs1 hl hP1 hS1
    cases r with
    | none => exact this
    | some v => exact this
  rcases hcw with hcw | ⟨host, hcw⟩
  · exact sr_callW (va_runV (As := (st.take n).reverse.map (sr_cv ad)) (rest := rest.map (sr_cv ad)) ⟨hx, hb, hml, hown, hts⟩ hM hcw hp rfl hlen hl.1 hst h8 hd hroom) hS hout kk2
  · exact sr_callW (va_runVN (As := (st.take n).reverse.map (sr_cv ad)) (rest := rest.map (sr_cv ad)) ⟨hx, hb, hml, hown, hts⟩ hM hcw hp rfl hlen hl.1 hst h8 hd hroom) hS hout kk2
end SrCall
section SrRun

variable {p : Program} {l : Launch} {e : Env} {R : Room} {s : State} {m : MethodId} {args : Array Value} {below : List Frame} {meth : Method} {c : Code} {cells slots : Nat} {Q : State → Prop} {cc : ByteArray} {nL : Nat} {D : va_G} {cl : List vw_C} {tys : List (ClassId × FieldType)} {cA : Nat → ClassId} {cs : List (Nat × Nat)} {ad : Nat → Nat → Nat} {A : Nat → Prop} {own : String} {Ts WS : List Cond} {cy : (Nat → Prop) → State → Heap → Prop}

theorem sr_J_sto1 {E : sr_E} {pc pc' i : Nat} {L L' : sr_L} {v : sr_V} {st st' : List sr_V} {μ : sr_M} (h : sr_st1 L i v = some L') (row : ∀ (ls : Array Slot) (H : Heap) (locs : List Loc), i < nL → lv_has ls nL (sr_lc ad L) → (∀ ls' : Array Slot, lv_has ls' nL ((i, sr_cv ad v) :: (sr_lc ad L).filter (fun q => !(q.1 == i) && !(q.1 + 1 == i && q.2.category == 2))) → W p l e R s m args below meth c H locs cells slots Q (F0 m pc' ls' (st'.map (sr_cv ad)))) → W p l e R s m args below meth c H locs cells slots Q (F0 m pc ls (st.map (sr_cv ad)))) (kk : sr_J p l e R s m args below meth c cells slots Q nL D cl (sr_wd E.1 cA cs ad) ad A (pc', L', st', μ)) : sr_J p l e R s m args below meth c cells slots Q nL D cl (sr_wd E.1 cA cs ad) ad A (pc, L, st, μ) := by
  obtain ⟨h1, h2, h3⟩ := sr_st1_lc (ad := ad) h
  intro hn ls H locs hl hP hS
  have hn2 : L.length = nL := hn
  exact row ls H locs (by omega) hl (fun ls' hl' => kk (h1.trans hn) ls' H locs (sr_has hl' h3) hP hS)
theorem sr_J_sto2 {E : sr_E} {pc pc' i : Nat} {L L' : sr_L} {v : sr_V} {st st' : List sr_V} {μ : sr_M} (h : sr_st2 L i v = some L') (row : ∀ (ls : Array Slot) (H : Heap) (locs : List Loc), i + 1 < nL → lv_has ls nL (sr_lc ad L) → (∀ ls' : Array Slot, lv_has ls' nL ((i, sr_cv ad v) :: (sr_lc ad L).filter (fun q => !(q.1 == i) && (!(q.1 == i + 1) && !(q.1 + 1 == i && q.2.category == 2)))) → W p l e R s m args below meth c H locs cells slots Q (F0 m pc' ls' (st'.map (sr_cv ad)))) → W p l e R s m args below meth c H locs cells slots Q (F0 m pc ls (st.map (sr_cv ad)))) (kk : sr_J p l e R s m args below meth c cells slots Q nL D cl (sr_wd E.1 cA cs ad) ad A (pc', L', st', μ)) : sr_J p l e R s m args below meth c cells slots Q nL D cl (sr_wd E.1 cA cs ad) ad A (pc, L, st, μ) := by
  obtain ⟨h1, h2, h3⟩ := sr_st2_lc (ad := ad) h
  intro hn ls H locs hl hP hS
  have hn2 : L.length = nL := hn
  exact row ls H locs (by omega) hl (fun ls' hl' => kk (h1.trans hn) ls' H locs (sr_has hl' h3) hP hS)
theorem sr_lc_at {ls : Array Slot} {L : sr_L} {i : Nat} {v : sr_V} (hl : lv_has ls nL (sr_lc ad L)) (h : L[i]? = some (some v)) : ls[i]? = some (.val (sr_cv ad v)) := hl.2.2 (i, sr_cv ad v) (sr_lc_mem.mpr ⟨v, h, rfl⟩)
set_option maxHeartbeats 4000000 in
set_option maxRecDepth 100000 in
theorem sr_J_step {E : sr_E} {ins : Jvm.ClassFile.Instr} {n pc : Nat} {L : sr_L} {st : List sr_V} {μ : sr_M} {s1 : Prop × sr_S} (hx : p.tables.exec = Jvm.exec) (hb : c.code = cc) (hml : c.maxLocals = nL) (hts : ∀ w ∈ Ts, w.before args s = true) (hown : s.vm.findClass own = some m.cls) (hK : va_K D cl tys s) (hD : ∀ μ, va_D A (sr_wd E.1 cA cs ad μ)) (hA : ∀ q, s.heap.size ≤ q → A q) (hroom : cells ≤ R.cells ∧ slots ≤ R.slots)
    (hcm : ∀ (A1 : Nat → Prop) (U : State) (H : Heap), (∀ q, A1 q → A q) → s.WarmedH U.vm → (∀ q : Nat, q < s.heap.size → ¬ A q → H[q]? = s.heap[q]?) → cy A1 U H) (hcb : ∀ A1 U g mk a H, cy A1 U H → cy A1 (State.calling U g mk a) H)
    (hcs : ∀ g i, ((E.1.1 g).isSome = true ∨ (E.1.2.1 g).isSome = true) → i < E.1.2.2 g → (g, i) ∈ cs) (hsep : ∀ g, (E.1.2.1 g).isSome = true → E.1.1 g = none) (hty : ∀ g k n t hh, E.1.2.1 g = some (k, n, t, hh) → ¬ k = 3 → tys[t]? = some (cA t, sr_kt k)) (hto : ∀ g n t hh, E.1.2.1 g = some (3, n, t, hh) → ∃ C, tys[t]? = some (cA t, .object C)) (hW : ∀ g ci fs, E.1.1 g = some (ci, fs) → sr_PO cl ci fs)
    (hKT : ∀ g n f, E.2.1 g = some (n, f) → va_T .int (ad g 0) n (fun j => .int (f j)) A s s.heap) (hF : ∀ k ci j, E.2.2.1.1 k = some (ci, j) → sr_FO own cl Ts s k ci j) (hLi : ∀ k v, E.2.2.1.2.1 k = some v → Cond.constant own k v ∈ Ts) (hLl : ∀ k v, E.2.2.1.2.2.1 k = some v → Cond.constantLong own k v ∈ Ts) (hZ : ∀ k g, E.2.2.1.2.2.2.1 k = some g → ∃ C nm d, va_Z C nm d (.ref (ad g 0)) A s s.heap ∧ Cond.fieldLink own k C nm d ∈ Ts)
    (hCS : ∀ k, ins = .invokestatic k → ∀ n f, E.2.2.1.2.2.2.2 k = some (0, n, f) → sr_CS l R s args own D cl tys (sr_wd E.1 cA cs ad) cy ad WS k n f) (hCV : ∀ k, ins = .invokevirtual k → ∀ ci n f, E.2.2.1.2.2.2.2 k = some (ci + 1, n, f) → sr_CV l R s args own D cl tys (sr_wd E.1 cA cs ad) cy ad WS k ci n f)
    (hd : decode cc pc = .ok (ins, n)) (hn : n = sr_il ins n) (ht : sr_tok pc ins = true) (h : sr_step E ins (pc, L, st, μ) = some s1) (hC1 : s1.1) (kk : sr_J p l e R s m args below meth c cells slots Q nL D cl (sr_wd E.1 cA cs ad) ad A s1.2) : sr_J p l e R s m args below meth c cells slots Q nL D cl (sr_wd E.1 cA cs ad) ad A (pc, L, st, μ) := by
  cases ins with
  | iconst v =>
    obtain rfl : n = 1 := hn
    obtain rfl : ((True, pc + 1, L, Sum.inl (Int32.ofInt v) :: st, μ) : Prop × sr_S) = s1 := Option.some.inj h
    intro hl0 ls H locs hl hP hS
    exact lv_iconst hx hb hd rfl (kk hl0 ls H locs hl hP hS)
  | bipush v =>
    obtain rfl : n = 2 := hn
    obtain rfl : ((True, pc + 2, L, Sum.inl (Int8.ofInt v).toInt32 :: st, μ) : Prop × sr_S) = s1 := Option.some.inj h
    intro hl0 ls H locs hl hP hS
    exact lv_bipush hx hb hd rfl (kk hl0 ls H locs hl hP hS)
  | sipush v =>
    obtain rfl : n = 3 := hn
    obtain rfl : ((True, pc + 3, L, Sum.inl (Int16.ofInt v).toInt32 :: st, μ) : Prop × sr_S) = s1 := Option.some.inj h
    intro hl0 ls H locs hl hP hS
    exact lv_sipush hx hb hd rfl (kk hl0 ls H locs hl hP hS)
  | lconst v =>
    obtain rfl : n = 1 := hn
    obtain rfl : ((True, pc + 1, L, Sum.inr (Sum.inl (Int64.ofNat (v : Nat))) :: st, μ) : Prop × sr_S) = s1 := Option.some.inj h
    intro hl0 ls H locs hl hP hS
    exact lv_lconst hx hb hd rfl (kk hl0 ls H locs hl hP hS)
  | ldc k =>
    obtain rfl : n = 2 := hn
    obtain ⟨w, hw, rfl⟩ := sr_ps_inv h
    cases hv : E.2.2.1.2.1 k with
    | none => rw [hv] at hw; cases hw
    | some v =>
      rw [hv] at hw
      cases hw
      intro hl0 ls H locs hl hP hS
      exact lv_ldc hx hb hown (hts _ (hLi k v hv)) hd (kk hl0 ls H locs hl hP hS)
  | ldc2_w k =>
    obtain rfl : n = 3 := hn
    obtain ⟨w, hw, rfl⟩ := sr_ps_inv h
    cases hv : E.2.2.1.2.2.1 k with
    | none => rw [hv] at hw; cases hw
    | some v =>
      rw [hv] at hw
      cases hw
      intro hl0 ls H locs hl hP hS
      exact lv_ldc2 hx hb hown (hts _ (hLl k v hv)) hd (kk hl0 ls H locs hl hP hS)
  | getstatic k =>
    obtain rfl : n = 3 := hn
    obtain ⟨w, hw, rfl⟩ := sr_ps_inv h
    cases hv : E.2.2.1.2.2.2.1 k with
    | none => rw [hv] at hw; cases hw
    | some g =>
      rw [hv] at hw
      cases hw
      obtain ⟨C, nm, d, hz, hlk⟩ := hZ k g hv
      intro hl0 ls H locs hl hP hS
      exact va_gets hx hb hz hS hown (hts _ hlk) (fun _ h9 => h9) hd (kk hl0 ls H locs hl hP hS)
  | iload_n k =>
    obtain rfl : n = 1 := hn
    obtain ⟨x, hx1, rfl⟩ := sr_ld0_inv h
    intro hl0 ls H locs hl hP hS
    exact lv_iload_n hx hb hd rfl (sr_lc_at hl hx1) (kk hl0 ls H locs hl hP hS)
  | iload k =>
    obtain rfl : n = 2 := hn
    obtain ⟨x, hx1, rfl⟩ := sr_ld0_inv h
    intro hl0 ls H locs hl hP hS
    exact lv_iload hx hb hd (sr_lc_at hl hx1) (kk hl0 ls H locs hl hP hS)
  | istore_n k =>
    obtain rfl : n = 1 := hn
    obtain ⟨x, st2, L2, rfl, hs, rfl⟩ := sr_sto0_inv h
    exact sr_J_sto1 hs (fun ls H locs hi hl k2 => lv_istore_n hx hb hd rfl hl hi rfl k2) kk
  | istore k =>
    obtain rfl : n = 2 := hn
    obtain ⟨x, st2, L2, rfl, hs, rfl⟩ := sr_sto0_inv h
    exact sr_J_sto1 hs (fun ls H locs hi hl k2 => lv_istore hx hb hd hl hi rfl k2) kk
  | lload_n k =>
    obtain rfl : n = 1 := hn
    obtain ⟨x, hx1, rfl⟩ := sr_ld2_inv h
    intro hl0 ls H locs hl hP hS
    exact lv_lload_n hx hb hd rfl (sr_lc_at hl hx1) (kk hl0 ls H locs hl hP hS)
  | lload k =>
    obtain rfl : n = 2 := hn
    obtain ⟨x, hx1, rfl⟩ := sr_ld2_inv h
    intro hl0 ls H locs hl hP hS
    exact lv_lload hx hb hd (sr_lc_at hl hx1) (kk hl0 ls H locs hl hP hS)
  | lstore_n k =>
    obtain rfl : n = 1 := hn
    obtain ⟨x, st2, L2, rfl, hs, rfl⟩ := sr_sto2_inv h
    exact sr_J_sto2 hs (fun ls H locs hi hl k2 => lv_lstore_n hx hb hd rfl hl hi rfl k2) kk
  | lstore k =>
    obtain rfl : n = 2 := hn
    obtain ⟨x, st2, L2, rfl, hs, rfl⟩ := sr_sto2_inv h
    exact sr_J_sto2 hs (fun ls H locs hi hl k2 => lv_lstore hx hb hd hl hi rfl k2) kk
  | aload_n k =>
    obtain rfl : n = 1 := hn
    obtain ⟨x, hx1, rfl⟩ := sr_ld3_inv h
    intro hl0 ls H locs hl hP hS
    exact lv_aload_n hx hb hd rfl (sr_lc_at hl hx1) (kk hl0 ls H locs hl hP hS)
  | aload k =>
    obtain rfl : n = 2 := hn
    obtain ⟨x, hx1, rfl⟩ := sr_ld3_inv h
    intro hl0 ls H locs hl hP hS
    exact lv_aload hx hb hd (sr_lc_at hl hx1) (kk hl0 ls H locs hl hP hS)
  | astore_n k =>
    obtain rfl : n = 1 := hn
    obtain ⟨x, st2, L2, rfl, hs, rfl⟩ := sr_sto3_inv h
    exact sr_J_sto1 hs (fun ls H locs hi hl k2 => lv_astore_n hx hb hd rfl hl hi rfl k2) kk
  | astore k =>
    obtain rfl : n = 2 := hn
    obtain ⟨x, st2, L2, rfl, hs, rfl⟩ := sr_sto3_inv h
    exact sr_J_sto1 hs (fun ls H locs hi hl k2 => lv_astore hx hb hd hl hi rfl k2) kk
  | iinc i v =>
    obtain rfl : n = 3 := hn
    obtain ⟨x, L2, hx1, hs, rfl⟩ := sr_inc_inv h
    refine sr_J_sto1 hs (fun ls H locs hi hl k2 => ?_) kk
    obtain ⟨q, hq⟩ := List.getElem?_of_mem (sr_lc_mem.mpr ⟨_, hx1, rfl⟩ : (i, Value.int x) ∈ sr_lc ad L)
    exact lv_iinc hx hb hd hl hq rfl hi rfl k2
  | iadd =>
    obtain rfl : n = 1 := hn
    obtain ⟨x, y, st2, rfl, rfl⟩ := sr_ii_inv h
    intro hl0 ls H locs hl hP hS
    exact lv_iadd hx hb hd (kk hl0 ls H locs hl hP hS)
  | isub =>
    obtain rfl : n = 1 := hn
    obtain ⟨x, y, st2, rfl, rfl⟩ := sr_ii_inv h
    intro hl0 ls H locs hl hP hS
    exact lv_isub hx hb hd (kk hl0 ls H locs hl hP hS)
  | imul =>
    obtain rfl : n = 1 := hn
    obtain ⟨x, y, st2, rfl, rfl⟩ := sr_ii_inv h
    intro hl0 ls H locs hl hP hS
    exact lv_imul hx hb hd (kk hl0 ls H locs hl hP hS)
  | iand =>
    obtain rfl : n = 1 := hn
    obtain ⟨x, y, st2, rfl, rfl⟩ := sr_ii_inv h
    intro hl0 ls H locs hl hP hS
    exact lv_iand hx hb hd (kk hl0 ls H locs hl hP hS)
  | ior =>
    obtain rfl : n = 1 := hn
    obtain ⟨x, y, st2, rfl, rfl⟩ := sr_ii_inv h
    intro hl0 ls H locs hl hP hS
    exact lv_ior hx hb hd (kk hl0 ls H locs hl hP hS)
  | ixor =>
    obtain rfl : n = 1 := hn
    obtain ⟨x, y, st2, rfl, rfl⟩ := sr_ii_inv h
    intro hl0 ls H locs hl hP hS
    exact lv_ixor hx hb hd (kk hl0 ls H locs hl hP hS)
  | ishl =>
    obtain rfl : n = 1 := hn
    obtain ⟨x, y, st2, rfl, rfl⟩ := sr_ii_inv h
    intro hl0 ls H locs hl hP hS
    exact lv_ishl hx hb hd (kk hl0 ls H locs hl hP hS)
  | ishr =>
    obtain rfl : n = 1 := hn
    obtain ⟨x, y, st2, rfl, rfl⟩ := sr_ii_inv h
    intro hl0 ls H locs hl hP hS
    exact lv_ishr hx hb hd (kk hl0 ls H locs hl hP hS)
  | irem =>
    obtain rfl : n = 1 := hn
    obtain ⟨x, y, st2, rfl, rfl⟩ := sr_rem_inv h
    intro hl0 ls H locs hl hP hS
    exact lv_irem hx hb hd hC1 (kk hl0 ls H locs hl hP hS)
  | ladd =>
    obtain rfl : n = 1 := hn
    obtain ⟨x, y, st2, rfl, rfl⟩ := sr_ll_inv h
    intro hl0 ls H locs hl hP hS
    exact lv_ladd hx hb hd (kk hl0 ls H locs hl hP hS)
  | lsub =>
    obtain rfl : n = 1 := hn
    obtain ⟨x, y, st2, rfl, rfl⟩ := sr_ll_inv h
    intro hl0 ls H locs hl hP hS
    exact lv_lsub hx hb hd (kk hl0 ls H locs hl hP hS)
  | land =>
    obtain rfl : n = 1 := hn
    obtain ⟨x, y, st2, rfl, rfl⟩ := sr_ll_inv h
    intro hl0 ls H locs hl hP hS
    exact lv_land hx hb hd (kk hl0 ls H locs hl hP hS)
  | lor =>
    obtain rfl : n = 1 := hn
    obtain ⟨x, y, st2, rfl, rfl⟩ := sr_ll_inv h
    intro hl0 ls H locs hl hP hS
    exact lv_lor hx hb hd (kk hl0 ls H locs hl hP hS)
  | lshl =>
    obtain rfl : n = 1 := hn
    obtain ⟨x, y, st2, rfl, rfl⟩ := sr_li_inv h
    intro hl0 ls H locs hl hP hS
    exact lv_lshl hx hb hd rfl (kk hl0 ls H locs hl hP hS)
  | lshr =>
    obtain rfl : n = 1 := hn
    obtain ⟨x, y, st2, rfl, rfl⟩ := sr_li_inv h
    intro hl0 ls H locs hl hP hS
    exact lv_lshr hx hb hd rfl (kk hl0 ls H locs hl hP hS)
  | lushr =>
    obtain rfl : n = 1 := hn
    obtain ⟨x, y, st2, rfl, rfl⟩ := sr_li_inv h
    intro hl0 ls H locs hl hP hS
    exact lv_lushr hx hb hd rfl (kk hl0 ls H locs hl hP hS)
  | i2l =>
    obtain rfl : n = 1 := hn
    obtain ⟨x, st2, rfl, rfl⟩ := sr_u_inv h
    intro hl0 ls H locs hl hP hS
    exact lv_i2l hx hb hd rfl (kk hl0 ls H locs hl hP hS)
  | i2c =>
    obtain rfl : n = 1 := hn
    obtain ⟨x, st2, rfl, rfl⟩ := sr_u_inv h
    intro hl0 ls H locs hl hP hS
    exact lv_i2c hx hb hd rfl (kk hl0 ls H locs hl hP hS)
  | l2i =>
    obtain rfl : n = 1 := hn
    obtain ⟨x, st2, rfl, rfl⟩ := sr_ul_inv h
    intro hl0 ls H locs hl hP hS
    exact lv_l2i hx hb hd rfl (kk hl0 ls H locs hl hP hS)
  | lcmp =>
    obtain rfl : n = 1 := hn
    obtain ⟨x, y, st2, rfl, rfl⟩ := sr_lcmp_inv h
    intro hl0 ls H locs hl hP hS
    exact W.lcmp hx hb hd (kk hl0 ls H locs hl hP hS)
  | dup =>
    obtain rfl : n = 1 := hn
    obtain ⟨v, st2, rfl, h1, rfl⟩ := sr_dup_inv h
    intro hl0 ls H locs hl hP hS
    exact lv_dup hx hb hd (sr_cat1 h1) (kk hl0 ls H locs hl hP hS)
  | dup2 =>
    obtain rfl : n = 1 := hn
    obtain ⟨a, b, st2, rfl, ⟨h1, h2⟩, rfl⟩ := sr_dup2_inv h
    intro hl0 ls H locs hl hP hS
    exact lv_dup2_11 hx hb hd (sr_cat1 h1) (sr_cat1 h2) (kk hl0 ls H locs hl hP hS)
  | dup_x1 =>
    obtain rfl : n = 1 := hn
    obtain ⟨a, b, st2, rfl, ⟨h1, h2⟩, rfl⟩ := sr_dupx1_inv h
    intro hl0 ls H locs hl hP hS
    exact lv_dup_x1 hx hb hd (sr_cat1 h1) (sr_cat1 h2) (kk hl0 ls H locs hl hP hS)
  | dup_x2 =>
    obtain rfl : n = 1 := hn
    obtain ⟨a, b, d, st2, rfl, ⟨h1, h2, h3⟩, rfl⟩ := sr_dupx2_inv h
    intro hl0 ls H locs hl hP hS
    exact lv_dup_x2 hx hb hd (sr_cat1 h1) (sr_cat1 h2) (sr_cat1 h3) (kk hl0 ls H locs hl hP hS)
  | pop =>
    obtain rfl : n = 1 := hn
    obtain ⟨a, st2, rfl, h1, rfl⟩ := sr_pop_inv h
    intro hl0 ls H locs hl hP hS
    exact lv_pop hx hb hd (sr_cat1 h1) (kk hl0 ls H locs hl hP hS)
  | ifCond q off =>
    obtain rfl : n = 3 := hn
    obtain ⟨x, st2, rfl, rfl⟩ := sr_if_inv h
    intro hl0 ls H locs hl hP hS
    have k9 := kk hl0 ls H locs hl hP hS
    cases q with
    | eq =>
      refine lv_if_eq hx hb hd (sr_tgt_eq (of_decide_eq_true ht)) (fun hh => ?_) (fun hh => ?_)
      · rw [show sr_cc .eq x 0 = true from decide_eq_true hh] at k9
        exact k9
      · rw [show sr_cc .eq x 0 = false from decide_eq_false hh] at k9
        exact k9
    | ne =>
      refine lv_if_ne hx hb hd (sr_tgt_eq (of_decide_eq_true ht)) (fun hh => ?_) (fun hh => ?_)
      · rw [show sr_cc .ne x 0 = true from decide_eq_true hh] at k9
        exact k9
      · rw [show sr_cc .ne x 0 = false from decide_eq_false (fun z => z hh)] at k9
        exact k9
    | lt =>
      refine lv_if_lt hx hb hd (sr_tgt_eq (of_decide_eq_true ht)) (fun hh => ?_) (fun hh => ?_)
      · rw [show sr_cc .lt x 0 = true from decide_eq_true hh] at k9
        exact k9
      · rw [show sr_cc .lt x 0 = false from decide_eq_false hh] at k9
        exact k9
    | ge =>
      refine lv_if_ge hx hb hd (sr_tgt_eq (of_decide_eq_true ht)) (fun hh => ?_) (fun hh => ?_)
      · rw [show sr_cc .ge x 0 = true from decide_eq_true hh] at k9
        exact k9
      · rw [show sr_cc .ge x 0 = false from decide_eq_false hh] at k9
        exact k9
    | gt =>
      refine lv_if_gt hx hb hd (sr_tgt_eq (of_decide_eq_true ht)) (fun hh => ?_) (fun hh => ?_)
      · rw [show sr_cc .gt x 0 = true from decide_eq_true hh] at k9
        exact k9
      · rw [show sr_cc .gt x 0 = false from decide_eq_false hh] at k9
        exact k9
    | le =>
      refine lv_if_le hx hb hd (sr_tgt_eq (of_decide_eq_true ht)) (fun hh => ?_) (fun hh => ?_)
      · rw [show sr_cc .le x 0 = true from decide_eq_true hh] at k9
        exact k9
      · rw [show sr_cc .le x 0 = false from decide_eq_false hh] at k9
        exact k9
  | if_icmp q off =>
    obtain rfl : n = 3 := hn
    obtain ⟨x, y, st2, rfl, rfl⟩ := sr_icmp_inv h
    intro hl0 ls H locs hl hP hS
    have k9 := kk hl0 ls H locs hl hP hS
    cases q with
    | eq =>
      refine lv_icmp_eq hx hb hd (sr_tgt_eq (of_decide_eq_true ht)) (fun hh => ?_) (fun hh => ?_)
      · rw [show sr_cc .eq x y = true from decide_eq_true hh] at k9
        exact k9
      · rw [show sr_cc .eq x y = false from decide_eq_false hh] at k9
        exact k9
    | ne =>
      refine lv_icmp_ne hx hb hd (sr_tgt_eq (of_decide_eq_true ht)) (fun hh => ?_) (fun hh => ?_)
      · rw [show sr_cc .ne x y = true from decide_eq_true hh] at k9
        exact k9
      · rw [show sr_cc .ne x y = false from decide_eq_false (fun z => z hh)] at k9
        exact k9
    | lt =>
      refine lv_icmp_lt hx hb hd (sr_tgt_eq (of_decide_eq_true ht)) (fun hh => ?_) (fun hh => ?_)
      · rw [show sr_cc .lt x y = true from decide_eq_true hh] at k9
        exact k9
      · rw [show sr_cc .lt x y = false from decide_eq_false hh] at k9
        exact k9
    | ge =>
      refine lv_icmp_ge hx hb hd (sr_tgt_eq (of_decide_eq_true ht)) (fun hh => ?_) (fun hh => ?_)
      · rw [show sr_cc .ge x y = true from decide_eq_true hh] at k9
        exact k9
      · rw [show sr_cc .ge x y = false from decide_eq_false hh] at k9
        exact k9
    | gt =>
      refine lv_icmp_gt hx hb hd (sr_tgt_eq (of_decide_eq_true ht)) (fun hh => ?_) (fun hh => ?_)
      · rw [show sr_cc .gt x y = true from decide_eq_true hh] at k9
        exact k9
      · rw [show sr_cc .gt x y = false from decide_eq_false hh] at k9
        exact k9
    | le =>
      refine lv_icmp_le hx hb hd (sr_tgt_eq (of_decide_eq_true ht)) (fun hh => ?_) (fun hh => ?_)
      · rw [show sr_cc .le x y = true from decide_eq_true hh] at k9
        exact k9
      · rw [show sr_cc .le x y = false from decide_eq_false hh] at k9
        exact k9
  | goto off =>
    obtain rfl : n = 3 := hn
    obtain rfl := Option.some.inj h
    intro hl0 ls H locs hl hP hS
    exact lv_goto hx hb hd (sr_tgt_eq (of_decide_eq_true ht)) (kk hl0 ls H locs hl hP hS)
  | tableswitch d lo hi offs =>
    obtain ⟨x, st2, rfl, rfl⟩ := sr_sw_inv h
    have ht : (decide (0 ≤ (pc : Int) + d) && offs.toList.all (fun off => decide (0 ≤ (pc : Int) + off)) && decide (hi - lo + 1 ≤ (offs.size : Int))) = true := ht
    simp only [Bool.and_eq_true, decide_eq_true_eq, List.all_eq_true] at ht
    obtain ⟨⟨t1, t2⟩, t3⟩ := ht
    by_cases hc : x.toInt < lo ∨ hi < x.toInt
    · intro hl0 ls H locs hl hP hS
      have k9 := kk hl0 ls H locs hl hP hS
      rw [show sr_swt d lo hi offs x.toInt = d from if_pos hc] at k9
      exact lv_tableOut hx hb hd hc (sr_tgt_eq t1) k9
    · have hlt : (x.toInt - lo).toNat < offs.size := by omega
      have ho : offs[(x.toInt - lo).toNat]? = some offs[(x.toInt - lo).toNat] := Array.getElem?_eq_getElem hlt
      intro hl0 ls H locs hl hP hS
      have k9 := kk hl0 ls H locs hl hP hS
      rw [show sr_swt d lo hi offs x.toInt = offs[(x.toInt - lo).toNat] from by unfold sr_swt; rw [if_neg hc, ho]; rfl] at k9
      exact lv_tableIn hx hb hd (fun z => hc (Or.inl z)) (fun z => hc (Or.inr z)) ho (sr_tgt_eq (t2 _ (Array.getElem_mem_toList _))) k9
  | getfield k =>
    obtain rfl : n = 3 := hn
    exact sr_J_getf hx hb hts hown hK hcs (hF k) hd h hC1 kk
  | putfield k =>
    obtain rfl : n = 3 := hn
    exact sr_J_putf hx hb hts hown hK hcs hD (hF k) hW hd h hC1 kk
  | iaload =>
    obtain rfl : n = 1 := hn
    exact sr_J_iald hx hb hK hcs hsep hty hto hKT hd h hC1 kk
  | baload =>
    obtain rfl : n = 1 := hn
    exact sr_J_zald hx hb hK hcs hsep hty hto hKT hd h hC1 kk
  | caload =>
    obtain rfl : n = 1 := hn
    exact sr_J_cald hx hb hK hcs hsep hty hto hKT hd h hC1 kk
  | laload =>
    obtain rfl : n = 1 := hn
    exact sr_J_lald hx hb hK hcs hsep hty hto hKT hd h hC1 kk
  | aaload =>
    obtain rfl : n = 1 := hn
    exact sr_J_aald hx hb hK hcs hsep hty hto hKT hd h hC1 kk
  | iastore =>
    obtain rfl : n = 1 := hn
    exact sr_J_iast hx hb hK hcs hsep hD hty hto hd h hC1 kk
  | bastore =>
    obtain rfl : n = 1 := hn
    exact sr_J_zast hx hb hK hcs hsep hD hty hto hd h hC1 kk
  | castore =>
    obtain rfl : n = 1 := hn
    exact sr_J_cast hx hb hK hcs hsep hD hty hto hd h hC1 kk
  | lastore =>
    obtain rfl : n = 1 := hn
    exact sr_J_last hx hb hK hcs hsep hD hty hto hd h hC1 kk
  | arraylength =>
    obtain rfl : n = 1 := hn
    obtain ⟨g, i, n, f, st2, rfl, hk, rfl⟩ := sr_len_inv h
    have hC1 : i = 0 := hC1
    subst hC1
    intro hl0 ls H locs hl hP hS
    exact va_tlen hx hb (hKT g n f hk) hS rfl hd (kk hl0 ls H locs hl hP hS)
  | invokevirtual k =>
    obtain rfl : n = 3 := hn
    exact sr_J_callV hx hb hml hts hown hK hcs hD hA hroom hcm hcb (hCV k rfl) hd h hC1 kk
  | invokestatic k =>
    obtain rfl : n = 3 := hn
    exact sr_J_callS hx hb hml hts hown hK hD hA hroom hcm hcb (hCS k rfl) hd h hC1 kk
  | _ => exact absurd (show (none : sr_O) = some s1 from h) (fun h => nomatch h)
theorem sr_fin_J {E : sr_E} {ins : Jvm.ClassFile.Instr} {n : Nat} {s0 : sr_S} {C9 : Prop} {r : Option sr_V} {μ' : sr_M} (hx : p.tables.exec = Jvm.exec) (hb : c.code = cc) (hret : meth.sig.returnType = E.2.2.2.2) (hlk : meth.locks = false)
    (hd : decode cc s0.1 = .ok (ins, n)) (hn : n = sr_il ins n) (h : sr_fin E ins s0 = some (C9, r, μ')) (hC : C9) : sr_J p l e R s m args below meth c cells slots (MQ below (fun _ => sr_Qc D cl (sr_wd E.1 cA cs ad) ad r μ' A) args s cells slots A) nL D cl (sr_wd E.1 cA cs ad) ad A s0 := by
  obtain ⟨pc, L, st, μ⟩ := s0
  unfold sr_fin at h
  split at h
  · rename_i e1 e2
    cases h
    obtain rfl : n = 1 := hn
    intro hl0 ls H locs hl hP hS
    dsimp only at e1 hP ⊢
    rw [e1]
    exact W.iret (Qc := fun _ => sr_Qc D cl (sr_wd E.1 cA cs ad) ad _ _ A) hx hb (hret.trans e2) (fun t ht _ => ⟨⟨rfl, by rw [ht]; exact hP⟩, hS.F ht⟩) hS.2.2 hd hlk
  · rename_i e1 e2
    cases h
    obtain rfl : n = 1 := hn
    intro hl0 ls H locs hl hP hS
    dsimp only at e1 hP ⊢
    rw [e1]
    exact W.zret (Qc := fun _ => sr_Qc D cl (sr_wd E.1 cA cs ad) ad _ _ A) hx hb (hret.trans e2) (sr_nar_b hC).1 (fun t ht _ => ⟨⟨rfl, by rw [ht]; exact hP⟩, hS.F ht⟩) hS.2.2 hd hlk
  · rename_i e1 e2
    cases h
    obtain rfl : n = 1 := hn
    intro hl0 ls H locs hl hP hS
    dsimp only at e1 hP ⊢
    rw [e1]
    exact W.lret (Qc := fun _ => sr_Qc D cl (sr_wd E.1 cA cs ad) ad _ _ A) hx hb (hret.trans e2) (fun t ht _ => ⟨⟨rfl, by rw [ht]; exact hP⟩, hS.F ht⟩) hS.2.2 hd hlk
  · rename_i e1 e2
    cases h
    obtain rfl : n = 1 := hn
    intro hl0 ls H locs hl hP hS
    dsimp only at e1 hP ⊢
    rw [e1]
    exact W.vret (Qc := fun _ => sr_Qc D cl (sr_wd E.1 cA cs ad) ad _ _ A) hx hb (hret.trans e2) (fun t ht _ => ⟨⟨rfl, by rw [ht]; exact hP⟩, hS.F ht⟩) hS.2.2 hd hlk
  · cases h
theorem sr_J_run {E : sr_E} {r : Option sr_V} {μ' : sr_M} (hx : p.tables.exec = Jvm.exec) (hb : c.code = cc) (hml : c.maxLocals = nL) (hts : ∀ w ∈ Ts, w.before args s = true) (hown : s.vm.findClass own = some m.cls) (hK : va_K D cl tys s) (hD : ∀ μ, va_D A (sr_wd E.1 cA cs ad μ)) (hA : ∀ q, s.heap.size ≤ q → A q) (hroom : cells ≤ R.cells ∧ slots ≤ R.slots)
    (hcm : ∀ (A1 : Nat → Prop) (U : State) (H : Heap), (∀ q, A1 q → A q) → s.WarmedH U.vm → (∀ q : Nat, q < s.heap.size → ¬ A q → H[q]? = s.heap[q]?) → cy A1 U H) (hcb : ∀ A1 U g mk a H, cy A1 U H → cy A1 (State.calling U g mk a) H)
    (hcs : ∀ g i, ((E.1.1 g).isSome = true ∨ (E.1.2.1 g).isSome = true) → i < E.1.2.2 g → (g, i) ∈ cs) (hsep : ∀ g, (E.1.2.1 g).isSome = true → E.1.1 g = none) (hty : ∀ g k n t hh, E.1.2.1 g = some (k, n, t, hh) → ¬ k = 3 → tys[t]? = some (cA t, sr_kt k)) (hto : ∀ g n t hh, E.1.2.1 g = some (3, n, t, hh) → ∃ C, tys[t]? = some (cA t, .object C)) (hW : ∀ g ci fs, E.1.1 g = some (ci, fs) → sr_PO cl ci fs)
    (hKT : ∀ g n f, E.2.1 g = some (n, f) → va_T .int (ad g 0) n (fun j => .int (f j)) A s s.heap) (hF : ∀ k ci j, E.2.2.1.1 k = some (ci, j) → sr_FO own cl Ts s k ci j) (hLi : ∀ k v, E.2.2.1.2.1 k = some v → Cond.constant own k v ∈ Ts) (hLl : ∀ k v, E.2.2.1.2.2.1 k = some v → Cond.constantLong own k v ∈ Ts) (hZ : ∀ k g, E.2.2.1.2.2.2.1 k = some g → ∃ C nm d, va_Z C nm d (.ref (ad g 0)) A s s.heap ∧ Cond.fieldLink own k C nm d ∈ Ts)
    (hCS : ∀ pc n k, E.2.2.2.1 pc = some (.invokestatic k, n) → ∀ n f, E.2.2.1.2.2.2.2 k = some (0, n, f) → sr_CS l R s args own D cl tys (sr_wd E.1 cA cs ad) cy ad WS k n f) (hCV : ∀ pc n k, E.2.2.2.1 pc = some (.invokevirtual k, n) → ∀ ci n f, E.2.2.1.2.2.2.2 k = some (ci + 1, n, f) → sr_CV l R s args own D cl tys (sr_wd E.1 cA cs ad) cy ad WS k ci n f)
    (hret : meth.sig.returnType = E.2.2.2.2) (hlk : meth.locks = false) (hdec : ∀ pc ins n, E.2.2.2.1 pc = some (ins, n) → decode cc pc = .ok (ins, n) ∧ n = sr_il ins n ∧ sr_tok pc ins = true) : ∀ (k : Nat) (s0 : sr_S), sr_AWn E (fun x => x = (r, μ')) k s0 → sr_J p l e R s m args below meth c cells slots (MQ below (fun _ => sr_Qc D cl (sr_wd E.1 cA cs ad) ad r μ' A) args s cells slots A) nL D cl (sr_wd E.1 cA cs ad) ad A s0
  | 0, _, h => h.elim
  | k + 1, s0, h => by
    unfold sr_AWn at h
    rcases h with h | ⟨L0, hs, h⟩
    · split at h
      · exact h.elim
      · rename_i ins n hc
        obtain ⟨h1, h2, h3⟩ := hdec _ _ _ hc
        split at h
        · rename_i s1 hs
          have ih := sr_J_run hx hb hml hts hown hK hD hA hroom hcm hcb hcs hsep hty hto hW hKT hF hLi hLl hZ hCS hCV hret hlk hdec k s1.2 h.2
          obtain ⟨pc, L, st, μ⟩ := s0
          exact sr_J_step hx hb hml hts hown hK hD hA hroom hcm hcb hcs hsep hty hto hW hKT hF hLi hLl hZ (fun k e => by subst e; exact hCS _ _ k hc) (fun k e => by subst e; exact hCV _ _ k hc) h1 h2 h3 hs h.1 ih
        · split at h
          · rename_i y hy
            obtain ⟨C9, r9, m9⟩ := y
            obtain ⟨hC, e9⟩ := h
            cases e9
            exact sr_fin_J hx hb hret hlk h1 h2 hy hC
          · exact h.elim
    · have ih := sr_J_run hx hb hml hts hown hK hD hA hroom hcm hcb hcs hsep hty hto hW hKT hF hLi hLl hZ hCS hCV hret hlk hdec k _ h
      intro hl0 ls H locs hl hP hS
      exact ih ((sr_sub_len _ _ hs).trans hl0) ls H locs (sr_has hl (fun q hq => by
        obtain ⟨v, h1, h2⟩ := sr_lc_mem.mp hq
        exact sr_lc_mem.mpr ⟨v, sr_sub_get _ _ hs _ _ h1, h2⟩)) hP hS
end SrRun
