/-! THE CLAIM OUT OF ONE WALK OF THE LAW'S BODY. Your part is whole_start (and what it stands on); all else here is the same for every law, but numbers. -/
def R_law : String := "SuiteRunnerLaw"
def lw_P (b : Addr) (xs : List Int32) (args : Array Value) (s : State) : Prop := args = #[.ref b] ∧ s.IntsAt b xs ∧ xs.length ≤ 3072 ∧ (Jvm.Cond.and given_1 narrow_1).before args s = true
def lw_Q (_ : Array Value) (s : State) (o : Outcome) (t : State) : Prop := o = .returned (some (.int 1)) ∧ Framed s o t [] 600000 7302249
def lw_Z (below : List Frame) (a : Array Value) (s : State) : State → Prop := fun t => ∃ o, t.status = .running ∧ Ended t below o ∧ lw_Q a s o t
/-- the law's own end, with 1 on the stack, nothing written that was there before, its room as the claim has it -/
theorem lw_ret {p : Program} {l : Launch} {e : Env} {s : State} {m : MethodId} {below : List Frame} {meth : Method} {c : Code} {b : Nat} (hx : p.tables.exec = Jvm.exec) (hb : c.code = code) (hr : meth.sig.returnType = ret) (hlocks : meth.locks = false) {pc : Nat} {H : Heap} {ls : Array Slot} (hdg : decode code pc = .ok (.ireturn, 1)) : W p l e room_1 s m #[Value.ref b] below meth c H [] 600000 7302249 (lw_Z below #[Value.ref b] s) (F0 m pc ls [.int 1]) := by
  intro T hT X
  obtain ⟨fs, hret, hrun, hended, hW, hframe⟩ := X.leave (v := some (.int 1)) (hlocks := hlocks) (fun h => by rw [hr] at h; cases h)
  have hmeth' : T.vm.method? m = some meth := X.method'
  refine ⟨T.setFrames fs, ?_, .returned (some (.int 1)), hrun, hended, rfl, ⟨_, rfl⟩, hW, hframe⟩
  jvm_step X.here [X.here.top, hx, hb, hdg, hmeth', hr, ret, narrow_b1]
  (try refine ⟨rfl, ?_⟩); (try refine ⟨rfl, ?_⟩)
  first | (intro acts; rw [hret _ acts rfl rfl rfl]) | rw [hret _ _ rfl rfl rfl]
  exact Steps.refl _
/-- what holds at the law's entry: the machine, the code, the tables' words (any of lw_tbl by 'hts w (by decide +kernel)'), the script of L ints xs at the cell b, what the Statement gives of the start (any of its parts by flat_of_before) -/
def lw_At (p : Program) (s : State) (m : MethodId) (meth : Method) (c : Code) (b L : Nat) (xs : Nat → Int32) : Prop :=
  p.tables.exec = Jvm.exec ∧ c.code = code ∧ meth.sig.returnType = ret ∧ c.maxLocals = 4 ∧ s.vm.findClass R_law = some m.cls ∧ (∀ w ∈ lw_tbl, w.before #[Value.ref b] s = true) ∧ va_X b L xs s s.heap ∧ b < s.heap.size ∧ meth.locks = false ∧ (Jvm.Cond.and given_1 narrow_1).before #[Value.ref b] s = true
/-! the classes as the start has them -/
theorem sr_arr_prim {s : State} {args : Array Value} {ty : FieldType} (h : (Cond.arrayClass ty).before args s = true) : ∃ c, s.vm.findClass ("[" ++ ty.toString) = some c ∧ ArrOfT s c ty := by
  obtain ⟨c, k, comp, h1, h2, h3⟩ := Cond.arrayClass_spec h
  exact ⟨c, h1, fun n z => ⟨fun q hq => (by cases hq), k, h2, comp, h3⟩⟩
theorem sr_arr_obj {s : State} {args : Array Value} {C : String} (h : (Cond.arrayOver (.object C)).before args s = true) : ∃ c, va_RA s c (.object C) ∧ ArrOfT s c (.object C) := by
  obtain ⟨comp, c, k, h1, -, h3, h4, h5⟩ := Cond.arrayOver_spec h
  exact ⟨c, ⟨k, comp, h3, h4, h1, h5⟩, fun n z => ⟨fun q hq => (by cases hq), k, h3, comp, h4⟩⟩
set_option maxRecDepth 20000 in
theorem sr_K_start {s : State} {args : Array Value} (hts : ∀ w ∈ sr_WS, w.before args s = true) (hao : ∀ C ∈ sr_ao, va_AO C s) : ∃ (D : va_G) (cA : Nat → ClassId), va_K D sr_cl (sr_tys cA) s := by
  obtain ⟨c0, i0, k0⟩ := u_known (n := 3) hts sr_in0 (hts _ (sr_ws 52 rfl rfl))
  obtain ⟨c1, i1, k1⟩ := u_known (n := 14) hts sr_in1 (hts _ (sr_ws 60 rfl rfl))
  obtain ⟨c2, i2, k2⟩ := u_known (n := 6) hts sr_in2 (hts _ (sr_ws 66 rfl rfl))
  obtain ⟨c3, i3, k3⟩ := u_known (n := 5) hts sr_in3 (hts _ (sr_ws 75 rfl rfl))
  obtain ⟨c4, i4, k4⟩ := u_known (n := 5) hts sr_in4 (hts _ (sr_ws 116 rfl rfl))
  obtain ⟨c5, i5, k5⟩ := u_known (n := 5) hts sr_in5 (hts _ (sr_ws 169 rfl rfl))
  obtain ⟨c6, i6, k6⟩ := u_known (n := 2) hts sr_in6 (hts _ (sr_ws 197 rfl rfl))
  obtain ⟨c7, i7, k7⟩ := u_known (n := 10) hts sr_in7 (hts _ (sr_ws 212 rfl rfl))
  obtain ⟨c8, i8, k8⟩ := u_known (n := 6) hts sr_in8 (hts _ (sr_ws 306 rfl rfl))
  obtain ⟨c9, i9, k9⟩ := u_known (n := 2) hts sr_in9 (hts _ (sr_ws 312 rfl rfl))
  obtain ⟨c10, i10, k10⟩ := u_known (n := 40) hts sr_in10 (hts _ (sr_ws 664 rfl rfl))
  obtain ⟨a0, r0, q0⟩ := sr_arr_prim (hts _ (sr_ws 115 rfl rfl))
  obtain ⟨a1, r1, q1⟩ := sr_arr_prim (hts _ (sr_ws 791 rfl rfl))
  obtain ⟨a2, r2, q2⟩ := sr_arr_prim (hts _ (sr_ws 790 rfl rfl))
  obtain ⟨a3, r3, q3⟩ := sr_arr_prim (hts _ (sr_ws 324 rfl rfl))
  obtain ⟨a4, r4, q4⟩ := sr_arr_obj (args := args) (va_AO.use (hao "SuiteRunner$TestMethod" (by decide)))
  obtain ⟨a5, r5, q5⟩ := sr_arr_obj (args := args) (va_AO.use (hao "SuiteRunner$Configuration" (by decide)))
  obtain ⟨a6, r6, q6⟩ := sr_arr_obj (args := args) (va_AO.use (hao "SuiteRunner$Progress" (by decide)))
  refine ⟨(fun c => match c with
    | 0 => c0
    | 1 => c1
    | 2 => c2
    | 3 => c3
    | 4 => c4
    | 5 => c5
    | 6 => c6
    | 7 => c7
    | 8 => c8
    | 9 => c9
    | _ => c10, fun c => match c with
    | 0 => i0
    | 1 => i1
    | 2 => i2
    | 3 => i3
    | 4 => i4
    | 5 => i5
    | 6 => i6
    | 7 => i7
    | 8 => i8
    | 9 => i9
    | _ => i10), (fun t => match t with
    | 0 => a0
    | 1 => a1
    | 2 => a2
    | 3 => a3
    | 4 => a4
    | 5 => a5
    | _ => a6), fun c q h => ?_, fun k q h => ?_⟩
  · match c, h with
    | 0, h => obtain rfl := Option.some.inj h; exact k0
    | 1, h => obtain rfl := Option.some.inj h; exact k1
    | 2, h => obtain rfl := Option.some.inj h; exact k2
    | 3, h => obtain rfl := Option.some.inj h; exact k3
    | 4, h => obtain rfl := Option.some.inj h; exact k4
    | 5, h => obtain rfl := Option.some.inj h; exact k5
    | 6, h => obtain rfl := Option.some.inj h; exact k6
    | 7, h => obtain rfl := Option.some.inj h; exact k7
    | 8, h => obtain rfl := Option.some.inj h; exact k8
    | 9, h => obtain rfl := Option.some.inj h; exact k9
    | 10, h => obtain rfl := Option.some.inj h; exact k10
    | c + 11, h => exact nomatch (show (none : Option vw_C) = some q from h)
  · match k, h with
    | 0, h => obtain rfl := Option.some.inj h; exact ⟨q0, r0⟩
    | 1, h => obtain rfl := Option.some.inj h; exact ⟨q1, r1⟩
    | 2, h => obtain rfl := Option.some.inj h; exact ⟨q2, r2⟩
    | 3, h => obtain rfl := Option.some.inj h; exact ⟨q3, r3⟩
    | 4, h => obtain rfl := Option.some.inj h; exact ⟨q4, r4⟩
    | 5, h => obtain rfl := Option.some.inj h; exact ⟨q5, r5⟩
    | 6, h => obtain rfl := Option.some.inj h; exact ⟨q6, r6⟩
    | k + 7, h => exact nomatch (show (none : Option (ClassId × FieldType)) = some q from h)
theorem sr_st_FIRST {s : State} {b : Nat} (hgv : (Jvm.Cond.and given_1 narrow_1).before #[Value.ref b] s = true) {A : Nat → Prop} (hA : ∀ q : Nat, q < s.heap.size → ¬ A q) : ∃ t, (Term.static "SuiteRunner$TestMethod" "FIRST" "[I").eval #[Value.ref b] s none [] s = some (.ref t) ∧ va_T .int t 9 (fun j => .int (sr_K50 j)) A s s.heap ∧ (Term.length (Term.static "SuiteRunner$TestMethod" "FIRST" "[I")).eval #[Value.ref b] s none [] s = some (.int 9) := by
  have hs := flat_of_before _ hgv
  have hlen := va_eqt (hs (Cond.eq (Term.length (Term.static "SuiteRunner$TestMethod" "FIRST" "[I")) (.int 9)) (by decide +kernel))
  have e0 := va_eqt (hs (Cond.eq (Term.elem (Term.static "SuiteRunner$TestMethod" "FIRST" "[I") (.int 0)) (.int (0))) (by decide +kernel))
  have e1 := va_eqt (hs (Cond.eq (Term.elem (Term.static "SuiteRunner$TestMethod" "FIRST" "[I") (.int 1)) (.int (0))) (by decide +kernel))
  have e2 := va_eqt (hs (Cond.eq (Term.elem (Term.static "SuiteRunner$TestMethod" "FIRST" "[I") (.int 2)) (.int (0))) (by decide +kernel))
  have e3 := va_eqt (hs (Cond.eq (Term.elem (Term.static "SuiteRunner$TestMethod" "FIRST" "[I") (.int 3)) (.int (1))) (by decide +kernel))
  have e4 := va_eqt (hs (Cond.eq (Term.elem (Term.static "SuiteRunner$TestMethod" "FIRST" "[I") (.int 4)) (.int (-1))) (by decide +kernel))
  have e5 := va_eqt (hs (Cond.eq (Term.elem (Term.static "SuiteRunner$TestMethod" "FIRST" "[I") (.int 5)) (.int (1))) (by decide +kernel))
  have e6 := va_eqt (hs (Cond.eq (Term.elem (Term.static "SuiteRunner$TestMethod" "FIRST" "[I") (.int 6)) (.int (0))) (by decide +kernel))
  have e7 := va_eqt (hs (Cond.eq (Term.elem (Term.static "SuiteRunner$TestMethod" "FIRST" "[I") (.int 7)) (.int (100))) (by decide +kernel))
  have e8 := va_eqt (hs (Cond.eq (Term.elem (Term.static "SuiteRunner$TestMethod" "FIRST" "[I") (.int 8)) (.int (0))) (by decide +kernel))
  obtain ⟨t, h1, h2⟩ := va_Tof (f := fun j => .int (sr_K50 j)) (A := A) (N := 9) (by decide) (hs (Cond.arrayOf (Term.static "SuiteRunner$TestMethod" "FIRST" "[I") .int) (by decide +kernel)) hlen (fun j hj => by
    match j, hj with
    | 0, _ => exact e0
    | 1, _ => exact e1
    | 2, _ => exact e2
    | 3, _ => exact e3
    | 4, _ => exact e4
    | 5, _ => exact e5
    | 6, _ => exact e6
    | 7, _ => exact e7
    | 8, _ => exact e8
    | j + 9, h => exact absurd h (by omega)) hA
  exact ⟨t, h1, h2, hlen⟩
theorem sr_st_LEAST {s : State} {b : Nat} (hgv : (Jvm.Cond.and given_1 narrow_1).before #[Value.ref b] s = true) {A : Nat → Prop} (hA : ∀ q : Nat, q < s.heap.size → ¬ A q) : ∃ t, (Term.static "SuiteRunner$TestMethod" "LEAST" "[I").eval #[Value.ref b] s none [] s = some (.ref t) ∧ va_T .int t 9 (fun j => .int (sr_K51 j)) A s s.heap ∧ (Term.length (Term.static "SuiteRunner$TestMethod" "LEAST" "[I")).eval #[Value.ref b] s none [] s = some (.int 9) := by
  have hs := flat_of_before _ hgv
  have hlen := va_eqt (hs (Cond.eq (Term.length (Term.static "SuiteRunner$TestMethod" "LEAST" "[I")) (.int 9)) (by decide +kernel))
  have e0 := va_eqt (hs (Cond.eq (Term.elem (Term.static "SuiteRunner$TestMethod" "LEAST" "[I") (.int 0)) (.int (-9))) (by decide +kernel))
  have e1 := va_eqt (hs (Cond.eq (Term.elem (Term.static "SuiteRunner$TestMethod" "LEAST" "[I") (.int 1)) (.int (0))) (by decide +kernel))
  have e2 := va_eqt (hs (Cond.eq (Term.elem (Term.static "SuiteRunner$TestMethod" "LEAST" "[I") (.int 2)) (.int (0))) (by decide +kernel))
  have e3 := va_eqt (hs (Cond.eq (Term.elem (Term.static "SuiteRunner$TestMethod" "LEAST" "[I") (.int 3)) (.int (1))) (by decide +kernel))
  have e4 := va_eqt (hs (Cond.eq (Term.elem (Term.static "SuiteRunner$TestMethod" "LEAST" "[I") (.int 4)) (.int (-1))) (by decide +kernel))
  have e5 := va_eqt (hs (Cond.eq (Term.elem (Term.static "SuiteRunner$TestMethod" "LEAST" "[I") (.int 5)) (.int (1))) (by decide +kernel))
  have e6 := va_eqt (hs (Cond.eq (Term.elem (Term.static "SuiteRunner$TestMethod" "LEAST" "[I") (.int 6)) (.int (0))) (by decide +kernel))
  have e7 := va_eqt (hs (Cond.eq (Term.elem (Term.static "SuiteRunner$TestMethod" "LEAST" "[I") (.int 7)) (.int (1))) (by decide +kernel))
  have e8 := va_eqt (hs (Cond.eq (Term.elem (Term.static "SuiteRunner$TestMethod" "LEAST" "[I") (.int 8)) (.int (-2147483648))) (by decide +kernel))
  obtain ⟨t, h1, h2⟩ := va_Tof (f := fun j => .int (sr_K51 j)) (A := A) (N := 9) (by decide) (hs (Cond.arrayOf (Term.static "SuiteRunner$TestMethod" "LEAST" "[I") .int) (by decide +kernel)) hlen (fun j hj => by
    match j, hj with
    | 0, _ => exact e0
    | 1, _ => exact e1
    | 2, _ => exact e2
    | 3, _ => exact e3
    | 4, _ => exact e4
    | 5, _ => exact e5
    | 6, _ => exact e6
    | 7, _ => exact e7
    | 8, _ => exact e8
    | j + 9, h => exact absurd h (by omega)) hA
  exact ⟨t, h1, h2, hlen⟩
theorem sr_st_MOST {s : State} {b : Nat} (hgv : (Jvm.Cond.and given_1 narrow_1).before #[Value.ref b] s = true) {A : Nat → Prop} (hA : ∀ q : Nat, q < s.heap.size → ¬ A q) : ∃ t, (Term.static "SuiteRunner$TestMethod" "MOST" "[I").eval #[Value.ref b] s none [] s = some (.ref t) ∧ va_T .int t 9 (fun j => .int (sr_K52 j)) A s s.heap ∧ (Term.length (Term.static "SuiteRunner$TestMethod" "MOST" "[I")).eval #[Value.ref b] s none [] s = some (.int 9) := by
  have hs := flat_of_before _ hgv
  have hlen := va_eqt (hs (Cond.eq (Term.length (Term.static "SuiteRunner$TestMethod" "MOST" "[I")) (.int 9)) (by decide +kernel))
  have e0 := va_eqt (hs (Cond.eq (Term.elem (Term.static "SuiteRunner$TestMethod" "MOST" "[I") (.int 0)) (.int (9))) (by decide +kernel))
  have e1 := va_eqt (hs (Cond.eq (Term.elem (Term.static "SuiteRunner$TestMethod" "MOST" "[I") (.int 1)) (.int (63))) (by decide +kernel))
  have e2 := va_eqt (hs (Cond.eq (Term.elem (Term.static "SuiteRunner$TestMethod" "MOST" "[I") (.int 2)) (.int (1))) (by decide +kernel))
  have e3 := va_eqt (hs (Cond.eq (Term.elem (Term.static "SuiteRunner$TestMethod" "MOST" "[I") (.int 3)) (.int (4))) (by decide +kernel))
  have e4 := va_eqt (hs (Cond.eq (Term.elem (Term.static "SuiteRunner$TestMethod" "MOST" "[I") (.int 4)) (.int (3))) (by decide +kernel))
  have e5 := va_eqt (hs (Cond.eq (Term.elem (Term.static "SuiteRunner$TestMethod" "MOST" "[I") (.int 5)) (.int (9))) (by decide +kernel))
  have e6 := va_eqt (hs (Cond.eq (Term.elem (Term.static "SuiteRunner$TestMethod" "MOST" "[I") (.int 6)) (.int (3))) (by decide +kernel))
  have e7 := va_eqt (hs (Cond.eq (Term.elem (Term.static "SuiteRunner$TestMethod" "MOST" "[I") (.int 7)) (.int (100))) (by decide +kernel))
  have e8 := va_eqt (hs (Cond.eq (Term.elem (Term.static "SuiteRunner$TestMethod" "MOST" "[I") (.int 8)) (.int (2147483647))) (by decide +kernel))
  obtain ⟨t, h1, h2⟩ := va_Tof (f := fun j => .int (sr_K52 j)) (A := A) (N := 9) (by decide) (hs (Cond.arrayOf (Term.static "SuiteRunner$TestMethod" "MOST" "[I") .int) (by decide +kernel)) hlen (fun j hj => by
    match j, hj with
    | 0, _ => exact e0
    | 1, _ => exact e1
    | 2, _ => exact e2
    | 3, _ => exact e3
    | 4, _ => exact e4
    | 5, _ => exact e5
    | 6, _ => exact e6
    | 7, _ => exact e7
    | 8, _ => exact e8
    | j + 9, h => exact absurd h (by omega)) hA
  exact ⟨t, h1, h2, hlen⟩
theorem sr_len9 {s : State} {args : Array Value} {tm : Term} {t : Nat} {cell : Cell} (ht : tm.eval args s none [] s = some (.ref t)) (hc : s.arrayAt? t = some cell) (hlen : (Term.length tm).eval args s none [] s = some (.int 9)) : cell.slots.size = 9 := by
  simp only [Term.eval, ht, hc, Option.bind_eq_bind, Option.bind_some] at hlen
  split at hlen
  · rename_i h
    have e : cell.slots.size.toInt32 = 9 := by
      injection hlen with h2
      injection h2
    have e2 := congrArg Int32.toNatClampNeg e
    rw [show cell.slots.size.toInt32 = nI cell.slots.size from rfl, nI_clamp h] at e2
    exact e2
  · cases hlen
set_option maxRecDepth 20000 in
theorem sr_ci_start {s : State} {b a0 f : Nat} {l m : Nat} (hts : ∀ w ∈ lw_tbl, w.before #[Value.ref b] s = true) (hgv : (Jvm.Cond.and given_1 narrow_1).before #[Value.ref b] s = true) (hF : ∀ t cell, (Term.static "SuiteRunner$TestMethod" "FIRST" "[I").eval #[Value.ref b] s none [] s = some (.ref t) → s.heap[t]? = some cell → s.vm.findClass "[I" = some cell.cls) : ∃ f l m, ∀ (A : Nat → Prop), (∀ q : Nat, q < s.heap.size → ¬ A q) → sr_ci (sr_adL s.heap.size b f l m) A s s.heap := by
  have hWS : ∀ w ∈ sr_WS, w.before #[Value.ref b] s = true := fun w h => hts w (List.mem_filter.mp h).1
  obtain ⟨f, f1, -, f3⟩ := sr_st_FIRST hgv (A := fun _ => False) (fun _ _ h => h)
  obtain ⟨l, l1, -, l3⟩ := sr_st_LEAST hgv (A := fun _ => False) (fun _ _ h => h)
  obtain ⟨m, m1, -, m3⟩ := sr_st_MOST hgv (A := fun _ => False) (fun _ _ h => h)
  refine ⟨f, l, m, fun A hA => ?_⟩
  obtain ⟨f', g1, g2, -⟩ := sr_st_FIRST hgv hA
  obtain ⟨l', n1, n2, -⟩ := sr_st_LEAST hgv hA
  obtain ⟨m', o1, o2, -⟩ := sr_st_MOST hgv hA
  cases f1.symm.trans g1
  cases l1.symm.trans n1
  cases m1.symm.trans o1
  refine ⟨⟨fun w hw => ?_, fun z hz => ?_, fun g n k hk => ?_⟩, fun C hC => ?_, ?_, ?_⟩
  · exact va_tabs (sr_isN_tab (sr_NW_ok w hw)) rfl (hts w (List.mem_filter.mp hw).1)
  · rcases List.mem_cons.mp hz with rfl | hz
    · exact va_Zof (hts _ (List.mem_of_getElem? (i := 81) rfl)) (hWS _ (sr_ws 43 rfl rfl)) f1 hA
    · rcases List.mem_cons.mp hz with rfl | hz
      · exact va_Zof (hts _ (List.mem_of_getElem? (i := 391) rfl)) (hWS _ (sr_ws 43 rfl rfl)) l1 hA
      · rcases List.mem_cons.mp hz with rfl | hz
        · exact va_Zof (hts _ (List.mem_of_getElem? (i := 393) rfl)) (hWS _ (sr_ws 43 rfl rfl)) m1 hA
        · exact absurd hz List.not_mem_nil
  · unfold sr_KS at hk
    split at hk
    · cases hk
      exact g2
    · cases hk
      exact n2
    · cases hk
      exact o2
    · cases hk
  · have h0 : C = "SuiteRunner$TestMethod" ∨ C = "SuiteRunner$Configuration" ∨ C = "SuiteRunner$Progress" := by
      unfold sr_ao at hC
      simpa using hC
    rcases h0 with rfl | rfl | rfl
    · exact va_AO.of (hts _ (List.mem_of_getElem? (i := 72) rfl))
    · exact va_AO.of (hts _ (List.mem_of_getElem? (i := 74) rfl))
    · exact va_AO.of (hts _ (List.mem_of_getElem? (i := 211) rfl))
  · exact va_tabs rfl rfl (hts _ (List.mem_of_getElem? (i := 87) rfl))
  · obtain ⟨cell, h1, h2, h3, h4, h5, h6, h7⟩ := g2
    have hat : s.arrayAt? f = some cell := by
      obtain ⟨z1, k, z2, comp, z3⟩ := h2
      unfold State.arrayAt?
      simp only [h1, Option.bind_eq_bind, Option.bind_some, z2, z3]
      rw [if_neg]
      rintro (z | z)
      · exact h3 z
      · cases hv : cell.vm with
        | statics q => exact z1 q hv
        | _ => rw [hv] at z; cases z
    have hsz := sr_len9 f1 hat f3
    refine ⟨cell, h1, h2.1, h3, hF f cell f1 h1, ?_, h7⟩
    refine Array.ext (by rw [hsz, Array.size_ofFn]) (fun i hi1 hi2 => ?_)
    have := h6 i (by omega)
    rw [Array.getElem?_eq_getElem hi1] at this
    rw [Array.getElem_ofFn]
    exact Option.some.inj this
section SrLaw

variable {p : Program} {l : Launch} {e : Env} {R : Room} {s : State} {m : MethodId} {args : Array Value} {below : List Frame} {meth : Method} {c : Code} {cells slots : Nat} {Q : State → Prop} {cc : ByteArray} {nL : Nat} {D : va_G} {cl : List vw_C} {tys : List (ClassId × FieldType)} {cA : Nat → ClassId} {cs : List (Nat × Nat)} {ad : Nat → Nat → Nat} {A : Nat → Prop} {own : String} {Ts WS : List Cond} {cy : (Nat → Prop) → State → Heap → Prop}

theorem sr_J_law {E : sr_E} (hx : p.tables.exec = Jvm.exec) (hb : c.code = cc) (hml : c.maxLocals = nL) (hts : ∀ w ∈ Ts, w.before args s = true) (hown : s.vm.findClass own = some m.cls) (hK : va_K D cl tys s) (hD : ∀ μ, va_D A (sr_wd E.1 cA cs ad μ)) (hA : ∀ q, s.heap.size ≤ q → A q) (hroom : cells ≤ R.cells ∧ slots ≤ R.slots)
    (hcm : ∀ (A1 : Nat → Prop) (U : State) (H : Heap), (∀ q, A1 q → A q) → s.WarmedH U.vm → (∀ q : Nat, q < s.heap.size → ¬ A q → H[q]? = s.heap[q]?) → cy A1 U H) (hcb : ∀ A1 U g mk a H, cy A1 U H → cy A1 (State.calling U g mk a) H)
    (hcs : ∀ g i, ((E.1.1 g).isSome = true ∨ (E.1.2.1 g).isSome = true) → i < E.1.2.2 g → (g, i) ∈ cs) (hsep : ∀ g, (E.1.2.1 g).isSome = true → E.1.1 g = none) (hty : ∀ g k n t hh, E.1.2.1 g = some (k, n, t, hh) → ¬ k = 3 → tys[t]? = some (cA t, sr_kt k)) (hto : ∀ g n t hh, E.1.2.1 g = some (3, n, t, hh) → ∃ C, tys[t]? = some (cA t, .object C)) (hW : ∀ g ci fs, E.1.1 g = some (ci, fs) → sr_PO cl ci fs)
    (hKT : ∀ g n f, E.2.1 g = some (n, f) → va_T .int (ad g 0) n (fun j => .int (f j)) A s s.heap) (hF : ∀ k ci j, E.2.2.1.1 k = some (ci, j) → sr_FO own cl Ts s k ci j) (hLi : ∀ k v, E.2.2.1.2.1 k = some v → Cond.constant own k v ∈ Ts) (hLl : ∀ k v, E.2.2.1.2.2.1 k = some v → Cond.constantLong own k v ∈ Ts) (hZ : ∀ k g, E.2.2.1.2.2.2.1 k = some g → ∃ C nm d, va_Z C nm d (.ref (ad g 0)) A s s.heap ∧ Cond.fieldLink own k C nm d ∈ Ts)
    (hCS : ∀ pc n k, E.2.2.2.1 pc = some (.invokestatic k, n) → ∀ n f, E.2.2.1.2.2.2.2 k = some (0, n, f) → sr_CS l R s args own D cl tys (sr_wd E.1 cA cs ad) cy ad WS k n f) (hCV : ∀ pc n k, E.2.2.2.1 pc = some (.invokevirtual k, n) → ∀ ci n f, E.2.2.1.2.2.2.2 k = some (ci + 1, n, f) → sr_CV l R s args own D cl tys (sr_wd E.1 cA cs ad) cy ad WS k ci n f)
    (hret : E.2.2.2.2 = some .boolean) (hdec : ∀ pc ins n, E.2.2.2.1 pc = some (ins, n) → decode cc pc = .ok (ins, n) ∧ n = sr_il ins n ∧ sr_tok pc ins = true) (hend : ∀ pc L μ, decode cc pc = .ok (.ireturn, 1) → sr_J p l e R s m args below meth c cells slots Q nL D cl (sr_wd E.1 cA cs ad) ad A (pc, L, [.inl 1], μ)) : ∀ (k : Nat) (s0 : sr_S), sr_AWn E (fun x => x.1 = some (.inl 1)) k s0 → sr_J p l e R s m args below meth c cells slots Q nL D cl (sr_wd E.1 cA cs ad) ad A s0
  | 0, _, h => h.elim
  | k + 1, s0, h => by
    unfold sr_AWn at h
    rcases h with h | ⟨L0, hs, h⟩
    · split at h
      · exact h.elim
      · rename_i ins n hc
        obtain ⟨h1, h2, h3⟩ := hdec _ _ _ hc
        split at h
        · rename_i s1 hs
          have ih := sr_J_law hx hb hml hts hown hK hD hA hroom hcm hcb hcs hsep hty hto hW hKT hF hLi hLl hZ hCS hCV hret hdec hend k s1.2 h.2
          obtain ⟨pc, L, st, μ⟩ := s0
          exact sr_J_step hx hb hml hts hown hK hD hA hroom hcm hcb hcs hsep hty hto hW hKT hF hLi hLl hZ (fun k e => by subst e; exact hCS _ _ k hc) (fun k e => by subst e; exact hCV _ _ k hc) h1 h2 h3 hs h.1 ih
        · split at h
          · rename_i y hy
            obtain ⟨C9, r9, m9⟩ := y
            obtain ⟨hC, e9⟩ := h
            obtain ⟨pc, L, st, μ⟩ := s0
            unfold sr_fin at hy
            rw [hret] at hy
            split at hy
            · rename_i e1 e2 e3
              cases e2
            · rename_i e1 e2 e3
              cases hy
              obtain rfl : n = 1 := h2
              dsimp only at e1 h1
              rw [e1]
              cases e9
              exact hend pc L _ h1
            · rename_i e1 e2 e3
              cases e2
            · rename_i e1 e2 e3
              cases e2
            · cases hy
          · exact h.elim
    · have ih := sr_J_law hx hb hml hts hown hK hD hA hroom hcm hcb hcs hsep hty hto hW hKT hF hLi hLl hZ hCS hCV hret hdec hend k _ h
      intro hl0 ls H locs hl hP hS
      exact ih ((sr_sub_len _ _ hs).trans hl0) ls H locs (sr_has hl (fun q hq => by
        obtain ⟨v, h1, h2⟩ := sr_lc_mem.mp hq
        exact sr_lc_mem.mpr ⟨v, sr_sub_get _ _ hs _ _ h1, h2⟩)) hP hS
end SrLaw
def sr_TL : List Cond := Cond.initialized "SuiteRunner" :: sr_WS
theorem sr_hcsJ : ∀ g i, ((sr_SJ.1 g).isSome = true ∨ (sr_SJ.2.1 g).isSome = true) → i < sr_SJ.2.2 g → (g, i) ∈ sr_csJ := by
  intro g i h hi
  by_cases hg : g < 20
  · have e1 : sr_SJ.1 g = sr_SC.1 g := if_pos hg
    have e2 : sr_SJ.2.1 g = sr_SC.2.1 g := if_pos hg
    have e3 : sr_SJ.2.2 g = sr_SC.2.2 g := if_pos hg
    rw [e1, e2] at h
    rw [e3] at hi
    exact List.mem_append_left _ (sr_hcsC g i h hi)
  · have e1 : sr_SJ.1 g = sr_SM.1 g := if_neg hg
    have e2 : sr_SJ.2.1 g = sr_SM.2.1 g := if_neg hg
    have e3 : sr_SJ.2.2 g = sr_SM.2.2 g := if_neg hg
    rw [e1, e2] at h
    rw [e3] at hi
    exact List.mem_append_right _ (sr_hcsM g i h hi)
theorem sr_hsepJ : ∀ g, (sr_SJ.2.1 g).isSome = true → sr_SJ.1 g = none := by
  intro g h
  by_cases hg : g < 20
  · have e1 : sr_SJ.1 g = sr_SC.1 g := if_pos hg
    have e2 : sr_SJ.2.1 g = sr_SC.2.1 g := if_pos hg
    rw [e2] at h
    rw [e1]
    exact sr_hsepC g h
  · have e1 : sr_SJ.1 g = sr_SM.1 g := if_neg hg
    have e2 : sr_SJ.2.1 g = sr_SM.2.1 g := if_neg hg
    rw [e2] at h
    rw [e1]
    exact sr_hsepM g h
theorem sr_htyJ (cA : Nat → ClassId) : ∀ g k n t hh, sr_SJ.2.1 g = some (k, n, t, hh) → ¬ k = 3 → (sr_tys cA)[t]? = some (cA t, sr_kt k) := by
  intro g k n t hh h hk
  by_cases hg : g < 20
  · rw [show sr_SJ.2.1 g = sr_SC.2.1 g from if_pos hg] at h
    exact sr_htyC cA g k n t hh h hk
  · rw [show sr_SJ.2.1 g = sr_SM.2.1 g from if_neg hg] at h
    exact sr_htyM cA g k n t hh h hk
theorem sr_htoJ (cA : Nat → ClassId) : ∀ g n t hh, sr_SJ.2.1 g = some (3, n, t, hh) → ∃ C, (sr_tys cA)[t]? = some (cA t, .object C) := by
  intro g n t hh h
  by_cases hg : g < 20
  · rw [show sr_SJ.2.1 g = sr_SC.2.1 g from if_pos hg] at h
    exact sr_htoC cA g n t hh h
  · rw [show sr_SJ.2.1 g = sr_SM.2.1 g from if_neg hg] at h
    exact sr_htoM cA g n t hh h
theorem sr_hWJ : ∀ g ci fs, sr_SJ.1 g = some (ci, fs) → sr_PO sr_cl ci fs := by
  intro g ci fs h
  by_cases hg : g < 20
  · rw [show sr_SJ.1 g = sr_SC.1 g from if_pos hg] at h
    exact sr_hWC g ci fs h
  · rw [show sr_SJ.1 g = sr_SM.1 g from if_neg hg] at h
    exact sr_hWM g ci fs h
theorem sr_CV_of {l : Launch} {R : Room} {s : State} {args : Array Value} {own : String} {D : va_G} {cl : List vw_C} {tys : List (ClassId × FieldType)} {wd : sr_M → va_W} {cy : (Nat → Prop) → State → Heap → Prop} {ad : Nat → Nat → Nat} {WS NW : List Cond} {w0 : Cond} {k ci n : Nat} {f : sr_F} (hg : ∀ w ∈ WS, (w.onTables && w.keeps) = true ∨ ∃ ty, w = .arrayClass ty) (hts : ∀ w ∈ w0 :: WS, w.before args s = true) (hN : ∀ w ∈ NW, va_Nw w s) (h : sr_sV l D cl tys wd cy ad WS NW own R k ci n f) : sr_CV l R s args own D cl tys wd cy ad WS k ci n f := by
  have hin : ∀ w ∈ WS, w.before args s = true := fun w h => hts w (List.mem_cons_of_mem _ h)
  obtain ⟨y', bytes', maxL', ret', rm', C, T, N, hc1, hct, ⟨r1, r2, r3, r4⟩, hds, w1, w2, w2b, w3, w4⟩ := h
  refine ⟨y', bytes', maxL', ret', rm', C, T, N, hc1, hct, ?_⟩
  rcases w4 with w4 | ⟨host, w4⟩
  · exact Or.inl ⟨callB_of n hts (sr_goodIn hg w1) rfl r1 r2 (hin _ w3) (hin _ w4) hds ⟨r3, r4⟩, hin _ w2, hin _ w2b⟩
  · exact Or.inr ⟨host, va_cnB n hts (sr_goodIn hg w1) rfl r1 r2 (hN _ w4) (hin _ w3) hds ⟨r3, r4⟩, hin _ w2, hin _ w2b⟩
set_option maxRecDepth 20000 in
theorem lv_SR_method (l : Launch) (D : va_G) (cA : Nat → ClassId) (ad : Nat → Nat → Nat) : sr_sV l D sr_cl (sr_tys cA) (sr_wd sr_SJ cA sr_csJ ad) (sr_cy sr_NW sr_ZS sr_KS ad) ad sr_WS sr_NW "SuiteRunnerLaw" room_1 15 0 2 (sr_liC p_SR_method) := ⟨⟨"SuiteRunner", "method", "(IJ)I"⟩, prog_1_method_2_code, 4, (some .int), { frames := 3, cells := 0, slots := 0, locals := 67 }, _, _, _, rfl, sr_CtC (c_SR_method l D cA ad), ⟨rfl, rfl, by decide, by decide⟩, ⟨by decide, by decide, by decide +kernel⟩, sr_ws 360 rfl rfl, sr_ws 358 rfl rfl, sr_ws 359 rfl rfl, sr_ws 40 rfl rfl, Or.inl (sr_ws 357 rfl rfl)⟩
set_option maxRecDepth 20000 in
theorem lv_MO_method (l : Launch) (D : va_G) (cA : Nat → ClassId) (ad : Nat → Nat → Nat) : sr_sV l D sr_cl (sr_tys cA) (sr_wd sr_SJ cA sr_csJ ad) (sr_cy sr_NW sr_ZS sr_KS ad) ad sr_WS sr_NW "SuiteRunnerLaw" room_1 19 10 2 (sr_liM p_MO_method) := ⟨⟨"SuiteRunnerModel", "method", "(IJ)I"⟩, prog_12_method_6_code, 5, (some .int), { frames := 1, cells := 0, slots := 0, locals := 26 }, _, _, _, rfl, sr_CtM (c_MO_method l D cA ad), ⟨rfl, rfl, by decide, by decide⟩, ⟨by decide, by decide, by decide +kernel⟩, sr_ws 795 rfl rfl, sr_ws 793 rfl rfl, sr_ws 794 rfl rfl, sr_ws 50 rfl rfl, Or.inl (sr_ws 792 rfl rfl)⟩
set_option maxRecDepth 20000 in
theorem lv_SR_trait (l : Launch) (D : va_G) (cA : Nat → ClassId) (ad : Nat → Nat → Nat) : sr_sV l D sr_cl (sr_tys cA) (sr_wd sr_SJ cA sr_csJ ad) (sr_cy sr_NW sr_ZS sr_KS ad) ad sr_WS sr_NW "SuiteRunnerLaw" room_1 20 0 3 (sr_liC p_SR_trait) := ⟨⟨"SuiteRunner", "trait", "(III)Z"⟩, prog_1_method_3_code, 4, (some .boolean), { frames := 2, cells := 0, slots := 0, locals := 42 }, _, _, _, rfl, sr_CtC (c_SR_trait l D cA ad), ⟨rfl, rfl, by decide, by decide⟩, ⟨by decide, by decide, by decide +kernel⟩, sr_ws 380 rfl rfl, sr_ws 378 rfl rfl, sr_ws 379 rfl rfl, sr_ws 40 rfl rfl, Or.inl (sr_ws 377 rfl rfl)⟩
set_option maxRecDepth 20000 in
theorem lv_MO_trait (l : Launch) (D : va_G) (cA : Nat → ClassId) (ad : Nat → Nat → Nat) : sr_sV l D sr_cl (sr_tys cA) (sr_wd sr_SJ cA sr_csJ ad) (sr_cy sr_NW sr_ZS sr_KS ad) ad sr_WS sr_NW "SuiteRunnerLaw" room_1 24 10 3 (sr_liM p_MO_trait) := ⟨⟨"SuiteRunnerModel", "trait", "(III)Z"⟩, prog_12_method_8_code, 4, (some .boolean), { frames := 2, cells := 0, slots := 0, locals := 43 }, _, _, _, rfl, sr_CtM (c_MO_trait l D cA ad), ⟨rfl, rfl, by decide, by decide⟩, ⟨by decide, by decide, by decide +kernel⟩, sr_ws 807 rfl rfl, sr_ws 805 rfl rfl, sr_ws 806 rfl rfl, sr_ws 50 rfl rfl, Or.inl (sr_ws 804 rfl rfl)⟩
set_option maxRecDepth 20000 in
theorem lv_SR_needs (l : Launch) (D : va_G) (cA : Nat → ClassId) (ad : Nat → Nat → Nat) : sr_sV l D sr_cl (sr_tys cA) (sr_wd sr_SJ cA sr_csJ ad) (sr_cy sr_NW sr_ZS sr_KS ad) ad sr_WS sr_NW "SuiteRunnerLaw" room_1 25 0 2 (sr_liC p_SR_needs) := ⟨⟨"SuiteRunner", "needs", "(II)Z"⟩, prog_1_method_4_code, 4, (some .boolean), { frames := 2, cells := 0, slots := 0, locals := 42 }, _, _, _, rfl, sr_CtC (c_SR_needs l D cA ad), ⟨rfl, rfl, by decide, by decide⟩, ⟨by decide, by decide, by decide +kernel⟩, sr_ws 397 rfl rfl, sr_ws 395 rfl rfl, sr_ws 396 rfl rfl, sr_ws 40 rfl rfl, Or.inl (sr_ws 394 rfl rfl)⟩
set_option maxRecDepth 20000 in
theorem lv_MO_needs (l : Launch) (D : va_G) (cA : Nat → ClassId) (ad : Nat → Nat → Nat) : sr_sV l D sr_cl (sr_tys cA) (sr_wd sr_SJ cA sr_csJ ad) (sr_cy sr_NW sr_ZS sr_KS ad) ad sr_WS sr_NW "SuiteRunnerLaw" room_1 29 10 2 (sr_liM p_MO_needs) := ⟨⟨"SuiteRunnerModel", "needs", "(II)Z"⟩, prog_12_method_9_code, 3, (some .boolean), { frames := 2, cells := 0, slots := 0, locals := 43 }, _, _, _, rfl, sr_CtM (c_MO_needs l D cA ad), ⟨rfl, rfl, by decide, by decide⟩, ⟨by decide, by decide, by decide +kernel⟩, sr_ws 818 rfl rfl, sr_ws 816 rfl rfl, sr_ws 817 rfl rfl, sr_ws 50 rfl rfl, Or.inl (sr_ws 815 rfl rfl)⟩
set_option maxRecDepth 20000 in
theorem lv_SR_needsGroup (l : Launch) (D : va_G) (cA : Nat → ClassId) (ad : Nat → Nat → Nat) : sr_sV l D sr_cl (sr_tys cA) (sr_wd sr_SJ cA sr_csJ ad) (sr_cy sr_NW sr_ZS sr_KS ad) ad sr_WS sr_NW "SuiteRunnerLaw" room_1 30 0 2 (sr_liC p_SR_needsGroup) := ⟨⟨"SuiteRunner", "needsGroup", "(II)Z"⟩, prog_1_method_5_code, 4, (some .boolean), { frames := 2, cells := 0, slots := 0, locals := 42 }, _, _, _, rfl, sr_CtC (c_SR_needsGroup l D cA ad), ⟨rfl, rfl, by decide, by decide⟩, ⟨by decide, by decide, by decide +kernel⟩, sr_ws 404 rfl rfl, sr_ws 402 rfl rfl, sr_ws 403 rfl rfl, sr_ws 40 rfl rfl, Or.inl (sr_ws 401 rfl rfl)⟩
set_option maxRecDepth 20000 in
theorem lv_MO_needsGroup (l : Launch) (D : va_G) (cA : Nat → ClassId) (ad : Nat → Nat → Nat) : sr_sV l D sr_cl (sr_tys cA) (sr_wd sr_SJ cA sr_csJ ad) (sr_cy sr_NW sr_ZS sr_KS ad) ad sr_WS sr_NW "SuiteRunnerLaw" room_1 33 10 2 (sr_liM p_MO_needsGroup) := ⟨⟨"SuiteRunnerModel", "needsGroup", "(II)Z"⟩, prog_12_method_10_code, 3, (some .boolean), { frames := 2, cells := 0, slots := 0, locals := 43 }, _, _, _, rfl, sr_CtM (c_MO_needsGroup l D cA ad), ⟨rfl, rfl, by decide, by decide⟩, ⟨by decide, by decide, by decide +kernel⟩, sr_ws 822 rfl rfl, sr_ws 820 rfl rfl, sr_ws 821 rfl rfl, sr_ws 50 rfl rfl, Or.inl (sr_ws 819 rfl rfl)⟩
set_option maxRecDepth 20000 in
theorem lv_SR_provider (l : Launch) (D : va_G) (cA : Nat → ClassId) (ad : Nat → Nat → Nat) : sr_sV l D sr_cl (sr_tys cA) (sr_wd sr_SJ cA sr_csJ ad) (sr_cy sr_NW sr_ZS sr_KS ad) ad sr_WS sr_NW "SuiteRunnerLaw" room_1 34 0 2 (sr_liC p_SR_provider) := ⟨⟨"SuiteRunner", "provider", "(II)Z"⟩, prog_1_method_6_code, 3, (some .boolean), { frames := 1, cells := 0, slots := 0, locals := 21 }, _, _, _, rfl, sr_CtC (c_SR_provider l D cA ad), ⟨rfl, rfl, by decide, by decide⟩, ⟨by decide, by decide, by decide +kernel⟩, sr_ws 408 rfl rfl, sr_ws 406 rfl rfl, sr_ws 407 rfl rfl, sr_ws 40 rfl rfl, Or.inl (sr_ws 405 rfl rfl)⟩
set_option maxRecDepth 20000 in
theorem lv_MO_provider (l : Launch) (D : va_G) (cA : Nat → ClassId) (ad : Nat → Nat → Nat) : sr_sV l D sr_cl (sr_tys cA) (sr_wd sr_SJ cA sr_csJ ad) (sr_cy sr_NW sr_ZS sr_KS ad) ad sr_WS sr_NW "SuiteRunnerLaw" room_1 37 10 2 (sr_liM p_MO_provider) := ⟨⟨"SuiteRunnerModel", "provider", "(II)Z"⟩, prog_12_method_11_code, 3, (some .boolean), { frames := 1, cells := 0, slots := 0, locals := 22 }, _, _, _, rfl, sr_CtM (c_MO_provider l D cA ad), ⟨rfl, rfl, by decide, by decide⟩, ⟨by decide, by decide, by decide +kernel⟩, sr_ws 826 rfl rfl, sr_ws 824 rfl rfl, sr_ws 825 rfl rfl, sr_ws 50 rfl rfl, Or.inl (sr_ws 823 rfl rfl)⟩
set_option maxRecDepth 20000 in
theorem lv_SR_configuration (l : Launch) (D : va_G) (cA : Nat → ClassId) (ad : Nat → Nat → Nat) : sr_sV l D sr_cl (sr_tys cA) (sr_wd sr_SJ cA sr_csJ ad) (sr_cy sr_NW sr_ZS sr_KS ad) ad sr_WS sr_NW "SuiteRunnerLaw" room_1 38 0 4 (sr_liC p_SR_configuration) := ⟨⟨"SuiteRunner", "configuration", "(IZII)I"⟩, prog_1_method_7_code, 5, (some .int), { frames := 1, cells := 0, slots := 0, locals := 25 }, _, _, _, rfl, sr_CtC (c_SR_configuration l D cA ad), ⟨rfl, rfl, by decide, by decide⟩, ⟨by decide, by decide, by decide +kernel⟩, sr_ws 412 rfl rfl, sr_ws 410 rfl rfl, sr_ws 411 rfl rfl, sr_ws 40 rfl rfl, Or.inl (sr_ws 409 rfl rfl)⟩
set_option maxRecDepth 20000 in
theorem lv_MO_configuration (l : Launch) (D : va_G) (cA : Nat → ClassId) (ad : Nat → Nat → Nat) : sr_sV l D sr_cl (sr_tys cA) (sr_wd sr_SJ cA sr_csJ ad) (sr_cy sr_NW sr_ZS sr_KS ad) ad sr_WS sr_NW "SuiteRunnerLaw" room_1 42 10 4 (sr_liM p_MO_configuration) := ⟨⟨"SuiteRunnerModel", "configuration", "(IZII)I"⟩, prog_12_method_12_code, 5, (some .int), { frames := 1, cells := 0, slots := 0, locals := 22 }, _, _, _, rfl, sr_CtM (c_MO_configuration l D cA ad), ⟨rfl, rfl, by decide, by decide⟩, ⟨by decide, by decide, by decide +kernel⟩, sr_ws 830 rfl rfl, sr_ws 828 rfl rfl, sr_ws 829 rfl rfl, sr_ws 50 rfl rfl, Or.inl (sr_ws 827 rfl rfl)⟩
set_option maxRecDepth 20000 in
theorem lv_SR_type (l : Launch) (D : va_G) (cA : Nat → ClassId) (ad : Nat → Nat → Nat) : sr_sV l D sr_cl (sr_tys cA) (sr_wd sr_SJ cA sr_csJ ad) (sr_cy sr_NW sr_ZS sr_KS ad) ad sr_WS sr_NW "SuiteRunnerLaw" room_1 43 0 2 (sr_liC p_SR_type) := ⟨⟨"SuiteRunner", "type", "(ZC)Z"⟩, prog_1_method_8_code, 3, (some .boolean), { frames := 2, cells := 0, slots := 0, locals := 42 }, _, _, _, rfl, sr_CtC (c_SR_type l D cA ad), ⟨rfl, rfl, by decide, by decide⟩, ⟨by decide, by decide, by decide +kernel⟩, sr_ws 420 rfl rfl, sr_ws 418 rfl rfl, sr_ws 419 rfl rfl, sr_ws 40 rfl rfl, Or.inl (sr_ws 417 rfl rfl)⟩
set_option maxRecDepth 20000 in
theorem lv_MO_type (l : Launch) (D : va_G) (cA : Nat → ClassId) (ad : Nat → Nat → Nat) : sr_sV l D sr_cl (sr_tys cA) (sr_wd sr_SJ cA sr_csJ ad) (sr_cy sr_NW sr_ZS sr_KS ad) ad sr_WS sr_NW "SuiteRunnerLaw" room_1 47 10 2 (sr_liM p_MO_type) := ⟨⟨"SuiteRunnerModel", "type", "(ZC)Z"⟩, prog_12_method_13_code, 7, (some .boolean), { frames := 0, cells := 0, slots := 0, locals := 0 }, _, _, _, rfl, sr_CtM (c_MO_type l D cA ad), ⟨rfl, rfl, by decide, by decide⟩, ⟨by decide, by decide, by decide +kernel⟩, sr_ws 834 rfl rfl, sr_ws 832 rfl rfl, sr_ws 833 rfl rfl, sr_ws 50 rfl rfl, Or.inl (sr_ws 831 rfl rfl)⟩
set_option maxRecDepth 20000 in
theorem lv_SR_select (l : Launch) (D : va_G) (cA : Nat → ClassId) (ad : Nat → Nat → Nat) : sr_sV l D sr_cl (sr_tys cA) (sr_wd sr_SJ cA sr_csJ ad) (sr_cy sr_NW sr_ZS sr_KS ad) ad sr_WS sr_NW "SuiteRunnerLaw" room_1 48 0 3 (sr_liC p_SR_select) := ⟨⟨"SuiteRunner", "select", "(III)Z"⟩, prog_1_method_9_code, 4, (some .boolean), { frames := 2, cells := 0, slots := 0, locals := 43 }, _, _, _, rfl, sr_CtC (c_SR_select l D cA ad), ⟨rfl, rfl, by decide, by decide⟩, ⟨by decide, by decide, by decide +kernel⟩, sr_ws 432 rfl rfl, sr_ws 430 rfl rfl, sr_ws 431 rfl rfl, sr_ws 40 rfl rfl, Or.inl (sr_ws 429 rfl rfl)⟩
set_option maxRecDepth 20000 in
theorem lv_MO_select (l : Launch) (D : va_G) (cA : Nat → ClassId) (ad : Nat → Nat → Nat) : sr_sV l D sr_cl (sr_tys cA) (sr_wd sr_SJ cA sr_csJ ad) (sr_cy sr_NW sr_ZS sr_KS ad) ad sr_WS sr_NW "SuiteRunnerLaw" room_1 51 10 3 (sr_liM p_MO_select) := ⟨⟨"SuiteRunnerModel", "select", "(III)Z"⟩, prog_12_method_14_code, 4, (some .boolean), { frames := 0, cells := 0, slots := 0, locals := 0 }, _, _, _, rfl, sr_CtM (c_MO_select l D cA ad), ⟨rfl, rfl, by decide, by decide⟩, ⟨by decide, by decide, by decide +kernel⟩, sr_ws 838 rfl rfl, sr_ws 836 rfl rfl, sr_ws 837 rfl rfl, sr_ws 50 rfl rfl, Or.inl (sr_ws 835 rfl rfl)⟩
set_option maxRecDepth 20000 in
theorem lv_SR_options (l : Launch) (D : va_G) (cA : Nat → ClassId) (ad : Nat → Nat → Nat) : sr_sV l D sr_cl (sr_tys cA) (sr_wd sr_SJ cA sr_csJ ad) (sr_cy sr_NW sr_ZS sr_KS ad) ad sr_WS sr_NW "SuiteRunnerLaw" room_1 52 0 5 (sr_liC p_SR_options) := ⟨⟨"SuiteRunner", "options", "(IZZZZ)Z"⟩, prog_1_method_10_code, 7, (some .boolean), { frames := 0, cells := 0, slots := 0, locals := 0 }, _, _, _, rfl, sr_CtC (c_SR_options l D cA ad), ⟨rfl, rfl, by decide, by decide⟩, ⟨by decide, by decide, by decide +kernel⟩, sr_ws 444 rfl rfl, sr_ws 442 rfl rfl, sr_ws 443 rfl rfl, sr_ws 40 rfl rfl, Or.inl (sr_ws 441 rfl rfl)⟩
set_option maxRecDepth 20000 in
theorem lv_MO_options (l : Launch) (D : va_G) (cA : Nat → ClassId) (ad : Nat → Nat → Nat) : sr_sV l D sr_cl (sr_tys cA) (sr_wd sr_SJ cA sr_csJ ad) (sr_cy sr_NW sr_ZS sr_KS ad) ad sr_WS sr_NW "SuiteRunnerLaw" room_1 56 10 5 (sr_liM p_MO_options) := ⟨⟨"SuiteRunnerModel", "options", "(IZZZZ)Z"⟩, prog_12_method_15_code, 6, (some .boolean), { frames := 1, cells := 0, slots := 0, locals := 22 }, _, _, _, rfl, sr_CtM (c_MO_options l D cA ad), ⟨rfl, rfl, by decide, by decide⟩, ⟨by decide, by decide, by decide +kernel⟩, sr_ws 842 rfl rfl, sr_ws 840 rfl rfl, sr_ws 841 rfl rfl, sr_ws 50 rfl rfl, Or.inl (sr_ws 839 rfl rfl)⟩
set_option maxRecDepth 20000 in
theorem lv_SR_start (l : Launch) (D : va_G) (cA : Nat → ClassId) (ad : Nat → Nat → Nat) : sr_sV l D sr_cl (sr_tys cA) (sr_wd sr_SJ cA sr_csJ ad) (sr_cy sr_NW sr_ZS sr_KS ad) ad sr_WS sr_NW "SuiteRunnerLaw" room_1 57 0 0 (sr_liC p_SR_start) := ⟨⟨"SuiteRunner", "start", "()I"⟩, prog_1_method_11_code, 2, (some .int), { frames := 5, cells := 0, slots := 0, locals := 122 }, _, _, _, rfl, sr_CtC (c_SR_start l D cA ad), ⟨rfl, rfl, by decide, by decide⟩, ⟨by decide, by decide, by decide +kernel⟩, sr_ws 448 rfl rfl, sr_ws 446 rfl rfl, sr_ws 447 rfl rfl, sr_ws 40 rfl rfl, Or.inl (sr_ws 445 rfl rfl)⟩
set_option maxRecDepth 20000 in
theorem lv_MO_start (l : Launch) (D : va_G) (cA : Nat → ClassId) (ad : Nat → Nat → Nat) : sr_sV l D sr_cl (sr_tys cA) (sr_wd sr_SJ cA sr_csJ ad) (sr_cy sr_NW sr_ZS sr_KS ad) ad sr_WS sr_NW "SuiteRunnerLaw" room_1 61 10 0 (sr_liM p_MO_start) := ⟨⟨"SuiteRunnerModel", "start", "()I"⟩, prog_12_method_29_code, 5, (some .int), { frames := 5, cells := 0, slots := 0, locals := 127 }, _, _, _, rfl, sr_CtM (c_MO_start l D cA ad), ⟨rfl, rfl, by decide, by decide⟩, ⟨by decide, by decide, by decide +kernel⟩, sr_ws 886 rfl rfl, sr_ws 884 rfl rfl, sr_ws 885 rfl rfl, sr_ws 50 rfl rfl, Or.inl (sr_ws 883 rfl rfl)⟩
set_option maxRecDepth 20000 in
theorem lv_SR_tick (l : Launch) (D : va_G) (cA : Nat → ClassId) (ad : Nat → Nat → Nat) : sr_sV l D sr_cl (sr_tys cA) (sr_wd sr_SJ cA sr_csJ ad) (sr_cy sr_NW sr_ZS sr_KS ad) ad sr_WS sr_NW "SuiteRunnerLaw" room_1 62 0 1 (sr_liC p_SR_tick) := ⟨⟨"SuiteRunner", "tick", "(I)I"⟩, prog_1_method_12_code, 3, (some .int), { frames := 6, cells := 0, slots := 0, locals := 141 }, _, _, _, rfl, sr_CtC (c_SR_tick l D cA ad), ⟨rfl, rfl, by decide, by decide⟩, ⟨by decide, by decide, by decide +kernel⟩, sr_ws 510 rfl rfl, sr_ws 508 rfl rfl, sr_ws 509 rfl rfl, sr_ws 40 rfl rfl, Or.inl (sr_ws 507 rfl rfl)⟩
set_option maxRecDepth 20000 in
theorem lv_MO_tick (l : Launch) (D : va_G) (cA : Nat → ClassId) (ad : Nat → Nat → Nat) : sr_sV l D sr_cl (sr_tys cA) (sr_wd sr_SJ cA sr_csJ ad) (sr_cy sr_NW sr_ZS sr_KS ad) ad sr_WS sr_NW "SuiteRunnerLaw" room_1 66 10 1 (sr_liM p_MO_tick) := ⟨⟨"SuiteRunnerModel", "tick", "(I)I"⟩, prog_12_method_43_code, 3, (some .int), { frames := 6, cells := 0, slots := 0, locals := 146 }, _, _, _, rfl, sr_CtM (c_MO_tick l D cA ad), ⟨rfl, rfl, by decide, by decide⟩, ⟨by decide, by decide, by decide +kernel⟩, sr_ws 895 rfl rfl, sr_ws 893 rfl rfl, sr_ws 894 rfl rfl, sr_ws 50 rfl rfl, Or.inl (sr_ws 892 rfl rfl)⟩
set_option maxRecDepth 20000 in
theorem lv_SR_again (l : Launch) (D : va_G) (cA : Nat → ClassId) (ad : Nat → Nat → Nat) : sr_sV l D sr_cl (sr_tys cA) (sr_wd sr_SJ cA sr_csJ ad) (sr_cy sr_NW sr_ZS sr_KS ad) ad sr_WS sr_NW "SuiteRunnerLaw" room_1 67 0 0 (sr_liC p_SR_again) := ⟨⟨"SuiteRunner", "again", "()I"⟩, prog_1_method_13_code, 1, (some .int), { frames := 5, cells := 0, slots := 0, locals := 122 }, _, _, _, rfl, sr_CtC (c_SR_again l D cA ad), ⟨rfl, rfl, by decide, by decide⟩, ⟨by decide, by decide, by decide +kernel⟩, sr_ws 620 rfl rfl, sr_ws 618 rfl rfl, sr_ws 619 rfl rfl, sr_ws 40 rfl rfl, Or.inl (sr_ws 617 rfl rfl)⟩
set_option maxRecDepth 20000 in
theorem lv_MO_again (l : Launch) (D : va_G) (cA : Nat → ClassId) (ad : Nat → Nat → Nat) : sr_sV l D sr_cl (sr_tys cA) (sr_wd sr_SJ cA sr_csJ ad) (sr_cy sr_NW sr_ZS sr_KS ad) ad sr_WS sr_NW "SuiteRunnerLaw" room_1 70 10 0 (sr_liM p_MO_again) := ⟨⟨"SuiteRunnerModel", "again", "()I"⟩, prog_12_method_44_code, 4, (some .int), { frames := 4, cells := 0, slots := 0, locals := 103 }, _, _, _, rfl, sr_CtM (c_MO_again l D cA ad), ⟨rfl, rfl, by decide, by decide⟩, ⟨by decide, by decide, by decide +kernel⟩, sr_ws 962 rfl rfl, sr_ws 960 rfl rfl, sr_ws 961 rfl rfl, sr_ws 50 rfl rfl, Or.inl (sr_ws 959 rfl rfl)⟩
set_option maxRecDepth 20000 in
theorem lv_SR_running (l : Launch) (D : va_G) (cA : Nat → ClassId) (ad : Nat → Nat → Nat) : sr_sV l D sr_cl (sr_tys cA) (sr_wd sr_SJ cA sr_csJ ad) (sr_cy sr_NW sr_ZS sr_KS ad) ad sr_WS sr_NW "SuiteRunnerLaw" room_1 71 0 0 (sr_liC p_SR_running) := ⟨⟨"SuiteRunner", "running", "()Z"⟩, prog_1_method_14_code, 1, (some .boolean), { frames := 0, cells := 0, slots := 0, locals := 0 }, _, _, _, rfl, sr_CtC (c_SR_running l D cA ad), ⟨rfl, rfl, by decide, by decide⟩, ⟨by decide, by decide, by decide +kernel⟩, sr_ws 628 rfl rfl, sr_ws 626 rfl rfl, sr_ws 627 rfl rfl, sr_ws 40 rfl rfl, Or.inl (sr_ws 625 rfl rfl)⟩
set_option maxRecDepth 20000 in
theorem lv_MO_running (l : Launch) (D : va_G) (cA : Nat → ClassId) (ad : Nat → Nat → Nat) : sr_sV l D sr_cl (sr_tys cA) (sr_wd sr_SJ cA sr_csJ ad) (sr_cy sr_NW sr_ZS sr_KS ad) ad sr_WS sr_NW "SuiteRunnerLaw" room_1 75 10 0 (sr_liM p_MO_running) := ⟨⟨"SuiteRunnerModel", "running", "()Z"⟩, prog_12_method_45_code, 1, (some .boolean), { frames := 0, cells := 0, slots := 0, locals := 0 }, _, _, _, rfl, sr_CtM (c_MO_running l D cA ad), ⟨rfl, rfl, by decide, by decide⟩, ⟨by decide, by decide, by decide +kernel⟩, sr_ws 966 rfl rfl, sr_ws 964 rfl rfl, sr_ws 965 rfl rfl, sr_ws 50 rfl rfl, Or.inl (sr_ws 963 rfl rfl)⟩
set_option maxRecDepth 20000 in
theorem lv_SR_selected (l : Launch) (D : va_G) (cA : Nat → ClassId) (ad : Nat → Nat → Nat) : sr_sV l D sr_cl (sr_tys cA) (sr_wd sr_SJ cA sr_csJ ad) (sr_cy sr_NW sr_ZS sr_KS ad) ad sr_WS sr_NW "SuiteRunnerLaw" room_1 76 0 0 (sr_liC p_SR_selected) := ⟨⟨"SuiteRunner", "selected", "()I"⟩, prog_1_method_15_code, 1, (some .int), { frames := 5, cells := 0, slots := 0, locals := 122 }, _, _, _, rfl, sr_CtC (c_SR_selected l D cA ad), ⟨rfl, rfl, by decide, by decide⟩, ⟨by decide, by decide, by decide +kernel⟩, sr_ws 632 rfl rfl, sr_ws 630 rfl rfl, sr_ws 631 rfl rfl, sr_ws 40 rfl rfl, Or.inl (sr_ws 629 rfl rfl)⟩
set_option maxRecDepth 20000 in
theorem lv_MO_selected (l : Launch) (D : va_G) (cA : Nat → ClassId) (ad : Nat → Nat → Nat) : sr_sV l D sr_cl (sr_tys cA) (sr_wd sr_SJ cA sr_csJ ad) (sr_cy sr_NW sr_ZS sr_KS ad) ad sr_WS sr_NW "SuiteRunnerLaw" room_1 79 10 0 (sr_liM p_MO_selected) := ⟨⟨"SuiteRunnerModel", "selected", "()I"⟩, prog_12_method_20_code, 3, (some .int), { frames := 3, cells := 0, slots := 0, locals := 81 }, _, _, _, rfl, sr_CtM (c_MO_selected l D cA ad), ⟨rfl, rfl, by decide, by decide⟩, ⟨by decide, by decide, by decide +kernel⟩, sr_ws 846 rfl rfl, sr_ws 844 rfl rfl, sr_ws 845 rfl rfl, sr_ws 50 rfl rfl, Or.inl (sr_ws 843 rfl rfl)⟩
set_option maxRecDepth 20000 in
theorem lv_SR_edges (l : Launch) (D : va_G) (cA : Nat → ClassId) (ad : Nat → Nat → Nat) : sr_sV l D sr_cl (sr_tys cA) (sr_wd sr_SJ cA sr_csJ ad) (sr_cy sr_NW sr_ZS sr_KS ad) ad sr_WS sr_NW "SuiteRunnerLaw" room_1 80 0 1 (sr_liC p_SR_edges) := ⟨⟨"SuiteRunner", "edges", "(I)I"⟩, prog_1_method_16_code, 3, (some .int), { frames := 5, cells := 0, slots := 0, locals := 122 }, _, _, _, rfl, sr_CtC (c_SR_edges l D cA ad), ⟨rfl, rfl, by decide, by decide⟩, ⟨by decide, by decide, by decide +kernel⟩, sr_ws 636 rfl rfl, sr_ws 634 rfl rfl, sr_ws 635 rfl rfl, sr_ws 40 rfl rfl, Or.inl (sr_ws 633 rfl rfl)⟩
set_option maxRecDepth 20000 in
theorem lv_MO_edges (l : Launch) (D : va_G) (cA : Nat → ClassId) (ad : Nat → Nat → Nat) : sr_sV l D sr_cl (sr_tys cA) (sr_wd sr_SJ cA sr_csJ ad) (sr_cy sr_NW sr_ZS sr_KS ad) ad sr_WS sr_NW "SuiteRunnerLaw" room_1 83 10 1 (sr_liM p_MO_edges) := ⟨⟨"SuiteRunnerModel", "edges", "(I)I"⟩, prog_12_method_22_code, 3, (some .int), { frames := 4, cells := 0, slots := 0, locals := 103 }, _, _, _, rfl, sr_CtM (c_MO_edges l D cA ad), ⟨rfl, rfl, by decide, by decide⟩, ⟨by decide, by decide, by decide +kernel⟩, sr_ws 869 rfl rfl, sr_ws 867 rfl rfl, sr_ws 868 rfl rfl, sr_ws 50 rfl rfl, Or.inl (sr_ws 866 rfl rfl)⟩
set_option maxRecDepth 20000 in
theorem lv_SR_circle (l : Launch) (D : va_G) (cA : Nat → ClassId) (ad : Nat → Nat → Nat) : sr_sV l D sr_cl (sr_tys cA) (sr_wd sr_SJ cA sr_csJ ad) (sr_cy sr_NW sr_ZS sr_KS ad) ad sr_WS sr_NW "SuiteRunnerLaw" room_1 84 0 0 (sr_liC p_SR_circle) := ⟨⟨"SuiteRunner", "circle", "()I"⟩, prog_1_method_17_code, 1, (some .int), { frames := 5, cells := 0, slots := 0, locals := 122 }, _, _, _, rfl, sr_CtC (c_SR_circle l D cA ad), ⟨rfl, rfl, by decide, by decide⟩, ⟨by decide, by decide, by decide +kernel⟩, sr_ws 641 rfl rfl, sr_ws 639 rfl rfl, sr_ws 640 rfl rfl, sr_ws 40 rfl rfl, Or.inl (sr_ws 638 rfl rfl)⟩
set_option maxRecDepth 20000 in
theorem lv_MO_circle (l : Launch) (D : va_G) (cA : Nat → ClassId) (ad : Nat → Nat → Nat) : sr_sV l D sr_cl (sr_tys cA) (sr_wd sr_SJ cA sr_csJ ad) (sr_cy sr_NW sr_ZS sr_KS ad) ad sr_WS sr_NW "SuiteRunnerLaw" room_1 87 10 0 (sr_liM p_MO_circle) := ⟨⟨"SuiteRunnerModel", "circle", "()I"⟩, prog_12_method_25_code, 5, (some .int), { frames := 4, cells := 0, slots := 0, locals := 103 }, _, _, _, rfl, sr_CtM (c_MO_circle l D cA ad), ⟨rfl, rfl, by decide, by decide⟩, ⟨by decide, by decide, by decide +kernel⟩, sr_ws 878 rfl rfl, sr_ws 876 rfl rfl, sr_ws 877 rfl rfl, sr_ws 50 rfl rfl, Or.inl (sr_ws 875 rfl rfl)⟩
set_option maxRecDepth 20000 in
theorem lv_SR_report (l : Launch) (D : va_G) (cA : Nat → ClassId) (ad : Nat → Nat → Nat) : sr_sV l D sr_cl (sr_tys cA) (sr_wd sr_SJ cA sr_csJ ad) (sr_cy sr_NW sr_ZS sr_KS ad) ad sr_WS sr_NW "SuiteRunnerLaw" room_1 88 0 2 (sr_liC p_SR_report) := ⟨⟨"SuiteRunner", "report", "(II)I"⟩, prog_1_method_18_code, 3, (some .int), { frames := 2, cells := 0, slots := 0, locals := 42 }, _, _, _, rfl, sr_CtC (c_SR_report l D cA ad), ⟨rfl, rfl, by decide, by decide⟩, ⟨by decide, by decide, by decide +kernel⟩, sr_ws 645 rfl rfl, sr_ws 643 rfl rfl, sr_ws 644 rfl rfl, sr_ws 40 rfl rfl, Or.inl (sr_ws 642 rfl rfl)⟩
set_option maxRecDepth 20000 in
theorem lv_MO_report (l : Launch) (D : va_G) (cA : Nat → ClassId) (ad : Nat → Nat → Nat) : sr_sV l D sr_cl (sr_tys cA) (sr_wd sr_SJ cA sr_csJ ad) (sr_cy sr_NW sr_ZS sr_KS ad) ad sr_WS sr_NW "SuiteRunnerLaw" room_1 92 10 2 (sr_liM p_MO_report) := ⟨⟨"SuiteRunnerModel", "report", "(II)I"⟩, prog_12_method_46_code, 3, (some .int), { frames := 2, cells := 0, slots := 0, locals := 43 }, _, _, _, rfl, sr_CtM (c_MO_report l D cA ad), ⟨rfl, rfl, by decide, by decide⟩, ⟨by decide, by decide, by decide +kernel⟩, sr_ws 970 rfl rfl, sr_ws 968 rfl rfl, sr_ws 969 rfl rfl, sr_ws 50 rfl rfl, Or.inl (sr_ws 967 rfl rfl)⟩
set_option maxRecDepth 20000 in
theorem lv_SR_worker (l : Launch) (D : va_G) (cA : Nat → ClassId) (ad : Nat → Nat → Nat) : sr_sV l D sr_cl (sr_tys cA) (sr_wd sr_SJ cA sr_csJ ad) (sr_cy sr_NW sr_ZS sr_KS ad) ad sr_WS sr_NW "SuiteRunnerLaw" room_1 93 0 1 (sr_liC p_SR_worker) := ⟨⟨"SuiteRunner", "worker", "(I)I"⟩, prog_1_method_19_code, 2, (some .int), { frames := 1, cells := 0, slots := 0, locals := 21 }, _, _, _, rfl, sr_CtC (c_SR_worker l D cA ad), ⟨rfl, rfl, by decide, by decide⟩, ⟨by decide, by decide, by decide +kernel⟩, sr_ws 653 rfl rfl, sr_ws 651 rfl rfl, sr_ws 652 rfl rfl, sr_ws 40 rfl rfl, Or.inl (sr_ws 650 rfl rfl)⟩
set_option maxRecDepth 20000 in
theorem lv_MO_worker (l : Launch) (D : va_G) (cA : Nat → ClassId) (ad : Nat → Nat → Nat) : sr_sV l D sr_cl (sr_tys cA) (sr_wd sr_SJ cA sr_csJ ad) (sr_cy sr_NW sr_ZS sr_KS ad) ad sr_WS sr_NW "SuiteRunnerLaw" room_1 96 10 1 (sr_liM p_MO_worker) := ⟨⟨"SuiteRunnerModel", "worker", "(I)I"⟩, prog_12_method_47_code, 2, (some .int), { frames := 1, cells := 0, slots := 0, locals := 22 }, _, _, _, rfl, sr_CtM (c_MO_worker l D cA ad), ⟨rfl, rfl, by decide, by decide⟩, ⟨by decide, by decide, by decide +kernel⟩, sr_ws 974 rfl rfl, sr_ws 972 rfl rfl, sr_ws 973 rfl rfl, sr_ws 50 rfl rfl, Or.inl (sr_ws 971 rfl rfl)⟩
set_option maxRecDepth 20000 in
theorem lv_SR_event (l : Launch) (D : va_G) (cA : Nat → ClassId) (ad : Nat → Nat → Nat) : sr_sV l D sr_cl (sr_tys cA) (sr_wd sr_SJ cA sr_csJ ad) (sr_cy sr_NW sr_ZS sr_KS ad) ad sr_WS sr_NW "SuiteRunnerLaw" room_1 97 0 1 (sr_liC p_SR_event) := ⟨⟨"SuiteRunner", "event", "(I)I"⟩, prog_1_method_20_code, 2, (some .int), { frames := 2, cells := 0, slots := 0, locals := 42 }, _, _, _, rfl, sr_CtC (c_SR_event l D cA ad), ⟨rfl, rfl, by decide, by decide⟩, ⟨by decide, by decide, by decide +kernel⟩, sr_ws 657 rfl rfl, sr_ws 655 rfl rfl, sr_ws 656 rfl rfl, sr_ws 40 rfl rfl, Or.inl (sr_ws 654 rfl rfl)⟩
set_option maxRecDepth 20000 in
theorem lv_MO_event (l : Launch) (D : va_G) (cA : Nat → ClassId) (ad : Nat → Nat → Nat) : sr_sV l D sr_cl (sr_tys cA) (sr_wd sr_SJ cA sr_csJ ad) (sr_cy sr_NW sr_ZS sr_KS ad) ad sr_WS sr_NW "SuiteRunnerLaw" room_1 100 10 1 (sr_liM p_MO_event) := ⟨⟨"SuiteRunnerModel", "event", "(I)I"⟩, prog_12_method_48_code, 2, (some .int), { frames := 1, cells := 0, slots := 0, locals := 22 }, _, _, _, rfl, sr_CtM (c_MO_event l D cA ad), ⟨rfl, rfl, by decide, by decide⟩, ⟨by decide, by decide, by decide +kernel⟩, sr_ws 978 rfl rfl, sr_ws 976 rfl rfl, sr_ws 977 rfl rfl, sr_ws 50 rfl rfl, Or.inl (sr_ws 975 rfl rfl)⟩
