/-! What constructors stand on; a contract out of a walk. -/
-- the array that a static field names, with its class as the name "[I" has it
def sr_FA (t : Nat) (A : Nat → Prop) (U : State) (H : Heap) : Prop := ∃ cell : Cell, H[t]? = some cell ∧ (∀ k, cell.vm ≠ .statics k) ∧ cell.vm ≠ .unknown ∧ U.vm.findClass "[I" = some cell.cls ∧ cell.slots = Array.ofFn (n := 9) (fun j => Value.int (sr_K50 j.val)) ∧ ¬ A t
def sr_ao : List String := ["SuiteRunner$TestMethod", "SuiteRunner$Configuration", "SuiteRunner$Progress"]
def sr_ci (ad : Nat → Nat → Nat) : (Nat → Prop) → State → Heap → Prop := fun A U H => sr_cy sr_NW [("SuiteRunner$TestMethod", "FIRST", "[I", 50), ("SuiteRunner$TestMethod", "LEAST", "[I", 51), ("SuiteRunner$TestMethod", "MOST", "[I", 52)] sr_KS ad A U H ∧ (∀ C ∈ sr_ao, va_AO C U) ∧ va_Nw (.castable "[I" "java/lang/Cloneable") U ∧ sr_FA (ad 50 0) A U H
theorem sr_ci_move {ad : Nat → Nat → Nat} {A : Nat → Prop} {s : State} (h : sr_ci ad A s s.heap) (A1 : Nat → Prop) (U : State) (H : Heap) (hA : ∀ q, A1 q → A q) (hW : s.WarmedH U.vm) (hH : ∀ q : Nat, q < s.heap.size → ¬ A q → H[q]? = s.heap[q]?) : sr_ci ad A1 U H := by
  obtain ⟨h1, h2, h3, cell, h4, h5, h6, h7, h8, h9⟩ := h
  exact ⟨sr_cy_move sr_NW_ok h1 A1 U H hA hW hH, fun C hC => va_AO.moved hW.alike (h2 C hC), va_Nw.warmC hW h3, cell, by rw [hH _ (Array.getElem?_eq_some_iff.mp h4).1 h9]; exact h4, h5, h6, by rw [hW.alike.findClass]; exact h7, h8, fun z => h9 (hA _ z)⟩
theorem sr_ci_blind {ad : Nat → Nat → Nat} (A1 : Nat → Prop) (U : State) (g : JFrame) (mk : MethodId) (v : Array Value) (H : Heap) (h : sr_ci ad A1 U H) : sr_ci ad A1 (State.calling U g mk v) H := by
  obtain ⟨h1, h2, h3, cell, h4, h5, h6, h7, h8, h9⟩ := h
  exact ⟨sr_cy_blind sr_NW_ok A1 U g mk v H h1, fun C hC => va_AO.moved (u := U) (U := U.calling g mk v) (Vm.Alike.refl U.vm) (h2 C hC), va_Nw.same rfl (u := U) (U := U.calling g mk v) rfl h3, cell, h4, h5, h6, h7, h8, h9⟩
theorem sr_CI_of {l : Launch} {D : va_G} {cl : List vw_C} {tys : List (ClassId × FieldType)} {cy : (Nat → Prop) → State → Heap → Prop} {WS : List Cond} {y : MethodName} {bytes : ByteArray} {maxL : Nat} {rm : Room} {n ci : Nat} {fs : List Value} {ms : Nat} {EX : Nat → Nat → va_E} (hy : plainName y.cls = true) (h1 : 1 ≤ maxL)
    (walk : ∀ (p : Program) (e : Env) (s : State) (m : MethodId) (args : Array Value) (below : List Frame) (meth : Method) (c : Code) (a : Nat), p.tables.exec = Jvm.exec → c.code = bytes → c.maxLocals = maxL → meth.sig.returnType = none → meth.locks = false → meth.name = y.name → (∀ w ∈ Cond.code y bytes maxL none :: WS, w.before args s = true) → s.vm.findClass y.cls = some m.cls → va_K D cl tys s → s.heap.size = a + 1 → cy (fun q => a ≤ q) s s.heap → sr_N p l e rm s m args below meth c (MQ below (fun _ st o t => (o = .returned none ∧ va_P D cl (sr_bk a n (EX a)) t.heap) ∧ va_F (fun q => a ≤ q) st t) args s (n - 1) ms (fun q => a ≤ q)) maxL D cl a 0 0 0 [(0, .ref a)] [] 1 (fun _ => .inr (ci, fs))) : sr_CI l D cl tys cy WS y bytes maxL rm n ci fs ms EX := by
  intro a
  refine Met.ofW (cc := bytes) (maxL := maxL) (ret := none) hy rfl ?_
  intro p e s m args below meth c s₁ B hml hv
  obtain ⟨rfl, hsz, hat, hK, hcy⟩ := hv
  have hin : meth.name = y.name := (name_of_methodNamed B.named B.method).1
  have hl := lv_entry ([.ref a]) (n := maxL) h1
  rw [lg_entry_eq]
  exact walk p e s m _ below meth c a B.exec B.bytes hml B.returns B.notSynchronized hin (atoms_spec (ws := Cond.code y bytes maxL none :: WS) B.pre) (findClass_of_methodNamed B.named) hK hsz hcy _ _ _ hl (sr_bk_P (fun k hk => by
    obtain rfl : k = 0 := by omega
    exact hat)) va_S.rf
section SrClone

variable {p : Program} {l : Launch} {e : Env} {R : Room} {s : State} {m : MethodId} {args : Array Value} {below : List Frame} {meth : Method} {c : Code} {cells slots : Nat} {Q : State → Prop} {cc : ByteArray} {nL : Nat} {D : va_G} {cl : List vw_C} {tys : List (ClassId × FieldType)} {a n pc : Nat} {E : Nat → va_E} {L : List (Nat × Value)} {st : List Value} {own : String} {Ts WS : List Cond} {ad : Nat → Nat → Nat}

theorem sr_N_gets {C nm d : String} {v : Value} {index : Nat} (hx : p.tables.exec = Jvm.exec) (hb : c.code = cc) (hZ : va_Z C nm d v (fun q => a ≤ q) s s.heap) (hown : s.vm.findClass own = some m.cls) (hlink : (Cond.fieldLink own index C nm d).before args s = true) (hd : decode cc pc = .ok (.getstatic index, 3)) (kk : sr_N p l e R s m args below meth c Q nL D cl a cells slots (pc + 3) L (v :: st) n E) : sr_N p l e R s m args below meth c Q nL D cl a cells slots pc L st n E := fun ls H locs hl hP hS => va_gets hx hb hZ hS hown hlink (fun _ h => h) hd (kk ls H locs hl hP hS)
theorem sr_N_cast {nm : String} {k index : Nat} {cA : ClassId} {x : vp_A} (hx : p.tables.exec = Jvm.exec) (hb : c.code = cc) (hown : s.vm.findClass own = some m.cls) (hlink : (Cond.classLink own index nm).before args s = true) (hk : k < n) (hE : E k = .inl (cA, x)) (hnm : s.vm.findClass nm = some cA) (hd : decode cc pc = .ok (.checkcast index, 3)) (kk : sr_N p l e R s m args below meth c Q nL D cl a cells slots (pc + 3) L (.ref (a + k) :: st) n E) : sr_N p l e R s m args below meth c Q nL D cl a cells slots pc L (.ref (a + k) :: st) n E := fun ls H locs hl hP hS => va_castA hx hb hown hlink hP k (by rw [sr_bk_at hk, hE]) hnm hd (kk ls H locs hl hP hS)
theorem sr_N_clone {cA : ClassId} {t index : Nat} (hx : p.tables.exec = Jvm.exec) (hb : c.code = cc) (hml : c.maxLocals = nL) (hown : s.vm.findClass own = some m.cls) (hlink : (Cond.methodLink own index ⟨"[I", "clone", "()Ljava/lang/Object;"⟩).before args s = true) (hsame : (Cond.sameMethod "[I" "java/lang/Object" "clone" "()Ljava/lang/Object;").before args s = true) (hnat : (Cond.native ⟨"java/lang/Object", "clone", "()Ljava/lang/Object;"⟩).before args s = true) (hinst : (Cond.instanceMethod ⟨"java/lang/Object", "clone", "()Ljava/lang/Object;"⟩).before args s = true) (hsel : (Cond.selects "[I" ⟨"[I", "clone", "()Ljava/lang/Object;"⟩ ⟨"java/lang/Object", "clone", "()Ljava/lang/Object;"⟩).before args s = true) (hcl : va_Nw (.castable "[I" "java/lang/Cloneable") s) (hF : sr_FA t (fun q => a ≤ q) s s.heap) (hK : va_K D cl tys s) (ht : tys[0]? = some (cA, .int)) (hn : 1 ≤ n) (hac : s.heap.size + cells = a + n) (hframes : 1 ≤ R.frames) (hlocals : (st.map fun v => v.category).sum + 14 ≤ R.locals) (hcells : cells + 1 ≤ R.cells) (hslots : slots + 9 ≤ R.slots) (hd : decode cc pc = .ok (.invokevirtual index, 3))
    (kk : sr_N p l e R s m args below meth c Q nL D cl a (cells + 1) (slots + 9) (pc + 3) L (.ref (a + n) :: st) (n + 1) (sr_ue E n (.inl (cA, 9, .inl sr_K50)))) : sr_N p l e R s m args below meth c Q nL D cl a cells slots pc L (.ref t :: st) n E := by
  intro ls H locs hl hP hS
  intro T hT X
  obtain ⟨cell, h4, h5, h6, h7, h8, h9⟩ := hF
  have hz := X.heapSize
  rw [hT] at hz
  have hlast := (sr_bk_Q hP (n - 1) (by omega)).lt
  dsimp only at hlast
  have hsz : H.size = a + n := by omega
  have hcell : H[t]? = some cell := by rw [hS.2.1 t (Array.getElem?_eq_some_iff.mp h4).1 h9]; exact h4
  have hcA : cell.cls = cA := Option.some.inj (h7.symm.trans (va_nm_int (hK.2 0 _ ht).2))
  obtain ⟨c0, t0', f1, f2, f3⟩ := Cond.castable_spec (va_Nw.use (A := args) rfl hcl)
  cases h7.symm.trans f1
  obtain ⟨-, kA, hkA, comp, hkind⟩ := State.isArrayOf_alike X.warmed.alike ((hK.2 0 _ ht).1 0 (fun _ => .null))
  obtain ⟨-, kS, hkS, compS, hkindS⟩ := (hK.2 0 _ ht).1 0 (fun _ => .null)
  have h9s : cell.slots.size = 9 := by rw [h8, Array.size_ofFn]
  obtain ⟨vm', X', stp⟩ := X.cloneArray hx hown hlink hsame hnat hinst hsel (a := t) (cell := cell) (by rw [hT]; exact hcell) h5 h6 h7 f2 f3
    (fun i v hv => by
      have hk' : T.vm.classes[cA]? = some kA := hkA
      rw [h8] at hv
      have hi : i < 9 := by
        have := (Array.getElem?_eq_some_iff.mp hv).1
        rw [Array.size_ofFn] at this
        exact this
      rw [Array.getElem?_ofFn, dif_pos hi] at hv
      cases hv
      rw [hcA]
      simp [State.fitsSlot, State.slotType?, hk', hkind, fits])
    (g := F0 m pc ls (.ref t :: st)) rfl (by rw [hml]; exact hl.1) rfl (by rw [hb]; exact hd) hframes (by show 2 * 0 + _ + 14 ≤ _; omega) hcells (by rw [h9s]; exact hslots) (hloader := by rw [hcA]; exact Vm.clonesLoader_of_array hkS hkindS)
  rw [h9s] at X'
  have hnew : ({ cls := cell.cls, slots := cell.slots } : Cell) = vp_cell cA (9, .inl sr_K50) := by
    rw [h8, hcA]
    rfl
  rw [hnew] at X' stp
  have o1 : ∀ q : Nat, q < H.size → (H.push (vp_cell cA (9, .inl sr_K50)))[q]? = H[q]? := fun q hq => by rw [Array.getElem?_push, if_neg (Nat.ne_of_lt hq)]
  obtain ⟨t2, b1, b2⟩ := kk ls (H.push (vp_cell cA (9, .inl sr_K50))) locs hl (sr_bk_P (fun k hk => by
      by_cases hkn : k = n
      · subst hkn
        simp only [sr_ue, if_pos]
        show (H.push _)[a + k]? = some (vp_cell _ _)
        rw [← hsz, Array.getElem?_push_size]
      · simp only [sr_ue, if_neg hkn]
        exact (sr_bk_Q hP k (by omega)).kept (o1 _ (by show a + k < _; omega)))) ⟨by rw [Array.size_push]; exact Nat.le_succ_of_le hS.1, fun q h1 h2 => (o1 q (Nat.lt_of_lt_of_le h1 hS.1)).trans (hS.2.1 q h1 h2), hS.2.2⟩ ((T.setVm vm').pushCell (vp_cell cA (9, .inl sr_K50))) (by rw [← hT]; rfl) X'
  refine ⟨t2, stp t2 ?_, b2⟩
  rw [hT, hsz]
  exact b1
theorem sr_N_ge {x y : Int32} {off : Int} {tgt : Nat} (hx : p.tables.exec = Jvm.exec) (hb : c.code = cc) (hd : decode cc pc = .ok (.if_icmp .ge off, 3)) (ht : (pc : Int) + off = (tgt : Int)) (k1 : y ≤ x → sr_N p l e R s m args below meth c Q nL D cl a cells slots tgt L st n E) (k2 : ¬ y ≤ x → sr_N p l e R s m args below meth c Q nL D cl a cells slots (pc + 3) L st n E) : sr_N p l e R s m args below meth c Q nL D cl a cells slots pc L (.int y :: .int x :: st) n E := fun ls H locs hl hP hS => lv_icmp_ge hx hb hd ht (fun h => k1 h ls H locs hl hP hS) (fun h => k2 h ls H locs hl hP hS)
theorem sr_N_to {cells' slots' n' : Nat} {L' : List (Nat × Value)} {E' : Nat → va_E} (h1 : cells = cells') (h2 : slots = slots') (h3 : n = n') (h4 : L = L') (h5 : ∀ k, k < n → E k = E' k) (kk : sr_N p l e R s m args below meth c Q nL D cl a cells' slots' pc L' st n' E') : sr_N p l e R s m args below meth c Q nL D cl a cells slots pc L st n E := by
  subst h1
  subst h2
  subst h3
  subst h4
  exact sr_N_cg h5 kk
end SrClone
