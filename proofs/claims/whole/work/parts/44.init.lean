/-! Calls of constructors, and their contracts. -/
-- a constructor's contract: from its object a, alone and new, to n cells from a on
def sr_CI (l : Launch) (D : va_G) (cl : List vw_C) (tys : List (ClassId × FieldType)) (cy : (Nat → Prop) → State → Heap → Prop) (WS : List Cond) (y : MethodName) (bytes : ByteArray) (maxL : Nat) (rm : Room) (n ci : Nat) (fs : List Value) (ms : Nat) (EX : Nat → Nat → va_E) : Prop :=
  ∀ a : Nat, Met l y (Cond.code y bytes maxL none :: WS) rm (va_Pc [.ref a] (fun U => U.heap.size = a + 1 ∧ va_at D cl (a, .inr (ci, fs)) U.heap ∧ va_K D cl tys U ∧ cy (fun q => a ≤ q) U U.heap)) (fun _ st o t => (o = .returned none ∧ va_P D cl (sr_bk a n (EX a)) t.heap) ∧ va_F (fun q => a ≤ q) st t) (n - 1) ms (fun q => a ≤ q)
section SrInit

variable {p : Program} {l : Launch} {e : Env} {R : Room} {s : State} {m : MethodId} {args : Array Value} {below : List Frame} {meth : Method} {c : Code} {cells slots : Nat} {Q : State → Prop} {cc : ByteArray} {nL : Nat} {D : va_G} {cl : List vw_C} {tys : List (ClassId × FieldType)} {a n pc : Nat} {E : Nat → va_E} {L : List (Nat × Value)} {st : List Value} {own : String} {Ts WS : List Cond} {cy : (Nat → Prop) → State → Heap → Prop}

theorem sr_N_init {y : MethodName} {bytes : ByteArray} {maxL k nX ci ms index : Nat} {rm : Room} {fs : List Value} {EX : Nat → Nat → va_E} (hx : p.tables.exec = Jvm.exec) (hb : c.code = cc) (hml : c.maxLocals = nL) (hts : ∀ w ∈ Ts, w.before args s = true) (hown : s.vm.findClass own = some m.cls) (hK : va_K D cl tys s)
    (hcm : ∀ (A1 : Nat → Prop) (U : State) (H : Heap), (∀ q, A1 q → a ≤ q) → s.WarmedH U.vm → (∀ q : Nat, q < s.heap.size → ¬ a ≤ q → H[q]? = s.heap[q]?) → cy A1 U H) (hcb : ∀ A1 U g mk v H, cy A1 U H → cy A1 (State.calling U g mk v) H)
    (hct : sr_CI l D cl tys cy WS y bytes maxL rm nX ci fs ms EX) (hcw : (CallB R s args own index y bytes maxL none (Cond.code y bytes maxL none :: WS) rm (nX - 1) ms 0 ∧ y.name = "<init>" ∧ (Cond.instanceMethod y).before args s = true) ∨ ∃ host, va_CN R s args own index y host bytes maxL none (Cond.code y bytes maxL none :: WS) rm (nX - 1) ms 0 ∧ y.name = "<init>" ∧ (Cond.instanceMethod y).before args s = true)
    (hn : n = k + 1) (hE : E k = .inr (ci, fs)) (hac : s.heap.size + cells = a + n) (hroom : cells + (nX - 1) ≤ R.cells ∧ slots + ms ≤ R.slots) (h4 : st.length ≤ 4) (hd : decode cc pc = .ok (.invokespecial index, 3))
    (kk : sr_N p l e R s m args below meth c Q nL D cl a (cells + (nX - 1)) (slots + ms) (pc + 3) L st (k + nX) (fun j => if j < k then E j else EX (a + k) (j - k))) : sr_N p l e R s m args below meth c Q nL D cl a cells slots pc L (.ref (a + k) :: st) n E := by
  intro ls H locs hl hP hS
  intro T hT X
  have hz := X.heapSize
  rw [hT] at hz
  have hat := sr_bk_Q hP k (by omega)
  rw [hE] at hat
  have hlt := hat.lt
  dsimp only at hlt
  have hsz : H.size = a + k + 1 := by omega
  have hM := hct (a + k)
  have hp : PreS s H (va_Pc [.ref (a + k)] (fun U => U.heap.size = a + k + 1 ∧ va_at D cl (a + k, .inr (ci, fs)) U.heap ∧ va_K D cl tys U ∧ cy (fun q => a + k ≤ q) U U.heap)) (.ref (a + k) :: []) := by
    refine ⟨?_, fun U hU hW => ⟨rfl, by rw [hU]; exact hsz, by rw [hU]; exact hat, va_K.moved hW.alike hK, by rw [hU]; exact hcm _ U H (fun q (h : a + k ≤ q) => by omega) hW hS.2.1⟩⟩
    intro v U g mk q
    obtain ⟨q0, q1, q2, qK, qC⟩ := q
    exact ⟨q0, q1, q2, va_K.moved (u := U) (U := U.calling g mk v) (Vm.Alike.refl U.vm) qK, hcb _ _ _ _ _ _ qC⟩
  have h8 : 2 * (F0 m pc ls (.ref (a + k) :: st)).monitorRoom + (st.map fun v => v.category).sum ≤ 8 := lv_room (by
    have := sr_sum_cat st
    omega)
  have hgo : va_Run p l e R s m args below meth c H locs cells slots (nX - 1) ms (F0 m pc ls (.ref (a + k) :: st)) st (fun st o t => (o = .returned none ∧ va_P D cl (sr_bk (a + k) nX (EX (a + k))) t.heap) ∧ va_F (fun q => a + k ≤ q) st t) (fun q => a + k ≤ q) := by
    rcases hcw with hcw | ⟨host, hcw⟩
    · exact va_runI (As := []) (rest := st) ⟨hx, hb, hml, hown, hts⟩ hM hcw hp rfl rfl hl.1 rfl h8 hd hroom
    · exact va_runIN (As := []) (rest := st) ⟨hx, hb, hml, hown, hts⟩ hM hcw hp rfl rfl hl.1 rfl h8 hd hroom
  obtain ⟨v, st₀, t, T', Lc, h0, X', hL, e1, e2, ⟨⟨hv, hp1⟩, hz1, hk1⟩, stp⟩ := hgo T hT X
  injection hv with hv
  subst hv
  rw [h0] at hz1 hk1
  have hcells : va_P D cl (sr_bk a (k + nX) (fun j => if j < k then E j else EX (a + k) (j - k))) T'.heap := by
    refine sr_bk_P (fun j hj => ?_)
    by_cases hjk : j < k
    · simp only [if_pos hjk]
      refine (sr_bk_Q hP j (by omega)).kept ?_
      rw [e1]
      exact hk1 (a + j) (by omega) (by omega)
    · simp only [if_neg hjk]
      have := sr_bk_Q hp1 (j - k) (by omega)
      rw [show a + k + (j - k) = a + j by omega] at this
      rw [e1]
      exact this
  obtain ⟨t2, a1, b1⟩ := kk ls T'.heap (locs ++ Lc) hl hcells ⟨Nat.le_trans hS.1 (by rw [e1]; exact hz1), fun q h1 h2 => by
      rw [e1, hk1 q (Nat.lt_of_lt_of_le h1 hS.1) (by omega)]; exact hS.2.1 q h1 h2, fun q hq => by
      rcases List.mem_append.mp hq with h | h
      · exact hS.2.2 q h
      · have h9 : a + k ≤ q.base := hL q h
        show a ≤ q.base
        omega⟩ T' rfl X'
  exact ⟨t2, stp t2 a1, b1⟩
theorem sr_N_ret {ms : Nat} {EX : Nat → va_E} (hx : p.tables.exec = Jvm.exec) (hb : c.code = cc) (hr : meth.sig.returnType = none) (hlk : meth.locks = false) (hE : ∀ k, k < n → E k = EX k) (hd : decode cc pc = .ok (.return_, 1)) : sr_N p l e R s m args below meth c (MQ below (fun _ st o t => (o = .returned none ∧ va_P D cl (sr_bk a n EX) t.heap) ∧ va_F (fun q => a ≤ q) st t) args s cells ms (fun q => a ≤ q)) nL D cl a cells ms pc L [] n E := by
  intro ls H locs hl hP hS
  exact W.vret (Qc := fun _ st o t => (o = .returned none ∧ va_P D cl (sr_bk a n EX) t.heap) ∧ va_F (fun q => a ≤ q) st t) hx hb hr (fun t ht _ => ⟨⟨rfl, by rw [ht]; exact sr_bk_cg hE hP⟩, hS.F ht⟩) hS.2.2 hd hlk
end SrInit
