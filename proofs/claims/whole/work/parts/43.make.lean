/-! Making objects: the cells of a constructor lie one behind another, from its object on. -/
def sr_bk (a n : Nat) (E : Nat → va_E) : va_W := (List.range n).map (fun k => (a + k, E k))
def sr_ue (E : Nat → va_E) (k : Nat) (x : va_E) : Nat → va_E := fun j => if j = k then x else E j
theorem sr_bk_at {a n k : Nat} {E : Nat → va_E} (h : k < n) : (sr_bk a n E)[k]? = some (a + k, E k) := by
  unfold sr_bk
  rw [List.getElem?_map, List.getElem?_range h]
  rfl
theorem sr_bk_inv {a n k : Nat} {E : Nat → va_E} {q : Nat × va_E} (h : (sr_bk a n E)[k]? = some q) : k < n ∧ q = (a + k, E k) := by
  have hk : k < n := by
    have := (List.getElem?_eq_some_iff.mp h).1
    unfold sr_bk at this
    rw [List.length_map, List.length_range] at this
    exact this
  rw [sr_bk_at hk] at h
  exact ⟨hk, (Option.some.inj h).symm⟩
theorem sr_bk_P {D : va_G} {cl : List vw_C} {a n : Nat} {E : Nat → va_E} {H : Heap} (h : ∀ k, k < n → va_at D cl (a + k, E k) H) : va_P D cl (sr_bk a n E) H := by
  intro k q hk
  obtain ⟨h1, rfl⟩ := sr_bk_inv hk
  exact h k h1
theorem sr_bk_Q {D : va_G} {cl : List vw_C} {a n : Nat} {E : Nat → va_E} {H : Heap} (h : va_P D cl (sr_bk a n E) H) (k : Nat) (hk : k < n) : va_at D cl (a + k, E k) H := h k _ (sr_bk_at hk)
theorem sr_bk_cg {D : va_G} {cl : List vw_C} {a n : Nat} {E E' : Nat → va_E} {H : Heap} (e : ∀ k, k < n → E k = E' k) (h : va_P D cl (sr_bk a n E) H) : va_P D cl (sr_bk a n E') H := sr_bk_P (fun k hk => by rw [← e k hk]; exact sr_bk_Q h k hk)
theorem sr_bk_D {a n : Nat} {E : Nat → va_E} : va_D (fun q => a ≤ q) (sr_bk a n E) := by
  refine ⟨fun i j x y hi hj hxy => ?_, fun k q hk => ?_⟩
  · obtain ⟨_, rfl⟩ := sr_bk_inv hi
    obtain ⟨_, rfl⟩ := sr_bk_inv hj
    dsimp only at hxy
    omega
  · obtain ⟨_, rfl⟩ := sr_bk_inv hk
    exact Nat.le_add_right _ _
theorem sr_bk_push {a n : Nat} {E : Nat → va_E} {x : va_E} : sr_bk a n E ++ [(a + n, x)] = sr_bk a (n + 1) (sr_ue E n x) := by
  unfold sr_bk
  rw [List.range_succ, List.map_append]
  congr 1
  · refine List.map_congr_left (fun k hk => ?_)
    have := List.mem_range.mp hk
    simp only [sr_ue, if_neg (Nat.ne_of_lt this)]
  · simp [sr_ue]
theorem sr_bk_set {a n k : Nat} {E : Nat → va_E} {x : va_E} : (sr_bk a n E).set k (a + k, x) = sr_bk a n (sr_ue E k x) := by
  refine List.ext_getElem? (fun i => ?_)
  by_cases hi : i < n
  · rw [sr_bk_at hi]
    by_cases h : k = i
    · subst h
      rw [List.getElem?_set_self (by unfold sr_bk; rw [List.length_map, List.length_range]; exact hi)]
      simp [sr_ue]
    · rw [List.getElem?_set_ne h, sr_bk_at hi]
      simp only [sr_ue, if_neg (fun (z : i = k) => h z.symm)]
  · have e1 : (sr_bk a n (sr_ue E k x))[i]? = none := List.getElem?_eq_none (by unfold sr_bk; rw [List.length_map, List.length_range]; omega)
    have e2 : ((sr_bk a n E).set k (a + k, x))[i]? = none := List.getElem?_eq_none (by rw [List.length_set]; unfold sr_bk; rw [List.length_map, List.length_range]; omega)
    rw [e1, e2]
-- where a new cell lies
theorem sr_bk_new {a n q b : Nat} {E : Nat → va_E} {x : va_E} (h1 : va_D (fun q => a ≤ q) (sr_bk a n E ++ [(q, x)])) (h2 : q < b) (h3 : b ≤ a + n + 1) : q = a + n := by
  have hl : (sr_bk a n E ++ [(q, x)])[n]? = some (q, x) := by
    rw [List.getElem?_append_right (by unfold sr_bk; rw [List.length_map, List.length_range]; omega)]
    unfold sr_bk
    rw [List.length_map, List.length_range, Nat.sub_self]
    rfl
  have ha : a ≤ q := h1.2 n _ hl
  by_cases hq : q = a + n
  · exact hq
  · exfalso
    have hk : q - a < n := by omega
    have hi : (sr_bk a n E ++ [(q, x)])[q - a]? = some (a + (q - a), E (q - a)) := by
      rw [List.getElem?_append_left (by unfold sr_bk; rw [List.length_map, List.length_range]; omega), sr_bk_at hk]
    have := h1.1 n (q - a) _ _ hl hi (show q = a + (q - a) by omega)
    omega
section SrMake

variable {p : Program} {l : Launch} {e : Env} {R : Room} {s : State} {m : MethodId} {args : Array Value} {below : List Frame} {meth : Method} {c : Code} {cells slots : Nat} {Q : State → Prop} {cc : ByteArray} {nL : Nat} {D : va_G} {cl : List vw_C} {tys : List (ClassId × FieldType)} {a n pc : Nat} {E : Nat → va_E} {L : List (Nat × Value)} {st : List Value} {own : String} {Ts WS : List Cond} {cy : (Nat → Prop) → State → Heap → Prop}

-- the machine at a place of a constructor: n cells from a on
def sr_N (p : Program) (l : Launch) (e : Env) (R : Room) (s : State) (m : MethodId) (args : Array Value) (below : List Frame) (meth : Method) (c : Code) (Q : State → Prop) (nL : Nat) (D : va_G) (cl : List vw_C) (a cells slots pc : Nat) (L : List (Nat × Value)) (st : List Value) (n : Nat) (E : Nat → va_E) : Prop := ∀ (ls : Array Slot) (H : Heap) (locs : List Loc), lv_has ls nL L → va_P D cl (sr_bk a n E) H → va_S (fun q => a ≤ q) s.heap H locs → W p l e R s m args below meth c H locs cells slots Q (F0 m pc ls st)
theorem sr_N_of {pc' : Nat} {st' : List Value} (row : ∀ (ls : Array Slot) (H : Heap) (locs : List Loc), lv_has ls nL L → W p l e R s m args below meth c H locs cells slots Q (F0 m pc' ls st') → W p l e R s m args below meth c H locs cells slots Q (F0 m pc ls st)) (kk : sr_N p l e R s m args below meth c Q nL D cl a cells slots pc' L st' n E) : sr_N p l e R s m args below meth c Q nL D cl a cells slots pc L st n E := fun ls H locs hl hP hS => row ls H locs hl (kk ls H locs hl hP hS)
theorem sr_N_ofL {pc' : Nat} {L' : List (Nat × Value)} {st' : List Value} (row : ∀ (ls : Array Slot) (H : Heap) (locs : List Loc), lv_has ls nL L → (∀ ls' : Array Slot, lv_has ls' nL L' → W p l e R s m args below meth c H locs cells slots Q (F0 m pc' ls' st')) → W p l e R s m args below meth c H locs cells slots Q (F0 m pc ls st)) (kk : sr_N p l e R s m args below meth c Q nL D cl a cells slots pc' L' st' n E) : sr_N p l e R s m args below meth c Q nL D cl a cells slots pc L st n E := fun ls H locs hl hP hS => row ls H locs hl (fun ls' hl' => kk ls' H locs hl' hP hS)
theorem sr_N_cg {E' : Nat → va_E} (he : ∀ k, k < n → E k = E' k) (kk : sr_N p l e R s m args below meth c Q nL D cl a cells slots pc L st n E') : sr_N p l e R s m args below meth c Q nL D cl a cells slots pc L st n E := fun ls H locs hl hP hS => kk ls H locs hl (sr_bk_cg he hP) hS
theorem sr_N_new {C : String} {T : u_T} {N ci index : Nat} (hx : p.tables.exec = Jvm.exec) (hb : c.code = cc) (hts : ∀ w ∈ Ts, w.before args s = true) (hin : ∀ w ∈ u_ws C T N, w ∈ Ts) (ty : Nat → FieldType) (hty : ∀ k, k < N → parseFieldDescriptor (T k).2.2.1 = some (ty k)) (hown : s.vm.findClass own = some m.cls) (hcl : (Cond.classLink own index C).before args s = true) (hinst : (Cond.instantiable C N).before args s = true) (hini : (Cond.initialized C).before args s = true) (hK : va_K D cl tys s) (ha : a ≤ s.heap.size) (hac : s.heap.size + cells = a + n) (hc : cl[ci]? = some (C, T, N)) {fs : List Value} (hfs : ∀ j, j < N → defaultValue (ty j) = vp_V fs j) (hcells : cells + 1 ≤ R.cells) (hslots : slots + N ≤ R.slots) (hd : decode cc pc = .ok (.new index, 3))
    (kk : sr_N p l e R s m args below meth c Q nL D cl a (cells + 1) (slots + N) (pc + 3) L (.ref (a + n) :: st) (n + 1) (sr_ue E n (.inr (ci, fs)))) : sr_N p l e R s m args below meth c Q nL D cl a cells slots pc L st n E := by
  intro ls H locs hl hP hS
  refine va_new hx hb hts hin ty hty hown hcl hinst hini hK hP sr_bk_D hS (fun q h => Nat.le_trans ha h) hc hfs hcells hslots hd (fun q H1 hP1 hD1 hS1 => ?_)
  intro T1 hT1 X1
  have hz := X1.heapSize
  rw [hT1] at hz
  have hq : q = a + n := sr_bk_new hD1 ((hP1 n (q, .inr (ci, fs)) (by
    rw [List.getElem?_append_right (by unfold sr_bk; rw [List.length_map, List.length_range]; omega)]
    unfold sr_bk
    rw [List.length_map, List.length_range, Nat.sub_self]
    rfl)).lt) (by omega)
  subst hq
  rw [sr_bk_push] at hP1
  exact kk ls H1 locs hl hP1 hS1 T1 hT1 X1
theorem sr_N_newa {atype : ArrayType} {ty : FieldType} {cA : ClassId} {t0 : Nat} (hx : p.tables.exec = Jvm.exec) (hb : c.code = cc) (harr : (Cond.arrayClass (newarray.typeOf atype)).before args s = true) (hty : newarray.typeOf atype = ty) (hK : va_K D cl tys s) (ht : tys[t0]? = some (cA, ty)) (hinj : ∀ x y, va_RA s x ty → va_RA s y ty → x = y) (ha : a ≤ s.heap.size) (hac : s.heap.size + cells = a + n) {k : Int32} {N : Nat} {a0 : vp_A} (ha0 : ∀ cA : ClassId, vp_cell cA a0 = arrV cA N (fun _ => defaultValue ty)) (hk : ¬ k < 0) (hN : k.toNatClampNeg = N) (hby : N * componentBytes ty ≤ 536870912) (hcells : cells + 1 ≤ R.cells) (hslots : slots + N ≤ R.slots) (hd : decode cc pc = .ok (.newarray atype, 2))
    (kk : sr_N p l e R s m args below meth c Q nL D cl a (cells + 1) (slots + N) (pc + 2) L (.ref (a + n) :: st) (n + 1) (sr_ue E n (.inl (cA, a0)))) : sr_N p l e R s m args below meth c Q nL D cl a cells slots pc L (.int k :: st) n E := by
  intro ls H locs hl hP hS
  refine va_newa hx hb harr hty hK hP sr_bk_D hS (fun q h => Nat.le_trans ha h) ha0 hk hN hby hcells hslots hd (fun q cB H1 hK1 hP1 hD1 hS1 => ?_)
  have hc : cB = cA := by
    refine hinj _ _ (hK1.2 tys.length (cB, ty) ?_).2 (hK.2 t0 _ ht).2
    rw [List.getElem?_append_right (Nat.le_refl _), Nat.sub_self]
    rfl
  subst hc
  intro T1 hT1 X1
  have hz := X1.heapSize
  rw [hT1] at hz
  have hq : q = a + n := sr_bk_new hD1 ((hP1 n (q, .inl (cB, a0)) (by
    rw [List.getElem?_append_right (by unfold sr_bk; rw [List.length_map, List.length_range]; omega)]
    unfold sr_bk
    rw [List.length_map, List.length_range, Nat.sub_self]
    rfl)).lt) (by omega)
  subst hq
  rw [sr_bk_push] at hP1
  exact kk ls H1 locs hl hP1 hS1 T1 hT1 X1
theorem sr_N_newq {C : String} {index : Nat} {cA : ClassId} {t0 : Nat} (hx : p.tables.exec = Jvm.exec) (hb : c.code = cc) (hown : s.vm.findClass own = some m.cls) (hclink : (Cond.classLink own index C).before args s = true) (hover : va_AO C s) (hK : va_K D cl tys s) (ht : tys[t0]? = some (cA, .object C)) (ha : a ≤ s.heap.size) (hac : s.heap.size + cells = a + n) {k : Int32} {N : Nat} (hk : ¬ k < 0) (hN : k.toNatClampNeg = N) (hby : N * 4 ≤ 536870912) (hcells : cells + 1 ≤ R.cells) (hslots : slots + N ≤ R.slots) (hd : decode cc pc = .ok (.anewarray index, 3))
    (kk : sr_N p l e R s m args below meth c Q nL D cl a (cells + 1) (slots + N) (pc + 3) L (.ref (a + n) :: st) (n + 1) (sr_ue E n (.inl (cA, N, .inr (.inr (.inr (.inr (fun _ => none)))))))) : sr_N p l e R s m args below meth c Q nL D cl a cells slots pc L (.int k :: st) n E := by
  intro ls H locs hl hP hS
  refine va_newq hx hb hown hclink hover hK hP sr_bk_D hS (fun q h => Nat.le_trans ha h) hk hN hby hcells hslots hd (fun q cB H1 hK1 hP1 hD1 hS1 => ?_)
  have hc : cB = cA := by
    have h1 := (hK1.2 tys.length (cB, .object C) (by rw [List.getElem?_append_right (Nat.le_refl _), Nat.sub_self]; rfl)).2
    have h2 := (hK.2 t0 _ ht).2
    obtain ⟨_, _, _, _, _, h3⟩ := h1
    obtain ⟨_, _, _, _, _, h4⟩ := h2
    exact Option.some.inj (h3.symm.trans h4)
  subst hc
  intro T1 hT1 X1
  have hz := X1.heapSize
  rw [hT1] at hz
  have hq : q = a + n := sr_bk_new hD1 ((hP1 n (q, _) (by
    rw [List.getElem?_append_right (by unfold sr_bk; rw [List.length_map, List.length_range]; omega)]
    unfold sr_bk
    rw [List.length_map, List.length_range, Nat.sub_self]
    rfl)).lt) (by omega)
  subst hq
  rw [sr_bk_push] at hP1
  exact kk ls H1 locs hl hP1 hS1 T1 hT1 X1
theorem sr_RA_int {s : State} (x y : ClassId) (h1 : va_RA s x .int) (h2 : va_RA s y .int) : x = y := Option.some.inj (h1.symm.trans h2)
theorem sr_RA_long {s : State} (x y : ClassId) (h1 : va_RA s x .long) (h2 : va_RA s y .long) : x = y := Option.some.inj (h1.symm.trans h2)
theorem sr_RA_char {s : State} (x y : ClassId) (h1 : va_RA s x .char) (h2 : va_RA s y .char) : x = y := Option.some.inj (h1.symm.trans h2)
theorem sr_RA_boolean {s : State} (x y : ClassId) (h1 : va_RA s x .boolean) (h2 : va_RA s y .boolean) : x = y := Option.some.inj (h1.symm.trans h2)
theorem sr_N_iast {cA : ClassId} {t0 k N : Nat} {f : Nat → Int32} {i x : Int32} (hx : p.tables.exec = Jvm.exec) (hb : c.code = cc) (hK : va_K D cl tys s) (hk : k < n) (hE : E k = .inl (cA, N, .inl f)) (ht : tys[t0]? = some (cA, .int)) (hin : vp_in i N) (hd : decode cc pc = .ok (.iastore, 1))
    (kk : sr_N p l e R s m args below meth c Q nL D cl a cells slots (pc + 1) L st n (sr_ue E k (.inl (cA, N, .inl (upd f i.toNatClampNeg x))))) : sr_N p l e R s m args below meth c Q nL D cl a cells slots pc L (.int x :: .int i :: .ref (a + k) :: st) n E := by
  intro ls H locs hl hP hS
  refine va_iast hx hb hK hP sr_bk_D hS k t0 (by rw [sr_bk_at hk, hE]) ht hin hd (fun H1 locs1 hP1 _ hS1 => ?_)
  rw [sr_bk_set] at hP1
  exact kk ls H1 locs1 hl hP1 hS1
theorem sr_N_astq {cA : ClassId} {r : vw_C} {t0 k j ci N : Nat} {f : Nat → Option Nat} {vs : List Value} {i : Int32} (hx : p.tables.exec = Jvm.exec) (hb : c.code = cc) (hK : va_K D cl tys s) (hk : k < n) (hj : j < n) (hE : E k = .inl (cA, N, .inr (.inr (.inr (.inr f))))) (hEj : E j = .inr (ci, vs)) (ht : tys[t0]? = some (cA, .object r.1)) (hc : cl[ci]? = some r) (hin : vp_in i N) (hd : decode cc pc = .ok (.aastore, 1))
    (kk : sr_N p l e R s m args below meth c Q nL D cl a cells slots (pc + 1) L st n (sr_ue E k (.inl (cA, N, .inr (.inr (.inr (.inr (va_up f i.toNatClampNeg (some (a + j)))))))))) : sr_N p l e R s m args below meth c Q nL D cl a cells slots pc L (.ref (a + j) :: .int i :: .ref (a + k) :: st) n E := by
  intro ls H locs hl hP hS
  refine va_astq hx hb hK hP sr_bk_D hS k t0 j ci (by rw [sr_bk_at hk, hE]) ht (by rw [sr_bk_at hj, hEj]) hc hin hd (fun H1 locs1 hP1 _ hS1 => ?_)
  rw [sr_bk_set] at hP1
  exact kk ls H1 locs1 hl hP1 hS1
theorem sr_N_put {C : String} {T : u_T} {N ci index k j : Nat} {fs : List Value} {v : Value} (hx : p.tables.exec = Jvm.exec) (hb : c.code = cc) (hts : ∀ w ∈ Ts, w.before args s = true) (hin : ∀ w ∈ u_ws C T N, w ∈ Ts) (ty0 : Nat → FieldType) (hty : ∀ k, k < N → parseFieldDescriptor (T k).2.2.1 = some (ty0 k)) (hnm : ∀ a, a < N → ∀ b, b < N → a ≠ b → (T a).2.1 ≠ (T b).2.1) (hown : s.vm.findClass own = some m.cls) (hK : va_K D cl tys s) (hk : k < n) (hE : E k = .inr (ci, fs)) (hc : cl[ci]? = some (C, T, N)) (hj : j < N) (hTC : (T j).1 = C) (hlink : Cond.fieldLink own index C (T j).2.1 (T j).2.2.1 ∈ Ts) (hfin : (T j).2.2.2 = false) (hn : narrow (ty0 j) v = v) (hfit : fits (ty0 j) v = true) (hl0 : j < fs.length) (hd : decode cc pc = .ok (.putfield index, 3))
    (kk : sr_N p l e R s m args below meth c Q nL D cl a cells slots (pc + 3) L st n (sr_ue E k (.inr (ci, fs.set j v)))) : sr_N p l e R s m args below meth c Q nL D cl a cells slots pc L (v :: .ref (a + k) :: st) n E := by
  intro ls H locs hl hP hS
  refine va_put hx hb hts hin ty0 hty hnm hown hK hP sr_bk_D hS k (by rw [sr_bk_at hk, hE]) hc j hj (hts _ hlink) (fun _ h9 => by rw [← hTC]; exact h9) hfin (hty j hj) hn hfit hl0 hd (fun H1 locs1 hP1 _ hS1 => ?_)
  rw [sr_bk_set] at hP1
  exact kk ls H1 locs1 hl hP1 hS1
theorem sr_N_putF {C : String} {T : u_T} {N ci index k j : Nat} {fs : List Value} {v : Value} (hx : p.tables.exec = Jvm.exec) (hb : c.code = cc) (hts : ∀ w ∈ Ts, w.before args s = true) (hin : ∀ w ∈ u_ws C T N, w ∈ Ts) (ty0 : Nat → FieldType) (hty : ∀ k, k < N → parseFieldDescriptor (T k).2.2.1 = some (ty0 k)) (hnm : ∀ a, a < N → ∀ b, b < N → a ≠ b → (T a).2.1 ≠ (T b).2.1) (hown : s.vm.findClass own = some m.cls) (hK : va_K D cl tys s) (hk : k < n) (hE : E k = .inr (ci, fs)) (hc : cl[ci]? = some (C, T, N)) (hj : j < N) (hTC : (T j).1 = C) (hTo : (T j).1 = own) (hlink : Cond.fieldLink own index C (T j).2.1 (T j).2.2.1 ∈ Ts) (hfin : (T j).2.2.2 = true) (hini : meth.name = "<init>") (hn : narrow (ty0 j) v = v) (hfit : fits (ty0 j) v = true) (hl0 : j < fs.length) (hd : decode cc pc = .ok (.putfield index, 3))
    (kk : sr_N p l e R s m args below meth c Q nL D cl a cells slots (pc + 3) L st n (sr_ue E k (.inr (ci, fs.set j v)))) : sr_N p l e R s m args below meth c Q nL D cl a cells slots pc L (v :: .ref (a + k) :: st) n E := by
  intro ls H locs hl hP hS
  refine va_putF hx hb hts hin ty0 hty hnm hown hK hP sr_bk_D hS k (by rw [sr_bk_at hk, hE]) hc j hj (hts _ hlink) (fun _ h9 => by rw [← hTC]; exact h9) hfin hini hTo (hty j hj) hn hfit hl0 hd (fun H1 locs1 hP1 _ hS1 => ?_)
  rw [sr_bk_set] at hP1
  exact kk ls H1 locs1 hl hP1 hS1
theorem sr_N_get {C : String} {T : u_T} {N ci index k j : Nat} {fs : List Value} {v : Value} (hx : p.tables.exec = Jvm.exec) (hb : c.code = cc) (hts : ∀ w ∈ Ts, w.before args s = true) (hin : ∀ w ∈ u_ws C T N, w ∈ Ts) (hown : s.vm.findClass own = some m.cls) (hK : va_K D cl tys s) (hk : k < n) (hE : E k = .inr (ci, fs)) (hc : cl[ci]? = some (C, T, N)) (hj : j < N) (hTC : (T j).1 = C) (hlink : Cond.fieldLink own index C (T j).2.1 (T j).2.2.1 ∈ Ts) (hv : fs[j]? = some v) (hd : decode cc pc = .ok (.getfield index, 3))
    (kk : sr_N p l e R s m args below meth c Q nL D cl a cells slots (pc + 3) L (v :: st) n E) : sr_N p l e R s m args below meth c Q nL D cl a cells slots pc L (.ref (a + k) :: st) n E := by
  intro ls H locs hl hP hS
  exact va_get hx hb hts hin hown hK hP k (by rw [sr_bk_at hk, hE]) hc j hj (hts _ hlink) (fun _ h9 => by rw [← hTC]; exact h9) hv hd (kk ls H locs hl hP hS)
end SrMake
