/-! The steps, put together. -/
theorem sr_getf_inv {S : sr_Sh} {f : Option (Nat × Nat)} {μ : sr_M} {g i : Nat} {v : Prop × sr_V} (h : sr_getf S f μ g i = some v) : ∃ ci j fs fd, f = some (ci, j) ∧ S.1 g = some (ci, fs) ∧ v.1 = (i < S.2.2 g) ∧ fs[j]? = some fd ∧ ∀ ad, sr_cv ad v.2 = sr_fv ad μ g i (fd, j) := by
  unfold sr_getf at h
  split at h
  · cases h
  · rename_i ci j
    split at h
    · cases h
    · rename_i cj fs hg
      split at h
      · rename_i hc
        subst hc
        split at h
        · rename_i hf
          cases h
          exact ⟨_, _, _, _, rfl, hg, rfl, hf, fun _ => rfl⟩
        · rename_i hf
          cases h
          exact ⟨_, _, _, _, rfl, hg, rfl, hf, fun _ => rfl⟩
        · rename_i hf
          cases h
          exact ⟨_, _, _, _, rfl, hg, rfl, hf, fun _ => rfl⟩
        · rename_i hf
          cases h
          exact ⟨_, _, _, _, rfl, hg, rfl, hf, fun _ => rfl⟩
        · rename_i hf
          cases h
          exact ⟨_, _, _, _, rfl, hg, rfl, hf, fun _ => rfl⟩
        · cases h
      · cases h
theorem sr_putf_inv {S : sr_Sh} {f : Option (Nat × Nat)} {μ : sr_M} {x : Prop × sr_M} {g i : Nat} {v : sr_V} (h : sr_putf S f μ g i v = some x) (hx : x.1) : ∃ ci j fs kd hh t, f = some (ci, j) ∧ S.1 g = some (ci, fs) ∧ i < S.2.2 g ∧ fs[j]? = some (kd, hh, t) ∧ ((kd = 0 ∧ ∃ y, v = .inl y ∧ x.2 = sr_seti μ g i j y) ∨ (kd = 1 ∧ ∃ y, v = .inl y ∧ (y = 0 ∨ y = 1) ∧ x.2 = sr_seti μ g i j y) ∨ (kd = 2 ∧ ∃ y, v = .inr (.inl y) ∧ x.2 = sr_setl μ g i j y)) := by
  unfold sr_putf at h
  split at h
  · cases h
  · rename_i ci j
    split at h
    · cases h
    · rename_i cj fs hg
      split at h
      · rename_i hc
        subst hc
        split at h
        · rename_i hf
          cases h
          exact ⟨_, _, _, _, _, _, rfl, hg, hx, hf, Or.inl ⟨rfl, _, rfl, rfl⟩⟩
        · rename_i hf
          cases h
          exact ⟨_, _, _, _, _, _, rfl, hg, hx.1, hf, Or.inr (Or.inl ⟨rfl, _, rfl, hx.2, rfl⟩)⟩
        · rename_i hf
          cases h
          exact ⟨_, _, _, _, _, _, rfl, hg, hx, hf, Or.inr (Or.inr ⟨rfl, _, rfl, rfl⟩)⟩
        · cases h
      · cases h
theorem sr_ald_inv {S : sr_Sh} {K : sr_K} {kd : Nat} {μ : sr_M} {g i : Nat} {x : Int32} {v : Prop × sr_V} (h : sr_ald S K kd μ g i x = some v) (hv : v.1) : (∃ n t hh, S.2.1 g = some (kd, n, t, hh) ∧ i < S.2.2 g ∧ sr_in x n ∧ v.2 = sr_av kd hh μ g i x.toNatClampNeg) ∨ (kd = 0 ∧ i = 0 ∧ ∃ n f, K g = some (n, f) ∧ sr_in x n ∧ v.2 = .inl (f x.toNatClampNeg)) := by
  unfold sr_ald at h
  split at h
  · rename_i k n t hh hg
    split at h
    · rename_i hc
      subst hc
      cases h
      exact Or.inl ⟨n, t, hh, hg, hv.1, hv.2, rfl⟩
    · cases h
  · split at h
    · rename_i n f hk
      split at h
      · rename_i hc
        cases h
        exact Or.inr ⟨hc, hv.1, n, f, hk, hv.2, rfl⟩
      · cases h
    · cases h
theorem sr_ast_inv {S : sr_Sh} {kd : Nat} {μ : sr_M} {z : Prop × sr_M} {g i : Nat} {x : Int32} {v : sr_V} (h : sr_ast S kd μ g i x v = some z) (hz : z.1) : ∃ n t hh, S.2.1 g = some (kd, n, t, hh) ∧ i < S.2.2 g ∧ sr_in x n ∧ ((kd = 0 ∧ ∃ y, v = .inl y ∧ z.2 = sr_seti μ g i x.toNatClampNeg y) ∨ (kd = 1 ∧ ∃ y, v = .inl y ∧ z.2 = sr_seti μ g i x.toNatClampNeg (vp_nar .boolean y)) ∨ (kd = 4 ∧ ∃ y, v = .inl y ∧ z.2 = sr_seti μ g i x.toNatClampNeg (vp_nar .char y)) ∨ (kd = 2 ∧ ∃ y, v = .inr (.inl y) ∧ z.2 = sr_setl μ g i x.toNatClampNeg y)) := by
  unfold sr_ast at h
  split at h
  · rename_i k n t hh hg
    split at h
    · rename_i hc
      subst hc
      split at h
      · cases h; exact ⟨n, t, hh, hg, hz.1, hz.2, Or.inl ⟨rfl, _, rfl, rfl⟩⟩
      · cases h; exact ⟨n, t, hh, hg, hz.1, hz.2, Or.inr (Or.inl ⟨rfl, _, rfl, rfl⟩)⟩
      · cases h; exact ⟨n, t, hh, hg, hz.1, hz.2, Or.inr (Or.inr (Or.inl ⟨rfl, _, rfl, rfl⟩))⟩
      · cases h; exact ⟨n, t, hh, hg, hz.1, hz.2, Or.inr (Or.inr (Or.inr ⟨rfl, _, rfl, rfl⟩))⟩
      · cases h
    · cases h
  · cases h
theorem sr_back_eq (rest : List sr_V) (C : Prop) (r : Option sr_V) (μ : sr_M) : sr_back rest (C, r, μ) = (C, r.toList ++ rest, μ) := by
  cases r <;> rfl
theorem sr_callS_inv {S : sr_Sh} {t : Option (Nat × Nat × sr_F)} {st : List sr_V} {μ : sr_M} {x : Prop × List sr_V × sr_M} (h : sr_call S t false st μ = some x) : ∃ n f C r μ', t = some (0, n, f) ∧ n ≤ st.length ∧ (st.drop n).length ≤ 4 ∧ f (st.take n).reverse μ = some (C, r, μ') ∧ x = (C, r.toList ++ st.drop n, μ') := by
  unfold sr_call at h
  split at h
  · cases h
  · rename_i rc n f
    split at h
    · split at h
      · rename_i hc
        split at h
        · rename_i z hf
          obtain ⟨C, r, μ'⟩ := z
          rw [sr_back_eq] at h
          cases h
          exact ⟨n, f, C, r, μ', rfl, hc.1, hc.2, hf, rfl⟩
        · cases h
      · cases h
    · rename_i e
      cases e
    · cases h
theorem sr_callV_inv {S : sr_Sh} {t : Option (Nat × Nat × sr_F)} {st : List sr_V} {μ : sr_M} {x : Prop × List sr_V × sr_M} (h : sr_call S t true st μ = some x) : ∃ ci n f g i rest fs C r μ', t = some (ci + 1, n, f) ∧ st.drop n = .inr (.inr (g, i)) :: rest ∧ S.1 g = some (ci, fs) ∧ rest.length ≤ 4 ∧ f (.inr (.inr (g, i)) :: (st.take n).reverse) μ = some (C, r, μ') ∧ x = (i < S.2.2 g ∧ C, r.toList ++ rest, μ') := by
  unfold sr_call at h
  split at h
  · cases h
  · rename_i rc n f
    split at h
    · rename_i e
      cases e
    · split at h
      · rename_i g i rest hd
        split at h
        · cases h
        · rename_i cj fs hg
          split at h
          · rename_i hc
            obtain ⟨rfl, hl⟩ := hc
            split at h
            · rename_i z hf
              obtain ⟨C, r, μ'⟩ := z
              rw [sr_back_eq] at h
              cases h
              exact ⟨_, n, f, g, i, rest, fs, C, r, μ', rfl, hd, hg, hl, hf, rfl⟩
            · cases h
          · cases h
      · cases h
    · cases h
-- cells behind a store
theorem sr_cell_congr {S : sr_Sh} {cA : Nat → ClassId} {ad : Nat → Nat → Nat} {μ μ' : sr_M} {a b : Nat} (h1 : ∀ d, μ'.1 a b d = μ.1 a b d) (h2 : ∀ d, μ'.2 a b d = μ.2 a b d) : sr_cell S cA ad μ' a b = sr_cell S cA ad μ a b := by
  have e1 : μ'.1 a b = μ.1 a b := funext h1
  have e2 : μ'.2 a b = μ.2 a b := funext h2
  have e3 : sr_fv ad μ' a b = sr_fv ad μ a b := by
    funext q
    unfold sr_fv
    rw [e1, e2]
  unfold sr_cell
  rw [e1, e2, e3]
theorem sr_seti_off {S : sr_Sh} {cA : Nat → ClassId} {ad : Nat → Nat → Nat} {μ : sr_M} {g i j : Nat} {x : Int32} (a b : Nat) (h : ¬ (a = g ∧ b = i)) : sr_cell S cA ad (sr_seti μ g i j x) a b = sr_cell S cA ad μ a b := by
  refine sr_cell_congr (fun d => ?_) (fun d => rfl)
  show (if a = g ∧ b = i ∧ d = j then x else μ.1 a b d) = _
  rw [if_neg (fun q => h ⟨q.1, q.2.1⟩)]
theorem sr_setl_off {S : sr_Sh} {cA : Nat → ClassId} {ad : Nat → Nat → Nat} {μ : sr_M} {g i j : Nat} {x : Int64} (a b : Nat) (h : ¬ (a = g ∧ b = i)) : sr_cell S cA ad (sr_setl μ g i j x) a b = sr_cell S cA ad μ a b := by
  refine sr_cell_congr (fun d => rfl) (fun d => ?_)
  show (if a = g ∧ b = i ∧ d = j then x else μ.2 a b d) = _
  rw [if_neg (fun q => h ⟨q.1, q.2.1⟩)]
theorem sr_fs_at {ad : Nat → Nat → Nat} {μ : sr_M} {g i j : Nat} {fs : List (Nat × Nat × Nat)} {fd : Nat × Nat × Nat} (h : fs[j]? = some fd) : (fs.zipIdx.map (sr_fv ad μ g i))[j]? = some (sr_fv ad μ g i (fd, j)) := by
  rw [List.getElem?_map, List.getElem?_zipIdx, h]
  simp
theorem sr_fs_set {ad : Nat → Nat → Nat} {μ μ' : sr_M} {g i j : Nat} {fs : List (Nat × Nat × Nat)} {fd : Nat × Nat × Nat} {v : Value} (h : fs[j]? = some fd) (hv : v = sr_fv ad μ' g i (fd, j)) (ho : ∀ fd k, ¬ k = j → sr_fv ad μ' g i (fd, k) = sr_fv ad μ g i (fd, k)) : (fs.zipIdx.map (sr_fv ad μ g i)).set j v = fs.zipIdx.map (sr_fv ad μ' g i) := by
  have hl : j < (fs.zipIdx.map (sr_fv ad μ g i)).length := by
    rw [List.length_map, List.length_zipIdx]
    exact (List.getElem?_eq_some_iff.mp h).1
  apply List.ext_getElem?
  intro k
  by_cases hk : k = j
  · subst hk
    rw [List.getElem?_set_self hl, sr_fs_at h, hv]
  · rw [List.getElem?_set_ne (Ne.symm hk), List.getElem?_map, List.getElem?_map, List.getElem?_zipIdx]
    cases hf : fs[k]? with
    | none => rfl
    | some f2 =>
      simp only [Option.map_some, Nat.zero_add]
      rw [ho f2 k hk]
theorem sr_seti_fv {ad : Nat → Nat → Nat} {μ : sr_M} {g i j : Nat} {x : Int32} (fd : Nat × Nat × Nat) (k : Nat) (h : ¬ k = j) : sr_fv ad (sr_seti μ g i j x) g i (fd, k) = sr_fv ad μ g i (fd, k) := by
  have e : (sr_seti μ g i j x).1 g i k = μ.1 g i k := by
    show (if g = g ∧ i = i ∧ k = j then x else μ.1 g i k) = _
    rw [if_neg (fun q => h q.2.2)]
  unfold sr_fv
  dsimp only
  rw [e]
  rfl
theorem sr_setl_fv {ad : Nat → Nat → Nat} {μ : sr_M} {g i j : Nat} {x : Int64} (fd : Nat × Nat × Nat) (k : Nat) (h : ¬ k = j) : sr_fv ad (sr_setl μ g i j x) g i (fd, k) = sr_fv ad μ g i (fd, k) := by
  have e : (sr_setl μ g i j x).2 g i k = μ.2 g i k := by
    show (if g = g ∧ i = i ∧ k = j then x else μ.2 g i k) = _
    rw [if_neg (fun q => h q.2.2)]
  unfold sr_fv
  dsimp only
  rw [e]
  rfl
theorem sr_seti_self (μ : sr_M) (g i j : Nat) (x : Int32) : (sr_seti μ g i j x).1 g i j = x := by
  show (if g = g ∧ i = i ∧ j = j then x else μ.1 g i j) = _
  rw [if_pos ⟨rfl, rfl, rfl⟩]
theorem sr_setl_self (μ : sr_M) (g i j : Nat) (x : Int64) : (sr_setl μ g i j x).2 g i j = x := by
  show (if g = g ∧ i = i ∧ j = j then x else μ.2 g i j) = _
  rw [if_pos ⟨rfl, rfl, rfl⟩]
theorem sr_seti_row (μ : sr_M) (g i j : Nat) (x : Int32) : (sr_seti μ g i j x).1 g i = upd (μ.1 g i) j x := by
  funext d
  show (if g = g ∧ i = i ∧ d = j then x else μ.1 g i d) = upd (μ.1 g i) j x d
  unfold upd
  simp
theorem sr_setl_row (μ : sr_M) (g i j : Nat) (x : Int64) : (sr_setl μ g i j x).2 g i = vp_updL (μ.2 g i) j x := by
  funext d
  show (if g = g ∧ i = i ∧ d = j then x else μ.2 g i d) = vp_updL (μ.2 g i) j x d
  unfold vp_updL
  simp
theorem sr_cell_ob {S : sr_Sh} {cA : Nat → ClassId} {ad : Nat → Nat → Nat} {μ : sr_M} {g i ci : Nat} {fs : List (Nat × Nat × Nat)} (h : S.1 g = some (ci, fs)) : sr_cell S cA ad μ g i = .inr (ci, fs.zipIdx.map (sr_fv ad μ g i)) := by
  unfold sr_cell
  rw [h]
theorem sr_cell_i {S : sr_Sh} {cA : Nat → ClassId} {ad : Nat → Nat → Nat} {μ : sr_M} {g i k n t hh : Nat} (h0 : S.1 g = none) (h : S.2.1 g = some (k, n, t, hh)) (h2 : ¬ k = 2) (h3 : ¬ k = 3) : sr_cell S cA ad μ g i = .inl (cA t, n, .inl (μ.1 g i)) := by
  unfold sr_cell
  rw [h0, h]
  dsimp only
  split
  · exact absurd rfl h2
  · exact absurd rfl h3
  · rfl
theorem sr_cell_l {S : sr_Sh} {cA : Nat → ClassId} {ad : Nat → Nat → Nat} {μ : sr_M} {g i n t hh : Nat} (h0 : S.1 g = none) (h : S.2.1 g = some (2, n, t, hh)) : sr_cell S cA ad μ g i = .inl (cA t, n, .inr (.inl (μ.2 g i))) := by
  unfold sr_cell
  rw [h0, h]
  rfl
theorem sr_cell_r {S : sr_Sh} {cA : Nat → ClassId} {ad : Nat → Nat → Nat} {μ : sr_M} {g i n t hh : Nat} (h0 : S.1 g = none) (h : S.2.1 g = some (3, n, t, hh)) : sr_cell S cA ad μ g i = .inl (cA t, n, .inr (.inr (.inr (.inr (fun j => some (ad hh j)))))) := by
  unfold sr_cell
  rw [h0, h]
  rfl
-- a contract in the words of the abstract machine
def sr_Wl (D : va_G) (cl : List vw_C) (tys : List (ClassId × FieldType)) (wd : sr_M → va_W) (cy : (Nat → Prop) → State → Heap → Prop) (μ : sr_M) (A : Nat → Prop) (U : State) : Prop := va_P D cl (wd μ) U.heap ∧ va_K D cl tys U ∧ va_D (fun _ => True) (wd μ) ∧ cy A U U.heap
def sr_Qc (D : va_G) (cl : List vw_C) (wd : sr_M → va_W) (ad : Nat → Nat → Nat) (r : Option sr_V) (μ' : sr_M) (A : Nat → Prop) : State → Outcome → State → Prop := fun st o t => (o = .returned (r.map (sr_cv ad)) ∧ va_P D cl (wd μ') t.heap) ∧ va_F A st t
def sr_Ct (l : Launch) (D : va_G) (cl : List vw_C) (tys : List (ClassId × FieldType)) (wd : sr_M → va_W) (cy : (Nat → Prop) → State → Heap → Prop) (ad : Nat → Nat → Nat) (WS : List Cond) (y : MethodName) (bytes : ByteArray) (maxL : Nat) (ret : Option FieldType) (rm : Room) (f : sr_F) : Prop :=
  ∀ (sz : Nat) (μ : sr_M) (vs : List sr_V) (C : Prop) (r : Option sr_V) (μ' : sr_M), f vs μ = some (C, r, μ') → C → Met l y (Cond.code y bytes maxL ret :: WS) rm (va_Pc (vs.map (sr_cv ad)) (fun U => U.heap.size = sz ∧ sr_Wl D cl tys wd cy μ (va_A (wd μ) sz) U)) (fun _ => sr_Qc D cl wd ad r μ' (va_A (wd μ) sz)) 0 0 (va_A (wd μ) sz)
-- the machine at a state of the abstract machine
def sr_J (p : Program) (l : Launch) (e : Env) (R : Room) (s : State) (m : MethodId) (args : Array Value) (below : List Frame) (meth : Method) (c : Code) (cells slots : Nat) (Q : State → Prop) (nL : Nat) (D : va_G) (cl : List vw_C) (wd : sr_M → va_W) (ad : Nat → Nat → Nat) (A : Nat → Prop) (x : sr_S) : Prop :=
  x.2.1.length = nL → ∀ (ls : Array Slot) (H : Heap) (locs : List Loc), lv_has ls nL (sr_lc ad x.2.1) → va_P D cl (wd x.2.2.2) H → va_S A s.heap H locs → W p l e R s m args below meth c H locs cells slots Q (F0 m x.1 ls (x.2.2.1.map (sr_cv ad)))
-- what the tables must say of a field
def sr_FO (own : String) (cl : List vw_C) (Ts : List Cond) (s : State) (k ci j : Nat) : Prop := ∃ (C : String) (T : u_T) (N : Nat), cl[ci]? = some (C, T, N) ∧ j < N ∧ (T j).1 = C ∧ (∀ w ∈ u_ws C T N, w ∈ Ts) ∧ (Cond.fieldLink own k C (T j).2.1 (T j).2.2.1 ∈ Ts ∨ ∃ host, va_Nw (.fieldLinkNest own k C (T j).2.1 (T j).2.2.1 host) s)
def sr_kt : Nat → FieldType
  | 1 => .boolean
  | 2 => .long
  | 4 => .char
  | _ => .int
-- and of a sort whose objects are written
def sr_PO (cl : List vw_C) (ci : Nat) (fs : List (Nat × Nat × Nat)) : Prop := ∃ (C : String) (T : u_T) (N : Nat) (ty : Nat → FieldType), cl[ci]? = some (C, T, N) ∧ (∀ k, k < N → parseFieldDescriptor (T k).2.2.1 = some (ty k)) ∧ (∀ a, a < N → ∀ b, b < N → a ≠ b → (T a).2.1 ≠ (T b).2.1) ∧ ∀ j kd h t, fs[j]? = some (kd, h, t) → kd < 3 → (T j).2.2.2 = false ∧ ty j = sr_kt kd
section SrStep

variable {p : Program} {l : Launch} {e : Env} {R : Room} {s : State} {m : MethodId} {args : Array Value} {below : List Frame} {meth : Method} {c : Code} {cells slots : Nat} {Q : State → Prop} {cc : ByteArray} {nL : Nat} {D : va_G} {cl : List vw_C} {tys : List (ClassId × FieldType)} {S : sr_Sh} {K : sr_K} {cA : Nat → ClassId} {cs : List (Nat × Nat)} {ad : Nat → Nat → Nat} {A : Nat → Prop} {own : String} {Ts : List Cond}

theorem sr_J_getf {k pc : Nat} {L : sr_L} {st : List sr_V} {μ : sr_M} {s1 : Prop × sr_S} {f : Option (Nat × Nat)} (hx : p.tables.exec = Jvm.exec) (hb : c.code = cc) (hts : ∀ w ∈ Ts, w.before args s = true) (hown : s.vm.findClass own = some m.cls) (hK : va_K D cl tys s) (hcs : ∀ g i, ((S.1 g).isSome = true ∨ (S.2.1 g).isSome = true) → i < S.2.2 g → (g, i) ∈ cs)
    (hF : ∀ ci j, f = some (ci, j) → sr_FO own cl Ts s k ci j) (hd : decode cc pc = .ok (.getfield k, 3)) (h : sr_gf S f (pc, L, st, μ) = some s1) (hC1 : s1.1) (kk : sr_J p l e R s m args below meth c cells slots Q nL D cl (sr_wd S cA cs ad) ad A s1.2) : sr_J p l e R s m args below meth c cells slots Q nL D cl (sr_wd S cA cs ad) ad A (pc, L, st, μ) := by
  obtain ⟨g, i, v, st', rfl, hv, rfl⟩ := sr_gf_inv h
  obtain ⟨ci, j, fs, fd, hf, hg, hi, hj, hcv⟩ := sr_getf_inv hv
  have hi : i < S.2.2 g := by rw [← hi]; exact hC1
  obtain ⟨C, T, N, hc, hjN, hTC, hin, hlink⟩ := hF ci j hf
  intro hn ls H locs hl hP hS
  obtain ⟨q0, hq0, hq⟩ := sr_wd_at (S := S) (cA := cA) (ad := ad) (μ := μ) (hcs g i (Or.inl (by rw [hg]; rfl)) hi)
  rw [sr_cell_ob hg] at hq
  have kk := kk hn ls H locs hl hP hS
  rcases hlink with hlink | ⟨host, hlink⟩
  · exact va_get (D := D) (ci := ci) (v := sr_cv ad v.2) (C := C) (T := T) (N := N) hx hb hts hin hown hK hP q0 hq hc j hjN (hts _ hlink) (fun _ h9 => by rw [← hTC]; exact h9) (by rw [hcv ad]; exact sr_fs_at hj) hd kk
  · exact va_getN (D := D) (ci := ci) (v := sr_cv ad v.2) (C := C) (T := T) (N := N) hx hb hts hin hown hK hP q0 hq hc j hjN (va_Nw.use rfl hlink) (fun _ h9 => by rw [← hTC]; exact h9) (by rw [hcv ad]; exact sr_fs_at hj) hd kk
theorem sr_nar_b {x : Int32} (h : x = 0 ∨ x = 1) : narrow .boolean (.int x) = .int x ∧ fits .boolean (.int x) = true := by
  rcases h with rfl | rfl
  · exact ⟨by decide, by decide⟩
  · exact ⟨by decide, by decide⟩
theorem sr_J_putf {k pc : Nat} {L : sr_L} {st : List sr_V} {μ : sr_M} {s1 : Prop × sr_S} {f : Option (Nat × Nat)} (hx : p.tables.exec = Jvm.exec) (hb : c.code = cc) (hts : ∀ w ∈ Ts, w.before args s = true) (hown : s.vm.findClass own = some m.cls) (hK : va_K D cl tys s) (hcs : ∀ g i, ((S.1 g).isSome = true ∨ (S.2.1 g).isSome = true) → i < S.2.2 g → (g, i) ∈ cs) (hD : ∀ μ, va_D A (sr_wd S cA cs ad μ))
    (hF : ∀ ci j, f = some (ci, j) → sr_FO own cl Ts s k ci j) (hW : ∀ g ci fs, S.1 g = some (ci, fs) → sr_PO cl ci fs) (hd : decode cc pc = .ok (.putfield k, 3)) (h : sr_pf S f (pc, L, st, μ) = some s1) (hC1 : s1.1) (kk : sr_J p l e R s m args below meth c cells slots Q nL D cl (sr_wd S cA cs ad) ad A s1.2) : sr_J p l e R s m args below meth c cells slots Q nL D cl (sr_wd S cA cs ad) ad A (pc, L, st, μ) := by
  obtain ⟨g, i, v, st', ⟨C9, μ'⟩, rfl, hv, rfl⟩ := sr_pf_inv h
  obtain ⟨ci, j, fs, kd, hh, t, hf, hg, hi, hj, hcase⟩ := sr_putf_inv hv hC1
  dsimp only at hcase kk
  obtain ⟨C, T, N, hc, hjN, hTC, hin, hlink⟩ := hF ci j hf
  obtain ⟨C2, T2, N2, ty, hc2, hty, hnm, hfd⟩ := hW g ci fs hg
  have e3 := Option.some.inj (hc.symm.trans hc2)
  cases e3
  intro hn ls H locs hl hP hS
  obtain ⟨q0, hq0, hq⟩ := sr_wd_at (S := S) (cA := cA) (ad := ad) (μ := μ) (hcs g i (Or.inl (by rw [hg]; rfl)) hi)
  have hq1 := hq
  rw [sr_cell_ob hg] at hq
  have hlen : j < (fs.zipIdx.map (sr_fv ad μ g i)).length := by
    rw [List.length_map, List.length_zipIdx]
    exact (List.getElem?_eq_some_iff.mp hj).1
  have key : ∀ (x : Value), x = sr_cv ad v → kd < 3 → narrow (sr_kt kd) x = x → fits (sr_kt kd) x = true → (∀ a b, ¬ (a = g ∧ b = i) → sr_cell S cA ad μ' a b = sr_cell S cA ad μ a b) → (fs.zipIdx.map (sr_fv ad μ g i)).set j x = fs.zipIdx.map (sr_fv ad μ' g i) → W p l e R s m args below meth c H locs cells slots Q (F0 m pc ls (x :: .ref (ad g i) :: st'.map (sr_cv ad))) := by
    intro x hxv hk3 hnx hfx hoff hset
    obtain ⟨hfin, htj⟩ := hfd j kd hh t hj hk3
    have kk2 : ∀ (H1 : Heap) (locs1 : List Loc), va_P D cl ((sr_wd S cA cs ad μ).set q0 (ad g i, .inr (ci, (fs.zipIdx.map (sr_fv ad μ g i)).set j x))) H1 → va_D A ((sr_wd S cA cs ad μ).set q0 (ad g i, .inr (ci, (fs.zipIdx.map (sr_fv ad μ g i)).set j x))) → va_S A s.heap H1 locs1 → W p l e R s m args below meth c H1 locs1 cells slots Q (F0 m (pc + 3) ls (st'.map (sr_cv ad))) := by
      intro H1 locs1 hP1 _ hS1
      exact kk hn ls H1 locs1 hl (sr_wd_put hq0 (by rw [sr_cell_ob hg, hset]) hoff hP1) hS1
    rcases hlink with hlink | ⟨host, hlink⟩
    · exact va_put (D := D) (ci := ci) (v := x) (ty := ty j) (C := C) (T := T) (N := N) hx hb hts hin ty hty hnm hown hK hP (hD μ) hS q0 hq hc j hjN (hts _ hlink) (fun _ h9 => by rw [← hTC]; exact h9) hfin (hty j hjN) (by rw [htj]; exact hnx) (by rw [htj]; exact hfx) hlen hd kk2
    · exact va_putN (D := D) (ci := ci) (v := x) (ty := ty j) (C := C) (T := T) (N := N) hx hb hts hin ty hty hnm hown hK hP (hD μ) hS q0 hq hc j hjN (va_Nw.use rfl hlink) (fun _ h9 => by rw [← hTC]; exact h9) hfin (hty j hjN) (by rw [htj]; exact hnx) (by rw [htj]; exact hfx) hlen hd kk2
  rcases hcase with ⟨rfl, x, rfl, rfl⟩ | ⟨rfl, x, rfl, hb01, rfl⟩ | ⟨rfl, x, rfl, rfl⟩
  · exact key (.int x) rfl (by decide) rfl rfl sr_seti_off (sr_fs_set hj (by unfold sr_fv; exact congrArg Value.int (sr_seti_self μ g i j x).symm) (fun fd k hk => sr_seti_fv fd k hk))
  · exact key (.int x) rfl (by decide) (sr_nar_b hb01).1 (sr_nar_b hb01).2 sr_seti_off (sr_fs_set hj (by unfold sr_fv; exact congrArg Value.int (sr_seti_self μ g i j x).symm) (fun fd k hk => sr_seti_fv fd k hk))
  · exact key (.long x) rfl (by decide) rfl rfl sr_setl_off (sr_fs_set hj (by unfold sr_fv; exact congrArg Value.long (sr_setl_self μ g i j x).symm) (fun fd k hk => sr_setl_fv fd k hk))

theorem sr_J_iald {pc : Nat} {L : sr_L} {st : List sr_V} {μ : sr_M} {s1 : Prop × sr_S} (hx : p.tables.exec = Jvm.exec) (hb : c.code = cc) (hK : va_K D cl tys s) (hcs : ∀ g i, ((S.1 g).isSome = true ∨ (S.2.1 g).isSome = true) → i < S.2.2 g → (g, i) ∈ cs) (hsep : ∀ g, (S.2.1 g).isSome = true → S.1 g = none) (hty : ∀ g k n t hh, S.2.1 g = some (k, n, t, hh) → ¬ k = 3 → tys[t]? = some (cA t, sr_kt k)) (hto : ∀ g n t hh, S.2.1 g = some (3, n, t, hh) → ∃ C, tys[t]? = some (cA t, .object C)) (hKT : ∀ g n f, K g = some (n, f) → va_T .int (ad g 0) n (fun j => .int (f j)) A s s.heap) (hd : decode cc pc = .ok (.iaload, 1)) (h : sr_al S K 0 (pc, L, st, μ) = some s1) (hC1 : s1.1) (kk : sr_J p l e R s m args below meth c cells slots Q nL D cl (sr_wd S cA cs ad) ad A s1.2) : sr_J p l e R s m args below meth c cells slots Q nL D cl (sr_wd S cA cs ad) ad A (pc, L, st, μ) := by
  obtain ⟨x, g, i, ⟨C9, v⟩, st', rfl, hv, rfl⟩ := sr_al_inv h
  intro hn ls H locs hl hP hS
  have kk := kk hn ls H locs hl hP hS
  rcases sr_ald_inv hv hC1 with ⟨n, t, hh, hg, hi, hxn, e9⟩ | ⟨h0, rfl, n, f, hk, hxn, e9⟩ <;> dsimp only at e9 <;> subst e9
  · obtain ⟨q0, hq0, hq⟩ := sr_wd_at (S := S) (cA := cA) (ad := ad) (μ := μ) (hcs g i (Or.inr (by rw [hg]; rfl)) hi)
    rw [sr_cell_i (hsep g (by rw [hg]; rfl)) hg (by decide) (by decide)] at hq
    exact va_iald hx hb hK hP q0 t hq (hty g 0 n t hh hg (by decide)) (sr_in_vp hxn) hd kk
  · exact va_ti hx hb (hKT g n f hk) hS (sr_in_vp hxn) rfl hd kk

theorem sr_J_zald {pc : Nat} {L : sr_L} {st : List sr_V} {μ : sr_M} {s1 : Prop × sr_S} (hx : p.tables.exec = Jvm.exec) (hb : c.code = cc) (hK : va_K D cl tys s) (hcs : ∀ g i, ((S.1 g).isSome = true ∨ (S.2.1 g).isSome = true) → i < S.2.2 g → (g, i) ∈ cs) (hsep : ∀ g, (S.2.1 g).isSome = true → S.1 g = none) (hty : ∀ g k n t hh, S.2.1 g = some (k, n, t, hh) → ¬ k = 3 → tys[t]? = some (cA t, sr_kt k)) (hto : ∀ g n t hh, S.2.1 g = some (3, n, t, hh) → ∃ C, tys[t]? = some (cA t, .object C)) (hKT : ∀ g n f, K g = some (n, f) → va_T .int (ad g 0) n (fun j => .int (f j)) A s s.heap) (hd : decode cc pc = .ok (.baload, 1)) (h : sr_al S K 1 (pc, L, st, μ) = some s1) (hC1 : s1.1) (kk : sr_J p l e R s m args below meth c cells slots Q nL D cl (sr_wd S cA cs ad) ad A s1.2) : sr_J p l e R s m args below meth c cells slots Q nL D cl (sr_wd S cA cs ad) ad A (pc, L, st, μ) := by
  obtain ⟨x, g, i, ⟨C9, v⟩, st', rfl, hv, rfl⟩ := sr_al_inv h
  intro hn ls H locs hl hP hS
  have kk := kk hn ls H locs hl hP hS
  rcases sr_ald_inv hv hC1 with ⟨n, t, hh, hg, hi, hxn, e9⟩ | ⟨h0, rfl, n, f, hk, hxn, e9⟩ <;> dsimp only at e9 <;> subst e9
  · obtain ⟨q0, hq0, hq⟩ := sr_wd_at (S := S) (cA := cA) (ad := ad) (μ := μ) (hcs g i (Or.inr (by rw [hg]; rfl)) hi)
    rw [sr_cell_i (hsep g (by rw [hg]; rfl)) hg (by decide) (by decide)] at hq
    exact va_zald hx hb hK hP q0 t hq (hty g 1 n t hh hg (by decide)) (sr_in_vp hxn) hd kk
  · cases h0

theorem sr_J_cald {pc : Nat} {L : sr_L} {st : List sr_V} {μ : sr_M} {s1 : Prop × sr_S} (hx : p.tables.exec = Jvm.exec) (hb : c.code = cc) (hK : va_K D cl tys s) (hcs : ∀ g i, ((S.1 g).isSome = true ∨ (S.2.1 g).isSome = true) → i < S.2.2 g → (g, i) ∈ cs) (hsep : ∀ g, (S.2.1 g).isSome = true → S.1 g = none) (hty : ∀ g k n t hh, S.2.1 g = some (k, n, t, hh) → ¬ k = 3 → tys[t]? = some (cA t, sr_kt k)) (hto : ∀ g n t hh, S.2.1 g = some (3, n, t, hh) → ∃ C, tys[t]? = some (cA t, .object C)) (hKT : ∀ g n f, K g = some (n, f) → va_T .int (ad g 0) n (fun j => .int (f j)) A s s.heap) (hd : decode cc pc = .ok (.caload, 1)) (h : sr_al S K 4 (pc, L, st, μ) = some s1) (hC1 : s1.1) (kk : sr_J p l e R s m args below meth c cells slots Q nL D cl (sr_wd S cA cs ad) ad A s1.2) : sr_J p l e R s m args below meth c cells slots Q nL D cl (sr_wd S cA cs ad) ad A (pc, L, st, μ) := by
  obtain ⟨x, g, i, ⟨C9, v⟩, st', rfl, hv, rfl⟩ := sr_al_inv h
  intro hn ls H locs hl hP hS
  have kk := kk hn ls H locs hl hP hS
  rcases sr_ald_inv hv hC1 with ⟨n, t, hh, hg, hi, hxn, e9⟩ | ⟨h0, rfl, n, f, hk, hxn, e9⟩ <;> dsimp only at e9 <;> subst e9
  · obtain ⟨q0, hq0, hq⟩ := sr_wd_at (S := S) (cA := cA) (ad := ad) (μ := μ) (hcs g i (Or.inr (by rw [hg]; rfl)) hi)
    rw [sr_cell_i (hsep g (by rw [hg]; rfl)) hg (by decide) (by decide)] at hq
    exact va_cald hx hb hK hP q0 t hq (hty g 4 n t hh hg (by decide)) (sr_in_vp hxn) hd kk
  · cases h0

theorem sr_J_lald {pc : Nat} {L : sr_L} {st : List sr_V} {μ : sr_M} {s1 : Prop × sr_S} (hx : p.tables.exec = Jvm.exec) (hb : c.code = cc) (hK : va_K D cl tys s) (hcs : ∀ g i, ((S.1 g).isSome = true ∨ (S.2.1 g).isSome = true) → i < S.2.2 g → (g, i) ∈ cs) (hsep : ∀ g, (S.2.1 g).isSome = true → S.1 g = none) (hty : ∀ g k n t hh, S.2.1 g = some (k, n, t, hh) → ¬ k = 3 → tys[t]? = some (cA t, sr_kt k)) (hto : ∀ g n t hh, S.2.1 g = some (3, n, t, hh) → ∃ C, tys[t]? = some (cA t, .object C)) (hKT : ∀ g n f, K g = some (n, f) → va_T .int (ad g 0) n (fun j => .int (f j)) A s s.heap) (hd : decode cc pc = .ok (.laload, 1)) (h : sr_al S K 2 (pc, L, st, μ) = some s1) (hC1 : s1.1) (kk : sr_J p l e R s m args below meth c cells slots Q nL D cl (sr_wd S cA cs ad) ad A s1.2) : sr_J p l e R s m args below meth c cells slots Q nL D cl (sr_wd S cA cs ad) ad A (pc, L, st, μ) := by
  obtain ⟨x, g, i, ⟨C9, v⟩, st', rfl, hv, rfl⟩ := sr_al_inv h
  intro hn ls H locs hl hP hS
  have kk := kk hn ls H locs hl hP hS
  rcases sr_ald_inv hv hC1 with ⟨n, t, hh, hg, hi, hxn, e9⟩ | ⟨h0, rfl, n, f, hk, hxn, e9⟩ <;> dsimp only at e9 <;> subst e9
  · obtain ⟨q0, hq0, hq⟩ := sr_wd_at (S := S) (cA := cA) (ad := ad) (μ := μ) (hcs g i (Or.inr (by rw [hg]; rfl)) hi)
    rw [sr_cell_l (hsep g (by rw [hg]; rfl)) hg] at hq
    exact va_lald hx hb hK hP q0 t hq (hty g 2 n t hh hg (by decide)) (sr_in_vp hxn) hd kk
  · cases h0

theorem sr_J_aald {pc : Nat} {L : sr_L} {st : List sr_V} {μ : sr_M} {s1 : Prop × sr_S} (hx : p.tables.exec = Jvm.exec) (hb : c.code = cc) (hK : va_K D cl tys s) (hcs : ∀ g i, ((S.1 g).isSome = true ∨ (S.2.1 g).isSome = true) → i < S.2.2 g → (g, i) ∈ cs) (hsep : ∀ g, (S.2.1 g).isSome = true → S.1 g = none) (hty : ∀ g k n t hh, S.2.1 g = some (k, n, t, hh) → ¬ k = 3 → tys[t]? = some (cA t, sr_kt k)) (hto : ∀ g n t hh, S.2.1 g = some (3, n, t, hh) → ∃ C, tys[t]? = some (cA t, .object C)) (hKT : ∀ g n f, K g = some (n, f) → va_T .int (ad g 0) n (fun j => .int (f j)) A s s.heap) (hd : decode cc pc = .ok (.aaload, 1)) (h : sr_al S K 3 (pc, L, st, μ) = some s1) (hC1 : s1.1) (kk : sr_J p l e R s m args below meth c cells slots Q nL D cl (sr_wd S cA cs ad) ad A s1.2) : sr_J p l e R s m args below meth c cells slots Q nL D cl (sr_wd S cA cs ad) ad A (pc, L, st, μ) := by
  obtain ⟨x, g, i, ⟨C9, v⟩, st', rfl, hv, rfl⟩ := sr_al_inv h
  intro hn ls H locs hl hP hS
  have kk := kk hn ls H locs hl hP hS
  rcases sr_ald_inv hv hC1 with ⟨n, t, hh, hg, hi, hxn, e9⟩ | ⟨h0, rfl, n, f, hk, hxn, e9⟩ <;> dsimp only at e9 <;> subst e9
  · obtain ⟨q0, hq0, hq⟩ := sr_wd_at (S := S) (cA := cA) (ad := ad) (μ := μ) (hcs g i (Or.inr (by rw [hg]; rfl)) hi)
    rw [sr_cell_r (hsep g (by rw [hg]; rfl)) hg] at hq
    obtain ⟨C, hC⟩ := hto g n t hh hg
    exact va_aldq hx hb hK hP q0 t hq hC (sr_in_vp hxn) hd kk
  · cases h0

theorem sr_J_iast {pc : Nat} {L : sr_L} {st : List sr_V} {μ : sr_M} {s1 : Prop × sr_S} (hx : p.tables.exec = Jvm.exec) (hb : c.code = cc) (hK : va_K D cl tys s) (hcs : ∀ g i, ((S.1 g).isSome = true ∨ (S.2.1 g).isSome = true) → i < S.2.2 g → (g, i) ∈ cs) (hsep : ∀ g, (S.2.1 g).isSome = true → S.1 g = none) (hD : ∀ μ, va_D A (sr_wd S cA cs ad μ)) (hty : ∀ g k n t hh, S.2.1 g = some (k, n, t, hh) → ¬ k = 3 → tys[t]? = some (cA t, sr_kt k)) (hto : ∀ g n t hh, S.2.1 g = some (3, n, t, hh) → ∃ C, tys[t]? = some (cA t, .object C)) (hd : decode cc pc = .ok (.iastore, 1)) (h : sr_as S 0 (pc, L, st, μ) = some s1) (hC1 : s1.1) (kk : sr_J p l e R s m args below meth c cells slots Q nL D cl (sr_wd S cA cs ad) ad A s1.2) : sr_J p l e R s m args below meth c cells slots Q nL D cl (sr_wd S cA cs ad) ad A (pc, L, st, μ) := by
  obtain ⟨v, x, g, i, st', ⟨C9, μ'⟩, rfl, hv, rfl⟩ := sr_as_inv h
  intro hn ls H locs hl hP hS
  obtain ⟨n, t, hh, hg, hi, hxn, hcase⟩ := sr_ast_inv hv hC1
  dsimp only at hcase kk
  obtain ⟨q0, hq0, hq⟩ := sr_wd_at (S := S) (cA := cA) (ad := ad) (μ := μ) (hcs g i (Or.inr (by rw [hg]; rfl)) hi)
  rw [sr_cell_i (hsep g (by rw [hg]; rfl)) hg (by decide) (by decide)] at hq
  rcases hcase with ⟨_, y, rfl, rfl⟩ | ⟨z, _⟩ | ⟨z, _⟩ | ⟨z, _⟩
  · exact va_iast hx hb hK hP (hD μ) hS q0 t hq (hty g 0 n t hh hg (by decide)) (sr_in_vp hxn) hd (fun H1 locs1 hP1 _ hS1 => kk hn ls H1 locs1 hl (sr_wd_put hq0 (by rw [sr_cell_i (hsep g (by rw [hg]; rfl)) hg (by decide) (by decide), sr_seti_row]) sr_seti_off hP1) hS1)
  · cases z
  · cases z
  · cases z

theorem sr_J_zast {pc : Nat} {L : sr_L} {st : List sr_V} {μ : sr_M} {s1 : Prop × sr_S} (hx : p.tables.exec = Jvm.exec) (hb : c.code = cc) (hK : va_K D cl tys s) (hcs : ∀ g i, ((S.1 g).isSome = true ∨ (S.2.1 g).isSome = true) → i < S.2.2 g → (g, i) ∈ cs) (hsep : ∀ g, (S.2.1 g).isSome = true → S.1 g = none) (hD : ∀ μ, va_D A (sr_wd S cA cs ad μ)) (hty : ∀ g k n t hh, S.2.1 g = some (k, n, t, hh) → ¬ k = 3 → tys[t]? = some (cA t, sr_kt k)) (hto : ∀ g n t hh, S.2.1 g = some (3, n, t, hh) → ∃ C, tys[t]? = some (cA t, .object C)) (hd : decode cc pc = .ok (.bastore, 1)) (h : sr_as S 1 (pc, L, st, μ) = some s1) (hC1 : s1.1) (kk : sr_J p l e R s m args below meth c cells slots Q nL D cl (sr_wd S cA cs ad) ad A s1.2) : sr_J p l e R s m args below meth c cells slots Q nL D cl (sr_wd S cA cs ad) ad A (pc, L, st, μ) := by
  obtain ⟨v, x, g, i, st', ⟨C9, μ'⟩, rfl, hv, rfl⟩ := sr_as_inv h
  intro hn ls H locs hl hP hS
  obtain ⟨n, t, hh, hg, hi, hxn, hcase⟩ := sr_ast_inv hv hC1
  dsimp only at hcase kk
  obtain ⟨q0, hq0, hq⟩ := sr_wd_at (S := S) (cA := cA) (ad := ad) (μ := μ) (hcs g i (Or.inr (by rw [hg]; rfl)) hi)
  rw [sr_cell_i (hsep g (by rw [hg]; rfl)) hg (by decide) (by decide)] at hq
  rcases hcase with ⟨z, _⟩ | ⟨_, y, rfl, rfl⟩ | ⟨z, _⟩ | ⟨z, _⟩
  · cases z
  · exact va_zast hx hb hK hP (hD μ) hS q0 t hq (hty g 1 n t hh hg (by decide)) (sr_in_vp hxn) hd (fun H1 locs1 hP1 _ hS1 => kk hn ls H1 locs1 hl (sr_wd_put hq0 (by rw [sr_cell_i (hsep g (by rw [hg]; rfl)) hg (by decide) (by decide), sr_seti_row]) sr_seti_off hP1) hS1)
  · cases z
  · cases z

theorem sr_J_cast {pc : Nat} {L : sr_L} {st : List sr_V} {μ : sr_M} {s1 : Prop × sr_S} (hx : p.tables.exec = Jvm.exec) (hb : c.code = cc) (hK : va_K D cl tys s) (hcs : ∀ g i, ((S.1 g).isSome = true ∨ (S.2.1 g).isSome = true) → i < S.2.2 g → (g, i) ∈ cs) (hsep : ∀ g, (S.2.1 g).isSome = true → S.1 g = none) (hD : ∀ μ, va_D A (sr_wd S cA cs ad μ)) (hty : ∀ g k n t hh, S.2.1 g = some (k, n, t, hh) → ¬ k = 3 → tys[t]? = some (cA t, sr_kt k)) (hto : ∀ g n t hh, S.2.1 g = some (3, n, t, hh) → ∃ C, tys[t]? = some (cA t, .object C)) (hd : decode cc pc = .ok (.castore, 1)) (h : sr_as S 4 (pc, L, st, μ) = some s1) (hC1 : s1.1) (kk : sr_J p l e R s m args below meth c cells slots Q nL D cl (sr_wd S cA cs ad) ad A s1.2) : sr_J p l e R s m args below meth c cells slots Q nL D cl (sr_wd S cA cs ad) ad A (pc, L, st, μ) := by
  obtain ⟨v, x, g, i, st', ⟨C9, μ'⟩, rfl, hv, rfl⟩ := sr_as_inv h
  intro hn ls H locs hl hP hS
  obtain ⟨n, t, hh, hg, hi, hxn, hcase⟩ := sr_ast_inv hv hC1
  dsimp only at hcase kk
  obtain ⟨q0, hq0, hq⟩ := sr_wd_at (S := S) (cA := cA) (ad := ad) (μ := μ) (hcs g i (Or.inr (by rw [hg]; rfl)) hi)
  rw [sr_cell_i (hsep g (by rw [hg]; rfl)) hg (by decide) (by decide)] at hq
  rcases hcase with ⟨z, _⟩ | ⟨z, _⟩ | ⟨_, y, rfl, rfl⟩ | ⟨z, _⟩
  · cases z
  · cases z
  · exact va_cast hx hb hK hP (hD μ) hS q0 t hq (hty g 4 n t hh hg (by decide)) (sr_in_vp hxn) hd (fun H1 locs1 hP1 _ hS1 => kk hn ls H1 locs1 hl (sr_wd_put hq0 (by rw [sr_cell_i (hsep g (by rw [hg]; rfl)) hg (by decide) (by decide), sr_seti_row]) sr_seti_off hP1) hS1)
  · cases z

theorem sr_J_last {pc : Nat} {L : sr_L} {st : List sr_V} {μ : sr_M} {s1 : Prop × sr_S} (hx : p.tables.exec = Jvm.exec) (hb : c.code = cc) (hK : va_K D cl tys s) (hcs : ∀ g i, ((S.1 g).isSome = true ∨ (S.2.1 g).isSome = true) → i < S.2.2 g → (g, i) ∈ cs) (hsep : ∀ g, (S.2.1 g).isSome = true → S.1 g = none) (hD : ∀ μ, va_D A (sr_wd S cA cs ad μ)) (hty : ∀ g k n t hh, S.2.1 g = some (k, n, t, hh) → ¬ k = 3 → tys[t]? = some (cA t, sr_kt k)) (hto : ∀ g n t hh, S.2.1 g = some (3, n, t, hh) → ∃ C, tys[t]? = some (cA t, .object C)) (hd : decode cc pc = .ok (.lastore, 1)) (h : sr_as S 2 (pc, L, st, μ) = some s1) (hC1 : s1.1) (kk : sr_J p l e R s m args below meth c cells slots Q nL D cl (sr_wd S cA cs ad) ad A s1.2) : sr_J p l e R s m args below meth c cells slots Q nL D cl (sr_wd S cA cs ad) ad A (pc, L, st, μ) := by
  obtain ⟨v, x, g, i, st', ⟨C9, μ'⟩, rfl, hv, rfl⟩ := sr_as_inv h
  intro hn ls H locs hl hP hS
  obtain ⟨n, t, hh, hg, hi, hxn, hcase⟩ := sr_ast_inv hv hC1
  dsimp only at hcase kk
  obtain ⟨q0, hq0, hq⟩ := sr_wd_at (S := S) (cA := cA) (ad := ad) (μ := μ) (hcs g i (Or.inr (by rw [hg]; rfl)) hi)
  rw [sr_cell_l (hsep g (by rw [hg]; rfl)) hg] at hq
  rcases hcase with ⟨z, _⟩ | ⟨z, _⟩ | ⟨z, _⟩ | ⟨_, y, rfl, rfl⟩
  · cases z
  · cases z
  · cases z
  · exact va_last hx hb hK hP (hD μ) hS q0 t hq (hty g 2 n t hh hg (by decide)) (sr_in_vp hxn) hd (fun H1 locs1 hP1 _ hS1 => kk hn ls H1 locs1 hl (sr_wd_put hq0 (by rw [sr_cell_l (hsep g (by rw [hg]; rfl)) hg, sr_setl_row]) sr_setl_off hP1) hS1)

end SrStep
