/-! An abstract machine for the code of the claim: ints, longs and references to cells that have a name (group, number); a memory of numbers; calls answer by a picture. A step gives what must hold there, and the next state. -/
-- a value: an int, a long, a reference to cell (group, number)
abbrev sr_V : Type := Int32 ⊕ Int64 ⊕ (Nat × Nat)
-- the memory: (group, number, slot) to an int, and to a long
abbrev sr_M : Type := (Nat → Nat → Nat → Int32) × (Nat → Nat → Nat → Int64)
abbrev sr_L : Type := List (Option sr_V)
-- a state: pc, locals, operand stack, memory
abbrev sr_S : Type := Nat × sr_L × List sr_V × sr_M
abbrev sr_R : Type := Option sr_V × sr_M
-- a picture of a method: arguments and memory to what must hold, answer and memory
abbrev sr_F : Type := List sr_V → sr_M → Option (Prop × sr_R)
-- shapes: of a group of objects (number of its sort, fields: kind, target group, target number), of a group of arrays (kind, length, place of the array sort, target group), how many cells
-- kinds: 0 int, 1 boolean, 2 long, 3 reference, 4 char
abbrev sr_Sh : Type := (Nat → Option (Nat × List (Nat × Nat × Nat))) × (Nat → Option (Nat × Nat × Nat × Nat)) × (Nat → Nat)
-- arrays outside of the world that nobody writes: length and contents
abbrev sr_K : Type := Nat → Option (Nat × (Nat → Int32))
-- tables, by places of the constant pool: fields (sort, slot), ints, longs, static fields (group), calls (0 or sort of the receiver + 1, how many arguments, picture)
abbrev sr_T : Type := (Nat → Option (Nat × Nat)) × (Nat → Option Int32) × (Nat → Option Int64) × (Nat → Option Nat) × (Nat → Option (Nat × Nat × sr_F))
-- a method: shapes, constants, tables, code, what it returns
abbrev sr_E : Type := sr_Sh × sr_K × sr_T × (Nat → Option (Jvm.ClassFile.Instr × Nat)) × Option FieldType
abbrev sr_in (x : Int32) (n : Nat) : Prop := ¬ (x < 0 ∨ n ≤ x.toNatClampNeg)
def sr_seti (μ : sr_M) (g i j : Nat) (x : Int32) : sr_M := (fun a b d => if a = g ∧ b = i ∧ d = j then x else μ.1 a b d, μ.2)
def sr_setl (μ : sr_M) (g i j : Nat) (x : Int64) : sr_M := (μ.1, fun a b d => if a = g ∧ b = i ∧ d = j then x else μ.2 a b d)
-- locals: a store kills the long that it cuts
def sr_kill (L : sr_L) : Nat → sr_L
  | 0 => L
  | i + 1 => match L[i]? with
    | some (some (.inr (.inl _))) => L.set i none
    | _ => L
def sr_st1 (L : sr_L) (i : Nat) (v : sr_V) : Option sr_L := if i < L.length then some ((sr_kill L i).set i (some v)) else none
def sr_st2 (L : sr_L) (i : Nat) (v : sr_V) : Option sr_L := if i + 1 < L.length then some (((sr_kill L i).set i (some v)).set (i + 1) none) else none
def sr_getf (S : sr_Sh) (f : Option (Nat × Nat)) (μ : sr_M) (g i : Nat) : Option (Prop × sr_V) :=
  match f with
  | none => none
  | some (ci, j) => match S.1 g with
    | none => none
    | some (cj, fs) => if ci = cj then
        match fs[j]? with
        | some (0, _, _) => some (i < S.2.2 g, .inl (μ.1 g i j))
        | some (1, _, _) => some (i < S.2.2 g, .inl (μ.1 g i j))
        | some (2, _, _) => some (i < S.2.2 g, .inr (.inl (μ.2 g i j)))
        | some (3, h, 0) => some (i < S.2.2 g, .inr (.inr (h, i)))
        | some (3, h, k + 1) => some (i < S.2.2 g, .inr (.inr (h, k)))
        | _ => none
      else none
def sr_putf (S : sr_Sh) (f : Option (Nat × Nat)) (μ : sr_M) (g i : Nat) (v : sr_V) : Option (Prop × sr_M) :=
  match f with
  | none => none
  | some (ci, j) => match S.1 g with
    | none => none
    | some (cj, fs) => if ci = cj then
        match fs[j]?, v with
        | some (0, _, _), .inl x => some (i < S.2.2 g, sr_seti μ g i j x)
        | some (1, _, _), .inl x => some (i < S.2.2 g ∧ (x = 0 ∨ x = 1), sr_seti μ g i j x)
        | some (2, _, _), .inr (.inl x) => some (i < S.2.2 g, sr_setl μ g i j x)
        | _, _ => none
      else none
def sr_av (kd hh : Nat) (μ : sr_M) (g i k : Nat) : sr_V := match kd with
  | 2 => .inr (.inl (μ.2 g i k))
  | 3 => .inr (.inr (hh, k))
  | _ => .inl (μ.1 g i k)
-- an array's element read, by kind
def sr_ald (S : sr_Sh) (K : sr_K) (kd : Nat) (μ : sr_M) (g i : Nat) (x : Int32) : Option (Prop × sr_V) :=
  match S.2.1 g with
  | some (k, n, _, h) => if k = kd then some (i < S.2.2 g ∧ sr_in x n, sr_av k h μ g i x.toNatClampNeg) else none
  | none => match K g with
    | some (n, f) => if kd = 0 then some (i = 0 ∧ sr_in x n, .inl (f x.toNatClampNeg)) else none
    | none => none
def sr_ast (S : sr_Sh) (kd : Nat) (μ : sr_M) (g i : Nat) (x : Int32) (v : sr_V) : Option (Prop × sr_M) :=
  match S.2.1 g with
  | some (k, n, _, _) => if k = kd then
      match k, v with
      | 0, .inl y => some (i < S.2.2 g ∧ sr_in x n, sr_seti μ g i x.toNatClampNeg y)
      | 1, .inl y => some (i < S.2.2 g ∧ sr_in x n, sr_seti μ g i x.toNatClampNeg (vp_nar .boolean y))
      | 4, .inl y => some (i < S.2.2 g ∧ sr_in x n, sr_seti μ g i x.toNatClampNeg (vp_nar .char y))
      | 2, .inr (.inl y) => some (i < S.2.2 g ∧ sr_in x n, sr_setl μ g i x.toNatClampNeg y)
      | _, _ => none
    else none
  | none => none
-- what a call leaves: the answer upon the rest of the stack
def sr_back (rest : List sr_V) : Prop × sr_R → Prop × List sr_V × sr_M
  | (C, some v, μ) => (C, v :: rest, μ)
  | (C, none, μ) => (C, rest, μ)
-- a call: take the arguments off the stack
def sr_call (S : sr_Sh) (t : Option (Nat × Nat × sr_F)) (vir : Bool) (st : List sr_V) (μ : sr_M) : Option (Prop × List sr_V × sr_M) :=
  match t with
  | none => none
  | some (rc, n, f) => match vir, rc with
    | false, 0 => if n ≤ st.length ∧ (st.drop n).length ≤ 4 then
        match f (st.take n).reverse μ with
        | some x => some (sr_back (st.drop n) x)
        | none => none
      else none
    | true, ci + 1 => match st.drop n with
      | .inr (.inr (g, i)) :: rest => match S.1 g with
        | none => none
        | some (cj, _) => if ci = cj ∧ rest.length ≤ 4 then
            match f (.inr (.inr (g, i)) :: (st.take n).reverse) μ with
            | some x => some (sr_back rest (i < S.2.2 g ∧ x.1, x.2))
            | none => none
          else none
      | _ => none
    | _, _ => none
abbrev sr_O : Type := Option (Prop × sr_S)
def sr_ii (f : Int32 → Int32 → Int32) : sr_S → sr_O
  | (pc, L, .inl y :: .inl x :: st, μ) => some (True, pc + 1, L, .inl (f x y) :: st, μ)
  | _ => none
def sr_ll (f : Int64 → Int64 → Int64) : sr_S → sr_O
  | (pc, L, .inr (.inl y) :: .inr (.inl x) :: st, μ) => some (True, pc + 1, L, .inr (.inl (f x y)) :: st, μ)
  | _ => none
def sr_li (f : Int64 → Int32 → Int64) : sr_S → sr_O
  | (pc, L, .inl y :: .inr (.inl x) :: st, μ) => some (True, pc + 1, L, .inr (.inl (f x y)) :: st, μ)
  | _ => none
def sr_rem : sr_S → sr_O
  | (pc, L, .inl y :: .inl x :: st, μ) => some (¬ y = 0, pc + 1, L, .inl (x - x / y * y) :: st, μ)
  | _ => none
def sr_u (f : Int32 → sr_V) : sr_S → sr_O
  | (pc, L, .inl x :: st, μ) => some (True, pc + 1, L, f x :: st, μ)
  | _ => none
def sr_ul (f : Int64 → sr_V) : sr_S → sr_O
  | (pc, L, .inr (.inl x) :: st, μ) => some (True, pc + 1, L, f x :: st, μ)
  | _ => none
def sr_lcmp : sr_S → sr_O
  | (pc, L, .inr (.inl y) :: .inr (.inl x) :: st, μ) => some (True, pc + 1, L, .inl (lg_cmp x y) :: st, μ)
  | _ => none
-- a load of place i of a kind (0 int, 2 long, 3 reference)
def sr_ld (kd i n : Nat) : sr_S → sr_O
  | (pc, L, st, μ) => match L[i]? with
    | some (some (.inl x)) => if kd = 0 then some (True, pc + n, L, .inl x :: st, μ) else none
    | some (some (.inr (.inl x))) => if kd = 2 then some (True, pc + n, L, .inr (.inl x) :: st, μ) else none
    | some (some (.inr (.inr r))) => if kd = 3 then some (True, pc + n, L, .inr (.inr r) :: st, μ) else none
    | _ => none
def sr_put (pc : Nat) (st : List sr_V) (μ : sr_M) : Option sr_L → sr_O
  | some L => some (True, pc, L, st, μ)
  | none => none
def sr_sto (kd i n : Nat) : sr_S → sr_O
  | (pc, L, .inl x :: st, μ) => if kd = 0 then sr_put (pc + n) st μ (sr_st1 L i (.inl x)) else none
  | (pc, L, .inr (.inr r) :: st, μ) => if kd = 3 then sr_put (pc + n) st μ (sr_st1 L i (.inr (.inr r))) else none
  | (pc, L, .inr (.inl x) :: st, μ) => if kd = 2 then sr_put (pc + n) st μ (sr_st2 L i (.inr (.inl x))) else none
  | _ => none
def sr_inc (i : Nat) (n : Int) : sr_S → sr_O
  | (pc, L, st, μ) => match L[i]? with
    | some (some (.inl x)) => sr_put (pc + 3) st μ (sr_st1 L i (.inl (x + Int32.ofInt n)))
    | _ => none
def sr_cc (q : Jvm.ClassFile.Cond) (x y : Int32) : Bool := match q with
  | .eq => decide (x = y)
  | .ne => decide (¬ x = y)
  | .lt => decide (x < y)
  | .ge => decide (y ≤ x)
  | .gt => decide (y < x)
  | .le => decide (x ≤ y)
def sr_tgt (pc : Nat) (off : Int) : Nat := ((pc : Int) + off).toNat
def sr_jmp (b : Bool) (pc : Nat) (off : Int) (L : sr_L) (st : List sr_V) (μ : sr_M) : sr_O := some (True, bif b then sr_tgt pc off else pc + 3, L, st, μ)
def sr_if (q : Jvm.ClassFile.Cond) (off : Int) : sr_S → sr_O
  | (pc, L, .inl x :: st, μ) => sr_jmp (sr_cc q x 0) pc off L st μ
  | _ => none
def sr_icmp (q : Jvm.ClassFile.Cond) (off : Int) : sr_S → sr_O
  | (pc, L, .inl y :: .inl x :: st, μ) => sr_jmp (sr_cc q x y) pc off L st μ
  | _ => none
def sr_goto (off : Int) : sr_S → sr_O
  | (pc, L, st, μ) => some (True, sr_tgt pc off, L, st, μ)
def sr_dup : sr_S → sr_O
  | (pc, L, .inl x :: st, μ) => some (True, pc + 1, L, .inl x :: .inl x :: st, μ)
  | (pc, L, .inr (.inr r) :: st, μ) => some (True, pc + 1, L, .inr (.inr r) :: .inr (.inr r) :: st, μ)
  | _ => none
def sr_c1 : sr_V → Bool
  | .inr (.inl _) => false
  | _ => true
def sr_dup2 : sr_S → sr_O
  | (pc, L, a :: b :: st, μ) => if sr_c1 a = true ∧ sr_c1 b = true then some (True, pc + 1, L, a :: b :: a :: b :: st, μ) else none
  | _ => none
def sr_dupx1 : sr_S → sr_O
  | (pc, L, a :: b :: st, μ) => if sr_c1 a = true ∧ sr_c1 b = true then some (True, pc + 1, L, a :: b :: a :: st, μ) else none
  | _ => none
def sr_dupx2 : sr_S → sr_O
  | (pc, L, a :: b :: d :: st, μ) => if sr_c1 a = true ∧ sr_c1 b = true ∧ sr_c1 d = true then some (True, pc + 1, L, a :: b :: d :: a :: st, μ) else none
  | _ => none
def sr_pop : sr_S → sr_O
  | (pc, L, a :: st, μ) => if sr_c1 a = true then some (True, pc + 1, L, st, μ) else none
  | _ => none
def sr_swt (dflt lo hi : Int) (offs : Array Int) (x : Int) : Int := if x < lo ∨ hi < x then dflt else (offs[(x - lo).toNat]?).getD dflt
def sr_sw (dflt lo hi : Int) (offs : Array Int) : sr_S → sr_O
  | (pc, L, .inl x :: st, μ) => some (True, sr_tgt pc (sr_swt dflt lo hi offs x.toInt), L, st, μ)
  | _ => none
def sr_gf (S : sr_Sh) (f : Option (Nat × Nat)) : sr_S → sr_O
  | (pc, L, .inr (.inr (g, i)) :: st, μ) => match sr_getf S f μ g i with
    | some v => some (v.1, pc + 3, L, v.2 :: st, μ)
    | none => none
  | _ => none
def sr_pf (S : sr_Sh) (f : Option (Nat × Nat)) : sr_S → sr_O
  | (pc, L, v :: .inr (.inr (g, i)) :: st, μ) => match sr_putf S f μ g i v with
    | some x => some (x.1, pc + 3, L, st, x.2)
    | none => none
  | _ => none
def sr_al (S : sr_Sh) (K : sr_K) (kd : Nat) : sr_S → sr_O
  | (pc, L, .inl x :: .inr (.inr (g, i)) :: st, μ) => match sr_ald S K kd μ g i x with
    | some v => some (v.1, pc + 1, L, v.2 :: st, μ)
    | none => none
  | _ => none
def sr_as (S : sr_Sh) (kd : Nat) : sr_S → sr_O
  | (pc, L, v :: .inl x :: .inr (.inr (g, i)) :: st, μ) => match sr_ast S kd μ g i x v with
    | some y => some (y.1, pc + 1, L, st, y.2)
    | none => none
  | _ => none
def sr_len (K : sr_K) : sr_S → sr_O
  | (pc, L, .inr (.inr (g, i)) :: st, μ) => match K g with
    | some (n, _) => some (i = 0, pc + 1, L, .inl (Int32.ofNat n) :: st, μ)
    | none => none
  | _ => none
def sr_inv (S : sr_Sh) (t : Option (Nat × Nat × sr_F)) (vir : Bool) : sr_S → sr_O
  | (pc, L, st, μ) => match sr_call S t vir st μ with
    | some x => some (x.1, pc + 3, L, x.2.1, x.2.2)
    | none => none
def sr_ps (n : Nat) (v : Option sr_V) : sr_S → sr_O
  | (pc, L, st, μ) => match v with
    | some v => some (True, pc + n, L, v :: st, μ)
    | none => none
/-- one instruction -/
def sr_step (E : sr_E) (ins : Jvm.ClassFile.Instr) (s : sr_S) : sr_O :=
  match ins with
  | .iconst n => sr_ps 1 (some (.inl (Int32.ofInt n))) s
  | .bipush n => sr_ps 2 (some (.inl (Int8.ofInt n).toInt32)) s
  | .sipush n => sr_ps 3 (some (.inl (Int16.ofInt n).toInt32)) s
  | .lconst n => sr_ps 1 (some (.inr (.inl (Int64.ofNat (n : Nat))))) s
  | .ldc k => sr_ps 2 ((E.2.2.1.2.1 k).map Sum.inl) s
  | .ldc2_w k => sr_ps 3 ((E.2.2.1.2.2.1 k).map (fun x => Sum.inr (Sum.inl x))) s
  | .iload_n k => sr_ld 0 k 1 s
  | .iload i => sr_ld 0 i 2 s
  | .lload_n k => sr_ld 2 k 1 s
  | .lload i => sr_ld 2 i 2 s
  | .aload_n k => sr_ld 3 k 1 s
  | .aload i => sr_ld 3 i 2 s
  | .istore_n k => sr_sto 0 k 1 s
  | .istore i => sr_sto 0 i 2 s
  | .lstore_n k => sr_sto 2 k 1 s
  | .lstore i => sr_sto 2 i 2 s
  | .astore_n k => sr_sto 3 k 1 s
  | .astore i => sr_sto 3 i 2 s
  | .iinc i n => sr_inc i n s
  | .iadd => sr_ii (fun x y => x + y) s
  | .isub => sr_ii (fun x y => x - y) s
  | .imul => sr_ii (fun x y => x * y) s
  | .iand => sr_ii (fun x y => x &&& y) s
  | .ior => sr_ii (fun x y => x ||| y) s
  | .ixor => sr_ii (fun x y => x ^^^ y) s
  | .ishl => sr_ii (fun x y => x <<< (y &&& 31)) s
  | .ishr => sr_ii (fun x y => x >>> (y &&& 31)) s
  | .irem => sr_rem s
  | .ladd => sr_ll (fun x y => x + y) s
  | .lsub => sr_ll (fun x y => x - y) s
  | .land => sr_ll (fun x y => x &&& y) s
  | .lor => sr_ll (fun x y => x ||| y) s
  | .lshl => sr_li (fun x y => x <<< (y.toInt64 &&& 63)) s
  | .lshr => sr_li (fun x y => x >>> (y.toInt64 &&& 63)) s
  | .lushr => sr_li (fun x y => (x.toUInt64 >>> (y.toInt64.toUInt64 &&& Int64.toUInt64 63)).toInt64) s
  | .i2l => sr_u (fun x => .inr (.inl x.toInt64)) s
  | .i2c => sr_u (fun x => .inl (x.toUInt32 % 65536).toInt32) s
  | .l2i => sr_ul (fun x => .inl x.toInt32) s
  | .lcmp => sr_lcmp s
  | .dup => sr_dup s
  | .dup2 => sr_dup2 s
  | .dup_x1 => sr_dupx1 s
  | .dup_x2 => sr_dupx2 s
  | .pop => sr_pop s
  | .ifCond q off => sr_if q off s
  | .if_icmp q off => sr_icmp q off s
  | .goto off => sr_goto off s
  | .tableswitch d lo hi offs => sr_sw d lo hi offs s
  | .getfield k => sr_gf E.1 (E.2.2.1.1 k) s
  | .putfield k => sr_pf E.1 (E.2.2.1.1 k) s
  | .getstatic k => sr_ps 3 ((E.2.2.1.2.2.2.1 k).map (fun g => Sum.inr (Sum.inr (g, 0)))) s
  | .iaload => sr_al E.1 E.2.1 0 s
  | .baload => sr_al E.1 E.2.1 1 s
  | .caload => sr_al E.1 E.2.1 4 s
  | .laload => sr_al E.1 E.2.1 2 s
  | .aaload => sr_al E.1 E.2.1 3 s
  | .iastore => sr_as E.1 0 s
  | .bastore => sr_as E.1 1 s
  | .castore => sr_as E.1 4 s
  | .lastore => sr_as E.1 2 s
  | .arraylength => sr_len E.2.1 s
  | .invokevirtual k => sr_inv E.1 (E.2.2.1.2.2.2.2 k) true s
  | .invokestatic k => sr_inv E.1 (E.2.2.1.2.2.2.2 k) false s
  | _ => none
/-- a return -/
def sr_fin (E : sr_E) (ins : Jvm.ClassFile.Instr) (s : sr_S) : Option (Prop × sr_R) :=
  match ins, s.2.2.1, E.2.2.2.2 with
  | .ireturn, [.inl x], some .int => some (True, some (.inl x), s.2.2.2)
  | .ireturn, [.inl x], some .boolean => some (x = 0 ∨ x = 1, some (.inl x), s.2.2.2)
  | .lreturn, [.inr (.inl x)], some .long => some (True, some (.inr (.inl x)), s.2.2.2)
  | .return_, [], none => some (True, none, s.2.2.2)
  | _, _, _ => none
-- locals forgotten
def sr_sub : sr_L → sr_L → Prop
  | [], [] => True
  | none :: l, _ :: l' => sr_sub l l'
  | some v :: l, o :: l' => o = some v ∧ sr_sub l l'
  | _, _ => False
-- within n steps the method returns, with K of what it returns
def sr_AWn (E : sr_E) (K : sr_R → Prop) : Nat → sr_S → Prop
  | 0, _ => False
  | n + 1, s => (match E.2.2.2.1 s.1 with
    | none => False
    | some (ins, _) => match sr_step E ins s with
      | some x => x.1 ∧ sr_AWn E K n x.2
      | none => match sr_fin E ins s with
        | some y => y.1 ∧ K y.2
        | none => False) ∨ ∃ L0, sr_sub L0 s.2.1 ∧ sr_AWn E K n (s.1, L0, s.2.2)
def sr_AW (E : sr_E) (K : sr_R → Prop) (s : sr_S) : Prop := ∃ n, sr_AWn E K n s
-- a method's locals at its entry
def sr_ent : List sr_V → sr_L
  | [] => []
  | .inr (.inl x) :: vs => some (.inr (.inl x)) :: none :: sr_ent vs
  | .inl x :: vs => some (.inl x) :: sr_ent vs
  | .inr (.inr x) :: vs => some (.inr (.inr x)) :: sr_ent vs
def sr_entry (n : Nat) (vs : List sr_V) (μ : sr_M) : sr_S := (0, sr_ent vs ++ List.replicate (n - (sr_ent vs).length) none, [], μ)
-- how long an instruction is (a switch says it itself)
def sr_il (ins : Jvm.ClassFile.Instr) (n : Nat) : Nat := match ins with
  | .bipush _ => 2
  | .sipush _ => 3
  | .ldc _ => 2
  | .ldc2_w _ => 3
  | .iload _ => 2
  | .lload _ => 2
  | .aload _ => 2
  | .istore _ => 2
  | .lstore _ => 2
  | .astore _ => 2
  | .iinc _ _ => 3
  | .ifCond _ _ => 3
  | .if_icmp _ _ => 3
  | .goto _ => 3
  | .tableswitch _ _ _ _ => n
  | .getfield _ => 3
  | .putfield _ => 3
  | .getstatic _ => 3
  | .invokevirtual _ => 3
  | .invokestatic _ => 3
  | _ => 1
-- a jump goes to a place
def sr_tok (pc : Nat) (ins : Jvm.ClassFile.Instr) : Bool := match ins with
  | .ifCond _ off => decide (0 ≤ (pc : Int) + off)
  | .if_icmp _ off => decide (0 ≤ (pc : Int) + off)
  | .goto off => decide (0 ≤ (pc : Int) + off)
  | .tableswitch d lo hi offs => decide (0 ≤ (pc : Int) + d) && offs.toList.all (fun off => decide (0 ≤ (pc : Int) + off)) && decide (hi - lo + 1 ≤ (offs.size : Int))
  | _ => true
