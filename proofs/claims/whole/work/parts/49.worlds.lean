/-! The worlds that the constructors leave. -/
def sr_off (g i : Nat) : Nat := match g with
  | 0 => 0
  | 1 => 1
  | 2 => 2
  | 3 => 7 + 2 * i
  | 4 => 8 + 2 * i
  | 5 => 3
  | 6 => 39 + i
  | 7 => 4
  | 8 => 5
  | 9 => 6
  | 10 => 47
  | 11 => 48
  | 12 => 49
  | 13 => 53 + i
  | 14 => 50
  | 15 => 51
  | 16 => 52
  | 17 => 69
  | 18 => 70 + 2 * i
  | 19 => 71 + 2 * i
  | g => 54 + g
-- addresses: the worlds from a on; the static arrays f, l, m; the script b
def sr_adL (a b f l m : Nat) : Nat → Nat → Nat := fun g i => if g < 44 then a + sr_off g i else if g = 50 then f else if g = 51 then l else if g = 52 then m else b
def sr_mu0 : sr_M := (fun g _ j => match g with
  | 4 => sr_K50 j
  | 8 => upd (upd (upd (upd (fun _ => 0) (0 : Int32).toNatClampNeg 1) (1 : Int32).toNatClampNeg 1) (2 : Int32).toNatClampNeg 1) (3 : Int32).toNatClampNeg 1 j
  | 10 => match j with
    | 0 => 1
    | 2 => 1
    | _ => 0
  | 13 => match j with
    | 1 => -1
    | 2 => -1
    | _ => 0
  | 15 => upd (upd (upd (fun _ => 0) (0 : Int32).toNatClampNeg (-1)) (1 : Int32).toNatClampNeg (-1)) (2 : Int32).toNatClampNeg (-1) j
  | 17 => match j with
    | 3 => 15
    | _ => 0
  | 20 => match j with
    | 14 => 15
    | 18 => 1
    | 20 => 1
    | _ => 0
  | 26 => upd (upd (upd (upd (fun _ => 0) (0 : Int32).toNatClampNeg 1) (1 : Int32).toNatClampNeg 1) (2 : Int32).toNatClampNeg 1) (3 : Int32).toNatClampNeg 1 j
  | 35 => if j < 16 then -1 else 0
  | 36 => if j < 16 then -1 else 0
  | 40 => upd (upd (upd (fun _ => 0) (0 : Int32).toNatClampNeg (-1)) (1 : Int32).toNatClampNeg (-1)) (2 : Int32).toNatClampNeg (-1) j
  | _ => 0, fun _ _ _ => 0)
def sr_exL (cA : Nat → ClassId) (a : Nat) : Nat → va_E := fun j => if j < 74 then ex_SR cA a j else ex_MO cA (a + 74) (j - 74)
def sr_ceq (x y : va_E) : Prop := ∀ (D : va_G) (cl : List vw_C) (q : Nat) (H : Heap), va_at D cl (q, x) H → va_at D cl (q, y) H
theorem sr_ceq_q {cA : ClassId} {n : Nat} {f g : Nat → Option Nat} (h : ∀ j, j < n → f j = g j) : sr_ceq (.inl (cA, n, .inr (.inr (.inr (.inr f))))) (.inl (cA, n, .inr (.inr (.inr (.inr g))))) := by
  intro D cl q H ha
  have ha : H[q]? = some (vp_cell cA (n, .inr (.inr (.inr (.inr f))))) := ha
  show H[q]? = some (vp_cell cA (n, .inr (.inr (.inr (.inr g)))))
  rw [ha, vp_cell_q, vp_cell_q]
  unfold arrV
  congr 2
  refine congrArg (fun z => Array.ofFn z) (funext (fun j => ?_))
  dsimp only
  rw [h j.val j.isLt]
theorem cz_0_0 (cA : Nat → ClassId) (a b f l m : Nat) : sr_ceq (sr_exL cA a (sr_off 0 0)) (sr_cell sr_SJ cA (sr_adL a b f l m) sr_mu0 0 0) := fun _ _ _ _ h => h
theorem cz_1_0 (cA : Nat → ClassId) (a b f l m : Nat) : sr_ceq (sr_exL cA a (sr_off 1 0)) (sr_cell sr_SJ cA (sr_adL a b f l m) sr_mu0 1 0) := fun _ _ _ _ h => h
theorem cz_2_0 (cA : Nat → ClassId) (a b f l m : Nat) : sr_ceq (sr_exL cA a (sr_off 2 0)) (sr_cell sr_SJ cA (sr_adL a b f l m) sr_mu0 2 0) := fun _ _ _ _ h => h
theorem cz_3_0 (cA : Nat → ClassId) (a b f l m : Nat) : sr_ceq (sr_exL cA a (sr_off 3 0)) (sr_cell sr_SJ cA (sr_adL a b f l m) sr_mu0 3 0) := fun _ _ _ _ h => h
theorem cz_3_1 (cA : Nat → ClassId) (a b f l m : Nat) : sr_ceq (sr_exL cA a (sr_off 3 1)) (sr_cell sr_SJ cA (sr_adL a b f l m) sr_mu0 3 1) := fun _ _ _ _ h => h
theorem cz_3_2 (cA : Nat → ClassId) (a b f l m : Nat) : sr_ceq (sr_exL cA a (sr_off 3 2)) (sr_cell sr_SJ cA (sr_adL a b f l m) sr_mu0 3 2) := fun _ _ _ _ h => h
theorem cz_3_3 (cA : Nat → ClassId) (a b f l m : Nat) : sr_ceq (sr_exL cA a (sr_off 3 3)) (sr_cell sr_SJ cA (sr_adL a b f l m) sr_mu0 3 3) := fun _ _ _ _ h => h
theorem cz_3_4 (cA : Nat → ClassId) (a b f l m : Nat) : sr_ceq (sr_exL cA a (sr_off 3 4)) (sr_cell sr_SJ cA (sr_adL a b f l m) sr_mu0 3 4) := fun _ _ _ _ h => h
theorem cz_3_5 (cA : Nat → ClassId) (a b f l m : Nat) : sr_ceq (sr_exL cA a (sr_off 3 5)) (sr_cell sr_SJ cA (sr_adL a b f l m) sr_mu0 3 5) := fun _ _ _ _ h => h
theorem cz_3_6 (cA : Nat → ClassId) (a b f l m : Nat) : sr_ceq (sr_exL cA a (sr_off 3 6)) (sr_cell sr_SJ cA (sr_adL a b f l m) sr_mu0 3 6) := fun _ _ _ _ h => h
theorem cz_3_7 (cA : Nat → ClassId) (a b f l m : Nat) : sr_ceq (sr_exL cA a (sr_off 3 7)) (sr_cell sr_SJ cA (sr_adL a b f l m) sr_mu0 3 7) := fun _ _ _ _ h => h
theorem cz_3_8 (cA : Nat → ClassId) (a b f l m : Nat) : sr_ceq (sr_exL cA a (sr_off 3 8)) (sr_cell sr_SJ cA (sr_adL a b f l m) sr_mu0 3 8) := fun _ _ _ _ h => h
theorem cz_3_9 (cA : Nat → ClassId) (a b f l m : Nat) : sr_ceq (sr_exL cA a (sr_off 3 9)) (sr_cell sr_SJ cA (sr_adL a b f l m) sr_mu0 3 9) := fun _ _ _ _ h => h
theorem cz_3_10 (cA : Nat → ClassId) (a b f l m : Nat) : sr_ceq (sr_exL cA a (sr_off 3 10)) (sr_cell sr_SJ cA (sr_adL a b f l m) sr_mu0 3 10) := fun _ _ _ _ h => h
theorem cz_3_11 (cA : Nat → ClassId) (a b f l m : Nat) : sr_ceq (sr_exL cA a (sr_off 3 11)) (sr_cell sr_SJ cA (sr_adL a b f l m) sr_mu0 3 11) := fun _ _ _ _ h => h
theorem cz_3_12 (cA : Nat → ClassId) (a b f l m : Nat) : sr_ceq (sr_exL cA a (sr_off 3 12)) (sr_cell sr_SJ cA (sr_adL a b f l m) sr_mu0 3 12) := fun _ _ _ _ h => h
theorem cz_3_13 (cA : Nat → ClassId) (a b f l m : Nat) : sr_ceq (sr_exL cA a (sr_off 3 13)) (sr_cell sr_SJ cA (sr_adL a b f l m) sr_mu0 3 13) := fun _ _ _ _ h => h
theorem cz_3_14 (cA : Nat → ClassId) (a b f l m : Nat) : sr_ceq (sr_exL cA a (sr_off 3 14)) (sr_cell sr_SJ cA (sr_adL a b f l m) sr_mu0 3 14) := fun _ _ _ _ h => h
theorem cz_3_15 (cA : Nat → ClassId) (a b f l m : Nat) : sr_ceq (sr_exL cA a (sr_off 3 15)) (sr_cell sr_SJ cA (sr_adL a b f l m) sr_mu0 3 15) := fun _ _ _ _ h => h
theorem cz_4_0 (cA : Nat → ClassId) (a b f l m : Nat) : sr_ceq (sr_exL cA a (sr_off 4 0)) (sr_cell sr_SJ cA (sr_adL a b f l m) sr_mu0 4 0) := fun _ _ _ _ h => h
theorem cz_4_1 (cA : Nat → ClassId) (a b f l m : Nat) : sr_ceq (sr_exL cA a (sr_off 4 1)) (sr_cell sr_SJ cA (sr_adL a b f l m) sr_mu0 4 1) := fun _ _ _ _ h => h
theorem cz_4_2 (cA : Nat → ClassId) (a b f l m : Nat) : sr_ceq (sr_exL cA a (sr_off 4 2)) (sr_cell sr_SJ cA (sr_adL a b f l m) sr_mu0 4 2) := fun _ _ _ _ h => h
theorem cz_4_3 (cA : Nat → ClassId) (a b f l m : Nat) : sr_ceq (sr_exL cA a (sr_off 4 3)) (sr_cell sr_SJ cA (sr_adL a b f l m) sr_mu0 4 3) := fun _ _ _ _ h => h
theorem cz_4_4 (cA : Nat → ClassId) (a b f l m : Nat) : sr_ceq (sr_exL cA a (sr_off 4 4)) (sr_cell sr_SJ cA (sr_adL a b f l m) sr_mu0 4 4) := fun _ _ _ _ h => h
theorem cz_4_5 (cA : Nat → ClassId) (a b f l m : Nat) : sr_ceq (sr_exL cA a (sr_off 4 5)) (sr_cell sr_SJ cA (sr_adL a b f l m) sr_mu0 4 5) := fun _ _ _ _ h => h
theorem cz_4_6 (cA : Nat → ClassId) (a b f l m : Nat) : sr_ceq (sr_exL cA a (sr_off 4 6)) (sr_cell sr_SJ cA (sr_adL a b f l m) sr_mu0 4 6) := fun _ _ _ _ h => h
theorem cz_4_7 (cA : Nat → ClassId) (a b f l m : Nat) : sr_ceq (sr_exL cA a (sr_off 4 7)) (sr_cell sr_SJ cA (sr_adL a b f l m) sr_mu0 4 7) := fun _ _ _ _ h => h
theorem cz_4_8 (cA : Nat → ClassId) (a b f l m : Nat) : sr_ceq (sr_exL cA a (sr_off 4 8)) (sr_cell sr_SJ cA (sr_adL a b f l m) sr_mu0 4 8) := fun _ _ _ _ h => h
theorem cz_4_9 (cA : Nat → ClassId) (a b f l m : Nat) : sr_ceq (sr_exL cA a (sr_off 4 9)) (sr_cell sr_SJ cA (sr_adL a b f l m) sr_mu0 4 9) := fun _ _ _ _ h => h
theorem cz_4_10 (cA : Nat → ClassId) (a b f l m : Nat) : sr_ceq (sr_exL cA a (sr_off 4 10)) (sr_cell sr_SJ cA (sr_adL a b f l m) sr_mu0 4 10) := fun _ _ _ _ h => h
theorem cz_4_11 (cA : Nat → ClassId) (a b f l m : Nat) : sr_ceq (sr_exL cA a (sr_off 4 11)) (sr_cell sr_SJ cA (sr_adL a b f l m) sr_mu0 4 11) := fun _ _ _ _ h => h
theorem cz_4_12 (cA : Nat → ClassId) (a b f l m : Nat) : sr_ceq (sr_exL cA a (sr_off 4 12)) (sr_cell sr_SJ cA (sr_adL a b f l m) sr_mu0 4 12) := fun _ _ _ _ h => h
theorem cz_4_13 (cA : Nat → ClassId) (a b f l m : Nat) : sr_ceq (sr_exL cA a (sr_off 4 13)) (sr_cell sr_SJ cA (sr_adL a b f l m) sr_mu0 4 13) := fun _ _ _ _ h => h
theorem cz_4_14 (cA : Nat → ClassId) (a b f l m : Nat) : sr_ceq (sr_exL cA a (sr_off 4 14)) (sr_cell sr_SJ cA (sr_adL a b f l m) sr_mu0 4 14) := fun _ _ _ _ h => h
theorem cz_4_15 (cA : Nat → ClassId) (a b f l m : Nat) : sr_ceq (sr_exL cA a (sr_off 4 15)) (sr_cell sr_SJ cA (sr_adL a b f l m) sr_mu0 4 15) := fun _ _ _ _ h => h
theorem cz_5_0 (cA : Nat → ClassId) (a b f l m : Nat) : sr_ceq (sr_exL cA a (sr_off 5 0)) (sr_cell sr_SJ cA (sr_adL a b f l m) sr_mu0 5 0) := sr_ceq_q (cA := cA 4) (n := 16) (g := fun j => some (sr_adL a b f l m 3 j)) (fun j hj => by
  refine (if_pos hj).trans (congrArg some ?_)
  show _ = a + (_ + _)
  omega)
theorem cz_6_0 (cA : Nat → ClassId) (a b f l m : Nat) : sr_ceq (sr_exL cA a (sr_off 6 0)) (sr_cell sr_SJ cA (sr_adL a b f l m) sr_mu0 6 0) := fun _ _ _ _ h => h
theorem cz_6_1 (cA : Nat → ClassId) (a b f l m : Nat) : sr_ceq (sr_exL cA a (sr_off 6 1)) (sr_cell sr_SJ cA (sr_adL a b f l m) sr_mu0 6 1) := fun _ _ _ _ h => h
theorem cz_6_2 (cA : Nat → ClassId) (a b f l m : Nat) : sr_ceq (sr_exL cA a (sr_off 6 2)) (sr_cell sr_SJ cA (sr_adL a b f l m) sr_mu0 6 2) := fun _ _ _ _ h => h
theorem cz_6_3 (cA : Nat → ClassId) (a b f l m : Nat) : sr_ceq (sr_exL cA a (sr_off 6 3)) (sr_cell sr_SJ cA (sr_adL a b f l m) sr_mu0 6 3) := fun _ _ _ _ h => h
theorem cz_6_4 (cA : Nat → ClassId) (a b f l m : Nat) : sr_ceq (sr_exL cA a (sr_off 6 4)) (sr_cell sr_SJ cA (sr_adL a b f l m) sr_mu0 6 4) := fun _ _ _ _ h => h
theorem cz_6_5 (cA : Nat → ClassId) (a b f l m : Nat) : sr_ceq (sr_exL cA a (sr_off 6 5)) (sr_cell sr_SJ cA (sr_adL a b f l m) sr_mu0 6 5) := fun _ _ _ _ h => h
theorem cz_6_6 (cA : Nat → ClassId) (a b f l m : Nat) : sr_ceq (sr_exL cA a (sr_off 6 6)) (sr_cell sr_SJ cA (sr_adL a b f l m) sr_mu0 6 6) := fun _ _ _ _ h => h
theorem cz_6_7 (cA : Nat → ClassId) (a b f l m : Nat) : sr_ceq (sr_exL cA a (sr_off 6 7)) (sr_cell sr_SJ cA (sr_adL a b f l m) sr_mu0 6 7) := fun _ _ _ _ h => h
theorem cz_7_0 (cA : Nat → ClassId) (a b f l m : Nat) : sr_ceq (sr_exL cA a (sr_off 7 0)) (sr_cell sr_SJ cA (sr_adL a b f l m) sr_mu0 7 0) := sr_ceq_q (cA := cA 5) (n := 8) (g := fun j => some (sr_adL a b f l m 6 j)) (fun j hj => by
  refine (if_pos hj).trans (congrArg some ?_)
  show _ = a + (_ + _)
  omega)
theorem cz_8_0 (cA : Nat → ClassId) (a b f l m : Nat) : sr_ceq (sr_exL cA a (sr_off 8 0)) (sr_cell sr_SJ cA (sr_adL a b f l m) sr_mu0 8 0) := fun _ _ _ _ h => h
theorem cz_9_0 (cA : Nat → ClassId) (a b f l m : Nat) : sr_ceq (sr_exL cA a (sr_off 9 0)) (sr_cell sr_SJ cA (sr_adL a b f l m) sr_mu0 9 0) := fun _ _ _ _ h => h
theorem cz_10_0 (cA : Nat → ClassId) (a b f l m : Nat) : sr_ceq (sr_exL cA a (sr_off 10 0)) (sr_cell sr_SJ cA (sr_adL a b f l m) sr_mu0 10 0) := fun _ _ _ _ h => h
theorem cz_11_0 (cA : Nat → ClassId) (a b f l m : Nat) : sr_ceq (sr_exL cA a (sr_off 11 0)) (sr_cell sr_SJ cA (sr_adL a b f l m) sr_mu0 11 0) := fun _ _ _ _ h => h
theorem cz_12_0 (cA : Nat → ClassId) (a b f l m : Nat) : sr_ceq (sr_exL cA a (sr_off 12 0)) (sr_cell sr_SJ cA (sr_adL a b f l m) sr_mu0 12 0) := fun _ _ _ _ h => h
theorem cz_13_0 (cA : Nat → ClassId) (a b f l m : Nat) : sr_ceq (sr_exL cA a (sr_off 13 0)) (sr_cell sr_SJ cA (sr_adL a b f l m) sr_mu0 13 0) := fun _ _ _ _ h => h
theorem cz_13_1 (cA : Nat → ClassId) (a b f l m : Nat) : sr_ceq (sr_exL cA a (sr_off 13 1)) (sr_cell sr_SJ cA (sr_adL a b f l m) sr_mu0 13 1) := fun _ _ _ _ h => h
theorem cz_13_2 (cA : Nat → ClassId) (a b f l m : Nat) : sr_ceq (sr_exL cA a (sr_off 13 2)) (sr_cell sr_SJ cA (sr_adL a b f l m) sr_mu0 13 2) := fun _ _ _ _ h => h
theorem cz_13_3 (cA : Nat → ClassId) (a b f l m : Nat) : sr_ceq (sr_exL cA a (sr_off 13 3)) (sr_cell sr_SJ cA (sr_adL a b f l m) sr_mu0 13 3) := fun _ _ _ _ h => h
theorem cz_13_4 (cA : Nat → ClassId) (a b f l m : Nat) : sr_ceq (sr_exL cA a (sr_off 13 4)) (sr_cell sr_SJ cA (sr_adL a b f l m) sr_mu0 13 4) := fun _ _ _ _ h => h
theorem cz_13_5 (cA : Nat → ClassId) (a b f l m : Nat) : sr_ceq (sr_exL cA a (sr_off 13 5)) (sr_cell sr_SJ cA (sr_adL a b f l m) sr_mu0 13 5) := fun _ _ _ _ h => h
theorem cz_13_6 (cA : Nat → ClassId) (a b f l m : Nat) : sr_ceq (sr_exL cA a (sr_off 13 6)) (sr_cell sr_SJ cA (sr_adL a b f l m) sr_mu0 13 6) := fun _ _ _ _ h => h
theorem cz_13_7 (cA : Nat → ClassId) (a b f l m : Nat) : sr_ceq (sr_exL cA a (sr_off 13 7)) (sr_cell sr_SJ cA (sr_adL a b f l m) sr_mu0 13 7) := fun _ _ _ _ h => h
theorem cz_13_8 (cA : Nat → ClassId) (a b f l m : Nat) : sr_ceq (sr_exL cA a (sr_off 13 8)) (sr_cell sr_SJ cA (sr_adL a b f l m) sr_mu0 13 8) := fun _ _ _ _ h => h
theorem cz_13_9 (cA : Nat → ClassId) (a b f l m : Nat) : sr_ceq (sr_exL cA a (sr_off 13 9)) (sr_cell sr_SJ cA (sr_adL a b f l m) sr_mu0 13 9) := fun _ _ _ _ h => h
theorem cz_13_10 (cA : Nat → ClassId) (a b f l m : Nat) : sr_ceq (sr_exL cA a (sr_off 13 10)) (sr_cell sr_SJ cA (sr_adL a b f l m) sr_mu0 13 10) := fun _ _ _ _ h => h
theorem cz_13_11 (cA : Nat → ClassId) (a b f l m : Nat) : sr_ceq (sr_exL cA a (sr_off 13 11)) (sr_cell sr_SJ cA (sr_adL a b f l m) sr_mu0 13 11) := fun _ _ _ _ h => h
theorem cz_13_12 (cA : Nat → ClassId) (a b f l m : Nat) : sr_ceq (sr_exL cA a (sr_off 13 12)) (sr_cell sr_SJ cA (sr_adL a b f l m) sr_mu0 13 12) := fun _ _ _ _ h => h
theorem cz_13_13 (cA : Nat → ClassId) (a b f l m : Nat) : sr_ceq (sr_exL cA a (sr_off 13 13)) (sr_cell sr_SJ cA (sr_adL a b f l m) sr_mu0 13 13) := fun _ _ _ _ h => h
theorem cz_13_14 (cA : Nat → ClassId) (a b f l m : Nat) : sr_ceq (sr_exL cA a (sr_off 13 14)) (sr_cell sr_SJ cA (sr_adL a b f l m) sr_mu0 13 14) := fun _ _ _ _ h => h
theorem cz_13_15 (cA : Nat → ClassId) (a b f l m : Nat) : sr_ceq (sr_exL cA a (sr_off 13 15)) (sr_cell sr_SJ cA (sr_adL a b f l m) sr_mu0 13 15) := fun _ _ _ _ h => h
theorem cz_14_0 (cA : Nat → ClassId) (a b f l m : Nat) : sr_ceq (sr_exL cA a (sr_off 14 0)) (sr_cell sr_SJ cA (sr_adL a b f l m) sr_mu0 14 0) := sr_ceq_q (cA := cA 6) (n := 16) (g := fun j => some (sr_adL a b f l m 13 j)) (fun j hj => by
  refine (if_pos hj).trans (congrArg some ?_)
  show _ = a + (_ + _)
  omega)
theorem cz_15_0 (cA : Nat → ClassId) (a b f l m : Nat) : sr_ceq (sr_exL cA a (sr_off 15 0)) (sr_cell sr_SJ cA (sr_adL a b f l m) sr_mu0 15 0) := fun _ _ _ _ h => h
theorem cz_16_0 (cA : Nat → ClassId) (a b f l m : Nat) : sr_ceq (sr_exL cA a (sr_off 16 0)) (sr_cell sr_SJ cA (sr_adL a b f l m) sr_mu0 16 0) := fun _ _ _ _ h => h
theorem cz_17_0 (cA : Nat → ClassId) (a b f l m : Nat) : sr_ceq (sr_exL cA a (sr_off 17 0)) (sr_cell sr_SJ cA (sr_adL a b f l m) sr_mu0 17 0) := fun _ _ _ _ h => h
theorem cz_18_0 (cA : Nat → ClassId) (a b f l m : Nat) : sr_ceq (sr_exL cA a (sr_off 18 0)) (sr_cell sr_SJ cA (sr_adL a b f l m) sr_mu0 18 0) := fun _ _ _ _ h => h
theorem cz_18_1 (cA : Nat → ClassId) (a b f l m : Nat) : sr_ceq (sr_exL cA a (sr_off 18 1)) (sr_cell sr_SJ cA (sr_adL a b f l m) sr_mu0 18 1) := fun _ _ _ _ h => h
theorem cz_19_0 (cA : Nat → ClassId) (a b f l m : Nat) : sr_ceq (sr_exL cA a (sr_off 19 0)) (sr_cell sr_SJ cA (sr_adL a b f l m) sr_mu0 19 0) := fun _ _ _ _ h => h
theorem cz_19_1 (cA : Nat → ClassId) (a b f l m : Nat) : sr_ceq (sr_exL cA a (sr_off 19 1)) (sr_cell sr_SJ cA (sr_adL a b f l m) sr_mu0 19 1) := fun _ _ _ _ h => h
set_option maxRecDepth 20000 in
theorem cz_C (cA : Nat → ClassId) (a b f l m : Nat) : ∀ x ∈ sr_csC, sr_ceq (sr_exL cA a (sr_off x.1 x.2)) (sr_cell sr_SJ cA (sr_adL a b f l m) sr_mu0 x.1 x.2) := (List.forall_mem_cons.mpr ⟨cz_0_0 cA a b f l m, (List.forall_mem_cons.mpr ⟨cz_1_0 cA a b f l m, (List.forall_mem_cons.mpr ⟨cz_2_0 cA a b f l m, (List.forall_mem_cons.mpr ⟨cz_3_0 cA a b f l m, (List.forall_mem_cons.mpr ⟨cz_3_1 cA a b f l m, (List.forall_mem_cons.mpr ⟨cz_3_2 cA a b f l m, (List.forall_mem_cons.mpr ⟨cz_3_3 cA a b f l m, (List.forall_mem_cons.mpr ⟨cz_3_4 cA a b f l m, (List.forall_mem_cons.mpr ⟨cz_3_5 cA a b f l m, (List.forall_mem_cons.mpr ⟨cz_3_6 cA a b f l m, (List.forall_mem_cons.mpr ⟨cz_3_7 cA a b f l m, (List.forall_mem_cons.mpr ⟨cz_3_8 cA a b f l m, (List.forall_mem_cons.mpr ⟨cz_3_9 cA a b f l m, (List.forall_mem_cons.mpr ⟨cz_3_10 cA a b f l m, (List.forall_mem_cons.mpr ⟨cz_3_11 cA a b f l m, (List.forall_mem_cons.mpr ⟨cz_3_12 cA a b f l m, (List.forall_mem_cons.mpr ⟨cz_3_13 cA a b f l m, (List.forall_mem_cons.mpr ⟨cz_3_14 cA a b f l m, (List.forall_mem_cons.mpr ⟨cz_3_15 cA a b f l m, (List.forall_mem_cons.mpr ⟨cz_4_0 cA a b f l m, (List.forall_mem_cons.mpr ⟨cz_4_1 cA a b f l m, (List.forall_mem_cons.mpr ⟨cz_4_2 cA a b f l m, (List.forall_mem_cons.mpr ⟨cz_4_3 cA a b f l m, (List.forall_mem_cons.mpr ⟨cz_4_4 cA a b f l m, (List.forall_mem_cons.mpr ⟨cz_4_5 cA a b f l m, (List.forall_mem_cons.mpr ⟨cz_4_6 cA a b f l m, (List.forall_mem_cons.mpr ⟨cz_4_7 cA a b f l m, (List.forall_mem_cons.mpr ⟨cz_4_8 cA a b f l m, (List.forall_mem_cons.mpr ⟨cz_4_9 cA a b f l m, (List.forall_mem_cons.mpr ⟨cz_4_10 cA a b f l m, (List.forall_mem_cons.mpr ⟨cz_4_11 cA a b f l m, (List.forall_mem_cons.mpr ⟨cz_4_12 cA a b f l m, (List.forall_mem_cons.mpr ⟨cz_4_13 cA a b f l m, (List.forall_mem_cons.mpr ⟨cz_4_14 cA a b f l m, (List.forall_mem_cons.mpr ⟨cz_4_15 cA a b f l m, (List.forall_mem_cons.mpr ⟨cz_5_0 cA a b f l m, (List.forall_mem_cons.mpr ⟨cz_6_0 cA a b f l m, (List.forall_mem_cons.mpr ⟨cz_6_1 cA a b f l m, (List.forall_mem_cons.mpr ⟨cz_6_2 cA a b f l m, (List.forall_mem_cons.mpr ⟨cz_6_3 cA a b f l m, (List.forall_mem_cons.mpr ⟨cz_6_4 cA a b f l m, (List.forall_mem_cons.mpr ⟨cz_6_5 cA a b f l m, (List.forall_mem_cons.mpr ⟨cz_6_6 cA a b f l m, (List.forall_mem_cons.mpr ⟨cz_6_7 cA a b f l m, (List.forall_mem_cons.mpr ⟨cz_7_0 cA a b f l m, (List.forall_mem_cons.mpr ⟨cz_8_0 cA a b f l m, (List.forall_mem_cons.mpr ⟨cz_9_0 cA a b f l m, (List.forall_mem_cons.mpr ⟨cz_10_0 cA a b f l m, (List.forall_mem_cons.mpr ⟨cz_11_0 cA a b f l m, (List.forall_mem_cons.mpr ⟨cz_12_0 cA a b f l m, (List.forall_mem_cons.mpr ⟨cz_13_0 cA a b f l m, (List.forall_mem_cons.mpr ⟨cz_13_1 cA a b f l m, (List.forall_mem_cons.mpr ⟨cz_13_2 cA a b f l m, (List.forall_mem_cons.mpr ⟨cz_13_3 cA a b f l m, (List.forall_mem_cons.mpr ⟨cz_13_4 cA a b f l m, (List.forall_mem_cons.mpr ⟨cz_13_5 cA a b f l m, (List.forall_mem_cons.mpr ⟨cz_13_6 cA a b f l m, (List.forall_mem_cons.mpr ⟨cz_13_7 cA a b f l m, (List.forall_mem_cons.mpr ⟨cz_13_8 cA a b f l m, (List.forall_mem_cons.mpr ⟨cz_13_9 cA a b f l m, (List.forall_mem_cons.mpr ⟨cz_13_10 cA a b f l m, (List.forall_mem_cons.mpr ⟨cz_13_11 cA a b f l m, (List.forall_mem_cons.mpr ⟨cz_13_12 cA a b f l m, (List.forall_mem_cons.mpr ⟨cz_13_13 cA a b f l m, (List.forall_mem_cons.mpr ⟨cz_13_14 cA a b f l m, (List.forall_mem_cons.mpr ⟨cz_13_15 cA a b f l m, (List.forall_mem_cons.mpr ⟨cz_14_0 cA a b f l m, (List.forall_mem_cons.mpr ⟨cz_15_0 cA a b f l m, (List.forall_mem_cons.mpr ⟨cz_16_0 cA a b f l m, (List.forall_mem_cons.mpr ⟨cz_17_0 cA a b f l m, (List.forall_mem_cons.mpr ⟨cz_18_0 cA a b f l m, (List.forall_mem_cons.mpr ⟨cz_18_1 cA a b f l m, (List.forall_mem_cons.mpr ⟨cz_19_0 cA a b f l m, (List.forall_mem_cons.mpr ⟨cz_19_1 cA a b f l m, (fun _ h => absurd h List.not_mem_nil)⟩)⟩)⟩)⟩)⟩)⟩)⟩)⟩)⟩)⟩)⟩)⟩)⟩)⟩)⟩)⟩)⟩)⟩)⟩)⟩)⟩)⟩)⟩)⟩)⟩)⟩)⟩)⟩)⟩)⟩)⟩)⟩)⟩)⟩)⟩)⟩)⟩)⟩)⟩)⟩)⟩)⟩)⟩)⟩)⟩)⟩)⟩)⟩)⟩)⟩)⟩)⟩)⟩)⟩)⟩)⟩)⟩)⟩)⟩)⟩)⟩)⟩)⟩)⟩)⟩)⟩)⟩)⟩)⟩)⟩)⟩)⟩)⟩)⟩)
theorem cz_20_0 (cA : Nat → ClassId) (a b f l m : Nat) : sr_ceq (sr_exL cA a (sr_off 20 0)) (sr_cell sr_SJ cA (sr_adL a b f l m) sr_mu0 20 0) := fun _ _ _ _ h => h
theorem cz_21_0 (cA : Nat → ClassId) (a b f l m : Nat) : sr_ceq (sr_exL cA a (sr_off 21 0)) (sr_cell sr_SJ cA (sr_adL a b f l m) sr_mu0 21 0) := fun _ _ _ _ h => h
theorem cz_22_0 (cA : Nat → ClassId) (a b f l m : Nat) : sr_ceq (sr_exL cA a (sr_off 22 0)) (sr_cell sr_SJ cA (sr_adL a b f l m) sr_mu0 22 0) := fun _ _ _ _ h => h
theorem cz_23_0 (cA : Nat → ClassId) (a b f l m : Nat) : sr_ceq (sr_exL cA a (sr_off 23 0)) (sr_cell sr_SJ cA (sr_adL a b f l m) sr_mu0 23 0) := fun _ _ _ _ h => h
theorem cz_24_0 (cA : Nat → ClassId) (a b f l m : Nat) : sr_ceq (sr_exL cA a (sr_off 24 0)) (sr_cell sr_SJ cA (sr_adL a b f l m) sr_mu0 24 0) := fun _ _ _ _ h => h
theorem cz_25_0 (cA : Nat → ClassId) (a b f l m : Nat) : sr_ceq (sr_exL cA a (sr_off 25 0)) (sr_cell sr_SJ cA (sr_adL a b f l m) sr_mu0 25 0) := fun _ _ _ _ h => h
theorem cz_26_0 (cA : Nat → ClassId) (a b f l m : Nat) : sr_ceq (sr_exL cA a (sr_off 26 0)) (sr_cell sr_SJ cA (sr_adL a b f l m) sr_mu0 26 0) := fun _ _ _ _ h => h
theorem cz_27_0 (cA : Nat → ClassId) (a b f l m : Nat) : sr_ceq (sr_exL cA a (sr_off 27 0)) (sr_cell sr_SJ cA (sr_adL a b f l m) sr_mu0 27 0) := fun _ _ _ _ h => h
theorem cz_28_0 (cA : Nat → ClassId) (a b f l m : Nat) : sr_ceq (sr_exL cA a (sr_off 28 0)) (sr_cell sr_SJ cA (sr_adL a b f l m) sr_mu0 28 0) := fun _ _ _ _ h => h
theorem cz_29_0 (cA : Nat → ClassId) (a b f l m : Nat) : sr_ceq (sr_exL cA a (sr_off 29 0)) (sr_cell sr_SJ cA (sr_adL a b f l m) sr_mu0 29 0) := fun _ _ _ _ h => h
theorem cz_30_0 (cA : Nat → ClassId) (a b f l m : Nat) : sr_ceq (sr_exL cA a (sr_off 30 0)) (sr_cell sr_SJ cA (sr_adL a b f l m) sr_mu0 30 0) := fun _ _ _ _ h => h
theorem cz_31_0 (cA : Nat → ClassId) (a b f l m : Nat) : sr_ceq (sr_exL cA a (sr_off 31 0)) (sr_cell sr_SJ cA (sr_adL a b f l m) sr_mu0 31 0) := fun _ _ _ _ h => h
theorem cz_32_0 (cA : Nat → ClassId) (a b f l m : Nat) : sr_ceq (sr_exL cA a (sr_off 32 0)) (sr_cell sr_SJ cA (sr_adL a b f l m) sr_mu0 32 0) := fun _ _ _ _ h => h
theorem cz_33_0 (cA : Nat → ClassId) (a b f l m : Nat) : sr_ceq (sr_exL cA a (sr_off 33 0)) (sr_cell sr_SJ cA (sr_adL a b f l m) sr_mu0 33 0) := fun _ _ _ _ h => h
theorem cz_34_0 (cA : Nat → ClassId) (a b f l m : Nat) : sr_ceq (sr_exL cA a (sr_off 34 0)) (sr_cell sr_SJ cA (sr_adL a b f l m) sr_mu0 34 0) := fun _ _ _ _ h => h
theorem cz_35_0 (cA : Nat → ClassId) (a b f l m : Nat) : sr_ceq (sr_exL cA a (sr_off 35 0)) (sr_cell sr_SJ cA (sr_adL a b f l m) sr_mu0 35 0) := fun _ _ _ _ h => h
theorem cz_36_0 (cA : Nat → ClassId) (a b f l m : Nat) : sr_ceq (sr_exL cA a (sr_off 36 0)) (sr_cell sr_SJ cA (sr_adL a b f l m) sr_mu0 36 0) := fun _ _ _ _ h => h
theorem cz_37_0 (cA : Nat → ClassId) (a b f l m : Nat) : sr_ceq (sr_exL cA a (sr_off 37 0)) (sr_cell sr_SJ cA (sr_adL a b f l m) sr_mu0 37 0) := fun _ _ _ _ h => h
theorem cz_38_0 (cA : Nat → ClassId) (a b f l m : Nat) : sr_ceq (sr_exL cA a (sr_off 38 0)) (sr_cell sr_SJ cA (sr_adL a b f l m) sr_mu0 38 0) := fun _ _ _ _ h => h
theorem cz_39_0 (cA : Nat → ClassId) (a b f l m : Nat) : sr_ceq (sr_exL cA a (sr_off 39 0)) (sr_cell sr_SJ cA (sr_adL a b f l m) sr_mu0 39 0) := fun _ _ _ _ h => h
theorem cz_40_0 (cA : Nat → ClassId) (a b f l m : Nat) : sr_ceq (sr_exL cA a (sr_off 40 0)) (sr_cell sr_SJ cA (sr_adL a b f l m) sr_mu0 40 0) := fun _ _ _ _ h => h
theorem cz_41_0 (cA : Nat → ClassId) (a b f l m : Nat) : sr_ceq (sr_exL cA a (sr_off 41 0)) (sr_cell sr_SJ cA (sr_adL a b f l m) sr_mu0 41 0) := fun _ _ _ _ h => h
theorem cz_42_0 (cA : Nat → ClassId) (a b f l m : Nat) : sr_ceq (sr_exL cA a (sr_off 42 0)) (sr_cell sr_SJ cA (sr_adL a b f l m) sr_mu0 42 0) := fun _ _ _ _ h => h
theorem cz_43_0 (cA : Nat → ClassId) (a b f l m : Nat) : sr_ceq (sr_exL cA a (sr_off 43 0)) (sr_cell sr_SJ cA (sr_adL a b f l m) sr_mu0 43 0) := fun _ _ _ _ h => h
set_option maxRecDepth 20000 in
theorem cz_M (cA : Nat → ClassId) (a b f l m : Nat) : ∀ x ∈ sr_csM, sr_ceq (sr_exL cA a (sr_off x.1 x.2)) (sr_cell sr_SJ cA (sr_adL a b f l m) sr_mu0 x.1 x.2) := (List.forall_mem_cons.mpr ⟨cz_20_0 cA a b f l m, (List.forall_mem_cons.mpr ⟨cz_21_0 cA a b f l m, (List.forall_mem_cons.mpr ⟨cz_22_0 cA a b f l m, (List.forall_mem_cons.mpr ⟨cz_23_0 cA a b f l m, (List.forall_mem_cons.mpr ⟨cz_24_0 cA a b f l m, (List.forall_mem_cons.mpr ⟨cz_25_0 cA a b f l m, (List.forall_mem_cons.mpr ⟨cz_26_0 cA a b f l m, (List.forall_mem_cons.mpr ⟨cz_27_0 cA a b f l m, (List.forall_mem_cons.mpr ⟨cz_28_0 cA a b f l m, (List.forall_mem_cons.mpr ⟨cz_29_0 cA a b f l m, (List.forall_mem_cons.mpr ⟨cz_30_0 cA a b f l m, (List.forall_mem_cons.mpr ⟨cz_31_0 cA a b f l m, (List.forall_mem_cons.mpr ⟨cz_32_0 cA a b f l m, (List.forall_mem_cons.mpr ⟨cz_33_0 cA a b f l m, (List.forall_mem_cons.mpr ⟨cz_34_0 cA a b f l m, (List.forall_mem_cons.mpr ⟨cz_35_0 cA a b f l m, (List.forall_mem_cons.mpr ⟨cz_36_0 cA a b f l m, (List.forall_mem_cons.mpr ⟨cz_37_0 cA a b f l m, (List.forall_mem_cons.mpr ⟨cz_38_0 cA a b f l m, (List.forall_mem_cons.mpr ⟨cz_39_0 cA a b f l m, (List.forall_mem_cons.mpr ⟨cz_40_0 cA a b f l m, (List.forall_mem_cons.mpr ⟨cz_41_0 cA a b f l m, (List.forall_mem_cons.mpr ⟨cz_42_0 cA a b f l m, (List.forall_mem_cons.mpr ⟨cz_43_0 cA a b f l m, (fun _ h => absurd h List.not_mem_nil)⟩)⟩)⟩)⟩)⟩)⟩)⟩)⟩)⟩)⟩)⟩)⟩)⟩)⟩)⟩)⟩)⟩)⟩)⟩)⟩)⟩)⟩)⟩)⟩)
theorem cz_J (cA : Nat → ClassId) (a b f l m : Nat) : ∀ x ∈ sr_csJ, sr_ceq (sr_exL cA a (sr_off x.1 x.2)) (sr_cell sr_SJ cA (sr_adL a b f l m) sr_mu0 x.1 x.2) := List.forall_mem_append.mpr ⟨cz_C cA a b f l m, cz_M cA a b f l m⟩
theorem sr_csJ_lt : ∀ x ∈ sr_csJ, x.1 < 44 ∧ sr_off x.1 x.2 < 98 := by decide +kernel
theorem sr_off_nd : (sr_csJ.map (fun x => sr_off x.1 x.2)).Nodup := by decide +kernel
theorem sr_start_P {D : va_G} {cA : Nat → ClassId} {a b f l m : Nat} {H : Heap} (h : va_P D sr_cl (sr_bk a 98 (sr_exL cA a)) H) : va_P D sr_cl (sr_wd sr_SJ cA sr_csJ (sr_adL a b f l m) sr_mu0) H := by
  intro k q hk
  unfold sr_wd at hk
  rw [List.getElem?_map] at hk
  cases hc : sr_csJ[k]? with
  | none => rw [hc] at hk; cases hk
  | some x =>
    rw [hc] at hk
    cases hk
    have hx := List.mem_of_getElem? hc
    have h1 := sr_bk_Q h (sr_off x.1 x.2) (sr_csJ_lt x hx).2
    dsimp only
    rw [show sr_adL a b f l m x.1 x.2 = a + sr_off x.1 x.2 from if_pos (sr_csJ_lt x hx).1]
    exact cz_J cA a b f l m x hx D sr_cl _ H h1
theorem sr_start_D {cA : Nat → ClassId} {a b f l m : Nat} (μ : sr_M) : va_D (fun q => a ≤ q) (sr_wd sr_SJ cA sr_csJ (sr_adL a b f l m) μ) := by
  have key : ∀ (k : Nat) (q : Nat × va_E), (sr_wd sr_SJ cA sr_csJ (sr_adL a b f l m) μ)[k]? = some q → ∃ x, sr_csJ[k]? = some x ∧ q.1 = a + sr_off x.1 x.2 := by
    intro k q hk
    unfold sr_wd at hk
    rw [List.getElem?_map] at hk
    cases hc : sr_csJ[k]? with
    | none => rw [hc] at hk; cases hk
    | some x =>
      rw [hc] at hk
      cases hk
      exact ⟨x, rfl, if_pos (sr_csJ_lt x (List.mem_of_getElem? hc)).1⟩
  refine ⟨fun i j x y hi hj hxy => ?_, fun k q hk => ?_⟩
  · obtain ⟨x1, h1, h2⟩ := key i x hi
    obtain ⟨y1, h3, h4⟩ := key j y hj
    have e : sr_off x1.1 x1.2 = sr_off y1.1 y1.2 := by omega
    have g1 : (sr_csJ.map (fun x => sr_off x.1 x.2))[i]? = some (sr_off x1.1 x1.2) := by rw [List.getElem?_map, h1]; rfl
    have g2 : (sr_csJ.map (fun x => sr_off x.1 x.2))[j]? = some (sr_off y1.1 y1.2) := by rw [List.getElem?_map, h3]; rfl
    rw [← e] at g2
    exact (List.getElem?_inj (List.getElem?_eq_some_iff.mp g1).1 sr_off_nd).mp (g1.trans g2.symm)
  · obtain ⟨x1, h1, h2⟩ := key k q hk
    rw [h2]
    exact Nat.le_add_right _ _
