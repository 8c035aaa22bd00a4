/-! the code of the methods, and that it is theirs -/
def sr_cd (l : List (List (Option (Jvm.ClassFile.Instr × Nat)))) (pc : Nat) : Option (Jvm.ClassFile.Instr × Nat) := match l[pc / 16]? with
  | some r => match r[pc % 16]? with
    | some x => x
    | none => none
  | none => none
def sr_chk (bytes : ByteArray) (l : List (List (Option (Jvm.ClassFile.Instr × Nat)))) (pc : Nat) : Bool := match sr_cd l pc with
  | none => true
  | some x => decide (decode bytes pc = .ok (x.1, x.2)) && decide (x.2 = sr_il x.1 x.2) && sr_tok pc x.1
theorem sr_cd_ok {bytes : ByteArray} {l : List (List (Option (Jvm.ClassFile.Instr × Nat)))} (h : ∀ pc, pc < 16 * l.length → sr_chk bytes l pc = true) : ∀ pc ins n, sr_cd l pc = some (ins, n) → decode bytes pc = .ok (ins, n) ∧ n = sr_il ins n ∧ sr_tok pc ins = true := by
  intro pc ins n hc
  have hl : pc < 16 * l.length := by
    unfold sr_cd at hc
    split at hc
    · rename_i r hr
      have := (List.getElem?_eq_some_iff.mp hr).1
      omega
    · cases hc
  have h1 := h pc hl
  unfold sr_chk at h1
  rw [hc] at h1
  simp only [Bool.and_eq_true, decide_eq_true_eq] at h1
  exact ⟨h1.1.1, h1.1.2, h1.2⟩
