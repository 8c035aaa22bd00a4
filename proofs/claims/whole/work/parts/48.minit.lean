/-! The reference's constructor. -/
def b_MO (cA : Nat → ClassId) (a : Nat) : Nat → va_E := fun j => match j with
  | 0 => .inr (10, [.int 0, .ref (a + 1), .ref (a + 2), .ref (a + 3), .ref (a + 4), .ref (a + 5), .ref (a + 6), .int 0, .ref (a + 7), .ref (a + 8), .ref (a + 9), .ref (a + 10), .ref (a + 11), .ref (a + 12), .int (15), .int 0, .int 0, .int 0, .int (1), .int 0, .int (1), .int 0, .int 0, .int 0, .int 0, .int 0, .ref (a + 13), .ref (a + 14), .ref (a + 15), .ref (a + 16), .ref (a + 17), .ref (a + 18), .ref (a + 19), .int 0, .int 0, .ref (a + 20), .ref (a + 21), .ref (a + 22), .int 0, .ref (a + 23)])
  | 1 => .inl (cA 0, 16, .inl (fun _ => 0))
  | 2 => .inl (cA 2, 16, .inr (.inl (fun _ => 0)))
  | 3 => .inl (cA 0, 144, .inl (fun _ => 0))
  | 4 => .inl (cA 0, 16, .inl (fun _ => 0))
  | 5 => .inl (cA 0, 16, .inl (fun _ => 0))
  | 6 => .inl (cA 0, 4, .inl (upd (upd (upd (upd (fun _ => 0) (0 : Int32).toNatClampNeg (1)) (1 : Int32).toNatClampNeg (1)) (2 : Int32).toNatClampNeg (1)) (3 : Int32).toNatClampNeg (1)))
  | 7 => .inl (cA 0, 8, .inl (fun _ => 0))
  | 8 => .inl (cA 1, 8, .inl (fun _ => 0))
  | 9 => .inl (cA 0, 8, .inl (fun _ => 0))
  | 10 => .inl (cA 0, 8, .inl (fun _ => 0))
  | 11 => .inl (cA 0, 24, .inl (fun _ => 0))
  | 12 => .inl (cA 0, 2, .inl (fun _ => 0))
  | 13 => .inl (cA 0, 16, .inl (fun _ => 0))
  | 14 => .inl (cA 0, 64, .inl (fun _ => 0))
  | 15 => .inl (cA 0, 16, .inl (fun _ => 0))
  | 16 => .inl (cA 0, 16, .inl (fun _ => 0))
  | 17 => .inl (cA 0, 16, .inl (fun _ => 0))
  | 18 => .inl (cA 0, 8, .inl (fun _ => 0))
  | 19 => .inl (cA 1, 8, .inl (fun _ => 0))
  | 20 => .inl (cA 0, 3, .inl (upd (upd (upd (fun _ => 0) (0 : Int32).toNatClampNeg (-1)) (1 : Int32).toNatClampNeg (-1)) (2 : Int32).toNatClampNeg (-1)))
  | 21 => .inl (cA 0, 3, .inl (fun _ => 0))
  | 22 => .inl (cA 0, 3, .inl (fun _ => 0))
  | _ => .inl (cA 0, 64, .inl (fun _ => 0))
def el_MO (cA : Nat → ClassId) (a k : Nat) : Nat → va_E := fun z => if z = 15 then .inl (cA 0, 16, .inl (fun i => if i < k then -1 else 0)) else if z = 16 then .inl (cA 0, 16, .inl (fun i => if i < k then -1 else 0)) else b_MO cA a z
theorem sr_m1 (k : Nat) (hk : k < 2 ^ 31) : upd (fun i => if i < k then (-1 : Int32) else 0) (nI k).toNatClampNeg (-1) = fun i => if i < k + 1 then (-1 : Int32) else 0 := by
  funext i
  rw [nI_clamp hk]
  unfold upd
  by_cases h2 : i = k
  · subst h2
    rw [if_pos rfl, if_pos (Nat.lt_succ_self i)]
  · rw [if_neg h2]
    dsimp only
    by_cases h3 : i < k
    · rw [if_pos h3, if_pos (Nat.lt_succ_of_lt h3)]
    · rw [if_neg h3, if_neg (by omega)]
theorem sr_m0 : (fun _ => (0 : Int32)) = (fun i : Nat => if i < 0 then (-1 : Int32) else 0) := funext (fun i => (if_neg (Nat.not_lt_zero i)).symm)
theorem el1_MO (cA : Nat → ClassId) (a k z : Nat) (hk : k < 2 ^ 31) : sr_ue (sr_ue (el_MO cA a k) 15 (.inl (cA 0, 16, .inl (upd (fun i => if i < k then -1 else 0) (nI k).toNatClampNeg (-1))))) 16 (.inl (cA 0, 16, .inl (upd (fun i => if i < k then -1 else 0) (nI k).toNatClampNeg (-1)))) z = el_MO cA a (k + 1) z := by
  rw [sr_m1 k hk]
  unfold sr_ue el_MO
  by_cases h1 : z = 15
  · subst h1
    rfl
  · by_cases h2 : z = 16
    · subst h2
      rfl
    · rw [if_neg h2, if_neg h1, if_neg h1, if_neg h2, if_neg h1, if_neg h2]
theorem el0_MO (cA : Nat → ClassId) (a z : Nat) : b_MO cA a z = el_MO cA a 0 z := by
  unfold el_MO
  rw [← sr_m0]
  by_cases h1 : z = 15
  · subst h1
    rfl
  · by_cases h2 : z = 16
    · subst h2
      rfl
    · rw [if_neg h1, if_neg h2]
def ex_MO (cA : Nat → ClassId) (a : Nat) : Nat → va_E := el_MO cA a 16
theorem dk_MO_0 : decode prog_12_method_1_code 0 = .ok (.aload_n 0, 1) := by decide +kernel
theorem dk_MO_1 : decode prog_12_method_1_code 1 = .ok (.invokespecial 1, 3) := by decide +kernel
theorem dk_MO_4 : decode prog_12_method_1_code 4 = .ok (.aload_n 0, 1) := by decide +kernel
theorem dk_MO_5 : decode prog_12_method_1_code 5 = .ok (.bipush 16, 2) := by decide +kernel
theorem dk_MO_7 : decode prog_12_method_1_code 7 = .ok (.newarray .int, 2) := by decide +kernel
theorem dk_MO_9 : decode prog_12_method_1_code 9 = .ok (.putfield 7, 3) := by decide +kernel
theorem dk_MO_12 : decode prog_12_method_1_code 12 = .ok (.aload_n 0, 1) := by decide +kernel
theorem dk_MO_13 : decode prog_12_method_1_code 13 = .ok (.bipush 16, 2) := by decide +kernel
theorem dk_MO_15 : decode prog_12_method_1_code 15 = .ok (.newarray .long, 2) := by decide +kernel
theorem dk_MO_17 : decode prog_12_method_1_code 17 = .ok (.putfield 13, 3) := by decide +kernel
theorem dk_MO_20 : decode prog_12_method_1_code 20 = .ok (.aload_n 0, 1) := by decide +kernel
theorem dk_MO_21 : decode prog_12_method_1_code 21 = .ok (.sipush 144, 3) := by decide +kernel
theorem dk_MO_24 : decode prog_12_method_1_code 24 = .ok (.newarray .int, 2) := by decide +kernel
theorem dk_MO_26 : decode prog_12_method_1_code 26 = .ok (.putfield 17, 3) := by decide +kernel
theorem dk_MO_29 : decode prog_12_method_1_code 29 = .ok (.aload_n 0, 1) := by decide +kernel
theorem dk_MO_30 : decode prog_12_method_1_code 30 = .ok (.bipush 16, 2) := by decide +kernel
theorem dk_MO_32 : decode prog_12_method_1_code 32 = .ok (.newarray .int, 2) := by decide +kernel
theorem dk_MO_34 : decode prog_12_method_1_code 34 = .ok (.putfield 20, 3) := by decide +kernel
theorem dk_MO_37 : decode prog_12_method_1_code 37 = .ok (.aload_n 0, 1) := by decide +kernel
theorem dk_MO_38 : decode prog_12_method_1_code 38 = .ok (.bipush 16, 2) := by decide +kernel
theorem dk_MO_40 : decode prog_12_method_1_code 40 = .ok (.newarray .int, 2) := by decide +kernel
theorem dk_MO_42 : decode prog_12_method_1_code 42 = .ok (.putfield 23, 3) := by decide +kernel
theorem dk_MO_45 : decode prog_12_method_1_code 45 = .ok (.aload_n 0, 1) := by decide +kernel
theorem dk_MO_46 : decode prog_12_method_1_code 46 = .ok (.iconst 4, 1) := by decide +kernel
theorem dk_MO_47 : decode prog_12_method_1_code 47 = .ok (.newarray .int, 2) := by decide +kernel
theorem dk_MO_49 : decode prog_12_method_1_code 49 = .ok (.dup, 1) := by decide +kernel
theorem dk_MO_50 : decode prog_12_method_1_code 50 = .ok (.iconst 0, 1) := by decide +kernel
theorem dk_MO_51 : decode prog_12_method_1_code 51 = .ok (.iconst 1, 1) := by decide +kernel
theorem dk_MO_52 : decode prog_12_method_1_code 52 = .ok (.iastore, 1) := by decide +kernel
theorem dk_MO_53 : decode prog_12_method_1_code 53 = .ok (.dup, 1) := by decide +kernel
theorem dk_MO_54 : decode prog_12_method_1_code 54 = .ok (.iconst 1, 1) := by decide +kernel
theorem dk_MO_55 : decode prog_12_method_1_code 55 = .ok (.iconst 1, 1) := by decide +kernel
theorem dk_MO_56 : decode prog_12_method_1_code 56 = .ok (.iastore, 1) := by decide +kernel
theorem dk_MO_57 : decode prog_12_method_1_code 57 = .ok (.dup, 1) := by decide +kernel
theorem dk_MO_58 : decode prog_12_method_1_code 58 = .ok (.iconst 2, 1) := by decide +kernel
theorem dk_MO_59 : decode prog_12_method_1_code 59 = .ok (.iconst 1, 1) := by decide +kernel
theorem dk_MO_60 : decode prog_12_method_1_code 60 = .ok (.iastore, 1) := by decide +kernel
theorem dk_MO_61 : decode prog_12_method_1_code 61 = .ok (.dup, 1) := by decide +kernel
theorem dk_MO_62 : decode prog_12_method_1_code 62 = .ok (.iconst 3, 1) := by decide +kernel
theorem dk_MO_63 : decode prog_12_method_1_code 63 = .ok (.iconst 1, 1) := by decide +kernel
theorem dk_MO_64 : decode prog_12_method_1_code 64 = .ok (.iastore, 1) := by decide +kernel
theorem dk_MO_65 : decode prog_12_method_1_code 65 = .ok (.putfield 26, 3) := by decide +kernel
theorem dk_MO_68 : decode prog_12_method_1_code 68 = .ok (.aload_n 0, 1) := by decide +kernel
theorem dk_MO_69 : decode prog_12_method_1_code 69 = .ok (.bipush 8, 2) := by decide +kernel
theorem dk_MO_71 : decode prog_12_method_1_code 71 = .ok (.newarray .int, 2) := by decide +kernel
theorem dk_MO_73 : decode prog_12_method_1_code 73 = .ok (.putfield 29, 3) := by decide +kernel
theorem dk_MO_76 : decode prog_12_method_1_code 76 = .ok (.aload_n 0, 1) := by decide +kernel
theorem dk_MO_77 : decode prog_12_method_1_code 77 = .ok (.bipush 8, 2) := by decide +kernel
theorem dk_MO_79 : decode prog_12_method_1_code 79 = .ok (.newarray .boolean, 2) := by decide +kernel
theorem dk_MO_81 : decode prog_12_method_1_code 81 = .ok (.putfield 32, 3) := by decide +kernel
theorem dk_MO_84 : decode prog_12_method_1_code 84 = .ok (.aload_n 0, 1) := by decide +kernel
theorem dk_MO_85 : decode prog_12_method_1_code 85 = .ok (.bipush 8, 2) := by decide +kernel
theorem dk_MO_87 : decode prog_12_method_1_code 87 = .ok (.newarray .int, 2) := by decide +kernel
theorem dk_MO_89 : decode prog_12_method_1_code 89 = .ok (.putfield 36, 3) := by decide +kernel
theorem dk_MO_92 : decode prog_12_method_1_code 92 = .ok (.aload_n 0, 1) := by decide +kernel
theorem dk_MO_93 : decode prog_12_method_1_code 93 = .ok (.bipush 8, 2) := by decide +kernel
theorem dk_MO_95 : decode prog_12_method_1_code 95 = .ok (.newarray .int, 2) := by decide +kernel
theorem dk_MO_97 : decode prog_12_method_1_code 97 = .ok (.putfield 39, 3) := by decide +kernel
theorem dk_MO_100 : decode prog_12_method_1_code 100 = .ok (.aload_n 0, 1) := by decide +kernel
theorem dk_MO_101 : decode prog_12_method_1_code 101 = .ok (.bipush 24, 2) := by decide +kernel
theorem dk_MO_103 : decode prog_12_method_1_code 103 = .ok (.newarray .int, 2) := by decide +kernel
theorem dk_MO_105 : decode prog_12_method_1_code 105 = .ok (.putfield 42, 3) := by decide +kernel
theorem dk_MO_108 : decode prog_12_method_1_code 108 = .ok (.aload_n 0, 1) := by decide +kernel
theorem dk_MO_109 : decode prog_12_method_1_code 109 = .ok (.iconst 2, 1) := by decide +kernel
theorem dk_MO_110 : decode prog_12_method_1_code 110 = .ok (.newarray .int, 2) := by decide +kernel
theorem dk_MO_112 : decode prog_12_method_1_code 112 = .ok (.putfield 45, 3) := by decide +kernel
theorem dk_MO_115 : decode prog_12_method_1_code 115 = .ok (.aload_n 0, 1) := by decide +kernel
theorem dk_MO_116 : decode prog_12_method_1_code 116 = .ok (.bipush 15, 2) := by decide +kernel
theorem dk_MO_118 : decode prog_12_method_1_code 118 = .ok (.putfield 48, 3) := by decide +kernel
theorem dk_MO_121 : decode prog_12_method_1_code 121 = .ok (.aload_n 0, 1) := by decide +kernel
theorem dk_MO_122 : decode prog_12_method_1_code 122 = .ok (.iconst 1, 1) := by decide +kernel
theorem dk_MO_123 : decode prog_12_method_1_code 123 = .ok (.putfield 52, 3) := by decide +kernel
theorem dk_MO_126 : decode prog_12_method_1_code 126 = .ok (.aload_n 0, 1) := by decide +kernel
theorem dk_MO_127 : decode prog_12_method_1_code 127 = .ok (.iconst 1, 1) := by decide +kernel
theorem dk_MO_128 : decode prog_12_method_1_code 128 = .ok (.putfield 55, 3) := by decide +kernel
theorem dk_MO_131 : decode prog_12_method_1_code 131 = .ok (.aload_n 0, 1) := by decide +kernel
theorem dk_MO_132 : decode prog_12_method_1_code 132 = .ok (.bipush 16, 2) := by decide +kernel
theorem dk_MO_134 : decode prog_12_method_1_code 134 = .ok (.newarray .int, 2) := by decide +kernel
theorem dk_MO_136 : decode prog_12_method_1_code 136 = .ok (.putfield 59, 3) := by decide +kernel
theorem dk_MO_139 : decode prog_12_method_1_code 139 = .ok (.aload_n 0, 1) := by decide +kernel
theorem dk_MO_140 : decode prog_12_method_1_code 140 = .ok (.bipush 64, 2) := by decide +kernel
theorem dk_MO_142 : decode prog_12_method_1_code 142 = .ok (.newarray .int, 2) := by decide +kernel
theorem dk_MO_144 : decode prog_12_method_1_code 144 = .ok (.putfield 62, 3) := by decide +kernel
theorem dk_MO_147 : decode prog_12_method_1_code 147 = .ok (.aload_n 0, 1) := by decide +kernel
theorem dk_MO_148 : decode prog_12_method_1_code 148 = .ok (.bipush 16, 2) := by decide +kernel
theorem dk_MO_150 : decode prog_12_method_1_code 150 = .ok (.newarray .int, 2) := by decide +kernel
theorem dk_MO_152 : decode prog_12_method_1_code 152 = .ok (.putfield 65, 3) := by decide +kernel
theorem dk_MO_155 : decode prog_12_method_1_code 155 = .ok (.aload_n 0, 1) := by decide +kernel
theorem dk_MO_156 : decode prog_12_method_1_code 156 = .ok (.bipush 16, 2) := by decide +kernel
theorem dk_MO_158 : decode prog_12_method_1_code 158 = .ok (.newarray .int, 2) := by decide +kernel
theorem dk_MO_160 : decode prog_12_method_1_code 160 = .ok (.putfield 68, 3) := by decide +kernel
theorem dk_MO_163 : decode prog_12_method_1_code 163 = .ok (.aload_n 0, 1) := by decide +kernel
theorem dk_MO_164 : decode prog_12_method_1_code 164 = .ok (.bipush 16, 2) := by decide +kernel
theorem dk_MO_166 : decode prog_12_method_1_code 166 = .ok (.newarray .int, 2) := by decide +kernel
theorem dk_MO_168 : decode prog_12_method_1_code 168 = .ok (.putfield 71, 3) := by decide +kernel
theorem dk_MO_171 : decode prog_12_method_1_code 171 = .ok (.aload_n 0, 1) := by decide +kernel
theorem dk_MO_172 : decode prog_12_method_1_code 172 = .ok (.bipush 8, 2) := by decide +kernel
theorem dk_MO_174 : decode prog_12_method_1_code 174 = .ok (.newarray .int, 2) := by decide +kernel
theorem dk_MO_176 : decode prog_12_method_1_code 176 = .ok (.putfield 74, 3) := by decide +kernel
theorem dk_MO_179 : decode prog_12_method_1_code 179 = .ok (.aload_n 0, 1) := by decide +kernel
theorem dk_MO_180 : decode prog_12_method_1_code 180 = .ok (.bipush 8, 2) := by decide +kernel
theorem dk_MO_182 : decode prog_12_method_1_code 182 = .ok (.newarray .boolean, 2) := by decide +kernel
theorem dk_MO_184 : decode prog_12_method_1_code 184 = .ok (.putfield 77, 3) := by decide +kernel
theorem dk_MO_187 : decode prog_12_method_1_code 187 = .ok (.aload_n 0, 1) := by decide +kernel
theorem dk_MO_188 : decode prog_12_method_1_code 188 = .ok (.iconst 3, 1) := by decide +kernel
theorem dk_MO_189 : decode prog_12_method_1_code 189 = .ok (.newarray .int, 2) := by decide +kernel
theorem dk_MO_191 : decode prog_12_method_1_code 191 = .ok (.dup, 1) := by decide +kernel
theorem dk_MO_192 : decode prog_12_method_1_code 192 = .ok (.iconst 0, 1) := by decide +kernel
theorem dk_MO_193 : decode prog_12_method_1_code 193 = .ok (.iconst (-1), 1) := by decide +kernel
theorem dk_MO_194 : decode prog_12_method_1_code 194 = .ok (.iastore, 1) := by decide +kernel
theorem dk_MO_195 : decode prog_12_method_1_code 195 = .ok (.dup, 1) := by decide +kernel
theorem dk_MO_196 : decode prog_12_method_1_code 196 = .ok (.iconst 1, 1) := by decide +kernel
theorem dk_MO_197 : decode prog_12_method_1_code 197 = .ok (.iconst (-1), 1) := by decide +kernel
theorem dk_MO_198 : decode prog_12_method_1_code 198 = .ok (.iastore, 1) := by decide +kernel
theorem dk_MO_199 : decode prog_12_method_1_code 199 = .ok (.dup, 1) := by decide +kernel
theorem dk_MO_200 : decode prog_12_method_1_code 200 = .ok (.iconst 2, 1) := by decide +kernel
theorem dk_MO_201 : decode prog_12_method_1_code 201 = .ok (.iconst (-1), 1) := by decide +kernel
theorem dk_MO_202 : decode prog_12_method_1_code 202 = .ok (.iastore, 1) := by decide +kernel
theorem dk_MO_203 : decode prog_12_method_1_code 203 = .ok (.putfield 80, 3) := by decide +kernel
theorem dk_MO_206 : decode prog_12_method_1_code 206 = .ok (.aload_n 0, 1) := by decide +kernel
theorem dk_MO_207 : decode prog_12_method_1_code 207 = .ok (.iconst 3, 1) := by decide +kernel
theorem dk_MO_208 : decode prog_12_method_1_code 208 = .ok (.newarray .int, 2) := by decide +kernel
theorem dk_MO_210 : decode prog_12_method_1_code 210 = .ok (.putfield 83, 3) := by decide +kernel
theorem dk_MO_213 : decode prog_12_method_1_code 213 = .ok (.aload_n 0, 1) := by decide +kernel
theorem dk_MO_214 : decode prog_12_method_1_code 214 = .ok (.iconst 3, 1) := by decide +kernel
theorem dk_MO_215 : decode prog_12_method_1_code 215 = .ok (.newarray .int, 2) := by decide +kernel
theorem dk_MO_217 : decode prog_12_method_1_code 217 = .ok (.putfield 86, 3) := by decide +kernel
theorem dk_MO_220 : decode prog_12_method_1_code 220 = .ok (.aload_n 0, 1) := by decide +kernel
theorem dk_MO_221 : decode prog_12_method_1_code 221 = .ok (.bipush 64, 2) := by decide +kernel
theorem dk_MO_223 : decode prog_12_method_1_code 223 = .ok (.newarray .int, 2) := by decide +kernel
theorem dk_MO_225 : decode prog_12_method_1_code 225 = .ok (.putfield 89, 3) := by decide +kernel
theorem dk_MO_228 : decode prog_12_method_1_code 228 = .ok (.iconst 0, 1) := by decide +kernel
theorem dk_MO_229 : decode prog_12_method_1_code 229 = .ok (.istore_n 1, 1) := by decide +kernel
theorem dk_MO_230 : decode prog_12_method_1_code 230 = .ok (.iload_n 1, 1) := by decide +kernel
theorem dk_MO_231 : decode prog_12_method_1_code 231 = .ok (.bipush 16, 2) := by decide +kernel
theorem dk_MO_233 : decode prog_12_method_1_code 233 = .ok (.if_icmp .ge 23, 3) := by decide +kernel
theorem dk_MO_236 : decode prog_12_method_1_code 236 = .ok (.aload_n 0, 1) := by decide +kernel
theorem dk_MO_237 : decode prog_12_method_1_code 237 = .ok (.getfield 65, 3) := by decide +kernel
theorem dk_MO_240 : decode prog_12_method_1_code 240 = .ok (.iload_n 1, 1) := by decide +kernel
theorem dk_MO_241 : decode prog_12_method_1_code 241 = .ok (.iconst (-1), 1) := by decide +kernel
theorem dk_MO_242 : decode prog_12_method_1_code 242 = .ok (.iastore, 1) := by decide +kernel
theorem dk_MO_243 : decode prog_12_method_1_code 243 = .ok (.aload_n 0, 1) := by decide +kernel
theorem dk_MO_244 : decode prog_12_method_1_code 244 = .ok (.getfield 68, 3) := by decide +kernel
theorem dk_MO_247 : decode prog_12_method_1_code 247 = .ok (.iload_n 1, 1) := by decide +kernel
theorem dk_MO_248 : decode prog_12_method_1_code 248 = .ok (.iconst (-1), 1) := by decide +kernel
theorem dk_MO_249 : decode prog_12_method_1_code 249 = .ok (.iastore, 1) := by decide +kernel
theorem dk_MO_250 : decode prog_12_method_1_code 250 = .ok (.iinc 1 1, 3) := by decide +kernel
theorem dk_MO_253 : decode prog_12_method_1_code 253 = .ok (.goto (-23), 3) := by decide +kernel
theorem dk_MO_256 : decode prog_12_method_1_code 256 = .ok (.return_, 1) := by decide +kernel
set_option maxRecDepth 20000 in
set_option maxHeartbeats 4000000 in
theorem ki_MO (l : Launch) (D : va_G) (cA : Nat → ClassId) (ad : Nat → Nat → Nat) : sr_CI l D sr_cl (sr_tys cA) (sr_ci ad) sr_WS ⟨"SuiteRunnerModel", "<init>", "()V"⟩ prog_12_method_1_code 2 ({ frames := 1, cells := 23, slots := 487, locals := 12 } : Room) 24 10 [.int 0, .null, .null, .null, .null, .null, .null, .int 0, .null, .null, .null, .null, .null, .null, .int 0, .int 0, .int 0, .int 0, .int 0, .int 0, .int 0, .int 0, .int 0, .int 0, .int 0, .int 0, .null, .null, .null, .null, .null, .null, .null, .int 0, .int 0, .null, .null, .null, .int 0, .null] 487 (ex_MO cA) := by
  refine sr_CI_of (by decide) (by decide) (fun p e s m args below meth c a hx hb hml hr hlk hnm hts hown hK hsz hcy => ?_)
  have ha : a ≤ s.heap.size := by omega
  have loop1 : ∀ r k, k + r = 16 → sr_N p l e ({ frames := 1, cells := 23, slots := 487, locals := 12 } : Room) s m args below meth c (MQ below (fun _ st o t => (o = .returned none ∧ va_P D sr_cl (sr_bk a 24 (ex_MO cA a)) t.heap) ∧ va_F (fun q => a ≤ q) st t) args s (24 - 1) 487 (fun q => a ≤ q)) 2 D sr_cl a 23 487 230 [(1, .int (nI k)), (0, .ref a)] [] 24 (el_MO cA a k) := by
    intro r
    induction r with
    | zero =>
      intro k hk
      obtain rfl : k = 16 := by omega
      refine sr_N_of (fun ls H locs hl k1 => lv_iload_n hx hb dk_MO_230 rfl (lv_at hl 0 rfl) k1) ?_
      refine sr_N_of (fun ls H locs hl k1 => lv_bipush hx hb dk_MO_231 (v := 16) rfl k1) ?_
      refine sr_N_ge hx hb dk_MO_233 (tgt := 256) (by decide) (fun h => ?_) (fun h => ?_)
      · exact sr_N_ret hx hb hr hlk (fun z hz => rfl) dk_MO_256
      · exact absurd (show (16 : Int32) ≤ nI 16 by decide) h
    | succ r ih =>
      intro k hk
      have hk16 : k < 16 := by omega
      refine sr_N_of (fun ls H locs hl k1 => lv_iload_n hx hb dk_MO_230 rfl (lv_at hl 0 rfl) k1) ?_
      refine sr_N_of (fun ls H locs hl k1 => lv_bipush hx hb dk_MO_231 (v := 16) rfl k1) ?_
      refine sr_N_ge hx hb dk_MO_233 (tgt := 256) (by decide) (fun h => ?_) (fun h => ?_)
      · exact absurd h (nI_ge (b := 16) hk16 (by decide))
      · refine sr_N_of (fun ls H locs hl k1 => lv_aload_n hx hb dk_MO_236 rfl (lv_at hl 1 rfl) k1) ?_
        refine sr_N_get (k := 0) (v := .ref (a + 15)) hx hb hts (fun w h => List.mem_cons_of_mem _ (sr_in10 w h)) hown hK (by omega) rfl rfl (j := 28) (by decide) rfl (List.mem_cons_of_mem _ (sr_ws 697 rfl rfl)) rfl dk_MO_237 ?_
        refine sr_N_of (fun ls H locs hl k1 => lv_iload_n hx hb dk_MO_240 rfl (lv_at hl 0 rfl) k1) ?_
        refine sr_N_of (fun ls H locs hl k1 => lv_iconst hx hb dk_MO_241 (v := -1) rfl k1) ?_
        refine sr_N_iast (k := 15) (t0 := 0) hx hb hK (by omega) rfl rfl (vp_in_nI hk16 (by decide)) dk_MO_242 ?_
        refine sr_N_of (fun ls H locs hl k1 => lv_aload_n hx hb dk_MO_243 rfl (lv_at hl 1 rfl) k1) ?_
        refine sr_N_get (k := 0) (v := .ref (a + 16)) hx hb hts (fun w h => List.mem_cons_of_mem _ (sr_in10 w h)) hown hK (by omega) rfl rfl (j := 29) (by decide) rfl (List.mem_cons_of_mem _ (sr_ws 698 rfl rfl)) rfl dk_MO_244 ?_
        refine sr_N_of (fun ls H locs hl k1 => lv_iload_n hx hb dk_MO_247 rfl (lv_at hl 0 rfl) k1) ?_
        refine sr_N_of (fun ls H locs hl k1 => lv_iconst hx hb dk_MO_248 (v := -1) rfl k1) ?_
        refine sr_N_iast (k := 16) (t0 := 0) hx hb hK (by omega) rfl rfl (vp_in_nI hk16 (by decide)) dk_MO_249 ?_
        refine sr_N_ofL (fun ls H locs hl k1 => lv_iinc hx hb dk_MO_250 hl (k := 0) rfl rfl (by decide) rfl k1) ?_
        refine sr_N_of (fun ls H locs hl k1 => lv_goto hx hb dk_MO_253 (tgt := 230) (by decide) k1) ?_
        exact sr_N_to rfl rfl rfl (by rw [nI_succ]; rfl) (fun z hz => el1_MO cA a k z (by omega)) (ih (k + 1) (by omega))
  refine sr_N_of (fun ls H locs hl k => lv_aload_n hx hb dk_MO_0 rfl (lv_at hl 0 rfl) k) ?_
  refine sr_N_of (pc' := 4) (st' := []) (fun ls H locs hl k => W.objInit hx hb hown (hts _ (List.mem_cons_of_mem _ (sr_ws 668 rfl rfl))) (hts _ (List.mem_cons_of_mem _ (sr_ws 57 rfl rfl))) (hts _ (List.mem_cons_of_mem _ (sr_ws 58 rfl rfl))) rfl (by rw [hml]; exact hl.1) rfl dk_MO_1 (Nat.le_of_ble_eq_true rfl) (Nat.le_of_ble_eq_true rfl) k) ?_
  refine sr_N_of (fun ls H locs hl k => lv_aload_n hx hb dk_MO_4 rfl (lv_at hl 0 rfl) k) ?_
  refine sr_N_of (fun ls H locs hl k => lv_bipush hx hb dk_MO_5 (v := 16) rfl k) ?_
  refine sr_N_newa (ty := .int) (t0 := 0) (N := 16) (a0 := (16, .inl (fun _ => 0))) hx hb (hts _ (List.mem_cons_of_mem _ (sr_ws 115 rfl rfl))) rfl hK rfl sr_RA_int ha (by omega) (fun _ => rfl) (by decide) rfl (by decide) (Nat.le_of_ble_eq_true rfl) (Nat.le_of_ble_eq_true rfl) dk_MO_7 ?_
  refine sr_N_putF (fs := [.int 0, .null, .null, .null, .null, .null, .null, .int 0, .null, .null, .null, .null, .null, .null, .int 0, .int 0, .int 0, .int 0, .int 0, .int 0, .int 0, .int 0, .int 0, .int 0, .int 0, .int 0, .null, .null, .null, .null, .null, .null, .null, .int 0, .int 0, .null, .null, .null, .int 0, .null]) hx hb hts (fun w h => List.mem_cons_of_mem _ (sr_in10 w h)) sr_t10 sr_t10_ok sr_n10 hown hK (k := 0) (by omega) rfl rfl (j := 1) (by decide) rfl rfl (List.mem_cons_of_mem _ (sr_ws 670 rfl rfl)) rfl hnm rfl rfl (Nat.le_of_ble_eq_true rfl) dk_MO_9 ?_
  refine sr_N_of (fun ls H locs hl k => lv_aload_n hx hb dk_MO_12 rfl (lv_at hl 0 rfl) k) ?_
  refine sr_N_of (fun ls H locs hl k => lv_bipush hx hb dk_MO_13 (v := 16) rfl k) ?_
  refine sr_N_newa (ty := .long) (t0 := 2) (N := 16) (a0 := (16, .inr (.inl (fun _ => 0)))) hx hb (hts _ (List.mem_cons_of_mem _ (sr_ws 790 rfl rfl))) rfl hK rfl sr_RA_long ha (by omega) (fun _ => rfl) (by decide) rfl (by decide) (Nat.le_of_ble_eq_true rfl) (Nat.le_of_ble_eq_true rfl) dk_MO_15 ?_
  refine sr_N_putF (fs := [.int 0, .ref (a + 1), .null, .null, .null, .null, .null, .int 0, .null, .null, .null, .null, .null, .null, .int 0, .int 0, .int 0, .int 0, .int 0, .int 0, .int 0, .int 0, .int 0, .int 0, .int 0, .int 0, .null, .null, .null, .null, .null, .null, .null, .int 0, .int 0, .null, .null, .null, .int 0, .null]) hx hb hts (fun w h => List.mem_cons_of_mem _ (sr_in10 w h)) sr_t10 sr_t10_ok sr_n10 hown hK (k := 0) (by omega) rfl rfl (j := 2) (by decide) rfl rfl (List.mem_cons_of_mem _ (sr_ws 671 rfl rfl)) rfl hnm rfl rfl (Nat.le_of_ble_eq_true rfl) dk_MO_17 ?_
  refine sr_N_of (fun ls H locs hl k => lv_aload_n hx hb dk_MO_20 rfl (lv_at hl 0 rfl) k) ?_
  refine sr_N_of (fun ls H locs hl k => lv_sipush hx hb dk_MO_21 (v := 144) rfl k) ?_
  refine sr_N_newa (ty := .int) (t0 := 0) (N := 144) (a0 := (144, .inl (fun _ => 0))) hx hb (hts _ (List.mem_cons_of_mem _ (sr_ws 115 rfl rfl))) rfl hK rfl sr_RA_int ha (by omega) (fun _ => rfl) (by decide) rfl (by decide) (Nat.le_of_ble_eq_true rfl) (Nat.le_of_ble_eq_true rfl) dk_MO_24 ?_
  refine sr_N_putF (fs := [.int 0, .ref (a + 1), .ref (a + 2), .null, .null, .null, .null, .int 0, .null, .null, .null, .null, .null, .null, .int 0, .int 0, .int 0, .int 0, .int 0, .int 0, .int 0, .int 0, .int 0, .int 0, .int 0, .int 0, .null, .null, .null, .null, .null, .null, .null, .int 0, .int 0, .null, .null, .null, .int 0, .null]) hx hb hts (fun w h => List.mem_cons_of_mem _ (sr_in10 w h)) sr_t10 sr_t10_ok sr_n10 hown hK (k := 0) (by omega) rfl rfl (j := 3) (by decide) rfl rfl (List.mem_cons_of_mem _ (sr_ws 672 rfl rfl)) rfl hnm rfl rfl (Nat.le_of_ble_eq_true rfl) dk_MO_26 ?_
  refine sr_N_of (fun ls H locs hl k => lv_aload_n hx hb dk_MO_29 rfl (lv_at hl 0 rfl) k) ?_
  refine sr_N_of (fun ls H locs hl k => lv_bipush hx hb dk_MO_30 (v := 16) rfl k) ?_
  refine sr_N_newa (ty := .int) (t0 := 0) (N := 16) (a0 := (16, .inl (fun _ => 0))) hx hb (hts _ (List.mem_cons_of_mem _ (sr_ws 115 rfl rfl))) rfl hK rfl sr_RA_int ha (by omega) (fun _ => rfl) (by decide) rfl (by decide) (Nat.le_of_ble_eq_true rfl) (Nat.le_of_ble_eq_true rfl) dk_MO_32 ?_
  refine sr_N_putF (fs := [.int 0, .ref (a + 1), .ref (a + 2), .ref (a + 3), .null, .null, .null, .int 0, .null, .null, .null, .null, .null, .null, .int 0, .int 0, .int 0, .int 0, .int 0, .int 0, .int 0, .int 0, .int 0, .int 0, .int 0, .int 0, .null, .null, .null, .null, .null, .null, .null, .int 0, .int 0, .null, .null, .null, .int 0, .null]) hx hb hts (fun w h => List.mem_cons_of_mem _ (sr_in10 w h)) sr_t10 sr_t10_ok sr_n10 hown hK (k := 0) (by omega) rfl rfl (j := 4) (by decide) rfl rfl (List.mem_cons_of_mem _ (sr_ws 673 rfl rfl)) rfl hnm rfl rfl (Nat.le_of_ble_eq_true rfl) dk_MO_34 ?_
  refine sr_N_of (fun ls H locs hl k => lv_aload_n hx hb dk_MO_37 rfl (lv_at hl 0 rfl) k) ?_
  refine sr_N_of (fun ls H locs hl k => lv_bipush hx hb dk_MO_38 (v := 16) rfl k) ?_
  refine sr_N_newa (ty := .int) (t0 := 0) (N := 16) (a0 := (16, .inl (fun _ => 0))) hx hb (hts _ (List.mem_cons_of_mem _ (sr_ws 115 rfl rfl))) rfl hK rfl sr_RA_int ha (by omega) (fun _ => rfl) (by decide) rfl (by decide) (Nat.le_of_ble_eq_true rfl) (Nat.le_of_ble_eq_true rfl) dk_MO_40 ?_
  refine sr_N_putF (fs := [.int 0, .ref (a + 1), .ref (a + 2), .ref (a + 3), .ref (a + 4), .null, .null, .int 0, .null, .null, .null, .null, .null, .null, .int 0, .int 0, .int 0, .int 0, .int 0, .int 0, .int 0, .int 0, .int 0, .int 0, .int 0, .int 0, .null, .null, .null, .null, .null, .null, .null, .int 0, .int 0, .null, .null, .null, .int 0, .null]) hx hb hts (fun w h => List.mem_cons_of_mem _ (sr_in10 w h)) sr_t10 sr_t10_ok sr_n10 hown hK (k := 0) (by omega) rfl rfl (j := 5) (by decide) rfl rfl (List.mem_cons_of_mem _ (sr_ws 674 rfl rfl)) rfl hnm rfl rfl (Nat.le_of_ble_eq_true rfl) dk_MO_42 ?_
  refine sr_N_of (fun ls H locs hl k => lv_aload_n hx hb dk_MO_45 rfl (lv_at hl 0 rfl) k) ?_
  refine sr_N_of (fun ls H locs hl k => lv_iconst hx hb dk_MO_46 (v := 4) rfl k) ?_
  refine sr_N_newa (ty := .int) (t0 := 0) (N := 4) (a0 := (4, .inl (fun _ => 0))) hx hb (hts _ (List.mem_cons_of_mem _ (sr_ws 115 rfl rfl))) rfl hK rfl sr_RA_int ha (by omega) (fun _ => rfl) (by decide) rfl (by decide) (Nat.le_of_ble_eq_true rfl) (Nat.le_of_ble_eq_true rfl) dk_MO_47 ?_
  refine sr_N_of (fun ls H locs hl k => lv_dup hx hb dk_MO_49 rfl k) ?_
  refine sr_N_of (fun ls H locs hl k => lv_iconst hx hb dk_MO_50 (v := 0) rfl k) ?_
  refine sr_N_of (fun ls H locs hl k => lv_iconst hx hb dk_MO_51 (v := 1) rfl k) ?_
  refine sr_N_iast (k := 6) (t0 := 0) hx hb hK (by omega) rfl rfl (by show ¬ ((0 : Int32) < 0 ∨ 4 ≤ (0 : Int32).toNatClampNeg); decide) dk_MO_52 ?_
  refine sr_N_of (fun ls H locs hl k => lv_dup hx hb dk_MO_53 rfl k) ?_
  refine sr_N_of (fun ls H locs hl k => lv_iconst hx hb dk_MO_54 (v := 1) rfl k) ?_
  refine sr_N_of (fun ls H locs hl k => lv_iconst hx hb dk_MO_55 (v := 1) rfl k) ?_
  refine sr_N_iast (k := 6) (t0 := 0) hx hb hK (by omega) rfl rfl (by show ¬ ((1 : Int32) < 0 ∨ 4 ≤ (1 : Int32).toNatClampNeg); decide) dk_MO_56 ?_
  refine sr_N_of (fun ls H locs hl k => lv_dup hx hb dk_MO_57 rfl k) ?_
  refine sr_N_of (fun ls H locs hl k => lv_iconst hx hb dk_MO_58 (v := 2) rfl k) ?_
  refine sr_N_of (fun ls H locs hl k => lv_iconst hx hb dk_MO_59 (v := 1) rfl k) ?_
  refine sr_N_iast (k := 6) (t0 := 0) hx hb hK (by omega) rfl rfl (by show ¬ ((2 : Int32) < 0 ∨ 4 ≤ (2 : Int32).toNatClampNeg); decide) dk_MO_60 ?_
  refine sr_N_of (fun ls H locs hl k => lv_dup hx hb dk_MO_61 rfl k) ?_
  refine sr_N_of (fun ls H locs hl k => lv_iconst hx hb dk_MO_62 (v := 3) rfl k) ?_
  refine sr_N_of (fun ls H locs hl k => lv_iconst hx hb dk_MO_63 (v := 1) rfl k) ?_
  refine sr_N_iast (k := 6) (t0 := 0) hx hb hK (by omega) rfl rfl (by show ¬ ((3 : Int32) < 0 ∨ 4 ≤ (3 : Int32).toNatClampNeg); decide) dk_MO_64 ?_
  refine sr_N_putF (fs := [.int 0, .ref (a + 1), .ref (a + 2), .ref (a + 3), .ref (a + 4), .ref (a + 5), .null, .int 0, .null, .null, .null, .null, .null, .null, .int 0, .int 0, .int 0, .int 0, .int 0, .int 0, .int 0, .int 0, .int 0, .int 0, .int 0, .int 0, .null, .null, .null, .null, .null, .null, .null, .int 0, .int 0, .null, .null, .null, .int 0, .null]) hx hb hts (fun w h => List.mem_cons_of_mem _ (sr_in10 w h)) sr_t10 sr_t10_ok sr_n10 hown hK (k := 0) (by omega) rfl rfl (j := 6) (by decide) rfl rfl (List.mem_cons_of_mem _ (sr_ws 675 rfl rfl)) rfl hnm rfl rfl (Nat.le_of_ble_eq_true rfl) dk_MO_65 ?_
  refine sr_N_of (fun ls H locs hl k => lv_aload_n hx hb dk_MO_68 rfl (lv_at hl 0 rfl) k) ?_
  refine sr_N_of (fun ls H locs hl k => lv_bipush hx hb dk_MO_69 (v := 8) rfl k) ?_
  refine sr_N_newa (ty := .int) (t0 := 0) (N := 8) (a0 := (8, .inl (fun _ => 0))) hx hb (hts _ (List.mem_cons_of_mem _ (sr_ws 115 rfl rfl))) rfl hK rfl sr_RA_int ha (by omega) (fun _ => rfl) (by decide) rfl (by decide) (Nat.le_of_ble_eq_true rfl) (Nat.le_of_ble_eq_true rfl) dk_MO_71 ?_
  refine sr_N_putF (fs := [.int 0, .ref (a + 1), .ref (a + 2), .ref (a + 3), .ref (a + 4), .ref (a + 5), .ref (a + 6), .int 0, .null, .null, .null, .null, .null, .null, .int 0, .int 0, .int 0, .int 0, .int 0, .int 0, .int 0, .int 0, .int 0, .int 0, .int 0, .int 0, .null, .null, .null, .null, .null, .null, .null, .int 0, .int 0, .null, .null, .null, .int 0, .null]) hx hb hts (fun w h => List.mem_cons_of_mem _ (sr_in10 w h)) sr_t10 sr_t10_ok sr_n10 hown hK (k := 0) (by omega) rfl rfl (j := 8) (by decide) rfl rfl (List.mem_cons_of_mem _ (sr_ws 677 rfl rfl)) rfl hnm rfl rfl (Nat.le_of_ble_eq_true rfl) dk_MO_73 ?_
  refine sr_N_of (fun ls H locs hl k => lv_aload_n hx hb dk_MO_76 rfl (lv_at hl 0 rfl) k) ?_
  refine sr_N_of (fun ls H locs hl k => lv_bipush hx hb dk_MO_77 (v := 8) rfl k) ?_
  refine sr_N_newa (ty := .boolean) (t0 := 1) (N := 8) (a0 := (8, .inl (fun _ => 0))) hx hb (hts _ (List.mem_cons_of_mem _ (sr_ws 791 rfl rfl))) rfl hK rfl sr_RA_boolean ha (by omega) (fun _ => rfl) (by decide) rfl (by decide) (Nat.le_of_ble_eq_true rfl) (Nat.le_of_ble_eq_true rfl) dk_MO_79 ?_
  refine sr_N_putF (fs := [.int 0, .ref (a + 1), .ref (a + 2), .ref (a + 3), .ref (a + 4), .ref (a + 5), .ref (a + 6), .int 0, .ref (a + 7), .null, .null, .null, .null, .null, .int 0, .int 0, .int 0, .int 0, .int 0, .int 0, .int 0, .int 0, .int 0, .int 0, .int 0, .int 0, .null, .null, .null, .null, .null, .null, .null, .int 0, .int 0, .null, .null, .null, .int 0, .null]) hx hb hts (fun w h => List.mem_cons_of_mem _ (sr_in10 w h)) sr_t10 sr_t10_ok sr_n10 hown hK (k := 0) (by omega) rfl rfl (j := 9) (by decide) rfl rfl (List.mem_cons_of_mem _ (sr_ws 678 rfl rfl)) rfl hnm rfl rfl (Nat.le_of_ble_eq_true rfl) dk_MO_81 ?_
  refine sr_N_of (fun ls H locs hl k => lv_aload_n hx hb dk_MO_84 rfl (lv_at hl 0 rfl) k) ?_
  refine sr_N_of (fun ls H locs hl k => lv_bipush hx hb dk_MO_85 (v := 8) rfl k) ?_
  refine sr_N_newa (ty := .int) (t0 := 0) (N := 8) (a0 := (8, .inl (fun _ => 0))) hx hb (hts _ (List.mem_cons_of_mem _ (sr_ws 115 rfl rfl))) rfl hK rfl sr_RA_int ha (by omega) (fun _ => rfl) (by decide) rfl (by decide) (Nat.le_of_ble_eq_true rfl) (Nat.le_of_ble_eq_true rfl) dk_MO_87 ?_
  refine sr_N_putF (fs := [.int 0, .ref (a + 1), .ref (a + 2), .ref (a + 3), .ref (a + 4), .ref (a + 5), .ref (a + 6), .int 0, .ref (a + 7), .ref (a + 8), .null, .null, .null, .null, .int 0, .int 0, .int 0, .int 0, .int 0, .int 0, .int 0, .int 0, .int 0, .int 0, .int 0, .int 0, .null, .null, .null, .null, .null, .null, .null, .int 0, .int 0, .null, .null, .null, .int 0, .null]) hx hb hts (fun w h => List.mem_cons_of_mem _ (sr_in10 w h)) sr_t10 sr_t10_ok sr_n10 hown hK (k := 0) (by omega) rfl rfl (j := 10) (by decide) rfl rfl (List.mem_cons_of_mem _ (sr_ws 679 rfl rfl)) rfl hnm rfl rfl (Nat.le_of_ble_eq_true rfl) dk_MO_89 ?_
  refine sr_N_of (fun ls H locs hl k => lv_aload_n hx hb dk_MO_92 rfl (lv_at hl 0 rfl) k) ?_
  refine sr_N_of (fun ls H locs hl k => lv_bipush hx hb dk_MO_93 (v := 8) rfl k) ?_
  refine sr_N_newa (ty := .int) (t0 := 0) (N := 8) (a0 := (8, .inl (fun _ => 0))) hx hb (hts _ (List.mem_cons_of_mem _ (sr_ws 115 rfl rfl))) rfl hK rfl sr_RA_int ha (by omega) (fun _ => rfl) (by decide) rfl (by decide) (Nat.le_of_ble_eq_true rfl) (Nat.le_of_ble_eq_true rfl) dk_MO_95 ?_
  refine sr_N_putF (fs := [.int 0, .ref (a + 1), .ref (a + 2), .ref (a + 3), .ref (a + 4), .ref (a + 5), .ref (a + 6), .int 0, .ref (a + 7), .ref (a + 8), .ref (a + 9), .null, .null, .null, .int 0, .int 0, .int 0, .int 0, .int 0, .int 0, .int 0, .int 0, .int 0, .int 0, .int 0, .int 0, .null, .null, .null, .null, .null, .null, .null, .int 0, .int 0, .null, .null, .null, .int 0, .null]) hx hb hts (fun w h => List.mem_cons_of_mem _ (sr_in10 w h)) sr_t10 sr_t10_ok sr_n10 hown hK (k := 0) (by omega) rfl rfl (j := 11) (by decide) rfl rfl (List.mem_cons_of_mem _ (sr_ws 680 rfl rfl)) rfl hnm rfl rfl (Nat.le_of_ble_eq_true rfl) dk_MO_97 ?_
  refine sr_N_of (fun ls H locs hl k => lv_aload_n hx hb dk_MO_100 rfl (lv_at hl 0 rfl) k) ?_
  refine sr_N_of (fun ls H locs hl k => lv_bipush hx hb dk_MO_101 (v := 24) rfl k) ?_
  refine sr_N_newa (ty := .int) (t0 := 0) (N := 24) (a0 := (24, .inl (fun _ => 0))) hx hb (hts _ (List.mem_cons_of_mem _ (sr_ws 115 rfl rfl))) rfl hK rfl sr_RA_int ha (by omega) (fun _ => rfl) (by decide) rfl (by decide) (Nat.le_of_ble_eq_true rfl) (Nat.le_of_ble_eq_true rfl) dk_MO_103 ?_
  refine sr_N_putF (fs := [.int 0, .ref (a + 1), .ref (a + 2), .ref (a + 3), .ref (a + 4), .ref (a + 5), .ref (a + 6), .int 0, .ref (a + 7), .ref (a + 8), .ref (a + 9), .ref (a + 10), .null, .null, .int 0, .int 0, .int 0, .int 0, .int 0, .int 0, .int 0, .int 0, .int 0, .int 0, .int 0, .int 0, .null, .null, .null, .null, .null, .null, .null, .int 0, .int 0, .null, .null, .null, .int 0, .null]) hx hb hts (fun w h => List.mem_cons_of_mem _ (sr_in10 w h)) sr_t10 sr_t10_ok sr_n10 hown hK (k := 0) (by omega) rfl rfl (j := 12) (by decide) rfl rfl (List.mem_cons_of_mem _ (sr_ws 681 rfl rfl)) rfl hnm rfl rfl (Nat.le_of_ble_eq_true rfl) dk_MO_105 ?_
  refine sr_N_of (fun ls H locs hl k => lv_aload_n hx hb dk_MO_108 rfl (lv_at hl 0 rfl) k) ?_
  refine sr_N_of (fun ls H locs hl k => lv_iconst hx hb dk_MO_109 (v := 2) rfl k) ?_
  refine sr_N_newa (ty := .int) (t0 := 0) (N := 2) (a0 := (2, .inl (fun _ => 0))) hx hb (hts _ (List.mem_cons_of_mem _ (sr_ws 115 rfl rfl))) rfl hK rfl sr_RA_int ha (by omega) (fun _ => rfl) (by decide) rfl (by decide) (Nat.le_of_ble_eq_true rfl) (Nat.le_of_ble_eq_true rfl) dk_MO_110 ?_
  refine sr_N_putF (fs := [.int 0, .ref (a + 1), .ref (a + 2), .ref (a + 3), .ref (a + 4), .ref (a + 5), .ref (a + 6), .int 0, .ref (a + 7), .ref (a + 8), .ref (a + 9), .ref (a + 10), .ref (a + 11), .null, .int 0, .int 0, .int 0, .int 0, .int 0, .int 0, .int 0, .int 0, .int 0, .int 0, .int 0, .int 0, .null, .null, .null, .null, .null, .null, .null, .int 0, .int 0, .null, .null, .null, .int 0, .null]) hx hb hts (fun w h => List.mem_cons_of_mem _ (sr_in10 w h)) sr_t10 sr_t10_ok sr_n10 hown hK (k := 0) (by omega) rfl rfl (j := 13) (by decide) rfl rfl (List.mem_cons_of_mem _ (sr_ws 682 rfl rfl)) rfl hnm rfl rfl (Nat.le_of_ble_eq_true rfl) dk_MO_112 ?_
  refine sr_N_of (fun ls H locs hl k => lv_aload_n hx hb dk_MO_115 rfl (lv_at hl 0 rfl) k) ?_
  refine sr_N_of (fun ls H locs hl k => lv_bipush hx hb dk_MO_116 (v := 15) rfl k) ?_
  refine sr_N_put (fs := [.int 0, .ref (a + 1), .ref (a + 2), .ref (a + 3), .ref (a + 4), .ref (a + 5), .ref (a + 6), .int 0, .ref (a + 7), .ref (a + 8), .ref (a + 9), .ref (a + 10), .ref (a + 11), .ref (a + 12), .int 0, .int 0, .int 0, .int 0, .int 0, .int 0, .int 0, .int 0, .int 0, .int 0, .int 0, .int 0, .null, .null, .null, .null, .null, .null, .null, .int 0, .int 0, .null, .null, .null, .int 0, .null]) hx hb hts (fun w h => List.mem_cons_of_mem _ (sr_in10 w h)) sr_t10 sr_t10_ok sr_n10 hown hK (k := 0) (by omega) rfl rfl (j := 14) (by decide) rfl (List.mem_cons_of_mem _ (sr_ws 683 rfl rfl)) rfl rfl rfl (Nat.le_of_ble_eq_true rfl) dk_MO_118 ?_
  refine sr_N_of (fun ls H locs hl k => lv_aload_n hx hb dk_MO_121 rfl (lv_at hl 0 rfl) k) ?_
  refine sr_N_of (fun ls H locs hl k => lv_iconst hx hb dk_MO_122 (v := 1) rfl k) ?_
  refine sr_N_put (fs := [.int 0, .ref (a + 1), .ref (a + 2), .ref (a + 3), .ref (a + 4), .ref (a + 5), .ref (a + 6), .int 0, .ref (a + 7), .ref (a + 8), .ref (a + 9), .ref (a + 10), .ref (a + 11), .ref (a + 12), .int (15), .int 0, .int 0, .int 0, .int 0, .int 0, .int 0, .int 0, .int 0, .int 0, .int 0, .int 0, .null, .null, .null, .null, .null, .null, .null, .int 0, .int 0, .null, .null, .null, .int 0, .null]) hx hb hts (fun w h => List.mem_cons_of_mem _ (sr_in10 w h)) sr_t10 sr_t10_ok sr_n10 hown hK (k := 0) (by omega) rfl rfl (j := 18) (by decide) rfl (List.mem_cons_of_mem _ (sr_ws 687 rfl rfl)) rfl rfl rfl (Nat.le_of_ble_eq_true rfl) dk_MO_123 ?_
  refine sr_N_of (fun ls H locs hl k => lv_aload_n hx hb dk_MO_126 rfl (lv_at hl 0 rfl) k) ?_
  refine sr_N_of (fun ls H locs hl k => lv_iconst hx hb dk_MO_127 (v := 1) rfl k) ?_
  refine sr_N_put (fs := [.int 0, .ref (a + 1), .ref (a + 2), .ref (a + 3), .ref (a + 4), .ref (a + 5), .ref (a + 6), .int 0, .ref (a + 7), .ref (a + 8), .ref (a + 9), .ref (a + 10), .ref (a + 11), .ref (a + 12), .int (15), .int 0, .int 0, .int 0, .int (1), .int 0, .int 0, .int 0, .int 0, .int 0, .int 0, .int 0, .null, .null, .null, .null, .null, .null, .null, .int 0, .int 0, .null, .null, .null, .int 0, .null]) hx hb hts (fun w h => List.mem_cons_of_mem _ (sr_in10 w h)) sr_t10 sr_t10_ok sr_n10 hown hK (k := 0) (by omega) rfl rfl (j := 20) (by decide) rfl (List.mem_cons_of_mem _ (sr_ws 689 rfl rfl)) rfl rfl rfl (Nat.le_of_ble_eq_true rfl) dk_MO_128 ?_
  refine sr_N_of (fun ls H locs hl k => lv_aload_n hx hb dk_MO_131 rfl (lv_at hl 0 rfl) k) ?_
  refine sr_N_of (fun ls H locs hl k => lv_bipush hx hb dk_MO_132 (v := 16) rfl k) ?_
  refine sr_N_newa (ty := .int) (t0 := 0) (N := 16) (a0 := (16, .inl (fun _ => 0))) hx hb (hts _ (List.mem_cons_of_mem _ (sr_ws 115 rfl rfl))) rfl hK rfl sr_RA_int ha (by omega) (fun _ => rfl) (by decide) rfl (by decide) (Nat.le_of_ble_eq_true rfl) (Nat.le_of_ble_eq_true rfl) dk_MO_134 ?_
  refine sr_N_putF (fs := [.int 0, .ref (a + 1), .ref (a + 2), .ref (a + 3), .ref (a + 4), .ref (a + 5), .ref (a + 6), .int 0, .ref (a + 7), .ref (a + 8), .ref (a + 9), .ref (a + 10), .ref (a + 11), .ref (a + 12), .int (15), .int 0, .int 0, .int 0, .int (1), .int 0, .int (1), .int 0, .int 0, .int 0, .int 0, .int 0, .null, .null, .null, .null, .null, .null, .null, .int 0, .int 0, .null, .null, .null, .int 0, .null]) hx hb hts (fun w h => List.mem_cons_of_mem _ (sr_in10 w h)) sr_t10 sr_t10_ok sr_n10 hown hK (k := 0) (by omega) rfl rfl (j := 26) (by decide) rfl rfl (List.mem_cons_of_mem _ (sr_ws 695 rfl rfl)) rfl hnm rfl rfl (Nat.le_of_ble_eq_true rfl) dk_MO_136 ?_
  refine sr_N_of (fun ls H locs hl k => lv_aload_n hx hb dk_MO_139 rfl (lv_at hl 0 rfl) k) ?_
  refine sr_N_of (fun ls H locs hl k => lv_bipush hx hb dk_MO_140 (v := 64) rfl k) ?_
  refine sr_N_newa (ty := .int) (t0 := 0) (N := 64) (a0 := (64, .inl (fun _ => 0))) hx hb (hts _ (List.mem_cons_of_mem _ (sr_ws 115 rfl rfl))) rfl hK rfl sr_RA_int ha (by omega) (fun _ => rfl) (by decide) rfl (by decide) (Nat.le_of_ble_eq_true rfl) (Nat.le_of_ble_eq_true rfl) dk_MO_142 ?_
  refine sr_N_putF (fs := [.int 0, .ref (a + 1), .ref (a + 2), .ref (a + 3), .ref (a + 4), .ref (a + 5), .ref (a + 6), .int 0, .ref (a + 7), .ref (a + 8), .ref (a + 9), .ref (a + 10), .ref (a + 11), .ref (a + 12), .int (15), .int 0, .int 0, .int 0, .int (1), .int 0, .int (1), .int 0, .int 0, .int 0, .int 0, .int 0, .ref (a + 13), .null, .null, .null, .null, .null, .null, .int 0, .int 0, .null, .null, .null, .int 0, .null]) hx hb hts (fun w h => List.mem_cons_of_mem _ (sr_in10 w h)) sr_t10 sr_t10_ok sr_n10 hown hK (k := 0) (by omega) rfl rfl (j := 27) (by decide) rfl rfl (List.mem_cons_of_mem _ (sr_ws 696 rfl rfl)) rfl hnm rfl rfl (Nat.le_of_ble_eq_true rfl) dk_MO_144 ?_
  refine sr_N_of (fun ls H locs hl k => lv_aload_n hx hb dk_MO_147 rfl (lv_at hl 0 rfl) k) ?_
  refine sr_N_of (fun ls H locs hl k => lv_bipush hx hb dk_MO_148 (v := 16) rfl k) ?_
  refine sr_N_newa (ty := .int) (t0 := 0) (N := 16) (a0 := (16, .inl (fun _ => 0))) hx hb (hts _ (List.mem_cons_of_mem _ (sr_ws 115 rfl rfl))) rfl hK rfl sr_RA_int ha (by omega) (fun _ => rfl) (by decide) rfl (by decide) (Nat.le_of_ble_eq_true rfl) (Nat.le_of_ble_eq_true rfl) dk_MO_150 ?_
  refine sr_N_putF (fs := [.int 0, .ref (a + 1), .ref (a + 2), .ref (a + 3), .ref (a + 4), .ref (a + 5), .ref (a + 6), .int 0, .ref (a + 7), .ref (a + 8), .ref (a + 9), .ref (a + 10), .ref (a + 11), .ref (a + 12), .int (15), .int 0, .int 0, .int 0, .int (1), .int 0, .int (1), .int 0, .int 0, .int 0, .int 0, .int 0, .ref (a + 13), .ref (a + 14), .null, .null, .null, .null, .null, .int 0, .int 0, .null, .null, .null, .int 0, .null]) hx hb hts (fun w h => List.mem_cons_of_mem _ (sr_in10 w h)) sr_t10 sr_t10_ok sr_n10 hown hK (k := 0) (by omega) rfl rfl (j := 28) (by decide) rfl rfl (List.mem_cons_of_mem _ (sr_ws 697 rfl rfl)) rfl hnm rfl rfl (Nat.le_of_ble_eq_true rfl) dk_MO_152 ?_
  refine sr_N_of (fun ls H locs hl k => lv_aload_n hx hb dk_MO_155 rfl (lv_at hl 0 rfl) k) ?_
  refine sr_N_of (fun ls H locs hl k => lv_bipush hx hb dk_MO_156 (v := 16) rfl k) ?_
  refine sr_N_newa (ty := .int) (t0 := 0) (N := 16) (a0 := (16, .inl (fun _ => 0))) hx hb (hts _ (List.mem_cons_of_mem _ (sr_ws 115 rfl rfl))) rfl hK rfl sr_RA_int ha (by omega) (fun _ => rfl) (by decide) rfl (by decide) (Nat.le_of_ble_eq_true rfl) (Nat.le_of_ble_eq_true rfl) dk_MO_158 ?_
  refine sr_N_putF (fs := [.int 0, .ref (a + 1), .ref (a + 2), .ref (a + 3), .ref (a + 4), .ref (a + 5), .ref (a + 6), .int 0, .ref (a + 7), .ref (a + 8), .ref (a + 9), .ref (a + 10), .ref (a + 11), .ref (a + 12), .int (15), .int 0, .int 0, .int 0, .int (1), .int 0, .int (1), .int 0, .int 0, .int 0, .int 0, .int 0, .ref (a + 13), .ref (a + 14), .ref (a + 15), .null, .null, .null, .null, .int 0, .int 0, .null, .null, .null, .int 0, .null]) hx hb hts (fun w h => List.mem_cons_of_mem _ (sr_in10 w h)) sr_t10 sr_t10_ok sr_n10 hown hK (k := 0) (by omega) rfl rfl (j := 29) (by decide) rfl rfl (List.mem_cons_of_mem _ (sr_ws 698 rfl rfl)) rfl hnm rfl rfl (Nat.le_of_ble_eq_true rfl) dk_MO_160 ?_
  refine sr_N_of (fun ls H locs hl k => lv_aload_n hx hb dk_MO_163 rfl (lv_at hl 0 rfl) k) ?_
  refine sr_N_of (fun ls H locs hl k => lv_bipush hx hb dk_MO_164 (v := 16) rfl k) ?_
  refine sr_N_newa (ty := .int) (t0 := 0) (N := 16) (a0 := (16, .inl (fun _ => 0))) hx hb (hts _ (List.mem_cons_of_mem _ (sr_ws 115 rfl rfl))) rfl hK rfl sr_RA_int ha (by omega) (fun _ => rfl) (by decide) rfl (by decide) (Nat.le_of_ble_eq_true rfl) (Nat.le_of_ble_eq_true rfl) dk_MO_166 ?_
  refine sr_N_putF (fs := [.int 0, .ref (a + 1), .ref (a + 2), .ref (a + 3), .ref (a + 4), .ref (a + 5), .ref (a + 6), .int 0, .ref (a + 7), .ref (a + 8), .ref (a + 9), .ref (a + 10), .ref (a + 11), .ref (a + 12), .int (15), .int 0, .int 0, .int 0, .int (1), .int 0, .int (1), .int 0, .int 0, .int 0, .int 0, .int 0, .ref (a + 13), .ref (a + 14), .ref (a + 15), .ref (a + 16), .null, .null, .null, .int 0, .int 0, .null, .null, .null, .int 0, .null]) hx hb hts (fun w h => List.mem_cons_of_mem _ (sr_in10 w h)) sr_t10 sr_t10_ok sr_n10 hown hK (k := 0) (by omega) rfl rfl (j := 30) (by decide) rfl rfl (List.mem_cons_of_mem _ (sr_ws 699 rfl rfl)) rfl hnm rfl rfl (Nat.le_of_ble_eq_true rfl) dk_MO_168 ?_
  refine sr_N_of (fun ls H locs hl k => lv_aload_n hx hb dk_MO_171 rfl (lv_at hl 0 rfl) k) ?_
  refine sr_N_of (fun ls H locs hl k => lv_bipush hx hb dk_MO_172 (v := 8) rfl k) ?_
  refine sr_N_newa (ty := .int) (t0 := 0) (N := 8) (a0 := (8, .inl (fun _ => 0))) hx hb (hts _ (List.mem_cons_of_mem _ (sr_ws 115 rfl rfl))) rfl hK rfl sr_RA_int ha (by omega) (fun _ => rfl) (by decide) rfl (by decide) (Nat.le_of_ble_eq_true rfl) (Nat.le_of_ble_eq_true rfl) dk_MO_174 ?_
  refine sr_N_putF (fs := [.int 0, .ref (a + 1), .ref (a + 2), .ref (a + 3), .ref (a + 4), .ref (a + 5), .ref (a + 6), .int 0, .ref (a + 7), .ref (a + 8), .ref (a + 9), .ref (a + 10), .ref (a + 11), .ref (a + 12), .int (15), .int 0, .int 0, .int 0, .int (1), .int 0, .int (1), .int 0, .int 0, .int 0, .int 0, .int 0, .ref (a + 13), .ref (a + 14), .ref (a + 15), .ref (a + 16), .ref (a + 17), .null, .null, .int 0, .int 0, .null, .null, .null, .int 0, .null]) hx hb hts (fun w h => List.mem_cons_of_mem _ (sr_in10 w h)) sr_t10 sr_t10_ok sr_n10 hown hK (k := 0) (by omega) rfl rfl (j := 31) (by decide) rfl rfl (List.mem_cons_of_mem _ (sr_ws 700 rfl rfl)) rfl hnm rfl rfl (Nat.le_of_ble_eq_true rfl) dk_MO_176 ?_
  refine sr_N_of (fun ls H locs hl k => lv_aload_n hx hb dk_MO_179 rfl (lv_at hl 0 rfl) k) ?_
  refine sr_N_of (fun ls H locs hl k => lv_bipush hx hb dk_MO_180 (v := 8) rfl k) ?_
  refine sr_N_newa (ty := .boolean) (t0 := 1) (N := 8) (a0 := (8, .inl (fun _ => 0))) hx hb (hts _ (List.mem_cons_of_mem _ (sr_ws 791 rfl rfl))) rfl hK rfl sr_RA_boolean ha (by omega) (fun _ => rfl) (by decide) rfl (by decide) (Nat.le_of_ble_eq_true rfl) (Nat.le_of_ble_eq_true rfl) dk_MO_182 ?_
  refine sr_N_putF (fs := [.int 0, .ref (a + 1), .ref (a + 2), .ref (a + 3), .ref (a + 4), .ref (a + 5), .ref (a + 6), .int 0, .ref (a + 7), .ref (a + 8), .ref (a + 9), .ref (a + 10), .ref (a + 11), .ref (a + 12), .int (15), .int 0, .int 0, .int 0, .int (1), .int 0, .int (1), .int 0, .int 0, .int 0, .int 0, .int 0, .ref (a + 13), .ref (a + 14), .ref (a + 15), .ref (a + 16), .ref (a + 17), .ref (a + 18), .null, .int 0, .int 0, .null, .null, .null, .int 0, .null]) hx hb hts (fun w h => List.mem_cons_of_mem _ (sr_in10 w h)) sr_t10 sr_t10_ok sr_n10 hown hK (k := 0) (by omega) rfl rfl (j := 32) (by decide) rfl rfl (List.mem_cons_of_mem _ (sr_ws 701 rfl rfl)) rfl hnm rfl rfl (Nat.le_of_ble_eq_true rfl) dk_MO_184 ?_
  refine sr_N_of (fun ls H locs hl k => lv_aload_n hx hb dk_MO_187 rfl (lv_at hl 0 rfl) k) ?_
  refine sr_N_of (fun ls H locs hl k => lv_iconst hx hb dk_MO_188 (v := 3) rfl k) ?_
  refine sr_N_newa (ty := .int) (t0 := 0) (N := 3) (a0 := (3, .inl (fun _ => 0))) hx hb (hts _ (List.mem_cons_of_mem _ (sr_ws 115 rfl rfl))) rfl hK rfl sr_RA_int ha (by omega) (fun _ => rfl) (by decide) rfl (by decide) (Nat.le_of_ble_eq_true rfl) (Nat.le_of_ble_eq_true rfl) dk_MO_189 ?_
  refine sr_N_of (fun ls H locs hl k => lv_dup hx hb dk_MO_191 rfl k) ?_
  refine sr_N_of (fun ls H locs hl k => lv_iconst hx hb dk_MO_192 (v := 0) rfl k) ?_
  refine sr_N_of (fun ls H locs hl k => lv_iconst hx hb dk_MO_193 (v := -1) rfl k) ?_
  refine sr_N_iast (k := 20) (t0 := 0) hx hb hK (by omega) rfl rfl (by show ¬ ((0 : Int32) < 0 ∨ 3 ≤ (0 : Int32).toNatClampNeg); decide) dk_MO_194 ?_
  refine sr_N_of (fun ls H locs hl k => lv_dup hx hb dk_MO_195 rfl k) ?_
  refine sr_N_of (fun ls H locs hl k => lv_iconst hx hb dk_MO_196 (v := 1) rfl k) ?_
  refine sr_N_of (fun ls H locs hl k => lv_iconst hx hb dk_MO_197 (v := -1) rfl k) ?_
  refine sr_N_iast (k := 20) (t0 := 0) hx hb hK (by omega) rfl rfl (by show ¬ ((1 : Int32) < 0 ∨ 3 ≤ (1 : Int32).toNatClampNeg); decide) dk_MO_198 ?_
  refine sr_N_of (fun ls H locs hl k => lv_dup hx hb dk_MO_199 rfl k) ?_
  refine sr_N_of (fun ls H locs hl k => lv_iconst hx hb dk_MO_200 (v := 2) rfl k) ?_
  refine sr_N_of (fun ls H locs hl k => lv_iconst hx hb dk_MO_201 (v := -1) rfl k) ?_
  refine sr_N_iast (k := 20) (t0 := 0) hx hb hK (by omega) rfl rfl (by show ¬ ((2 : Int32) < 0 ∨ 3 ≤ (2 : Int32).toNatClampNeg); decide) dk_MO_202 ?_
  refine sr_N_putF (fs := [.int 0, .ref (a + 1), .ref (a + 2), .ref (a + 3), .ref (a + 4), .ref (a + 5), .ref (a + 6), .int 0, .ref (a + 7), .ref (a + 8), .ref (a + 9), .ref (a + 10), .ref (a + 11), .ref (a + 12), .int (15), .int 0, .int 0, .int 0, .int (1), .int 0, .int (1), .int 0, .int 0, .int 0, .int 0, .int 0, .ref (a + 13), .ref (a + 14), .ref (a + 15), .ref (a + 16), .ref (a + 17), .ref (a + 18), .ref (a + 19), .int 0, .int 0, .null, .null, .null, .int 0, .null]) hx hb hts (fun w h => List.mem_cons_of_mem _ (sr_in10 w h)) sr_t10 sr_t10_ok sr_n10 hown hK (k := 0) (by omega) rfl rfl (j := 35) (by decide) rfl rfl (List.mem_cons_of_mem _ (sr_ws 704 rfl rfl)) rfl hnm rfl rfl (Nat.le_of_ble_eq_true rfl) dk_MO_203 ?_
  refine sr_N_of (fun ls H locs hl k => lv_aload_n hx hb dk_MO_206 rfl (lv_at hl 0 rfl) k) ?_
  refine sr_N_of (fun ls H locs hl k => lv_iconst hx hb dk_MO_207 (v := 3) rfl k) ?_
  refine sr_N_newa (ty := .int) (t0 := 0) (N := 3) (a0 := (3, .inl (fun _ => 0))) hx hb (hts _ (List.mem_cons_of_mem _ (sr_ws 115 rfl rfl))) rfl hK rfl sr_RA_int ha (by omega) (fun _ => rfl) (by decide) rfl (by decide) (Nat.le_of_ble_eq_true rfl) (Nat.le_of_ble_eq_true rfl) dk_MO_208 ?_
  refine sr_N_putF (fs := [.int 0, .ref (a + 1), .ref (a + 2), .ref (a + 3), .ref (a + 4), .ref (a + 5), .ref (a + 6), .int 0, .ref (a + 7), .ref (a + 8), .ref (a + 9), .ref (a + 10), .ref (a + 11), .ref (a + 12), .int (15), .int 0, .int 0, .int 0, .int (1), .int 0, .int (1), .int 0, .int 0, .int 0, .int 0, .int 0, .ref (a + 13), .ref (a + 14), .ref (a + 15), .ref (a + 16), .ref (a + 17), .ref (a + 18), .ref (a + 19), .int 0, .int 0, .ref (a + 20), .null, .null, .int 0, .null]) hx hb hts (fun w h => List.mem_cons_of_mem _ (sr_in10 w h)) sr_t10 sr_t10_ok sr_n10 hown hK (k := 0) (by omega) rfl rfl (j := 36) (by decide) rfl rfl (List.mem_cons_of_mem _ (sr_ws 705 rfl rfl)) rfl hnm rfl rfl (Nat.le_of_ble_eq_true rfl) dk_MO_210 ?_
  refine sr_N_of (fun ls H locs hl k => lv_aload_n hx hb dk_MO_213 rfl (lv_at hl 0 rfl) k) ?_
  refine sr_N_of (fun ls H locs hl k => lv_iconst hx hb dk_MO_214 (v := 3) rfl k) ?_
  refine sr_N_newa (ty := .int) (t0 := 0) (N := 3) (a0 := (3, .inl (fun _ => 0))) hx hb (hts _ (List.mem_cons_of_mem _ (sr_ws 115 rfl rfl))) rfl hK rfl sr_RA_int ha (by omega) (fun _ => rfl) (by decide) rfl (by decide) (Nat.le_of_ble_eq_true rfl) (Nat.le_of_ble_eq_true rfl) dk_MO_215 ?_
  refine sr_N_putF (fs := [.int 0, .ref (a + 1), .ref (a + 2), .ref (a + 3), .ref (a + 4), .ref (a + 5), .ref (a + 6), .int 0, .ref (a + 7), .ref (a + 8), .ref (a + 9), .ref (a + 10), .ref (a + 11), .ref (a + 12), .int (15), .int 0, .int 0, .int 0, .int (1), .int 0, .int (1), .int 0, .int 0, .int 0, .int 0, .int 0, .ref (a + 13), .ref (a + 14), .ref (a + 15), .ref (a + 16), .ref (a + 17), .ref (a + 18), .ref (a + 19), .int 0, .int 0, .ref (a + 20), .ref (a + 21), .null, .int 0, .null]) hx hb hts (fun w h => List.mem_cons_of_mem _ (sr_in10 w h)) sr_t10 sr_t10_ok sr_n10 hown hK (k := 0) (by omega) rfl rfl (j := 37) (by decide) rfl rfl (List.mem_cons_of_mem _ (sr_ws 706 rfl rfl)) rfl hnm rfl rfl (Nat.le_of_ble_eq_true rfl) dk_MO_217 ?_
  refine sr_N_of (fun ls H locs hl k => lv_aload_n hx hb dk_MO_220 rfl (lv_at hl 0 rfl) k) ?_
  refine sr_N_of (fun ls H locs hl k => lv_bipush hx hb dk_MO_221 (v := 64) rfl k) ?_
  refine sr_N_newa (ty := .int) (t0 := 0) (N := 64) (a0 := (64, .inl (fun _ => 0))) hx hb (hts _ (List.mem_cons_of_mem _ (sr_ws 115 rfl rfl))) rfl hK rfl sr_RA_int ha (by omega) (fun _ => rfl) (by decide) rfl (by decide) (Nat.le_of_ble_eq_true rfl) (Nat.le_of_ble_eq_true rfl) dk_MO_223 ?_
  refine sr_N_putF (fs := [.int 0, .ref (a + 1), .ref (a + 2), .ref (a + 3), .ref (a + 4), .ref (a + 5), .ref (a + 6), .int 0, .ref (a + 7), .ref (a + 8), .ref (a + 9), .ref (a + 10), .ref (a + 11), .ref (a + 12), .int (15), .int 0, .int 0, .int 0, .int (1), .int 0, .int (1), .int 0, .int 0, .int 0, .int 0, .int 0, .ref (a + 13), .ref (a + 14), .ref (a + 15), .ref (a + 16), .ref (a + 17), .ref (a + 18), .ref (a + 19), .int 0, .int 0, .ref (a + 20), .ref (a + 21), .ref (a + 22), .int 0, .null]) hx hb hts (fun w h => List.mem_cons_of_mem _ (sr_in10 w h)) sr_t10 sr_t10_ok sr_n10 hown hK (k := 0) (by omega) rfl rfl (j := 39) (by decide) rfl rfl (List.mem_cons_of_mem _ (sr_ws 708 rfl rfl)) rfl hnm rfl rfl (Nat.le_of_ble_eq_true rfl) dk_MO_225 ?_
  refine sr_N_of (fun ls H locs hl k => lv_iconst hx hb dk_MO_228 (v := 0) rfl k) ?_
  refine sr_N_ofL (fun ls H locs hl k1 => lv_istore_n hx hb dk_MO_229 rfl hl (by decide) rfl k1) ?_
  exact sr_N_to rfl rfl rfl rfl (fun z hz => by
    rw [← el0_MO cA a z]
    match z, hz with
    | 0, _ => rfl
    | 1, _ => rfl
    | 2, _ => rfl
    | 3, _ => rfl
    | 4, _ => rfl
    | 5, _ => rfl
    | 6, _ => rfl
    | 7, _ => rfl
    | 8, _ => rfl
    | 9, _ => rfl
    | 10, _ => rfl
    | 11, _ => rfl
    | 12, _ => rfl
    | 13, _ => rfl
    | 14, _ => rfl
    | 15, _ => rfl
    | 16, _ => rfl
    | 17, _ => rfl
    | 18, _ => rfl
    | 19, _ => rfl
    | 20, _ => rfl
    | 21, _ => rfl
    | 22, _ => rfl
    | 23, _ => rfl
    | z + 24, h => exact absurd h (by omega)) (loop1 16 0 rfl)
