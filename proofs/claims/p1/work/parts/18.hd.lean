/-! doubles; health and digest of the class -/
section GLS
variable {p : Program} {l : Launch} {e : Env} {R : Room} {s : State} {m : MethodId} {args : Array Value} {below : List Frame} {meth : Method} {c : Code} {Q : State → Prop} {D : va_G} {cl : List vw_C} {tys : List (ClassId × FieldType)} {A : Nat → Prop} {nL : Nat} {ws : va_W} {cells slots : Nat} {cc : ByteArray} {own : String} {pc : Nat} {lv : List (Nat × Value)} {st : List Value}

theorem g_i2d (X : BX p m c cc nL s args own meth) {x : Int32} (hd : decode cc pc = .ok (.i2d, 1))
    (kk : GL p l e R s m args below meth c Q D cl tys A nL ws cells slots (pc + 1) lv (.double (FP.i2d x) :: st)) : GL p l e R s m args below meth c Q D cl tys A nL ws cells slots pc lv (.int x :: st) := by
  intro H locs ls hK hP hD hS hl
  exact lv_i2d X.1 X.2.1 hd (kk H locs ls hK hP hD hS hl)
theorem g_d2l (X : BX p m c cc nL s args own meth) {x : UInt64} (hd : decode cc pc = .ok (.d2l, 1))
    (kk : GL p l e R s m args below meth c Q D cl tys A nL ws cells slots (pc + 1) lv (.long (FP.d2l x) :: st)) : GL p l e R s m args below meth c Q D cl tys A nL ws cells slots pc lv (.double x :: st) := by
  intro H locs ls hK hP hD hS hl
  exact lv_d2l X.1 X.2.1 hd (kk H locs ls hK hP hD hS hl)
theorem g_ddiv (X : BX p m c cc nL s args own meth) {x y : UInt64} (hn : vf_n64 (FP.ddiv x y)) (hd : decode cc pc = .ok (.ddiv, 1))
    (kk : GL p l e R s m args below meth c Q D cl tys A nL ws cells slots (pc + 1) lv (.double (FP.ddiv x y) :: st)) : GL p l e R s m args below meth c Q D cl tys A nL ws cells slots pc lv (.double y :: .double x :: st) := by
  intro H locs ls hK hP hD hS hl
  exact lv_ddiv X.1 X.2.1 hd hn (kk H locs ls hK hP hD hS hl)
theorem g_dmul (X : BX p m c cc nL s args own meth) {x y : UInt64} (hn : vf_n64 (FP.dmul x y)) (hd : decode cc pc = .ok (.dmul, 1))
    (kk : GL p l e R s m args below meth c Q D cl tys A nL ws cells slots (pc + 1) lv (.double (FP.dmul x y) :: st)) : GL p l e R s m args below meth c Q D cl tys A nL ws cells slots pc lv (.double y :: .double x :: st) := by
  intro H locs ls hK hP hD hS hl
  exact lv_dmul X.1 X.2.1 hd hn (kk H locs ls hK hP hD hS hl)
end GLS

theorem hl_n : ∀ b : Fin 17, vf_n64 (FP.ddiv (FP.i2d (nI (16 - b.val))) 4625196817309499392) := by unfold vf_n64; decide +kernel
theorem hl_m : ∀ b : Fin 17, vf_n64 (FP.dmul 4634204016564240384 (hlV b.val)) := by unfold vf_n64 hlV; decide +kernel
theorem hl_nan {b : Nat} (h : b ≤ 16) : vf_n64 (FP.ddiv (FP.i2d (nI (16 - b))) 4625196817309499392) := hl_n ⟨b, by omega⟩
theorem hl_mul {b : Nat} (h : b ≤ 16) : vf_n64 (FP.dmul 4634204016564240384 (hlV b)) := hl_m ⟨b, by omega⟩
def dgA (I : Nat → Nat → Int32) (L : Nat → Nat → Int64) (S : Nat → Nat) : Nat → Int64
  | 0 => 3331
  | n + 1 => dgA I L S n * 31 + (bkV I L S n).toInt64
def dgB0 (I : Nat → Nat → Int32) (L : Nat → Nat → Int64) (ch : Nat) (d : Int64) : Nat → Int64
  | 0 => d
  | n + 1 => dgB0 I L ch d n * 31 + (ocV I L ch n).toInt64
def dgB (I : Nat → Nat → Int32) (L : Nat → Nat → Int64) (S : Nat → Nat) : Nat → Int64
  | 0 => dgA I L S 13
  | n + 1 => dgB0 I L n (dgB I L S n) 6
def dgC (I : Nat → Nat → Int32) (L : Nat → Nat → Int64) (S : Nat → Nat) : Nat → Int64
  | 0 => dgB I L S 18
  | n + 1 => ((dgC I L S n * 31 + (mdV I L S n).toInt64) * 31 + dtO (oL (mwd I L S n))) * 31 + (spV I L S n).toInt64
def dgE0 (L : Nat → Nat → Int64) (ch : Nat) (d : Int64) : Nat → Int64
  | 0 => d
  | n + 1 => dgE0 L ch d n * 31 + (nI (nib (L 0 ch) n)).toInt64
def dgE (I : Nat → Nat → Int32) (L : Nat → Nat → Int64) (S : Nat → Nat) : Nat → Int64
  | 0 => dgC I L S 16
  | n + 1 => dgE0 L n (dgE I L S n) 16
def dgF0 (I : Nat → Nat → Int32) (fk : Nat) (d : Int64) : Nat → Int64
  | 0 => d
  | n + 1 => dgF0 I fk d n * 31 + (ofV I fk n).toInt64
def dgF (I : Nat → Nat → Int32) (L : Nat → Nat → Int64) (S : Nat → Nat) : Nat → Int64
  | 0 => dgE I L S 18
  | n + 1 => dgF0 I n (dgF I L S n) 3 * 31 + dtO (L 3 n)
noncomputable def dgV (I : Nat → Nat → Int32) (L : Nat → Nat → Int64) (S : Nat → Nat) : Int64 := (dgF I L S 4 * 31 + FP.d2l (FP.dmul 4634204016564240384 (hlV (bdl I L S 16)))) * 31 + (nI (pB (snd I S))).toInt64
section DG
variable (I : Nat → Nat → Int32) (L : Nat → Nat → Int64) (S : Nat → Nat) (d : Int64) (n ch fk : Nat)
theorem dgA_0 : dgA I L S 0 = 3331 := by rw [dgA]
theorem dgA_s : dgA I L S (n + 1) = dgA I L S n * 31 + (bkV I L S n).toInt64 := by rw [dgA]
theorem dgB0_0 : dgB0 I L ch d 0 = d := by rw [dgB0]
theorem dgB0_s : dgB0 I L ch d (n + 1) = dgB0 I L ch d n * 31 + (ocV I L ch n).toInt64 := by rw [dgB0]
theorem dgB_0 : dgB I L S 0 = dgA I L S 13 := by rw [dgB]
theorem dgB_s : dgB I L S (n + 1) = dgB0 I L n (dgB I L S n) 6 := by rw [dgB]
theorem dgC_0 : dgC I L S 0 = dgB I L S 18 := by rw [dgC]
theorem dgC_s : dgC I L S (n + 1) = ((dgC I L S n * 31 + (mdV I L S n).toInt64) * 31 + dtO (oL (mwd I L S n))) * 31 + (spV I L S n).toInt64 := by rw [dgC]
theorem dgE0_0 : dgE0 L ch d 0 = d := by rw [dgE0]
theorem dgE0_s : dgE0 L ch d (n + 1) = dgE0 L ch d n * 31 + (nI (nib (L 0 ch) n)).toInt64 := by rw [dgE0]
theorem dgE_0 : dgE I L S 0 = dgC I L S 16 := by rw [dgE]
theorem dgE_s : dgE I L S (n + 1) = dgE0 L n (dgE I L S n) 16 := by rw [dgE]
theorem dgF0_0 : dgF0 I fk d 0 = d := by rw [dgF0]
theorem dgF0_s : dgF0 I fk d (n + 1) = dgF0 I fk d n * 31 + (ofV I fk n).toInt64 := by rw [dgF0]
theorem dgF_0 : dgF I L S 0 = dgE I L S 18 := by rw [dgF]
theorem dgF_s : dgF I L S (n + 1) = dgF0 I n (dgF I L S n) 3 * 31 + dtO (L 3 n) := by rw [dgF]
end DG

def KX5_health_0_0 : List (Nat × Instr × Nat) := [(0, .bipush 16, 2), (2, .aload_n 0, 1)]
theorem KX5_health_0_0_d : ∀ z ∈ KX5_health_0_0, decode cX5_health z.1 = .ok z.2 := by decide +kernel
def KX5_health_9_1 : List (Nat × Instr × Nat) := [(9, .isub, 1)]
theorem KX5_health_9_1_d : ∀ z ∈ KX5_health_9_1, decode cX5_health z.1 = .ok z.2 := by decide +kernel
set_option maxHeartbeats 4000000 in
set_option maxRecDepth 100000 in
theorem c_X5_health (l : Launch) (D : va_G) (g : Nat → ClassId) (ad : Nat → Nat) (I : Nat → Nat → Int32) (L : Nat → Nat → Int64) (S : Nat → Nat) (hS18 : ∀ p, p < 15 → S p < 18) : CT l yX5_health cX5_health 1 ((Option.some FieldType.double)) ({ frames := 5, cells := 0, slots := 0, locals := 131 } : Room) [.ref (ad 0)] D CL (TYS g) (WC ad g I L S) ([]) (S := Unit) (fun _ => some (.double (hlV (bdl I L S 16)))) (fun _ => []) (fun _ => True) 0 0 := by
  refine ct_of (by decide +kernel) (Nat.le_of_ble_eq_true rfl) ?_
  intro p e s m below meth c A X hr hnm hSB hRO hAf
  refine g_cs (ws' := []) (lv' := [(0, .ref (ad 0))]) rfl rfl ?_
  refine g_run X KX5_health_0_0 KX5_health_0_0_d 3 [(0, .ref (ad 0))] [.ref (ad 0), .int (nI 16)] rfl ?_
  refine g_get X (srcR hRO) (v := .ref (ad 1)) hinX5 rfl 0 (by decide) w_183 rfl (wc_mem (k := 0) (by decide)) rfl dX5_health_3 ?_
  refine g_callV X hSB hAf ((srcR hRO)) (hrc1 := (rfl : CL[3]? = some _)) (wc_mem (k := 1) (by decide)) rfl (As := []) (wr := []) (n := 0) (c_X4_badLines l D g ad I L S (hS18)) rfl (srcR hRO) hrdC w_236 w_233 w_234 w_235 w_2 (by decide +kernel) rfl ⟨Nat.le_of_ble_eq_true rfl, Nat.le_of_ble_eq_true rfl⟩ rfl rfl rfl (Nat.le_of_ble_eq_true rfl) ⟨Nat.le_of_ble_eq_true rfl, Nat.le_of_ble_eq_true rfl⟩ dX5_health_6 (fun hu1 _ => ?_)
  refine g_af (ws' := []) (st' := [.int (nI (bdl I L S 16)), .int (nI 16)]) (cells' := 0) (slots' := 0) (pc' := 9) rfl rfl rfl rfl rfl ?_
  have hbl := bdl_le I L S 16
  refine g_run X KX5_health_9_1 KX5_health_9_1_d 10 [(0, .ref (ad 0))] [.int ((nI 16) - (nI (bdl I L S 16)))] rfl ?_
  refine g_st (st' := [.int (nI (16 - bdl I L S 16))]) (by rw [pk_sub (bdl_le _ _ _ _)]) ?_
  refine g_i2d X dX5_health_10 ?_
  refine g_ldc2d X (v := 4625196817309499392) w_298 dX5_health_11 ?_
  refine g_ddiv X (hl_nan (bdl_le _ _ _ _)) dX5_health_14 ?_
  exact g_dret X hr () (rfl) (trivial) ((List.append_nil _).symm) (Nat.le_of_ble_eq_true rfl) (Nat.le_of_ble_eq_true rfl) dX5_health_15

def KX5_digest_3_0 : List (Nat × Instr × Nat) := [(3, .lstore_n 1, 1), (4, .iconst 0, 1), (5, .istore_n 3, 1)]
theorem KX5_digest_3_0_d : ∀ z ∈ KX5_digest_3_0, decode cX5_digest z.1 = .ok z.2 := by decide +kernel
def KX5_digest_6_1 : List (Nat × Instr × Nat) := [(6, .iload_n 3, 1), (7, .bipush 13, 2)]
theorem KX5_digest_6_1_d : ∀ z ∈ KX5_digest_6_1, decode cX5_digest z.1 = .ok z.2 := by decide +kernel
def KX5_digest_31_2 : List (Nat × Instr × Nat) := [(31, .iconst 0, 1), (32, .istore_n 3, 1)]
theorem KX5_digest_31_2_d : ∀ z ∈ KX5_digest_31_2, decode cX5_digest z.1 = .ok z.2 := by decide +kernel
def KX5_digest_33_3 : List (Nat × Instr × Nat) := [(33, .iload_n 3, 1), (34, .bipush 18, 2)]
theorem KX5_digest_33_3_d : ∀ z ∈ KX5_digest_33_3, decode cX5_digest z.1 = .ok z.2 := by decide +kernel
def KX5_digest_76_4 : List (Nat × Instr × Nat) := [(76, .iconst 0, 1), (77, .istore_n 3, 1)]
theorem KX5_digest_76_4_d : ∀ z ∈ KX5_digest_76_4, decode cX5_digest z.1 = .ok z.2 := by decide +kernel
def KX5_digest_78_5 : List (Nat × Instr × Nat) := [(78, .iload_n 3, 1), (79, .bipush 16, 2)]
theorem KX5_digest_78_5_d : ∀ z ∈ KX5_digest_78_5, decode cX5_digest z.1 = .ok z.2 := by decide +kernel
def KX5_digest_128_6 : List (Nat × Instr × Nat) := [(128, .iconst 0, 1), (129, .istore_n 3, 1)]
theorem KX5_digest_128_6_d : ∀ z ∈ KX5_digest_128_6, decode cX5_digest z.1 = .ok z.2 := by decide +kernel
def KX5_digest_130_7 : List (Nat × Instr × Nat) := [(130, .iload_n 3, 1), (131, .bipush 18, 2)]
theorem KX5_digest_130_7_d : ∀ z ∈ KX5_digest_130_7, decode cX5_digest z.1 = .ok z.2 := by decide +kernel
def KX5_digest_173_8 : List (Nat × Instr × Nat) := [(173, .iconst 0, 1), (174, .istore_n 3, 1)]
theorem KX5_digest_173_8_d : ∀ z ∈ KX5_digest_173_8, decode cX5_digest z.1 = .ok z.2 := by decide +kernel
def KX5_digest_175_9 : List (Nat × Instr × Nat) := [(175, .iload_n 3, 1), (176, .iconst 4, 1)]
theorem KX5_digest_175_9_d : ∀ z ∈ KX5_digest_175_9, decode cX5_digest z.1 = .ok z.2 := by decide +kernel
def KX5_digest_228_10 : List (Nat × Instr × Nat) := [(228, .lload_n 1, 1)]
theorem KX5_digest_228_10_d : ∀ z ∈ KX5_digest_228_10, decode cX5_digest z.1 = .ok z.2 := by decide +kernel
def KX5_digest_232_11 : List (Nat × Instr × Nat) := [(232, .lmul, 1)]
theorem KX5_digest_232_11_d : ∀ z ∈ KX5_digest_232_11, decode cX5_digest z.1 = .ok z.2 := by decide +kernel
def KX5_digest_236_12 : List (Nat × Instr × Nat) := [(236, .aload_n 0, 1)]
theorem KX5_digest_236_12_d : ∀ z ∈ KX5_digest_236_12, decode cX5_digest z.1 = .ok z.2 := by decide +kernel
def KX5_digest_242_13 : List (Nat × Instr × Nat) := [(242, .ladd, 1), (243, .lstore_n 1, 1), (244, .lload_n 1, 1)]
theorem KX5_digest_242_13_d : ∀ z ∈ KX5_digest_242_13, decode cX5_digest z.1 = .ok z.2 := by decide +kernel
def KX5_digest_248_14 : List (Nat × Instr × Nat) := [(248, .lmul, 1), (249, .aload_n 0, 1)]
theorem KX5_digest_248_14_d : ∀ z ∈ KX5_digest_248_14, decode cX5_digest z.1 = .ok z.2 := by decide +kernel
def KX5_digest_260_15 : List (Nat × Instr × Nat) := [(260, .iconst 0, 1), (261, .i2l, 1), (262, .ladd, 1)]
theorem KX5_digest_260_15_d : ∀ z ∈ KX5_digest_260_15, decode cX5_digest z.1 = .ok z.2 := by decide +kernel
def KX5_digest_256_16 : List (Nat × Instr × Nat) := [(256, .iconst 1, 1), (257, .goto 4, 3), (261, .i2l, 1), (262, .ladd, 1)]
theorem KX5_digest_256_16_d : ∀ z ∈ KX5_digest_256_16, decode cX5_digest z.1 = .ok z.2 := by decide +kernel
def KX5_digest_180_17 : List (Nat × Instr × Nat) := [(180, .iconst 0, 1), (181, .istore 4, 2)]
theorem KX5_digest_180_17_d : ∀ z ∈ KX5_digest_180_17, decode cX5_digest z.1 = .ok z.2 := by decide +kernel
def KX5_digest_183_18 : List (Nat × Instr × Nat) := [(183, .iload 4, 2), (185, .iconst 3, 1)]
theorem KX5_digest_183_18_d : ∀ z ∈ KX5_digest_183_18, decode cX5_digest z.1 = .ok z.2 := by decide +kernel
def KX5_digest_210_19 : List (Nat × Instr × Nat) := [(210, .lload_n 1, 1)]
theorem KX5_digest_210_19_d : ∀ z ∈ KX5_digest_210_19, decode cX5_digest z.1 = .ok z.2 := by decide +kernel
def KX5_digest_214_20 : List (Nat × Instr × Nat) := [(214, .lmul, 1), (215, .aload_n 0, 1), (216, .iload_n 3, 1)]
theorem KX5_digest_214_20_d : ∀ z ∈ KX5_digest_214_20, decode cX5_digest z.1 = .ok z.2 := by decide +kernel
def KX5_digest_220_21 : List (Nat × Instr × Nat) := [(220, .ladd, 1), (221, .lstore_n 1, 1), (222, .iinc 3 1, 3), (225, .goto (-50), 3)]
theorem KX5_digest_220_21_d : ∀ z ∈ KX5_digest_220_21, decode cX5_digest z.1 = .ok z.2 := by decide +kernel
def KX5_digest_189_22 : List (Nat × Instr × Nat) := [(189, .lload_n 1, 1)]
theorem KX5_digest_189_22_d : ∀ z ∈ KX5_digest_189_22, decode cX5_digest z.1 = .ok z.2 := by decide +kernel
def KX5_digest_193_23 : List (Nat × Instr × Nat) := [(193, .lmul, 1), (194, .aload_n 0, 1), (195, .iload_n 3, 1), (196, .iload 4, 2)]
theorem KX5_digest_193_23_d : ∀ z ∈ KX5_digest_193_23, decode cX5_digest z.1 = .ok z.2 := by decide +kernel
def KX5_digest_201_24 : List (Nat × Instr × Nat) := [(201, .i2l, 1), (202, .ladd, 1), (203, .lstore_n 1, 1), (204, .iinc 4 1, 3), (207, .goto (-24), 3)]
theorem KX5_digest_201_24_d : ∀ z ∈ KX5_digest_201_24, decode cX5_digest z.1 = .ok z.2 := by decide +kernel
def KX5_digest_136_25 : List (Nat × Instr × Nat) := [(136, .iconst 0, 1), (137, .istore 4, 2)]
theorem KX5_digest_136_25_d : ∀ z ∈ KX5_digest_136_25, decode cX5_digest z.1 = .ok z.2 := by decide +kernel
def KX5_digest_139_26 : List (Nat × Instr × Nat) := [(139, .iload 4, 2), (141, .bipush 16, 2)]
theorem KX5_digest_139_26_d : ∀ z ∈ KX5_digest_139_26, decode cX5_digest z.1 = .ok z.2 := by decide +kernel
def KX5_digest_167_27 : List (Nat × Instr × Nat) := [(167, .iinc 3 1, 3), (170, .goto (-40), 3)]
theorem KX5_digest_167_27_d : ∀ z ∈ KX5_digest_167_27, decode cX5_digest z.1 = .ok z.2 := by decide +kernel
def KX5_digest_146_28 : List (Nat × Instr × Nat) := [(146, .lload_n 1, 1)]
theorem KX5_digest_146_28_d : ∀ z ∈ KX5_digest_146_28, decode cX5_digest z.1 = .ok z.2 := by decide +kernel
def KX5_digest_150_29 : List (Nat × Instr × Nat) := [(150, .lmul, 1), (151, .aload_n 0, 1), (152, .iload_n 3, 1), (153, .iload 4, 2)]
theorem KX5_digest_150_29_d : ∀ z ∈ KX5_digest_150_29, decode cX5_digest z.1 = .ok z.2 := by decide +kernel
def KX5_digest_158_30 : List (Nat × Instr × Nat) := [(158, .i2l, 1), (159, .ladd, 1), (160, .lstore_n 1, 1), (161, .iinc 4 1, 3), (164, .goto (-25), 3)]
theorem KX5_digest_158_30_d : ∀ z ∈ KX5_digest_158_30, decode cX5_digest z.1 = .ok z.2 := by decide +kernel
def KX5_digest_84_31 : List (Nat × Instr × Nat) := [(84, .lload_n 1, 1)]
theorem KX5_digest_84_31_d : ∀ z ∈ KX5_digest_84_31, decode cX5_digest z.1 = .ok z.2 := by decide +kernel
def KX5_digest_88_32 : List (Nat × Instr × Nat) := [(88, .lmul, 1), (89, .aload_n 0, 1), (90, .iload_n 3, 1)]
theorem KX5_digest_88_32_d : ∀ z ∈ KX5_digest_88_32, decode cX5_digest z.1 = .ok z.2 := by decide +kernel
def KX5_digest_94_33 : List (Nat × Instr × Nat) := [(94, .i2l, 1), (95, .ladd, 1), (96, .lstore_n 1, 1), (97, .lload_n 1, 1)]
theorem KX5_digest_94_33_d : ∀ z ∈ KX5_digest_94_33, decode cX5_digest z.1 = .ok z.2 := by decide +kernel
def KX5_digest_101_34 : List (Nat × Instr × Nat) := [(101, .lmul, 1), (102, .aload_n 0, 1), (103, .iload_n 3, 1)]
theorem KX5_digest_101_34_d : ∀ z ∈ KX5_digest_101_34, decode cX5_digest z.1 = .ok z.2 := by decide +kernel
def KX5_digest_107_35 : List (Nat × Instr × Nat) := [(107, .ladd, 1), (108, .lstore_n 1, 1), (109, .lload_n 1, 1)]
theorem KX5_digest_107_35_d : ∀ z ∈ KX5_digest_107_35, decode cX5_digest z.1 = .ok z.2 := by decide +kernel
def KX5_digest_113_36 : List (Nat × Instr × Nat) := [(113, .lmul, 1), (114, .aload_n 0, 1), (115, .iload_n 3, 1)]
theorem KX5_digest_113_36_d : ∀ z ∈ KX5_digest_113_36, decode cX5_digest z.1 = .ok z.2 := by decide +kernel
def KX5_digest_119_37 : List (Nat × Instr × Nat) := [(119, .i2l, 1), (120, .ladd, 1), (121, .lstore_n 1, 1), (122, .iinc 3 1, 3), (125, .goto (-47), 3)]
theorem KX5_digest_119_37_d : ∀ z ∈ KX5_digest_119_37, decode cX5_digest z.1 = .ok z.2 := by decide +kernel
def KX5_digest_39_38 : List (Nat × Instr × Nat) := [(39, .iconst 0, 1), (40, .istore 4, 2)]
theorem KX5_digest_39_38_d : ∀ z ∈ KX5_digest_39_38, decode cX5_digest z.1 = .ok z.2 := by decide +kernel
def KX5_digest_42_39 : List (Nat × Instr × Nat) := [(42, .iload 4, 2), (44, .bipush 6, 2)]
theorem KX5_digest_42_39_d : ∀ z ∈ KX5_digest_42_39, decode cX5_digest z.1 = .ok z.2 := by decide +kernel
def KX5_digest_70_40 : List (Nat × Instr × Nat) := [(70, .iinc 3 1, 3), (73, .goto (-40), 3)]
theorem KX5_digest_70_40_d : ∀ z ∈ KX5_digest_70_40, decode cX5_digest z.1 = .ok z.2 := by decide +kernel
def KX5_digest_49_41 : List (Nat × Instr × Nat) := [(49, .lload_n 1, 1)]
theorem KX5_digest_49_41_d : ∀ z ∈ KX5_digest_49_41, decode cX5_digest z.1 = .ok z.2 := by decide +kernel
def KX5_digest_53_42 : List (Nat × Instr × Nat) := [(53, .lmul, 1), (54, .aload_n 0, 1), (55, .iload_n 3, 1), (56, .iload 4, 2)]
theorem KX5_digest_53_42_d : ∀ z ∈ KX5_digest_53_42, decode cX5_digest z.1 = .ok z.2 := by decide +kernel
def KX5_digest_61_43 : List (Nat × Instr × Nat) := [(61, .i2l, 1), (62, .ladd, 1), (63, .lstore_n 1, 1), (64, .iinc 4 1, 3), (67, .goto (-25), 3)]
theorem KX5_digest_61_43_d : ∀ z ∈ KX5_digest_61_43, decode cX5_digest z.1 = .ok z.2 := by decide +kernel
def KX5_digest_12_44 : List (Nat × Instr × Nat) := [(12, .lload_n 1, 1)]
theorem KX5_digest_12_44_d : ∀ z ∈ KX5_digest_12_44, decode cX5_digest z.1 = .ok z.2 := by decide +kernel
def KX5_digest_16_45 : List (Nat × Instr × Nat) := [(16, .lmul, 1), (17, .aload_n 0, 1), (18, .iload_n 3, 1)]
theorem KX5_digest_16_45_d : ∀ z ∈ KX5_digest_16_45, decode cX5_digest z.1 = .ok z.2 := by decide +kernel
def KX5_digest_22_46 : List (Nat × Instr × Nat) := [(22, .i2l, 1), (23, .ladd, 1), (24, .lstore_n 1, 1), (25, .iinc 3 1, 3), (28, .goto (-22), 3)]
theorem KX5_digest_22_46_d : ∀ z ∈ KX5_digest_22_46, decode cX5_digest z.1 = .ok z.2 := by decide +kernel
set_option maxHeartbeats 4000000 in
set_option maxRecDepth 100000 in
theorem c_X5_digest (l : Launch) (D : va_G) (g : Nat → ClassId) (ad : Nat → Nat) (I : Nat → Nat → Int32) (L : Nat → Nat → Int64) (S : Nat → Nat) (hS18 : ∀ p, p < 15 → S p < 18) : CT l yX5_digest cX5_digest 5 ((Option.some FieldType.long)) ({ frames := 6, cells := 0, slots := 0, locals := 154 } : Room) [.ref (ad 0)] D CL (TYS g) (WC ad g I L S) ([]) (S := Unit) (fun _ => some (.long (dgV I L S))) (fun _ => []) (fun _ => True) 0 0 := by
  refine ct_of (by decide +kernel) (Nat.le_of_ble_eq_true rfl) ?_
  intro p e s m below meth c A X hr hnm hSB hRO hAf
  refine g_cs (ws' := []) (lv' := [(0, .ref (ad 0))]) rfl rfl ?_
  refine g_ldc2 X (v := (3331 : Int64)) w_318 dX5_digest_0 ?_
  refine g_run X KX5_digest_3_0 KX5_digest_3_0_d 6 [(3, .int (nI 0)), (1, .long (3331 : Int64)), (0, .ref (ad 0))] [] rfl ?_
  refine g_lv (lv' := [(0, .ref (ad 0)), (1, .long (3331 : Int64)), (3, .int (nI 0))]) (lsub_c 2 rfl (lsub_c 1 rfl (lsub_c 0 rfl (lsub_n)))) ?_
  refine g_for 13 (fun _ => []) (fun i => [(0, .ref (ad 0)), (1, .long (dgA I L S i)), (3, .int (nI i))]) (rfl) (by rw [dgA_0]) ?_ ?_
  · refine g_run X KX5_digest_6_1 KX5_digest_6_1_d 9 [(0, .ref (ad 0)), (1, .long (dgA I L S 13)), (3, .int (nI 13))] [.int (nI 13), .int (nI 13)] rfl ?_
    refine g_icmp_ge X 31 dX5_digest_9 (by decide) (fun hc1 => ?_) (fun hc1 => ?_)
    · refine g_run X KX5_digest_31_2 KX5_digest_31_2_d 33 [(3, .int (nI 0)), (0, .ref (ad 0)), (1, .long (dgA I L S 13))] [] rfl ?_
      refine g_lv (lv' := [(0, .ref (ad 0)), (1, .long (dgA I L S 13)), (3, .int (nI 0))]) (lsub_c 1 rfl (lsub_c 2 rfl (lsub_c 0 rfl (lsub_n)))) ?_
      refine g_for 18 (fun _ => []) (fun ch => [(0, .ref (ad 0)), (1, .long (dgB I L S ch)), (3, .int (nI ch))]) (rfl) (by rw [dgB_0]) ?_ ?_
      · refine g_run X KX5_digest_33_3 KX5_digest_33_3_d 36 [(0, .ref (ad 0)), (1, .long (dgB I L S 18)), (3, .int (nI 18))] [.int (nI 18), .int (nI 18)] rfl ?_
        refine g_icmp_ge X 76 dX5_digest_36 (by decide) (fun hc2 => ?_) (fun hc2 => ?_)
        · refine g_run X KX5_digest_76_4 KX5_digest_76_4_d 78 [(3, .int (nI 0)), (0, .ref (ad 0)), (1, .long (dgB I L S 18))] [] rfl ?_
          refine g_lv (lv' := [(0, .ref (ad 0)), (1, .long (dgB I L S 18)), (3, .int (nI 0))]) (lsub_c 1 rfl (lsub_c 2 rfl (lsub_c 0 rfl (lsub_n)))) ?_
          refine g_for 16 (fun _ => []) (fun i => [(0, .ref (ad 0)), (1, .long (dgC I L S i)), (3, .int (nI i))]) (rfl) (by rw [dgC_0]) ?_ ?_
          · refine g_run X KX5_digest_78_5 KX5_digest_78_5_d 81 [(0, .ref (ad 0)), (1, .long (dgC I L S 16)), (3, .int (nI 16))] [.int (nI 16), .int (nI 16)] rfl ?_
            refine g_icmp_ge X 128 dX5_digest_81 (by decide) (fun hc3 => ?_) (fun hc3 => ?_)
            · refine g_run X KX5_digest_128_6 KX5_digest_128_6_d 130 [(3, .int (nI 0)), (0, .ref (ad 0)), (1, .long (dgC I L S 16))] [] rfl ?_
              refine g_lv (lv' := [(0, .ref (ad 0)), (1, .long (dgC I L S 16)), (3, .int (nI 0))]) (lsub_c 1 rfl (lsub_c 2 rfl (lsub_c 0 rfl (lsub_n)))) ?_
              refine g_for 18 (fun _ => []) (fun ch => [(0, .ref (ad 0)), (1, .long (dgE I L S ch)), (3, .int (nI ch))]) (rfl) (by rw [dgE_0]) ?_ ?_
              · refine g_run X KX5_digest_130_7 KX5_digest_130_7_d 133 [(0, .ref (ad 0)), (1, .long (dgE I L S 18)), (3, .int (nI 18))] [.int (nI 18), .int (nI 18)] rfl ?_
                refine g_icmp_ge X 173 dX5_digest_133 (by decide) (fun hc4 => ?_) (fun hc4 => ?_)
                · refine g_run X KX5_digest_173_8 KX5_digest_173_8_d 175 [(3, .int (nI 0)), (0, .ref (ad 0)), (1, .long (dgE I L S 18))] [] rfl ?_
                  refine g_lv (lv' := [(0, .ref (ad 0)), (1, .long (dgE I L S 18)), (3, .int (nI 0))]) (lsub_c 1 rfl (lsub_c 2 rfl (lsub_c 0 rfl (lsub_n)))) ?_
                  refine g_for 4 (fun _ => []) (fun fk => [(0, .ref (ad 0)), (1, .long (dgF I L S fk)), (3, .int (nI fk))]) (rfl) (by rw [dgF_0]) ?_ ?_
                  · refine g_run X KX5_digest_175_9 KX5_digest_175_9_d 177 [(0, .ref (ad 0)), (1, .long (dgF I L S 4)), (3, .int (nI 4))] [.int (nI 4), .int (nI 4)] rfl ?_
                    refine g_icmp_ge X 228 dX5_digest_177 (by decide) (fun hc5 => ?_) (fun hc5 => ?_)
                    · refine g_run X KX5_digest_228_10 KX5_digest_228_10_d 229 [(0, .ref (ad 0)), (1, .long (dgF I L S 4)), (3, .int (nI 4))] [.long (dgF I L S 4)] rfl ?_
                      refine g_ldc2 X (v := (31 : Int64)) w_319 dX5_digest_229 ?_
                      refine g_run X KX5_digest_232_11 KX5_digest_232_11_d 233 [(0, .ref (ad 0)), (1, .long (dgF I L S 4)), (3, .int (nI 4))] [.long ((dgF I L S 4) * (31 : Int64))] rfl ?_
                      refine g_ldc2d X (v := 4634204016564240384) w_480 dX5_digest_233 ?_
                      refine g_run X KX5_digest_236_12 KX5_digest_236_12_d 237 [(0, .ref (ad 0)), (1, .long (dgF I L S 4)), (3, .int (nI 4))] [.ref (ad 0), .double 4634204016564240384, .long ((dgF I L S 4) * (31 : Int64))] rfl ?_
                      refine g_callV X hSB hAf ((srcR hRO)) (hrc1 := (rfl : CL[4]? = some _)) (wc_mem (k := 0) (by decide)) rfl (As := []) (wr := []) (n := 0) (c_X5_health l D g ad I L S (hS18)) rfl (srcR hRO) hrdC w_232 w_481 w_230 w_231 w_1 (by decide +kernel) rfl ⟨Nat.le_of_ble_eq_true rfl, Nat.le_of_ble_eq_true rfl⟩ rfl rfl rfl (Nat.le_of_ble_eq_true rfl) ⟨Nat.le_of_ble_eq_true rfl, Nat.le_of_ble_eq_true rfl⟩ dX5_digest_237 (fun hu6 _ => ?_)
                      refine g_af (ws' := []) (st' := [.double (hlV (bdl I L S 16)), .double 4634204016564240384, .long ((dgF I L S 4) * (31 : Int64))]) (cells' := 0) (slots' := 0) (pc' := 240) rfl rfl rfl rfl rfl ?_
                      refine g_dmul X (hl_mul (bdl_le _ _ _ _)) dX5_digest_240 ?_
                      refine g_d2l X dX5_digest_241 ?_
                      refine g_run X KX5_digest_242_13 KX5_digest_242_13_d 245 [(1, .long (((dgF I L S 4) * (31 : Int64)) + (FP.d2l (FP.dmul 4634204016564240384 (hlV (bdl I L S 16)))))), (0, .ref (ad 0)), (3, .int (nI 4))] [.long (((dgF I L S 4) * (31 : Int64)) + (FP.d2l (FP.dmul 4634204016564240384 (hlV (bdl I L S 16)))))] rfl ?_
                      refine g_ldc2 X (v := (31 : Int64)) w_319 dX5_digest_245 ?_
                      refine g_run X KX5_digest_248_14 KX5_digest_248_14_d 250 [(1, .long (((dgF I L S 4) * (31 : Int64)) + (FP.d2l (FP.dmul 4634204016564240384 (hlV (bdl I L S 16)))))), (0, .ref (ad 0)), (3, .int (nI 4))] [.ref (ad 0), .long ((((dgF I L S 4) * (31 : Int64)) + (FP.d2l (FP.dmul 4634204016564240384 (hlV (bdl I L S 16))))) * (31 : Int64))] rfl ?_
                      refine g_callV X hSB hAf ((srcR hRO)) (hrc1 := (rfl : CL[4]? = some _)) (wc_mem (k := 0) (by decide)) rfl (As := []) (wr := []) (n := 0) (c_X5_isSound l D g ad I L S (hS18)) rfl (srcR hRO) hrdC w_302 w_482 w_300 w_301 w_1 (by decide +kernel) rfl ⟨Nat.le_of_ble_eq_true rfl, Nat.le_of_ble_eq_true rfl⟩ rfl rfl rfl (Nat.le_of_ble_eq_true rfl) ⟨Nat.le_of_ble_eq_true rfl, Nat.le_of_ble_eq_true rfl⟩ dX5_digest_250 (fun hu7 _ => ?_)
                      refine g_af (ws' := []) (st' := [.int (nI (pB (snd I S))), .long ((((dgF I L S 4) * (31 : Int64)) + (FP.d2l (FP.dmul 4634204016564240384 (hlV (bdl I L S 16))))) * (31 : Int64))]) (cells' := 0) (slots' := 0) (pc' := 253) rfl rfl rfl rfl rfl ?_
                      refine g_if_eq X 260 dX5_digest_253 (by decide) (fun hc8 => ?_) (fun hc8 => ?_)
                      · rw [pB_eq0] at hc8; have hsn := hc8
                        refine g_run X KX5_digest_260_15 KX5_digest_260_15_d 263 [(1, .long (((dgF I L S 4) * (31 : Int64)) + (FP.d2l (FP.dmul 4634204016564240384 (hlV (bdl I L S 16)))))), (0, .ref (ad 0)), (3, .int (nI 4))] [.long (((((dgF I L S 4) * (31 : Int64)) + (FP.d2l (FP.dmul 4634204016564240384 (hlV (bdl I L S 16))))) * (31 : Int64)) + ((nI 0).toInt64))] rfl ?_
                        exact g_lret X hr () (by show some (Value.long _) = some (Value.long _); first | rw [dgV, pB_t hsn] | rw [dgV, pB_f hsn]) (trivial) ((List.append_nil _).symm) (Nat.le_of_ble_eq_true rfl) (Nat.le_of_ble_eq_true rfl) dX5_digest_263
                      · rw [pB_eq0, Classical.not_not] at hc8; have hsn := hc8
                        refine g_run X KX5_digest_256_16 KX5_digest_256_16_d 263 [(1, .long (((dgF I L S 4) * (31 : Int64)) + (FP.d2l (FP.dmul 4634204016564240384 (hlV (bdl I L S 16)))))), (0, .ref (ad 0)), (3, .int (nI 4))] [.long (((((dgF I L S 4) * (31 : Int64)) + (FP.d2l (FP.dmul 4634204016564240384 (hlV (bdl I L S 16))))) * (31 : Int64)) + ((nI 1).toInt64))] rfl ?_
                        exact g_lret X hr () (by show some (Value.long _) = some (Value.long _); first | rw [dgV, pB_t hsn] | rw [dgV, pB_f hsn]) (trivial) ((List.append_nil _).symm) (Nat.le_of_ble_eq_true rfl) (Nat.le_of_ble_eq_true rfl) dX5_digest_263
                    · rw [nI_leI (by omega) (by omega)] at hc5; first | omega | (simp at hc5)
                  · intro fk hfk k175
                    refine g_run X KX5_digest_175_9 KX5_digest_175_9_d 177 [(0, .ref (ad 0)), (1, .long (dgF I L S fk)), (3, .int (nI fk))] [.int (nI 4), .int (nI fk)] rfl ?_
                    refine g_icmp_ge X 228 dX5_digest_177 (by decide) (fun hc9 => ?_) (fun hc9 => ?_)
                    · rw [nI_leI (by omega) (by omega)] at hc9; first | omega | (simp at hc9)
                    · refine g_run X KX5_digest_180_17 KX5_digest_180_17_d 183 [(4, .int (nI 0)), (0, .ref (ad 0)), (1, .long (dgF I L S fk)), (3, .int (nI fk))] [] rfl ?_
                      refine g_lv (lv' := [(0, .ref (ad 0)), (1, .long (dgF I L S fk)), (3, .int (nI fk)), (4, .int (nI 0))]) (lsub_c 1 rfl (lsub_c 2 rfl (lsub_c 3 rfl (lsub_c 0 rfl (lsub_n))))) ?_
                      refine g_for 3 (fun _ => []) (fun i => [(0, .ref (ad 0)), (1, .long (dgF0 I fk (dgF I L S fk) i)), (3, .int (nI fk)), (4, .int (nI i))]) (rfl) (by rw [dgF0_0]) ?_ ?_
                      · refine g_run X KX5_digest_183_18 KX5_digest_183_18_d 186 [(0, .ref (ad 0)), (1, .long (dgF0 I fk (dgF I L S fk) 3)), (3, .int (nI fk)), (4, .int (nI 3))] [.int (nI 3), .int (nI 3)] rfl ?_
                        refine g_icmp_ge X 210 dX5_digest_186 (by decide) (fun hc10 => ?_) (fun hc10 => ?_)
                        · refine g_run X KX5_digest_210_19 KX5_digest_210_19_d 211 [(0, .ref (ad 0)), (1, .long (dgF0 I fk (dgF I L S fk) 3)), (3, .int (nI fk)), (4, .int (nI 3))] [.long (dgF0 I fk (dgF I L S fk) 3)] rfl ?_
                          refine g_ldc2 X (v := (31 : Int64)) w_319 dX5_digest_211 ?_
                          refine g_run X KX5_digest_214_20 KX5_digest_214_20_d 217 [(0, .ref (ad 0)), (1, .long (dgF0 I fk (dgF I L S fk) 3)), (3, .int (nI fk)), (4, .int (nI 3))] [.int (nI fk), .ref (ad 0), .long ((dgF0 I fk (dgF I L S fk) 3) * (31 : Int64))] rfl ?_
                          refine g_callV X hSB hAf ((srcR hRO)) (hrc1 := (rfl : CL[4]? = some _)) (wc_mem (k := 0) (by decide)) rfl (As := [.int (nI fk)]) (wr := []) (n := 1) (c_X5_held l D g ad I L S fk (by omega)) rfl (srcR hRO) hrdC w_479 w_476 w_477 w_478 w_1 (by decide +kernel) rfl ⟨Nat.le_of_ble_eq_true rfl, Nat.le_of_ble_eq_true rfl⟩ rfl rfl rfl (Nat.le_of_ble_eq_true rfl) ⟨Nat.le_of_ble_eq_true rfl, Nat.le_of_ble_eq_true rfl⟩ dX5_digest_217 (fun hu11 _ => ?_)
                          refine g_af (ws' := []) (st' := [.long (dtO (L 3 fk)), .long ((dgF0 I fk (dgF I L S fk) 3) * (31 : Int64))]) (cells' := 0) (slots' := 0) (pc' := 220) rfl rfl rfl rfl rfl ?_
                          refine g_run X KX5_digest_220_21 KX5_digest_220_21_d 175 [(3, .int ((nI fk) + (nI 1))), (1, .long (((dgF0 I fk (dgF I L S fk) 3) * (31 : Int64)) + (dtO (L 3 fk)))), (0, .ref (ad 0)), (4, .int (nI 3))] [] rfl ?_
                          refine g_nm (lv' := [(3, .int (nI (fk + 1))), (1, .long (((dgF0 I fk (dgF I L S fk) 3) * (31 : Int64)) + (dtO (L 3 fk)))), (0, .ref (ad 0)), (4, .int (nI 3))]) (st' := []) (by simp only [nI_add]) (by simp only [nI_add]) ?_
                          refine g_lv (lv' := [(0, .ref (ad 0)), (1, .long (((dgF0 I fk (dgF I L S fk) 3) * (31 : Int64)) + (dtO (L 3 fk)))), (3, .int (nI (fk + 1)))]) (lsub_c 2 rfl (lsub_c 1 rfl (lsub_c 0 rfl (lsub_n)))) ?_
                          refine g_cs (ws' := []) (lv' := [(0, .ref (ad 0)), (1, .long (dgF I L S (fk + 1))), (3, .int (nI (fk + 1)))]) (rfl) (by rw [dgF_s]) ?_
                          exact k175
                        · rw [nI_leI (by omega) (by omega)] at hc10; first | omega | (simp at hc10)
                      · intro i hi k183
                        refine g_run X KX5_digest_183_18 KX5_digest_183_18_d 186 [(0, .ref (ad 0)), (1, .long (dgF0 I fk (dgF I L S fk) i)), (3, .int (nI fk)), (4, .int (nI i))] [.int (nI 3), .int (nI i)] rfl ?_
                        refine g_icmp_ge X 210 dX5_digest_186 (by decide) (fun hc12 => ?_) (fun hc12 => ?_)
                        · rw [nI_leI (by omega) (by omega)] at hc12; first | omega | (simp at hc12)
                        · refine g_run X KX5_digest_189_22 KX5_digest_189_22_d 190 [(0, .ref (ad 0)), (1, .long (dgF0 I fk (dgF I L S fk) i)), (3, .int (nI fk)), (4, .int (nI i))] [.long (dgF0 I fk (dgF I L S fk) i)] rfl ?_
                          refine g_ldc2 X (v := (31 : Int64)) w_319 dX5_digest_190 ?_
                          refine g_run X KX5_digest_193_23 KX5_digest_193_23_d 198 [(0, .ref (ad 0)), (1, .long (dgF0 I fk (dgF I L S fk) i)), (3, .int (nI fk)), (4, .int (nI i))] [.int (nI i), .int (nI fk), .ref (ad 0), .long ((dgF0 I fk (dgF I L S fk) i) * (31 : Int64))] rfl ?_
                          refine g_callV X hSB hAf ((srcR hRO)) (hrc1 := (rfl : CL[4]? = some _)) (wc_mem (k := 0) (by decide)) rfl (As := [.int (nI fk), .int (nI i)]) (wr := []) (n := 2) (c_X5_ofFrame l D g ad I L S fk i (by omega) (by omega)) rfl (srcR hRO) hrdC w_470 w_467 w_468 w_469 w_1 (by decide +kernel) rfl ⟨Nat.le_of_ble_eq_true rfl, Nat.le_of_ble_eq_true rfl⟩ rfl rfl rfl (Nat.le_of_ble_eq_true rfl) ⟨Nat.le_of_ble_eq_true rfl, Nat.le_of_ble_eq_true rfl⟩ dX5_digest_198 (fun hu13 _ => ?_)
                          refine g_af (ws' := []) (st' := [.int (ofV I fk i), .long ((dgF0 I fk (dgF I L S fk) i) * (31 : Int64))]) (cells' := 0) (slots' := 0) (pc' := 201) rfl rfl rfl rfl rfl ?_
                          refine g_run X KX5_digest_201_24 KX5_digest_201_24_d 183 [(4, .int ((nI i) + (nI 1))), (1, .long (((dgF0 I fk (dgF I L S fk) i) * (31 : Int64)) + ((ofV I fk i).toInt64))), (0, .ref (ad 0)), (3, .int (nI fk))] [] rfl ?_
                          refine g_nm (lv' := [(4, .int (nI (i + 1))), (1, .long (((dgF0 I fk (dgF I L S fk) i) * (31 : Int64)) + ((ofV I fk i).toInt64))), (0, .ref (ad 0)), (3, .int (nI fk))]) (st' := []) (by simp only [nI_add]) (by simp only [nI_add]) ?_
                          refine g_lv (lv' := [(0, .ref (ad 0)), (1, .long (((dgF0 I fk (dgF I L S fk) i) * (31 : Int64)) + ((ofV I fk i).toInt64))), (3, .int (nI fk)), (4, .int (nI (i + 1)))]) (lsub_c 2 rfl (lsub_c 1 rfl (lsub_c 3 rfl (lsub_c 0 rfl (lsub_n))))) ?_
                          refine g_cs (ws' := []) (lv' := [(0, .ref (ad 0)), (1, .long (dgF0 I fk (dgF I L S fk) (i + 1))), (3, .int (nI fk)), (4, .int (nI (i + 1)))]) (rfl) (by rw [dgF0_s]) ?_
                          exact k183
                · rw [nI_leI (by omega) (by omega)] at hc4; first | omega | (simp at hc4)
              · intro ch hch k130
                refine g_run X KX5_digest_130_7 KX5_digest_130_7_d 133 [(0, .ref (ad 0)), (1, .long (dgE I L S ch)), (3, .int (nI ch))] [.int (nI 18), .int (nI ch)] rfl ?_
                refine g_icmp_ge X 173 dX5_digest_133 (by decide) (fun hc14 => ?_) (fun hc14 => ?_)
                · rw [nI_leI (by omega) (by omega)] at hc14; first | omega | (simp at hc14)
                · refine g_run X KX5_digest_136_25 KX5_digest_136_25_d 139 [(4, .int (nI 0)), (0, .ref (ad 0)), (1, .long (dgE I L S ch)), (3, .int (nI ch))] [] rfl ?_
                  refine g_lv (lv' := [(0, .ref (ad 0)), (1, .long (dgE I L S ch)), (3, .int (nI ch)), (4, .int (nI 0))]) (lsub_c 1 rfl (lsub_c 2 rfl (lsub_c 3 rfl (lsub_c 0 rfl (lsub_n))))) ?_
                  refine g_for 16 (fun _ => []) (fun i => [(0, .ref (ad 0)), (1, .long (dgE0 L ch (dgE I L S ch) i)), (3, .int (nI ch)), (4, .int (nI i))]) (rfl) (by rw [dgE0_0]) ?_ ?_
                  · refine g_run X KX5_digest_139_26 KX5_digest_139_26_d 143 [(0, .ref (ad 0)), (1, .long (dgE0 L ch (dgE I L S ch) 16)), (3, .int (nI ch)), (4, .int (nI 16))] [.int (nI 16), .int (nI 16)] rfl ?_
                    refine g_icmp_ge X 167 dX5_digest_143 (by decide) (fun hc15 => ?_) (fun hc15 => ?_)
                    · refine g_run X KX5_digest_167_27 KX5_digest_167_27_d 130 [(3, .int ((nI ch) + (nI 1))), (0, .ref (ad 0)), (1, .long (dgE0 L ch (dgE I L S ch) 16)), (4, .int (nI 16))] [] rfl ?_
                      refine g_nm (lv' := [(3, .int (nI (ch + 1))), (0, .ref (ad 0)), (1, .long (dgE0 L ch (dgE I L S ch) 16)), (4, .int (nI 16))]) (st' := []) (by simp only [nI_add]) (by simp only [nI_add]) ?_
                      refine g_lv (lv' := [(0, .ref (ad 0)), (1, .long (dgE0 L ch (dgE I L S ch) 16)), (3, .int (nI (ch + 1)))]) (lsub_c 1 rfl (lsub_c 2 rfl (lsub_c 0 rfl (lsub_n)))) ?_
                      refine g_cs (ws' := []) (lv' := [(0, .ref (ad 0)), (1, .long (dgE I L S (ch + 1))), (3, .int (nI (ch + 1)))]) (rfl) (by rw [dgE_s]) ?_
                      exact k130
                    · rw [nI_leI (by omega) (by omega)] at hc15; first | omega | (simp at hc15)
                  · intro i hi k139
                    refine g_run X KX5_digest_139_26 KX5_digest_139_26_d 143 [(0, .ref (ad 0)), (1, .long (dgE0 L ch (dgE I L S ch) i)), (3, .int (nI ch)), (4, .int (nI i))] [.int (nI 16), .int (nI i)] rfl ?_
                    refine g_icmp_ge X 167 dX5_digest_143 (by decide) (fun hc16 => ?_) (fun hc16 => ?_)
                    · rw [nI_leI (by omega) (by omega)] at hc16; first | omega | (simp at hc16)
                    · refine g_run X KX5_digest_146_28 KX5_digest_146_28_d 147 [(0, .ref (ad 0)), (1, .long (dgE0 L ch (dgE I L S ch) i)), (3, .int (nI ch)), (4, .int (nI i))] [.long (dgE0 L ch (dgE I L S ch) i)] rfl ?_
                      refine g_ldc2 X (v := (31 : Int64)) w_319 dX5_digest_147 ?_
                      refine g_run X KX5_digest_150_29 KX5_digest_150_29_d 155 [(0, .ref (ad 0)), (1, .long (dgE0 L ch (dgE I L S ch) i)), (3, .int (nI ch)), (4, .int (nI i))] [.int (nI i), .int (nI ch), .ref (ad 0), .long ((dgE0 L ch (dgE I L S ch) i) * (31 : Int64))] rfl ?_
                      refine g_callV X hSB hAf ((srcR hRO)) (hrc1 := (rfl : CL[4]? = some _)) (wc_mem (k := 0) (by decide)) rfl (As := [.int (nI ch), .int (nI i)]) (wr := []) (n := 2) (c_X5_stored l D g ad I L S ch i (by omega) (by omega)) rfl (srcR hRO) hrdC w_462 w_459 w_460 w_461 w_1 (by decide +kernel) rfl ⟨Nat.le_of_ble_eq_true rfl, Nat.le_of_ble_eq_true rfl⟩ rfl rfl rfl (Nat.le_of_ble_eq_true rfl) ⟨Nat.le_of_ble_eq_true rfl, Nat.le_of_ble_eq_true rfl⟩ dX5_digest_155 (fun hu17 _ => ?_)
                      refine g_af (ws' := []) (st' := [.int (nI (nib (L 0 ch) i)), .long ((dgE0 L ch (dgE I L S ch) i) * (31 : Int64))]) (cells' := 0) (slots' := 0) (pc' := 158) rfl rfl rfl rfl rfl ?_
                      refine g_run X KX5_digest_158_30 KX5_digest_158_30_d 139 [(4, .int ((nI i) + (nI 1))), (1, .long (((dgE0 L ch (dgE I L S ch) i) * (31 : Int64)) + ((nI (nib (L 0 ch) i)).toInt64))), (0, .ref (ad 0)), (3, .int (nI ch))] [] rfl ?_
                      refine g_nm (lv' := [(4, .int (nI (i + 1))), (1, .long (((dgE0 L ch (dgE I L S ch) i) * (31 : Int64)) + ((nI (nib (L 0 ch) i)).toInt64))), (0, .ref (ad 0)), (3, .int (nI ch))]) (st' := []) (by simp only [nI_add]) (by simp only [nI_add]) ?_
                      refine g_lv (lv' := [(0, .ref (ad 0)), (1, .long (((dgE0 L ch (dgE I L S ch) i) * (31 : Int64)) + ((nI (nib (L 0 ch) i)).toInt64))), (3, .int (nI ch)), (4, .int (nI (i + 1)))]) (lsub_c 2 rfl (lsub_c 1 rfl (lsub_c 3 rfl (lsub_c 0 rfl (lsub_n))))) ?_
                      refine g_cs (ws' := []) (lv' := [(0, .ref (ad 0)), (1, .long (dgE0 L ch (dgE I L S ch) (i + 1))), (3, .int (nI ch)), (4, .int (nI (i + 1)))]) (rfl) (by rw [dgE0_s]) ?_
                      exact k139
            · rw [nI_leI (by omega) (by omega)] at hc3; first | omega | (simp at hc3)
          · intro i hi k78
            refine g_run X KX5_digest_78_5 KX5_digest_78_5_d 81 [(0, .ref (ad 0)), (1, .long (dgC I L S i)), (3, .int (nI i))] [.int (nI 16), .int (nI i)] rfl ?_
            refine g_icmp_ge X 128 dX5_digest_81 (by decide) (fun hc18 => ?_) (fun hc18 => ?_)
            · rw [nI_leI (by omega) (by omega)] at hc18; first | omega | (simp at hc18)
            · refine g_run X KX5_digest_84_31 KX5_digest_84_31_d 85 [(0, .ref (ad 0)), (1, .long (dgC I L S i)), (3, .int (nI i))] [.long (dgC I L S i)] rfl ?_
              refine g_ldc2 X (v := (31 : Int64)) w_319 dX5_digest_85 ?_
              refine g_run X KX5_digest_88_32 KX5_digest_88_32_d 91 [(0, .ref (ad 0)), (1, .long (dgC I L S i)), (3, .int (nI i))] [.int (nI i), .ref (ad 0), .long ((dgC I L S i) * (31 : Int64))] rfl ?_
              refine g_callV X hSB hAf ((srcR hRO)) (hrc1 := (rfl : CL[4]? = some _)) (wc_mem (k := 0) (by decide)) rfl (As := [.int (nI i)]) (wr := []) (n := 1) (c_X5_mended l D g ad I L S i (hS18) (by omega)) rfl (srcR hRO) hrdC w_432 w_429 w_430 w_431 w_1 (by decide +kernel) rfl ⟨Nat.le_of_ble_eq_true rfl, Nat.le_of_ble_eq_true rfl⟩ rfl rfl rfl (Nat.le_of_ble_eq_true rfl) ⟨Nat.le_of_ble_eq_true rfl, Nat.le_of_ble_eq_true rfl⟩ dX5_digest_91 (fun hu19 _ => ?_)
              refine g_af (ws' := []) (st' := [.int (mdV I L S i), .long ((dgC I L S i) * (31 : Int64))]) (cells' := 0) (slots' := 0) (pc' := 94) rfl rfl rfl rfl rfl ?_
              refine g_run X KX5_digest_94_33 KX5_digest_94_33_d 98 [(1, .long (((dgC I L S i) * (31 : Int64)) + ((mdV I L S i).toInt64))), (0, .ref (ad 0)), (3, .int (nI i))] [.long (((dgC I L S i) * (31 : Int64)) + ((mdV I L S i).toInt64))] rfl ?_
              refine g_ldc2 X (v := (31 : Int64)) w_319 dX5_digest_98 ?_
              refine g_run X KX5_digest_101_34 KX5_digest_101_34_d 104 [(1, .long (((dgC I L S i) * (31 : Int64)) + ((mdV I L S i).toInt64))), (0, .ref (ad 0)), (3, .int (nI i))] [.int (nI i), .ref (ad 0), .long ((((dgC I L S i) * (31 : Int64)) + ((mdV I L S i).toInt64)) * (31 : Int64))] rfl ?_
              refine g_callV X hSB hAf ((srcR hRO)) (hrc1 := (rfl : CL[4]? = some _)) (wc_mem (k := 0) (by decide)) rfl (As := [.int (nI i)]) (wr := []) (n := 1) (c_X5_data l D g ad I L S i (hS18) (by omega)) rfl (srcR hRO) hrdC w_448 w_445 w_446 w_447 w_1 (by decide +kernel) rfl ⟨Nat.le_of_ble_eq_true rfl, Nat.le_of_ble_eq_true rfl⟩ rfl rfl rfl (Nat.le_of_ble_eq_true rfl) ⟨Nat.le_of_ble_eq_true rfl, Nat.le_of_ble_eq_true rfl⟩ dX5_digest_104 (fun hu20 _ => ?_)
              refine g_af (ws' := []) (st' := [.long (dtO (oL (mwd I L S i))), .long ((((dgC I L S i) * (31 : Int64)) + ((mdV I L S i).toInt64)) * (31 : Int64))]) (cells' := 0) (slots' := 0) (pc' := 107) rfl rfl rfl rfl rfl ?_
              refine g_run X KX5_digest_107_35 KX5_digest_107_35_d 110 [(1, .long (((((dgC I L S i) * (31 : Int64)) + ((mdV I L S i).toInt64)) * (31 : Int64)) + (dtO (oL (mwd I L S i))))), (0, .ref (ad 0)), (3, .int (nI i))] [.long (((((dgC I L S i) * (31 : Int64)) + ((mdV I L S i).toInt64)) * (31 : Int64)) + (dtO (oL (mwd I L S i))))] rfl ?_
              refine g_ldc2 X (v := (31 : Int64)) w_319 dX5_digest_110 ?_
              refine g_run X KX5_digest_113_36 KX5_digest_113_36_d 116 [(1, .long (((((dgC I L S i) * (31 : Int64)) + ((mdV I L S i).toInt64)) * (31 : Int64)) + (dtO (oL (mwd I L S i))))), (0, .ref (ad 0)), (3, .int (nI i))] [.int (nI i), .ref (ad 0), .long ((((((dgC I L S i) * (31 : Int64)) + ((mdV I L S i).toInt64)) * (31 : Int64)) + (dtO (oL (mwd I L S i)))) * (31 : Int64))] rfl ?_
              refine g_callV X hSB hAf ((srcR hRO)) (hrc1 := (rfl : CL[4]? = some _)) (wc_mem (k := 0) (by decide)) rfl (As := [.int (nI i)]) (wr := []) (n := 1) (c_X5_spare l D g ad I L S i (hS18) (by omega)) rfl (srcR hRO) hrdC w_458 w_455 w_456 w_457 w_1 (by decide +kernel) rfl ⟨Nat.le_of_ble_eq_true rfl, Nat.le_of_ble_eq_true rfl⟩ rfl rfl rfl (Nat.le_of_ble_eq_true rfl) ⟨Nat.le_of_ble_eq_true rfl, Nat.le_of_ble_eq_true rfl⟩ dX5_digest_116 (fun hu21 _ => ?_)
              refine g_af (ws' := []) (st' := [.int (spV I L S i), .long ((((((dgC I L S i) * (31 : Int64)) + ((mdV I L S i).toInt64)) * (31 : Int64)) + (dtO (oL (mwd I L S i)))) * (31 : Int64))]) (cells' := 0) (slots' := 0) (pc' := 119) rfl rfl rfl rfl rfl ?_
              refine g_run X KX5_digest_119_37 KX5_digest_119_37_d 78 [(3, .int ((nI i) + (nI 1))), (1, .long (((((((dgC I L S i) * (31 : Int64)) + ((mdV I L S i).toInt64)) * (31 : Int64)) + (dtO (oL (mwd I L S i)))) * (31 : Int64)) + ((spV I L S i).toInt64))), (0, .ref (ad 0))] [] rfl ?_
              refine g_nm (lv' := [(3, .int (nI (i + 1))), (1, .long (((((((dgC I L S i) * (31 : Int64)) + ((mdV I L S i).toInt64)) * (31 : Int64)) + (dtO (oL (mwd I L S i)))) * (31 : Int64)) + ((spV I L S i).toInt64))), (0, .ref (ad 0))]) (st' := []) (by simp only [nI_add]) (by simp only [nI_add]) ?_
              refine g_lv (lv' := [(0, .ref (ad 0)), (1, .long (((((((dgC I L S i) * (31 : Int64)) + ((mdV I L S i).toInt64)) * (31 : Int64)) + (dtO (oL (mwd I L S i)))) * (31 : Int64)) + ((spV I L S i).toInt64))), (3, .int (nI (i + 1)))]) (lsub_c 2 rfl (lsub_c 1 rfl (lsub_c 0 rfl (lsub_n)))) ?_
              refine g_cs (ws' := []) (lv' := [(0, .ref (ad 0)), (1, .long (dgC I L S (i + 1))), (3, .int (nI (i + 1)))]) (rfl) (by rw [dgC_s]) ?_
              exact k78
        · rw [nI_leI (by omega) (by omega)] at hc2; first | omega | (simp at hc2)
      · intro ch hch k33
        refine g_run X KX5_digest_33_3 KX5_digest_33_3_d 36 [(0, .ref (ad 0)), (1, .long (dgB I L S ch)), (3, .int (nI ch))] [.int (nI 18), .int (nI ch)] rfl ?_
        refine g_icmp_ge X 76 dX5_digest_36 (by decide) (fun hc22 => ?_) (fun hc22 => ?_)
        · rw [nI_leI (by omega) (by omega)] at hc22; first | omega | (simp at hc22)
        · refine g_run X KX5_digest_39_38 KX5_digest_39_38_d 42 [(4, .int (nI 0)), (0, .ref (ad 0)), (1, .long (dgB I L S ch)), (3, .int (nI ch))] [] rfl ?_
          refine g_lv (lv' := [(0, .ref (ad 0)), (1, .long (dgB I L S ch)), (3, .int (nI ch)), (4, .int (nI 0))]) (lsub_c 1 rfl (lsub_c 2 rfl (lsub_c 3 rfl (lsub_c 0 rfl (lsub_n))))) ?_
          refine g_for 6 (fun _ => []) (fun i => [(0, .ref (ad 0)), (1, .long (dgB0 I L ch (dgB I L S ch) i)), (3, .int (nI ch)), (4, .int (nI i))]) (rfl) (by rw [dgB0_0]) ?_ ?_
          · refine g_run X KX5_digest_42_39 KX5_digest_42_39_d 46 [(0, .ref (ad 0)), (1, .long (dgB0 I L ch (dgB I L S ch) 6)), (3, .int (nI ch)), (4, .int (nI 6))] [.int (nI 6), .int (nI 6)] rfl ?_
            refine g_icmp_ge X 70 dX5_digest_46 (by decide) (fun hc23 => ?_) (fun hc23 => ?_)
            · refine g_run X KX5_digest_70_40 KX5_digest_70_40_d 33 [(3, .int ((nI ch) + (nI 1))), (0, .ref (ad 0)), (1, .long (dgB0 I L ch (dgB I L S ch) 6)), (4, .int (nI 6))] [] rfl ?_
              refine g_nm (lv' := [(3, .int (nI (ch + 1))), (0, .ref (ad 0)), (1, .long (dgB0 I L ch (dgB I L S ch) 6)), (4, .int (nI 6))]) (st' := []) (by simp only [nI_add]) (by simp only [nI_add]) ?_
              refine g_lv (lv' := [(0, .ref (ad 0)), (1, .long (dgB0 I L ch (dgB I L S ch) 6)), (3, .int (nI (ch + 1)))]) (lsub_c 1 rfl (lsub_c 2 rfl (lsub_c 0 rfl (lsub_n)))) ?_
              refine g_cs (ws' := []) (lv' := [(0, .ref (ad 0)), (1, .long (dgB I L S (ch + 1))), (3, .int (nI (ch + 1)))]) (rfl) (by rw [dgB_s]) ?_
              exact k33
            · rw [nI_leI (by omega) (by omega)] at hc23; first | omega | (simp at hc23)
          · intro i hi k42
            refine g_run X KX5_digest_42_39 KX5_digest_42_39_d 46 [(0, .ref (ad 0)), (1, .long (dgB0 I L ch (dgB I L S ch) i)), (3, .int (nI ch)), (4, .int (nI i))] [.int (nI 6), .int (nI i)] rfl ?_
            refine g_icmp_ge X 70 dX5_digest_46 (by decide) (fun hc24 => ?_) (fun hc24 => ?_)
            · rw [nI_leI (by omega) (by omega)] at hc24; first | omega | (simp at hc24)
            · refine g_run X KX5_digest_49_41 KX5_digest_49_41_d 50 [(0, .ref (ad 0)), (1, .long (dgB0 I L ch (dgB I L S ch) i)), (3, .int (nI ch)), (4, .int (nI i))] [.long (dgB0 I L ch (dgB I L S ch) i)] rfl ?_
              refine g_ldc2 X (v := (31 : Int64)) w_319 dX5_digest_50 ?_
              refine g_run X KX5_digest_53_42 KX5_digest_53_42_d 58 [(0, .ref (ad 0)), (1, .long (dgB0 I L ch (dgB I L S ch) i)), (3, .int (nI ch)), (4, .int (nI i))] [.int (nI i), .int (nI ch), .ref (ad 0), .long ((dgB0 I L ch (dgB I L S ch) i) * (31 : Int64))] rfl ?_
              refine g_callV X hSB hAf ((srcR hRO)) (hrc1 := (rfl : CL[4]? = some _)) (wc_mem (k := 0) (by decide)) rfl (As := [.int (nI ch), .int (nI i)]) (wr := []) (n := 2) (c_X5_ofChip l D g ad I L S ch i (by omega) (by omega)) rfl (srcR hRO) hrdC w_404 w_401 w_402 w_403 w_1 (by decide +kernel) rfl ⟨Nat.le_of_ble_eq_true rfl, Nat.le_of_ble_eq_true rfl⟩ rfl rfl rfl (Nat.le_of_ble_eq_true rfl) ⟨Nat.le_of_ble_eq_true rfl, Nat.le_of_ble_eq_true rfl⟩ dX5_digest_58 (fun hu25 _ => ?_)
              refine g_af (ws' := []) (st' := [.int (ocV I L ch i), .long ((dgB0 I L ch (dgB I L S ch) i) * (31 : Int64))]) (cells' := 0) (slots' := 0) (pc' := 61) rfl rfl rfl rfl rfl ?_
              refine g_run X KX5_digest_61_43 KX5_digest_61_43_d 42 [(4, .int ((nI i) + (nI 1))), (1, .long (((dgB0 I L ch (dgB I L S ch) i) * (31 : Int64)) + ((ocV I L ch i).toInt64))), (0, .ref (ad 0)), (3, .int (nI ch))] [] rfl ?_
              refine g_nm (lv' := [(4, .int (nI (i + 1))), (1, .long (((dgB0 I L ch (dgB I L S ch) i) * (31 : Int64)) + ((ocV I L ch i).toInt64))), (0, .ref (ad 0)), (3, .int (nI ch))]) (st' := []) (by simp only [nI_add]) (by simp only [nI_add]) ?_
              refine g_lv (lv' := [(0, .ref (ad 0)), (1, .long (((dgB0 I L ch (dgB I L S ch) i) * (31 : Int64)) + ((ocV I L ch i).toInt64))), (3, .int (nI ch)), (4, .int (nI (i + 1)))]) (lsub_c 2 rfl (lsub_c 1 rfl (lsub_c 3 rfl (lsub_c 0 rfl (lsub_n))))) ?_
              refine g_cs (ws' := []) (lv' := [(0, .ref (ad 0)), (1, .long (dgB0 I L ch (dgB I L S ch) (i + 1))), (3, .int (nI ch)), (4, .int (nI (i + 1)))]) (rfl) (by rw [dgB0_s]) ?_
              exact k42
    · rw [nI_leI (by omega) (by omega)] at hc1; first | omega | (simp at hc1)
  · intro i hi k6
    refine g_run X KX5_digest_6_1 KX5_digest_6_1_d 9 [(0, .ref (ad 0)), (1, .long (dgA I L S i)), (3, .int (nI i))] [.int (nI 13), .int (nI i)] rfl ?_
    refine g_icmp_ge X 31 dX5_digest_9 (by decide) (fun hc26 => ?_) (fun hc26 => ?_)
    · rw [nI_leI (by omega) (by omega)] at hc26; first | omega | (simp at hc26)
    · refine g_run X KX5_digest_12_44 KX5_digest_12_44_d 13 [(0, .ref (ad 0)), (1, .long (dgA I L S i)), (3, .int (nI i))] [.long (dgA I L S i)] rfl ?_
      refine g_ldc2 X (v := (31 : Int64)) w_319 dX5_digest_13 ?_
      refine g_run X KX5_digest_16_45 KX5_digest_16_45_d 19 [(0, .ref (ad 0)), (1, .long (dgA I L S i)), (3, .int (nI i))] [.int (nI i), .ref (ad 0), .long ((dgA I L S i) * (31 : Int64))] rfl ?_
      refine g_callV X hSB hAf ((srcR hRO)) (hrc1 := (rfl : CL[4]? = some _)) (wc_mem (k := 0) (by decide)) rfl (As := [.int (nI i)]) (wr := []) (n := 1) (c_X5_bank l D g ad I L S i (hS18) (by omega)) rfl (srcR hRO) hrdC w_323 w_320 w_321 w_322 w_1 (by decide +kernel) rfl ⟨Nat.le_of_ble_eq_true rfl, Nat.le_of_ble_eq_true rfl⟩ rfl rfl rfl (Nat.le_of_ble_eq_true rfl) ⟨Nat.le_of_ble_eq_true rfl, Nat.le_of_ble_eq_true rfl⟩ dX5_digest_19 (fun hu27 _ => ?_)
      refine g_af (ws' := []) (st' := [.int (bkV I L S i), .long ((dgA I L S i) * (31 : Int64))]) (cells' := 0) (slots' := 0) (pc' := 22) rfl rfl rfl rfl rfl ?_
      refine g_run X KX5_digest_22_46 KX5_digest_22_46_d 6 [(3, .int ((nI i) + (nI 1))), (1, .long (((dgA I L S i) * (31 : Int64)) + ((bkV I L S i).toInt64))), (0, .ref (ad 0))] [] rfl ?_
      refine g_nm (lv' := [(3, .int (nI (i + 1))), (1, .long (((dgA I L S i) * (31 : Int64)) + ((bkV I L S i).toInt64))), (0, .ref (ad 0))]) (st' := []) (by simp only [nI_add]) (by simp only [nI_add]) ?_
      refine g_lv (lv' := [(0, .ref (ad 0)), (1, .long (((dgA I L S i) * (31 : Int64)) + ((bkV I L S i).toInt64))), (3, .int (nI (i + 1)))]) (lsub_c 2 rfl (lsub_c 1 rfl (lsub_c 0 rfl (lsub_n)))) ?_
      refine g_cs (ws' := []) (lv' := [(0, .ref (ad 0)), (1, .long (dgA I L S (i + 1))), (3, .int (nI (i + 1)))]) (rfl) (by rw [dgA_s]) ?_
      exact k6

