
/-- data of a word, its first i numbers from the last on -/
def dn (X i : Nat) : Nat := X / 16 ^ (15 - i) % 16 ^ i
theorem dn_s {X i : Nat} (h : i < 15) : 16 * dn X i + X / 16 ^ (14 - i) % 16 = dn X (i + 1) := by
  unfold dn
  rw [show 15 - (i + 1) = 14 - i by omega, Nat.pow_succ, Nat.mul_comm (16 ^ i) 16, Nat.mod_mul, Nat.div_div_eq_div_mul, ← Nat.pow_succ, show (14 - i).succ = 15 - i by omega, Nat.add_comm]
theorem x_lN (x : Int64) : x = lN x.toBitVec.toNat := by
  apply Int64.toBitVec_inj.mp
  rw [lN_bv]
  simp
theorem x_60 {x : Int64} (h : nib x 15 = 0) : x.toBitVec.toNat < 16 ^ 15 := by
  unfold nib at h
  have h1 : x.toBitVec.toNat < 16 ^ 16 := x.toBitVec.isLt
  have h2 : x.toBitVec.toNat / 16 ^ 15 < 16 := Nat.div_lt_of_lt_mul h1
  rw [Nat.mod_eq_of_lt h2] at h
  exact (Nat.div_eq_zero_iff.mp h).resolve_left (by decide)
/-- data of a word -/
def dtW (x : Int64) : Int64 := (x.toUInt64 >>> ((nI 16).toInt64.toUInt64 &&& Int64.toUInt64 63)).toInt64
theorem dn_f {x : Int64} (h : nib x 15 = 0) : lN (dn x.toBitVec.toNat 11) = dtW x := by
  have h1 := wb_shr (n := x.toBitVec.toNat) (k := 16) x.toBitVec.isLt (by decide)
  rw [← x_lN] at h1
  unfold dtW
  rw [h1]
  unfold dn
  have h2 := x_60 h
  rw [Nat.mod_eq_of_lt (Nat.div_lt_of_lt_mul (by rw [← Nat.pow_add]; exact h2))]
theorem dn_step {x : Int64} {i : Nat} (h : i < 11) : (16 : Int64) * lN (dn x.toBitVec.toNat i) + (nI (nib x (14 - i))).toInt64 = lN (dn x.toBitVec.toNat (i + 1)) := by
  rw [nI_l (by have := nib_lt x (14 - i); omega), show (16 : Int64) = lN 16 from rfl, lN_mul, lN_add, ← dn_s (by omega)]
  rfl

def KX9_dataOf_0_0 : List (Nat × Instr × Nat) := [(0, .lconst 0, 1), (1, .lstore_n 1, 1), (2, .bipush 14, 2), (4, .istore_n 3, 1)]
theorem KX9_dataOf_0_0_d : ∀ z ∈ KX9_dataOf_0_0, decode cX9_dataOf z.1 = .ok z.2 := by decide +kernel
def KX9_dataOf_5_1 : List (Nat × Instr × Nat) := [(5, .iload_n 3, 1), (6, .iconst 4, 1)]
theorem KX9_dataOf_5_1_d : ∀ z ∈ KX9_dataOf_5_1, decode cX9_dataOf z.1 = .ok z.2 := by decide +kernel
def KX9_dataOf_27_2 : List (Nat × Instr × Nat) := [(27, .lload_n 1, 1)]
theorem KX9_dataOf_27_2_d : ∀ z ∈ KX9_dataOf_27_2, decode cX9_dataOf z.1 = .ok z.2 := by decide +kernel
def KX9_dataOf_13_3 : List (Nat × Instr × Nat) := [(13, .lload_n 1, 1), (14, .lmul, 1), (15, .aload_n 0, 1), (16, .iload_n 3, 1)]
theorem KX9_dataOf_13_3_d : ∀ z ∈ KX9_dataOf_13_3, decode cX9_dataOf z.1 = .ok z.2 := by decide +kernel
def KX9_dataOf_18_4 : List (Nat × Instr × Nat) := [(18, .i2l, 1), (19, .ladd, 1), (20, .lstore_n 1, 1), (21, .iinc 3 (-1), 3), (24, .goto (-19), 3)]
theorem KX9_dataOf_18_4_d : ∀ z ∈ KX9_dataOf_18_4, decode cX9_dataOf z.1 = .ok z.2 := by decide +kernel
set_option maxHeartbeats 4000000 in
set_option maxRecDepth 100000 in
theorem c_X9_dataOf (l : Launch) (D : va_G) (g : Nat → ClassId) (wa : Nat) (x : Int64) (hx : nib x 15 = 0) : CT l yX9_dataOf cX9_dataOf 4 ((Option.some FieldType.long)) ({ frames := 0, cells := 0, slots := 0, locals := 0 } : Room) [.ref wa] D CL (TYS g) ([(wa, Sum.inl (g 0, 15, .inl (wA x)))]) ([]) (S := Unit) (fun _ => some (.long (dtW x))) (fun _ => []) (fun _ => True) 0 0 := by
  refine ct_of (by decide +kernel) (Nat.le_of_ble_eq_true rfl) ?_
  intro p e s m below meth c A X hr hnm hSB hRO hAf
  refine g_cs (ws' := []) (lv' := [(0, .ref wa)]) rfl rfl ?_
  refine g_run X KX9_dataOf_0_0 KX9_dataOf_0_0_d 5 [(3, .int (nI 14)), (1, .long (lN 0)), (0, .ref wa)] [] rfl ?_
  refine g_lv (lv' := [(0, .ref wa), (1, .long (lN 0)), (3, .int (nI 14))]) (lsub_c 2 rfl (lsub_c 1 rfl (lsub_c 0 rfl (lsub_n)))) ?_
  refine g_for 11 (fun _ => []) (fun i => [(0, .ref wa), (1, .long (lN (dn x.toBitVec.toNat i))), (3, .int (nI (14 - i)))]) (rfl) (by rw [show dn x.toBitVec.toNat 0 = 0 from Nat.mod_one _]) ?_ ?_
  · refine g_run X KX9_dataOf_5_1 KX9_dataOf_5_1_d 7 [(0, .ref wa), (1, .long (lN (dn x.toBitVec.toNat 11))), (3, .int (nI (14 - 11)))] [.int (nI 4), .int (nI (14 - 11))] rfl ?_
    refine g_icmp_lt X 27 dX9_dataOf_7 (by decide) (fun hc1 => ?_) (fun hc1 => ?_)
    · refine g_run X KX9_dataOf_27_2 KX9_dataOf_27_2_d 28 [(0, .ref wa), (1, .long (lN (dn x.toBitVec.toNat 11))), (3, .int (nI (14 - 11)))] [.long (lN (dn x.toBitVec.toNat 11))] rfl ?_
      exact g_lret X hr () (by show some (Value.long _) = some (Value.long _); rw [dn_f hx]) (trivial) ((List.append_nil _).symm) (Nat.le_of_ble_eq_true rfl) (Nat.le_of_ble_eq_true rfl) dX9_dataOf_28
    · rw [nI_ltI (by omega) (by omega)] at hc1; first | omega | (simp at hc1)
  · intro i hi k5
    refine g_run X KX9_dataOf_5_1 KX9_dataOf_5_1_d 7 [(0, .ref wa), (1, .long (lN (dn x.toBitVec.toNat i))), (3, .int (nI (14 - i)))] [.int (nI 4), .int (nI (14 - i))] rfl ?_
    refine g_icmp_lt X 27 dX9_dataOf_7 (by decide) (fun hc2 => ?_) (fun hc2 => ?_)
    · rw [nI_ltI (by omega) (by omega)] at hc2; first | omega | (simp at hc2)
    · refine g_ldc2 X (v := (16 : Int64)) w_1281 dX9_dataOf_10 ?_
      refine g_run X KX9_dataOf_13_3 KX9_dataOf_13_3_d 17 [(0, .ref wa), (1, .long (lN (dn x.toBitVec.toNat i))), (3, .int (nI (14 - i)))] [.int (nI (14 - i)), .ref wa, .long ((16 : Int64) * (lN (dn x.toBitVec.toNat i)))] rfl ?_
      refine g_iald X (srcR hRO) (v := nI (nib x (14 - i))) 0 rfl (List.mem_cons_self ..) (14 - i) rfl (by omega) (by decide) (rfl) dX9_dataOf_17 ?_
      refine g_run X KX9_dataOf_18_4 KX9_dataOf_18_4_d 5 [(3, .int ((nI (14 - i)) + (-nI 1))), (1, .long (((16 : Int64) * (lN (dn x.toBitVec.toNat i))) + ((nI (nib x (14 - i))).toInt64))), (0, .ref wa)] [] rfl ?_
      refine g_lv (lv' := [(0, .ref wa), (1, .long (((16 : Int64) * (lN (dn x.toBitVec.toNat i))) + ((nI (nib x (14 - i))).toInt64))), (3, .int ((nI (14 - i)) + (-nI 1)))]) (lsub_c 2 rfl (lsub_c 1 rfl (lsub_c 0 rfl (lsub_n)))) ?_
      refine g_cs (ws' := []) (lv' := [(0, .ref wa), (1, .long (lN (dn x.toBitVec.toNat (i + 1)))), (3, .int (nI (14 - (i + 1))))]) (rfl) (by rw [m1s (by omega), dn_step (by omega)]; rfl) ?_
      exact k5

