/-! the classes of the worlds, the array classes; the class's functions on numbers -/
abbrev CL : List vw_C := [(RX0, TX0, 5), (RX1, TX1, 9), (RX3, TX3, 5), (RX4, TX4, 8), (RX5, TX5, 3), (RX6, TX6, 2), (RX7, TX7, 5), (RX8, TX8, 4), (RX9, TX9, 22), (RJx4a65c, TJx4a65c, 3), (RJ4, TJ4, 4), (RJ0, TJ0, 4)]
abbrev TYS (g : Nat → ClassId) : List (ClassId × FieldType) := [(g 0, .int), (g 1, .object "Chipfield$Chip"), (g 2, .object "Chipfield$Frame"), (g 3, .object "ChipfieldModel$Chip"), (g 4, .object "java/lang/Object"), (g 5, .long), (g 6, .byte)]
theorem nx_or (a b : Nat) : nI a ||| nI b = nI (a ||| b) := by
  apply Int32.toBitVec_inj.1
  show BitVec.ofNat 32 a ||| BitVec.ofNat 32 b = BitVec.ofNat 32 (a ||| b)
  apply BitVec.eq_of_getLsbD_eq
  intro i hi
  simp [hi]

def BX5_numberAt_0_0 : List (Nat × Instr × Nat) := [(0, .lload_n 0, 1), (1, .iconst 4, 1), (2, .iload_n 2, 1), (3, .imul, 1), (4, .lushr, 1), (5, .l2i, 1), (6, .bipush 15, 2), (8, .iand, 1)]
theorem BX5_numberAt_0_0_d : ∀ z ∈ BX5_numberAt_0_0, decode cX5_numberAt z.1 = .ok z.2 := by decide +kernel
set_option maxHeartbeats 4000000 in
set_option maxRecDepth 100000 in
theorem c_X5_numberAt (l : Launch) (D : va_G) (g : Nat → ClassId) (x : Int64) (q : Nat) (hq : q < 16) : CT l yX5_numberAt cX5_numberAt 3 ((Option.some FieldType.int)) ({ frames := 0, cells := 0, slots := 0, locals := 0 } : Room) [.long x, .int (nI q)] D CL (TYS g) [] [] (S := Unit) (fun _ => some (.int (nI (nib x q)))) (fun _ => []) (fun _ => True) 0 0 := by
  refine ct_of (by decide +kernel) (Nat.le_of_ble_eq_true rfl) ?_
  intro p e s m below meth c A X hr hnm hSB hRO hAf
  refine g_cs (ws' := []) (lv' := [(0, .long x), (2, .int (nI q))]) rfl rfl ?_
  refine g_run X BX5_numberAt_0_0 BX5_numberAt_0_0_d 9 [(0, .long x), (2, .int (nI q))] [.int ((((x.toUInt64 >>> (((nI 4) * (nI q)).toInt64.toUInt64 &&& Int64.toUInt64 63)).toInt64).toInt32) &&& (nI 15))] rfl ?_
  exact g_iret X hr () (by show some (Value.int _) = some (Value.int _); rw [pk_mul, nA_eq hq]) (trivial) ((List.append_nil _).symm) (Nat.le_of_ble_eq_true rfl) (Nat.le_of_ble_eq_true rfl) dX5_numberAt_9

def BX5_withNumber_0_0 : List (Nat × Instr × Nat) := [(0, .iconst 4, 1), (1, .iload_n 2, 1), (2, .imul, 1), (3, .istore 4, 2), (5, .lload_n 0, 1)]
theorem BX5_withNumber_0_0_d : ∀ z ∈ BX5_withNumber_0_0, decode cX5_withNumber z.1 = .ok z.2 := by decide +kernel
def BX5_withNumber_9_1 : List (Nat × Instr × Nat) := [(9, .iload 4, 2), (11, .lshl, 1)]
theorem BX5_withNumber_9_1_d : ∀ z ∈ BX5_withNumber_9_1, decode cX5_withNumber z.1 = .ok z.2 := by decide +kernel
def BX5_withNumber_15_2 : List (Nat × Instr × Nat) := [(15, .lxor, 1), (16, .land, 1), (17, .iload_n 3, 1), (18, .bipush 15, 2), (20, .iand, 1), (21, .i2l, 1), (22, .iload 4, 2), (24, .lshl, 1), (25, .lor, 1)]
theorem BX5_withNumber_15_2_d : ∀ z ∈ BX5_withNumber_15_2, decode cX5_withNumber z.1 = .ok z.2 := by decide +kernel
set_option maxHeartbeats 4000000 in
set_option maxRecDepth 100000 in
theorem c_X5_withNumber (l : Launch) (D : va_G) (g : Nat → ClassId) (x : Int64) (q : Nat) (v : Nat) (hq : q < 16) : CT l yX5_withNumber cX5_withNumber 5 ((Option.some FieldType.long)) ({ frames := 0, cells := 0, slots := 0, locals := 0 } : Room) [.long x, .int (nI q), .int (nI v)] D CL (TYS g) [] [] (S := Unit) (fun _ => some (.long (wn x q v))) (fun _ => []) (fun _ => True) 0 0 := by
  refine ct_of (by decide +kernel) (Nat.le_of_ble_eq_true rfl) ?_
  intro p e s m below meth c A X hr hnm hSB hRO hAf
  refine g_cs (ws' := []) (lv' := [(0, .long x), (2, .int (nI q)), (3, .int (nI v))]) rfl rfl ?_
  refine g_run X BX5_withNumber_0_0 BX5_withNumber_0_0_d 6 [(4, .int ((nI 4) * (nI q))), (0, .long x), (2, .int (nI q)), (3, .int (nI v))] [.long x] rfl ?_
  refine g_nm (lv' := [(4, .int (nI (4 * q))), (0, .long x), (2, .int (nI q)), (3, .int (nI v))]) (st' := [.long x]) (by simp only [pk_mul]) (by simp only [pk_mul]) ?_
  refine g_ldc2 X (v := (15 : Int64)) w_223 dX5_withNumber_6 ?_
  refine g_run X BX5_withNumber_9_1 BX5_withNumber_9_1_d 12 [(4, .int (nI (4 * q))), (0, .long x), (2, .int (nI q)), (3, .int (nI v))] [.long ((15 : Int64) <<< ((nI (4 * q)).toInt64 &&& 63)), .long x] rfl ?_
  refine g_ldc2 X (v := (-1 : Int64)) w_224 dX5_withNumber_12 ?_
  refine g_run X BX5_withNumber_15_2 BX5_withNumber_15_2_d 26 [(4, .int (nI (4 * q))), (0, .long x), (2, .int (nI q)), (3, .int (nI v))] [.long ((x &&& (((15 : Int64) <<< ((nI (4 * q)).toInt64 &&& 63)) ^^^ (-1 : Int64))) ||| ((((nI v) &&& (nI 15)).toInt64) <<< ((nI (4 * q)).toInt64 &&& 63)))] rfl ?_
  exact g_lret X hr () (by show some (Value.long _) = some (Value.long _); rfl) (trivial) ((List.append_nil _).symm) (Nat.le_of_ble_eq_true rfl) (Nat.le_of_ble_eq_true rfl) dX5_withNumber_26

