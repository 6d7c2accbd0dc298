/-! the classes of the worlds, the array classes; the class's functions on numbers -/
abbrev CL : List vw_C := [(RX0, TX0, 5), (RX1, TX1, 9), (RX3, TX3, 5), (RX4, TX4, 8), (RX5, TX5, 3), (RX6, TX6, 2), (RX7, TX7, 5), (RX8, TX8, 4), (RX9, TX9, 22), (RJx4a65c, TJx4a65c, 3), (RJ4, TJ4, 4), (RJ0, TJ0, 4)]
abbrev TYS (g : Nat → ClassId) : List (ClassId × FieldType) := [(g 0, .int), (g 1, .object "Chipfield$Chip"), (g 2, .object "Chipfield$Frame"), (g 3, .object "ChipfieldModel$Chip"), (g 4, .object "java/lang/Object"), (g 5, .long), (g 6, .byte)]
theorem oI_none {o : Option Nat} (h : ∀ k, o = some k → k < 2 ^ 31) : oI o = -nI 1 ↔ o = none := by
  cases o with
  | none => exact ⟨fun _ => rfl, fun _ => rfl⟩
  | some k =>
    refine ⟨fun q => ?_, fun q => by cases q⟩
    have h1 := nI_toInt (h k rfl)
    have h2 : (nI k) = -nI 1 := q
    rw [h2] at h1
    have h3 : (-nI 1).toInt = -1 := by decide
    omega
theorem m1_ne {k : Nat} (h : k < 2 ^ 31) : ¬ nI k = -nI 1 := fun q => by
  have := (oI_none (o := some k) (fun j e => by cases e; exact h)).mp q
  cases this

def KX5_numberAt_0_0 : List (Nat × Instr × Nat) := [(0, .lload_n 0, 1), (1, .iconst 4, 1), (2, .iload_n 2, 1), (3, .imul, 1), (4, .lushr, 1), (5, .l2i, 1), (6, .bipush 15, 2), (8, .iand, 1)]
theorem KX5_numberAt_0_0_d : ∀ z ∈ KX5_numberAt_0_0, decode cX5_numberAt z.1 = .ok z.2 := by decide +kernel
set_option maxHeartbeats 4000000 in
set_option maxRecDepth 100000 in
theorem c_X5_numberAt (l : Launch) (D : va_G) (g : Nat → ClassId) (x : Int64) (q : Nat) (hq : q < 16) : CT l yX5_numberAt cX5_numberAt 3 ((Option.some FieldType.int)) ({ frames := 0, cells := 0, slots := 0, locals := 0 } : Room) [.long x, .int (nI q)] D CL (TYS g) [] [] (S := Unit) (fun _ => some (.int (nI (nib x q)))) (fun _ => []) (fun _ => True) 0 0 := by
  refine ct_of (by decide +kernel) (Nat.le_of_ble_eq_true rfl) ?_
  intro p e s m below meth c A X hr hnm hSB hRO hAf
  refine g_cs (ws' := []) (lv' := [(0, .long x), (2, .int (nI q))]) rfl rfl ?_
  refine g_run X KX5_numberAt_0_0 KX5_numberAt_0_0_d 9 [(0, .long x), (2, .int (nI q))] [.int ((((x.toUInt64 >>> (((nI 4) * (nI q)).toInt64.toUInt64 &&& Int64.toUInt64 63)).toInt64).toInt32) &&& (nI 15))] rfl ?_
  exact g_iret X hr () (by show some (Value.int _) = some (Value.int _); rw [pk_mul, nA_eq hq]) (trivial) ((List.append_nil _).symm) (Nat.le_of_ble_eq_true rfl) (Nat.le_of_ble_eq_true rfl) dX5_numberAt_9

def KX5_withNumber_0_0 : List (Nat × Instr × Nat) := [(0, .iconst 4, 1), (1, .iload_n 2, 1), (2, .imul, 1), (3, .istore 4, 2), (5, .lload_n 0, 1)]
theorem KX5_withNumber_0_0_d : ∀ z ∈ KX5_withNumber_0_0, decode cX5_withNumber z.1 = .ok z.2 := by decide +kernel
def KX5_withNumber_9_1 : List (Nat × Instr × Nat) := [(9, .iload 4, 2), (11, .lshl, 1)]
theorem KX5_withNumber_9_1_d : ∀ z ∈ KX5_withNumber_9_1, decode cX5_withNumber z.1 = .ok z.2 := by decide +kernel
def KX5_withNumber_15_2 : List (Nat × Instr × Nat) := [(15, .lxor, 1), (16, .land, 1), (17, .iload_n 3, 1), (18, .bipush 15, 2), (20, .iand, 1), (21, .i2l, 1), (22, .iload 4, 2), (24, .lshl, 1), (25, .lor, 1)]
theorem KX5_withNumber_15_2_d : ∀ z ∈ KX5_withNumber_15_2, decode cX5_withNumber z.1 = .ok z.2 := by decide +kernel
set_option maxHeartbeats 4000000 in
set_option maxRecDepth 100000 in
theorem c_X5_withNumber (l : Launch) (D : va_G) (g : Nat → ClassId) (x : Int64) (q : Nat) (v : Nat) (hq : q < 16) : CT l yX5_withNumber cX5_withNumber 5 ((Option.some FieldType.long)) ({ frames := 0, cells := 0, slots := 0, locals := 0 } : Room) [.long x, .int (nI q), .int (nI v)] D CL (TYS g) [] [] (S := Unit) (fun _ => some (.long (wn x q v))) (fun _ => []) (fun _ => True) 0 0 := by
  refine ct_of (by decide +kernel) (Nat.le_of_ble_eq_true rfl) ?_
  intro p e s m below meth c A X hr hnm hSB hRO hAf
  refine g_cs (ws' := []) (lv' := [(0, .long x), (2, .int (nI q)), (3, .int (nI v))]) rfl rfl ?_
  refine g_run X KX5_withNumber_0_0 KX5_withNumber_0_0_d 6 [(4, .int ((nI 4) * (nI q))), (0, .long x), (2, .int (nI q)), (3, .int (nI v))] [.long x] rfl ?_
  refine g_nm (lv' := [(4, .int (nI (4 * q))), (0, .long x), (2, .int (nI q)), (3, .int (nI v))]) (st' := [.long x]) (by simp only [pk_mul]) (by simp only [pk_mul]) ?_
  refine g_ldc2 X (v := (15 : Int64)) w_223 dX5_withNumber_6 ?_
  refine g_run X KX5_withNumber_9_1 KX5_withNumber_9_1_d 12 [(4, .int (nI (4 * q))), (0, .long x), (2, .int (nI q)), (3, .int (nI v))] [.long ((15 : Int64) <<< ((nI (4 * q)).toInt64 &&& 63)), .long x] rfl ?_
  refine g_ldc2 X (v := (-1 : Int64)) w_224 dX5_withNumber_12 ?_
  refine g_run X KX5_withNumber_15_2 KX5_withNumber_15_2_d 26 [(4, .int (nI (4 * q))), (0, .long x), (2, .int (nI q)), (3, .int (nI v))] [.long ((x &&& (((15 : Int64) <<< ((nI (4 * q)).toInt64 &&& 63)) ^^^ (-1 : Int64))) ||| ((((nI v) &&& (nI 15)).toInt64) <<< ((nI (4 * q)).toInt64 &&& 63)))] rfl ?_
  exact g_lret X hr () (rfl) (trivial) ((List.append_nil _).symm) (Nat.le_of_ble_eq_true rfl) (Nat.le_of_ble_eq_true rfl) dX5_withNumber_26

def KX5_isIn_0_0 : List (Nat × Instr × Nat) := [(0, .iload_n 0, 1), (1, .iload_n 1, 1), (2, .ishr, 1), (3, .iconst 1, 1), (4, .iand, 1)]
theorem KX5_isIn_0_0_d : ∀ z ∈ KX5_isIn_0_0, decode cX5_isIn z.1 = .ok z.2 := by decide +kernel
def KX5_isIn_12_1 : List (Nat × Instr × Nat) := [(12, .iconst 0, 1)]
theorem KX5_isIn_12_1_d : ∀ z ∈ KX5_isIn_12_1, decode cX5_isIn z.1 = .ok z.2 := by decide +kernel
def KX5_isIn_8_2 : List (Nat × Instr × Nat) := [(8, .iconst 1, 1), (9, .goto 4, 3)]
theorem KX5_isIn_8_2_d : ∀ z ∈ KX5_isIn_8_2, decode cX5_isIn z.1 = .ok z.2 := by decide +kernel
set_option maxHeartbeats 4000000 in
set_option maxRecDepth 100000 in
theorem c_X5_isIn (l : Launch) (D : va_G) (g : Nat → ClassId) (b : Nat) (q : Nat) (hb : b < 2 ^ 31) (hq : q < 31) : CT l yX5_isIn cX5_isIn 2 ((Option.some FieldType.boolean)) ({ frames := 0, cells := 0, slots := 0, locals := 0 } : Room) [.int (nI b), .int (nI q)] D CL (TYS g) [] [] (S := Unit) (fun _ => some (.int (nI (bN (b.testBit q))))) (fun _ => []) (fun _ => True) 0 0 := by
  refine ct_of (by decide +kernel) (Nat.le_of_ble_eq_true rfl) ?_
  intro p e s m below meth c A X hr hnm hSB hRO hAf
  refine g_cs (ws' := []) (lv' := [(0, .int (nI b)), (1, .int (nI q))]) rfl rfl ?_
  refine g_run X KX5_isIn_0_0 KX5_isIn_0_0_d 5 [(0, .int (nI b)), (1, .int (nI q))] [.int (((nI b) >>> ((nI q) &&& 31)) &&& (nI 1))] rfl ?_
  refine g_if_eq X 12 dX5_isIn_5 (by decide) (fun hc1 => ?_) (fun hc1 => ?_)
  · rw [in_eq hb hq, bN_eq0] at hc1
    refine g_run X KX5_isIn_12_1 KX5_isIn_12_1_d 13 [(0, .int (nI b)), (1, .int (nI q))] [.int (nI 0)] rfl ?_
    exact g_zret X hr (by decide +kernel) () (by show some (Value.int _) = some (Value.int _); simp [bN, *]) (trivial) ((List.append_nil _).symm) (Nat.le_of_ble_eq_true rfl) (Nat.le_of_ble_eq_true rfl) dX5_isIn_13
  · rw [in_eq hb hq, bN_eq0] at hc1
    refine g_run X KX5_isIn_8_2 KX5_isIn_8_2_d 13 [(0, .int (nI b)), (1, .int (nI q))] [.int (nI 1)] rfl ?_
    exact g_zret X hr (by decide +kernel) () (by show some (Value.int _) = some (Value.int _); simp [bN, *]) (trivial) ((List.append_nil _).symm) (Nat.le_of_ble_eq_true rfl) (Nat.le_of_ble_eq_true rfl) dX5_isIn_13

def KX2_timesPower_0_0 : List (Nat × Instr × Nat) := [(0, .iload_n 0, 1), (1, .iconst 1, 1)]
theorem KX2_timesPower_0_0_d : ∀ z ∈ KX2_timesPower_0_0, decode cX2_timesPower z.1 = .ok z.2 := by decide +kernel
def KX2_timesPower_15_1 : List (Nat × Instr × Nat) := [(15, .iconst 0, 1)]
theorem KX2_timesPower_15_1_d : ∀ z ∈ KX2_timesPower_15_1, decode cX2_timesPower z.1 = .ok z.2 := by decide +kernel
def KX2_timesPower_5_2 : List (Nat × Instr × Nat) := [(5, .iload_n 0, 1), (6, .bipush 15, 2)]
theorem KX2_timesPower_5_2_d : ∀ z ∈ KX2_timesPower_5_2, decode cX2_timesPower z.1 = .ok z.2 := by decide +kernel
def KX2_timesPower_11_3 : List (Nat × Instr × Nat) := [(11, .iload_n 1, 1)]
theorem KX2_timesPower_11_3_d : ∀ z ∈ KX2_timesPower_11_3, decode cX2_timesPower z.1 = .ok z.2 := by decide +kernel
def KX2_timesPower_23_4 : List (Nat × Instr × Nat) := [(23, .iload_n 0, 1)]
theorem KX2_timesPower_23_4_d : ∀ z ∈ KX2_timesPower_23_4, decode cX2_timesPower z.1 = .ok z.2 := by decide +kernel
def KX2_timesPower_25_5 : List (Nat × Instr × Nat) := [(25, .iload_n 1, 1), (26, .bipush 15, 2)]
theorem KX2_timesPower_25_5_d : ∀ z ∈ KX2_timesPower_25_5, decode cX2_timesPower z.1 = .ok z.2 := by decide +kernel
def KX2_timesPower_29_6 : List (Nat × Instr × Nat) := [(29, .iadd, 1), (30, .bipush 15, 2)]
theorem KX2_timesPower_29_6_d : ∀ z ∈ KX2_timesPower_29_6, decode cX2_timesPower z.1 = .ok z.2 := by decide +kernel
set_option maxHeartbeats 4000000 in
set_option maxRecDepth 100000 in
theorem c_X2_timesPower (l : Launch) (D : va_G) (g : Nat → ClassId) (a : Nat) (n : Nat) (ha : a < 16) (hn : n < 2 ^ 31) : CT l yX2_timesPower cX2_timesPower 2 ((Option.some FieldType.int)) ({ frames := 0, cells := 0, slots := 0, locals := 0 } : Room) [.int (nI a), .int (nI n)] D CL (TYS g) [] [] (S := Unit) (fun _ => some (.int (nI (tp a n)))) (fun _ => []) (fun _ => True) 0 0 := by
  refine ct_of (by decide +kernel) (Nat.le_of_ble_eq_true rfl) ?_
  intro p e s m below meth c A X hr hnm hSB hRO hAf
  refine g_cs (ws' := []) (lv' := [(0, .int (nI a)), (1, .int (nI n))]) rfl rfl ?_
  obtain ⟨tP, hZP, hTP⟩ := hSB.2.1
  obtain ⟨tE, hZE, hTE⟩ := hSB.2.2.1
  refine g_run X KX2_timesPower_0_0 KX2_timesPower_0_0_d 2 [(0, .int (nI a)), (1, .int (nI n))] [.int (nI 1), .int (nI a)] rfl ?_
  refine g_icmp_lt X 15 dX2_timesPower_2 (by decide) (fun hc1 => ?_) (fun hc1 => ?_)
  · rw [nI_ltI (by omega) (by omega)] at hc1
    refine g_run X KX2_timesPower_15_1 KX2_timesPower_15_1_d 16 [(0, .int (nI a)), (1, .int (nI n))] [.int (nI 0)] rfl ?_
    exact g_iret X hr () (by show some (Value.int _) = some (Value.int _); rw [tp, if_pos (by omega)]) (trivial) ((List.append_nil _).symm) (Nat.le_of_ble_eq_true rfl) (Nat.le_of_ble_eq_true rfl) dX2_timesPower_16
  · rw [nI_ltI (by omega) (by omega)] at hc1
    refine g_run X KX2_timesPower_5_2 KX2_timesPower_5_2_d 8 [(0, .int (nI a)), (1, .int (nI n))] [.int (nI 15), .int (nI a)] rfl ?_
    refine g_icmp_gt X 15 dX2_timesPower_8 (by decide) (fun hc2 => ?_) (fun hc2 => ?_)
    · rw [nI_ltI (by omega) (by omega)] at hc2; first | omega | (simp at hc2)
    · refine g_run X KX2_timesPower_11_3 KX2_timesPower_11_3_d 12 [(0, .int (nI a)), (1, .int (nI n))] [.int (nI n)] rfl ?_
      refine g_if_ge X 17 dX2_timesPower_12 (by decide) (fun hc3 => ?_) (fun hc3 => ?_)
      · have hex := ex_lt a ha
        refine g_gets X hZP w_271 dX2_timesPower_17 ?_
        refine g_gets X hZE w_273 dX2_timesPower_20 ?_
        refine g_run X KX2_timesPower_23_4 KX2_timesPower_23_4_d 24 [(0, .int (nI a)), (1, .int (nI n))] [.int (nI a), .ref tE, .ref tP] rfl ?_
        refine g_ti X hTE (v := .int (nI (ex a))) a rfl (by omega) (by decide) rfl dX2_timesPower_24 ?_
        refine g_run X KX2_timesPower_25_5 KX2_timesPower_25_5_d 28 [(0, .int (nI a)), (1, .int (nI n))] [.int (nI 15), .int (nI n), .int (nI (ex a)), .ref tP] rfl ?_
        refine g_irem X (v := nI (n % 15)) (nI_ne0 (by decide) (by decide)) (pk_rem (by omega) (by omega) (by decide)) dX2_timesPower_28 ?_
        refine g_run X KX2_timesPower_29_6 KX2_timesPower_29_6_d 32 [(0, .int (nI a)), (1, .int (nI n))] [.int (nI 15), .int ((nI (ex a)) + (nI (n % 15))), .ref tP] rfl ?_
        refine g_nm (lv' := [(0, .int (nI a)), (1, .int (nI n))]) (st' := [.int (nI 15), .int (nI ((ex a) + (n % 15))), .ref tP]) (by simp only [nI_add]) (by simp only [nI_add]) ?_
        refine g_irem X (v := nI (((ex a) + (n % 15)) % 15)) (nI_ne0 (by decide) (by decide)) (pk_rem (by omega) (by omega) (by decide)) dX2_timesPower_32 ?_
        refine g_ti X hTP (v := .int (nI (pw (((ex a) + (n % 15)) % 15)))) (((ex a) + (n % 15)) % 15) rfl (by omega) (by decide) rfl dX2_timesPower_33 ?_
        exact g_iret X hr () (by show some (Value.int _) = some (Value.int _); rw [tp, if_neg (by omega)]) (trivial) ((List.append_nil _).symm) (Nat.le_of_ble_eq_true rfl) (Nat.le_of_ble_eq_true rfl) dX2_timesPower_34
      · rw [nz_ge (by omega)] at hc3; first | omega | (simp at hc3)

def KX2_product_0_0 : List (Nat × Instr × Nat) := [(0, .iload_n 1, 1), (1, .iconst 1, 1)]
theorem KX2_product_0_0_d : ∀ z ∈ KX2_product_0_0, decode cX2_product z.1 = .ok z.2 := by decide +kernel
def KX2_product_11_1 : List (Nat × Instr × Nat) := [(11, .iconst 0, 1)]
theorem KX2_product_11_1_d : ∀ z ∈ KX2_product_11_1, decode cX2_product z.1 = .ok z.2 := by decide +kernel
def KX2_product_5_2 : List (Nat × Instr × Nat) := [(5, .iload_n 1, 1), (6, .bipush 15, 2)]
theorem KX2_product_5_2_d : ∀ z ∈ KX2_product_5_2, decode cX2_product z.1 = .ok z.2 := by decide +kernel
def KX2_product_13_3 : List (Nat × Instr × Nat) := [(13, .iload_n 0, 1)]
theorem KX2_product_13_3_d : ∀ z ∈ KX2_product_13_3, decode cX2_product z.1 = .ok z.2 := by decide +kernel
def KX2_product_17_4 : List (Nat × Instr × Nat) := [(17, .iload_n 1, 1)]
theorem KX2_product_17_4_d : ∀ z ∈ KX2_product_17_4, decode cX2_product z.1 = .ok z.2 := by decide +kernel
set_option maxHeartbeats 4000000 in
set_option maxRecDepth 100000 in
theorem c_X2_product (l : Launch) (D : va_G) (g : Nat → ClassId) (a : Nat) (b : Nat) (ha : a < 16) (hb : b < 16) : CT l yX2_product cX2_product 2 ((Option.some FieldType.int)) ({ frames := 1, cells := 0, slots := 0, locals := 21 } : Room) [.int (nI a), .int (nI b)] D CL (TYS g) [] [] (S := Unit) (fun _ => some (.int (nI (gm a b)))) (fun _ => []) (fun _ => True) 0 0 := by
  refine ct_of (by decide +kernel) (Nat.le_of_ble_eq_true rfl) ?_
  intro p e s m below meth c A X hr hnm hSB hRO hAf
  refine g_cs (ws' := []) (lv' := [(0, .int (nI a)), (1, .int (nI b))]) rfl rfl ?_
  obtain ⟨tE, hZE, hTE⟩ := hSB.2.2.1
  refine g_run X KX2_product_0_0 KX2_product_0_0_d 2 [(0, .int (nI a)), (1, .int (nI b))] [.int (nI 1), .int (nI b)] rfl ?_
  refine g_icmp_lt X 11 dX2_product_2 (by decide) (fun hc1 => ?_) (fun hc1 => ?_)
  · rw [nI_ltI (by omega) (by omega)] at hc1
    refine g_run X KX2_product_11_1 KX2_product_11_1_d 12 [(0, .int (nI a)), (1, .int (nI b))] [.int (nI 0)] rfl ?_
    exact g_iret X hr () (by show some (Value.int _) = some (Value.int _); rw [gm, if_pos (by omega)]) (trivial) ((List.append_nil _).symm) (Nat.le_of_ble_eq_true rfl) (Nat.le_of_ble_eq_true rfl) dX2_product_12
  · rw [nI_ltI (by omega) (by omega)] at hc1
    refine g_run X KX2_product_5_2 KX2_product_5_2_d 8 [(0, .int (nI a)), (1, .int (nI b))] [.int (nI 15), .int (nI b)] rfl ?_
    refine g_icmp_le X 13 dX2_product_8 (by decide) (fun hc2 => ?_) (fun hc2 => ?_)
    · refine g_run X KX2_product_13_3 KX2_product_13_3_d 14 [(0, .int (nI a)), (1, .int (nI b))] [.int (nI a)] rfl ?_
      refine g_gets X hZE w_273 dX2_product_14 ?_
      refine g_run X KX2_product_17_4 KX2_product_17_4_d 18 [(0, .int (nI a)), (1, .int (nI b))] [.int (nI b), .ref tE, .int (nI a)] rfl ?_
      refine g_ti X hTE (v := .int (nI (ex b))) b rfl (by omega) (by decide) rfl dX2_product_18 ?_
      refine g_callS X hSB hAf (As := [.int (nI a), .int (nI (ex b))]) (wr := []) (n := 2) (c_X2_timesPower l D g a (ex b) (by omega) (by have := ex_lt b hb; omega)) rfl srcN hrdN w_270 w_268 w_269 w_22 (by decide +kernel) rfl ⟨Nat.le_of_ble_eq_true rfl, Nat.le_of_ble_eq_true rfl⟩ rfl rfl rfl (Nat.le_of_ble_eq_true rfl) ⟨Nat.le_of_ble_eq_true rfl, Nat.le_of_ble_eq_true rfl⟩ dX2_product_19 (fun u3 _ => ?_)
      refine g_af (ws' := []) (st' := [.int (nI (tp a (ex b)))]) (cells' := 0) (slots' := 0) (pc' := 22) rfl rfl rfl rfl rfl ?_
      exact g_iret X hr () (by show some (Value.int _) = some (Value.int _); rw [gm, if_neg (by omega)]) (trivial) ((List.append_nil _).symm) (Nat.le_of_ble_eq_true rfl) (Nat.le_of_ble_eq_true rfl) dX2_product_22
    · rw [nI_leI (by omega) (by omega)] at hc2; first | omega | (simp at hc2)

def KX2_quotient_0_0 : List (Nat × Instr × Nat) := [(0, .iload_n 1, 1), (1, .iconst 1, 1)]
theorem KX2_quotient_0_0_d : ∀ z ∈ KX2_quotient_0_0, decode cX2_quotient z.1 = .ok z.2 := by decide +kernel
def KX2_quotient_11_1 : List (Nat × Instr × Nat) := [(11, .iconst 0, 1)]
theorem KX2_quotient_11_1_d : ∀ z ∈ KX2_quotient_11_1, decode cX2_quotient z.1 = .ok z.2 := by decide +kernel
def KX2_quotient_5_2 : List (Nat × Instr × Nat) := [(5, .iload_n 1, 1), (6, .bipush 15, 2)]
theorem KX2_quotient_5_2_d : ∀ z ∈ KX2_quotient_5_2, decode cX2_quotient z.1 = .ok z.2 := by decide +kernel
def KX2_quotient_13_3 : List (Nat × Instr × Nat) := [(13, .iload_n 0, 1), (14, .bipush 15, 2)]
theorem KX2_quotient_13_3_d : ∀ z ∈ KX2_quotient_13_3, decode cX2_quotient z.1 = .ok z.2 := by decide +kernel
def KX2_quotient_19_4 : List (Nat × Instr × Nat) := [(19, .iload_n 1, 1)]
theorem KX2_quotient_19_4_d : ∀ z ∈ KX2_quotient_19_4, decode cX2_quotient z.1 = .ok z.2 := by decide +kernel
def KX2_quotient_21_5 : List (Nat × Instr × Nat) := [(21, .isub, 1)]
theorem KX2_quotient_21_5_d : ∀ z ∈ KX2_quotient_21_5, decode cX2_quotient z.1 = .ok z.2 := by decide +kernel
set_option maxHeartbeats 4000000 in
set_option maxRecDepth 100000 in
theorem c_X2_quotient (l : Launch) (D : va_G) (g : Nat → ClassId) (a : Nat) (b : Nat) (ha : a < 16) (hb : b < 16) : CT l yX2_quotient cX2_quotient 2 ((Option.some FieldType.int)) ({ frames := 1, cells := 0, slots := 0, locals := 21 } : Room) [.int (nI a), .int (nI b)] D CL (TYS g) [] [] (S := Unit) (fun _ => some (.int (nI (gq a b)))) (fun _ => []) (fun _ => True) 0 0 := by
  refine ct_of (by decide +kernel) (Nat.le_of_ble_eq_true rfl) ?_
  intro p e s m below meth c A X hr hnm hSB hRO hAf
  refine g_cs (ws' := []) (lv' := [(0, .int (nI a)), (1, .int (nI b))]) rfl rfl ?_
  obtain ⟨tE, hZE, hTE⟩ := hSB.2.2.1
  refine g_run X KX2_quotient_0_0 KX2_quotient_0_0_d 2 [(0, .int (nI a)), (1, .int (nI b))] [.int (nI 1), .int (nI b)] rfl ?_
  refine g_icmp_lt X 11 dX2_quotient_2 (by decide) (fun hc1 => ?_) (fun hc1 => ?_)
  · rw [nI_ltI (by omega) (by omega)] at hc1
    refine g_run X KX2_quotient_11_1 KX2_quotient_11_1_d 12 [(0, .int (nI a)), (1, .int (nI b))] [.int (nI 0)] rfl ?_
    exact g_iret X hr () (by show some (Value.int _) = some (Value.int _); rw [gq, if_pos (by omega)]) (trivial) ((List.append_nil _).symm) (Nat.le_of_ble_eq_true rfl) (Nat.le_of_ble_eq_true rfl) dX2_quotient_12
  · rw [nI_ltI (by omega) (by omega)] at hc1
    refine g_run X KX2_quotient_5_2 KX2_quotient_5_2_d 8 [(0, .int (nI a)), (1, .int (nI b))] [.int (nI 15), .int (nI b)] rfl ?_
    refine g_icmp_le X 13 dX2_quotient_8 (by decide) (fun hc2 => ?_) (fun hc2 => ?_)
    · refine g_run X KX2_quotient_13_3 KX2_quotient_13_3_d 16 [(0, .int (nI a)), (1, .int (nI b))] [.int (nI 15), .int (nI a)] rfl ?_
      refine g_gets X hZE w_273 dX2_quotient_16 ?_
      refine g_run X KX2_quotient_19_4 KX2_quotient_19_4_d 20 [(0, .int (nI a)), (1, .int (nI b))] [.int (nI b), .ref tE, .int (nI 15), .int (nI a)] rfl ?_
      refine g_ti X hTE (v := .int (nI (ex b))) b rfl (by omega) (by decide) rfl dX2_quotient_20 ?_
      refine g_run X KX2_quotient_21_5 KX2_quotient_21_5_d 22 [(0, .int (nI a)), (1, .int (nI b))] [.int ((nI 15) - (nI (ex b))), .int (nI a)] rfl ?_
      have hex := ex_lt b hb
      refine g_st (st' := [.int (nI (15 - ex b)), .int (nI a)]) (by rw [pk_sub (by omega)]) ?_
      refine g_callS X hSB hAf (As := [.int (nI a), .int (nI (15 - ex b))]) (wr := []) (n := 2) (c_X2_timesPower l D g a (15 - ex b) (by omega) (by omega)) rfl srcN hrdN w_270 w_268 w_269 w_22 (by decide +kernel) rfl ⟨Nat.le_of_ble_eq_true rfl, Nat.le_of_ble_eq_true rfl⟩ rfl rfl rfl (Nat.le_of_ble_eq_true rfl) ⟨Nat.le_of_ble_eq_true rfl, Nat.le_of_ble_eq_true rfl⟩ dX2_quotient_22 (fun u3 _ => ?_)
      refine g_af (ws' := []) (st' := [.int (nI (tp a (15 - ex b)))]) (cells' := 0) (slots' := 0) (pc' := 25) rfl rfl rfl rfl rfl ?_
      exact g_iret X hr () (by show some (Value.int _) = some (Value.int _); rw [gq, if_neg (by omega)]) (trivial) ((List.append_nil _).symm) (Nat.le_of_ble_eq_true rfl) (Nat.le_of_ble_eq_true rfl) dX2_quotient_25
    · rw [nI_leI (by omega) (by omega)] at hc2; first | omega | (simp at hc2)

def KX2_sumOf_0_0 : List (Nat × Instr × Nat) := [(0, .iconst 0, 1), (1, .istore_n 3, 1), (2, .iconst 0, 1), (3, .istore 4, 2)]
theorem KX2_sumOf_0_0_d : ∀ z ∈ KX2_sumOf_0_0, decode cX2_sumOf z.1 = .ok z.2 := by decide +kernel
def KX2_sumOf_5_1 : List (Nat × Instr × Nat) := [(5, .iload 4, 2), (7, .bipush 15, 2)]
theorem KX2_sumOf_5_1_d : ∀ z ∈ KX2_sumOf_5_1, decode cX2_sumOf z.1 = .ok z.2 := by decide +kernel
def KX2_sumOf_34_2 : List (Nat × Instr × Nat) := [(34, .iload_n 3, 1)]
theorem KX2_sumOf_34_2_d : ∀ z ∈ KX2_sumOf_34_2, decode cX2_sumOf z.1 = .ok z.2 := by decide +kernel
def KX2_sumOf_12_3 : List (Nat × Instr × Nat) := [(12, .iload_n 3, 1), (13, .lload_n 0, 1), (14, .iload 4, 2)]
theorem KX2_sumOf_12_3_d : ∀ z ∈ KX2_sumOf_12_3, decode cX2_sumOf z.1 = .ok z.2 := by decide +kernel
def KX2_sumOf_19_4 : List (Nat × Instr × Nat) := [(19, .iload 4, 2), (21, .iload_n 2, 1), (22, .imul, 1)]
theorem KX2_sumOf_19_4_d : ∀ z ∈ KX2_sumOf_19_4, decode cX2_sumOf z.1 = .ok z.2 := by decide +kernel
def KX2_sumOf_26_5 : List (Nat × Instr × Nat) := [(26, .ixor, 1), (27, .istore_n 3, 1), (28, .iinc 4 1, 3), (31, .goto (-26), 3)]
theorem KX2_sumOf_26_5_d : ∀ z ∈ KX2_sumOf_26_5, decode cX2_sumOf z.1 = .ok z.2 := by decide +kernel
set_option maxHeartbeats 4000000 in
set_option maxRecDepth 100000 in
theorem c_X2_sumOf (l : Launch) (D : va_G) (g : Nat → ClassId) (x : Int64) (j : Nat) (hj : j < 5) : CT l yX2_sumOf cX2_sumOf 5 ((Option.some FieldType.int)) ({ frames := 1, cells := 0, slots := 0, locals := 22 } : Room) [.long x, .int (nI j)] D CL (TYS g) [] [] (S := Unit) (fun _ => some (.int (nI (sm x j 15)))) (fun _ => []) (fun _ => True) 0 0 := by
  refine ct_of (by decide +kernel) (Nat.le_of_ble_eq_true rfl) ?_
  intro p e s m below meth c A X hr hnm hSB hRO hAf
  refine g_cs (ws' := []) (lv' := [(0, .long x), (2, .int (nI j))]) rfl rfl ?_
  refine g_run X KX2_sumOf_0_0 KX2_sumOf_0_0_d 5 [(4, .int (nI 0)), (3, .int (nI 0)), (0, .long x), (2, .int (nI j))] [] rfl ?_
  refine g_lv (lv' := [(0, .long x), (2, .int (nI j)), (3, .int (nI 0)), (4, .int (nI 0))]) (lsub_c 2 rfl (lsub_c 3 rfl (lsub_c 1 rfl (lsub_c 0 rfl (lsub_n))))) ?_
  refine g_for 15 (fun _ => []) (fun i => [(0, .long x), (2, .int (nI j)), (3, .int (nI (sm x j i))), (4, .int (nI i))]) (rfl) (rfl) ?_ ?_
  · refine g_run X KX2_sumOf_5_1 KX2_sumOf_5_1_d 9 [(0, .long x), (2, .int (nI j)), (3, .int (nI (sm x j 15))), (4, .int (nI 15))] [.int (nI 15), .int (nI 15)] rfl ?_
    refine g_icmp_ge X 34 dX2_sumOf_9 (by decide) (fun hc1 => ?_) (fun hc1 => ?_)
    · refine g_run X KX2_sumOf_34_2 KX2_sumOf_34_2_d 35 [(0, .long x), (2, .int (nI j)), (3, .int (nI (sm x j 15))), (4, .int (nI 15))] [.int (nI (sm x j 15))] rfl ?_
      exact g_iret X hr () (rfl) (trivial) ((List.append_nil _).symm) (Nat.le_of_ble_eq_true rfl) (Nat.le_of_ble_eq_true rfl) dX2_sumOf_35
    · rw [nI_leI (by omega) (by omega)] at hc1; first | omega | (simp at hc1)
  · intro i hi k5
    refine g_run X KX2_sumOf_5_1 KX2_sumOf_5_1_d 9 [(0, .long x), (2, .int (nI j)), (3, .int (nI (sm x j i))), (4, .int (nI i))] [.int (nI 15), .int (nI i)] rfl ?_
    refine g_icmp_ge X 34 dX2_sumOf_9 (by decide) (fun hc2 => ?_) (fun hc2 => ?_)
    · rw [nI_leI (by omega) (by omega)] at hc2; first | omega | (simp at hc2)
    · refine g_run X KX2_sumOf_12_3 KX2_sumOf_12_3_d 16 [(0, .long x), (2, .int (nI j)), (3, .int (nI (sm x j i))), (4, .int (nI i))] [.int (nI i), .long x, .int (nI (sm x j i))] rfl ?_
      refine g_callSN X hSB hAf (host := "Chipfield") (As := [.long x, .int (nI i)]) (wr := []) (n := 2) (c_X5_numberAt l D g x i (by omega)) rfl srcN hrdN w_215 (nw_in n_267 rfl) w_214 w_1 (by decide +kernel) rfl ⟨Nat.le_of_ble_eq_true rfl, Nat.le_of_ble_eq_true rfl⟩ rfl rfl rfl (Nat.le_of_ble_eq_true rfl) ⟨Nat.le_of_ble_eq_true rfl, Nat.le_of_ble_eq_true rfl⟩ dX2_sumOf_16 (fun u3 _ => ?_)
      refine g_af (ws' := []) (st' := [.int (nI (nib x i)), .int (nI (sm x j i))]) (cells' := 0) (slots' := 0) (pc' := 19) rfl rfl rfl rfl rfl ?_
      refine g_run X KX2_sumOf_19_4 KX2_sumOf_19_4_d 23 [(0, .long x), (2, .int (nI j)), (3, .int (nI (sm x j i))), (4, .int (nI i))] [.int ((nI i) * (nI j)), .int (nI (nib x i)), .int (nI (sm x j i))] rfl ?_
      refine g_nm (lv' := [(0, .long x), (2, .int (nI j)), (3, .int (nI (sm x j i))), (4, .int (nI i))]) (st' := [.int (nI (i * j)), .int (nI (nib x i)), .int (nI (sm x j i))]) (by simp only [pk_mul]) (by simp only [pk_mul]) ?_
      refine g_callS X hSB hAf (As := [.int (nI (nib x i)), .int (nI (i * j))]) (wr := []) (n := 2) (c_X2_timesPower l D g (nib x i) (i * j) (nib_lt _ _) (Nat.lt_of_le_of_lt (Nat.mul_le_mul (Nat.le_of_lt hi) (Nat.le_of_lt hj)) (by decide))) rfl srcN hrdN w_270 w_268 w_269 w_22 (by decide +kernel) rfl ⟨Nat.le_of_ble_eq_true rfl, Nat.le_of_ble_eq_true rfl⟩ rfl rfl rfl (Nat.le_of_ble_eq_true rfl) ⟨Nat.le_of_ble_eq_true rfl, Nat.le_of_ble_eq_true rfl⟩ dX2_sumOf_23 (fun u4 _ => ?_)
      refine g_af (ws' := []) (st' := [.int (nI (tp (nib x i) (i * j))), .int (nI (sm x j i))]) (cells' := 0) (slots' := 0) (pc' := 26) rfl rfl rfl rfl rfl ?_
      refine g_run X KX2_sumOf_26_5 KX2_sumOf_26_5_d 5 [(4, .int ((nI i) + (nI 1))), (3, .int ((nI (sm x j i)) ^^^ (nI (tp (nib x i) (i * j))))), (0, .long x), (2, .int (nI j))] [] rfl ?_
      refine g_nm (lv' := [(4, .int (nI (i + 1))), (3, .int (nI ((sm x j i) ^^^ (tp (nib x i) (i * j))))), (0, .long x), (2, .int (nI j))]) (st' := []) (by simp only [nI_add, nx_xor]) (by simp only [nI_add, nx_xor]) ?_
      refine g_lv (lv' := [(0, .long x), (2, .int (nI j)), (3, .int (nI ((sm x j i) ^^^ (tp (nib x i) (i * j))))), (4, .int (nI (i + 1)))]) (lsub_c 2 rfl (lsub_c 3 rfl (lsub_c 1 rfl (lsub_c 0 rfl (lsub_n))))) ?_
      refine g_cs (ws' := []) (lv' := [(0, .long x), (2, .int (nI j)), (3, .int (nI (sm x j (i + 1)))), (4, .int (nI (i + 1)))]) (rfl) (rfl) ?_
      exact k5

def KX2_placesIn_0_0 : List (Nat × Instr × Nat) := [(0, .iconst 0, 1), (1, .istore_n 2, 1), (2, .iconst 0, 1), (3, .istore_n 3, 1)]
theorem KX2_placesIn_0_0_d : ∀ z ∈ KX2_placesIn_0_0, decode cX2_placesIn z.1 = .ok z.2 := by decide +kernel
def KX2_placesIn_4_1 : List (Nat × Instr × Nat) := [(4, .iload_n 3, 1), (5, .bipush 15, 2)]
theorem KX2_placesIn_4_1_d : ∀ z ∈ KX2_placesIn_4_1, decode cX2_placesIn z.1 = .ok z.2 := by decide +kernel
def KX2_placesIn_30_2 : List (Nat × Instr × Nat) := [(30, .iload_n 2, 1)]
theorem KX2_placesIn_30_2_d : ∀ z ∈ KX2_placesIn_30_2, decode cX2_placesIn z.1 = .ok z.2 := by decide +kernel
def KX2_placesIn_10_3 : List (Nat × Instr × Nat) := [(10, .lload_n 0, 1), (11, .iload_n 3, 1)]
theorem KX2_placesIn_10_3_d : ∀ z ∈ KX2_placesIn_10_3, decode cX2_placesIn z.1 = .ok z.2 := by decide +kernel
def KX2_placesIn_24_4 : List (Nat × Instr × Nat) := [(24, .iinc 3 1, 3), (27, .goto (-23), 3)]
theorem KX2_placesIn_24_4_d : ∀ z ∈ KX2_placesIn_24_4, decode cX2_placesIn z.1 = .ok z.2 := by decide +kernel
def KX2_placesIn_18_5 : List (Nat × Instr × Nat) := [(18, .iload_n 2, 1), (19, .iconst 1, 1), (20, .iload_n 3, 1), (21, .ishl, 1), (22, .ior, 1), (23, .istore_n 2, 1), (24, .iinc 3 1, 3), (27, .goto (-23), 3)]
theorem KX2_placesIn_18_5_d : ∀ z ∈ KX2_placesIn_18_5, decode cX2_placesIn z.1 = .ok z.2 := by decide +kernel
set_option maxHeartbeats 4000000 in
set_option maxRecDepth 100000 in
theorem c_X2_placesIn (l : Launch) (D : va_G) (g : Nat → ClassId) (x : Int64) : CT l yX2_placesIn cX2_placesIn 4 ((Option.some FieldType.int)) ({ frames := 1, cells := 0, slots := 0, locals := 22 } : Room) [.long x] D CL (TYS g) [] [] (S := Unit) (fun _ => some (.int (nI (pl x 15)))) (fun _ => []) (fun _ => True) 0 0 := by
  refine ct_of (by decide +kernel) (Nat.le_of_ble_eq_true rfl) ?_
  intro p e s m below meth c A X hr hnm hSB hRO hAf
  refine g_cs (ws' := []) (lv' := [(0, .long x)]) rfl rfl ?_
  refine g_run X KX2_placesIn_0_0 KX2_placesIn_0_0_d 4 [(3, .int (nI 0)), (2, .int (nI 0)), (0, .long x)] [] rfl ?_
  refine g_lv (lv' := [(0, .long x), (2, .int (nI 0)), (3, .int (nI 0))]) (lsub_c 2 rfl (lsub_c 1 rfl (lsub_c 0 rfl (lsub_n)))) ?_
  refine g_for 15 (fun _ => []) (fun i => [(0, .long x), (2, .int (nI (pl x i))), (3, .int (nI i))]) (rfl) (rfl) ?_ ?_
  · refine g_run X KX2_placesIn_4_1 KX2_placesIn_4_1_d 7 [(0, .long x), (2, .int (nI (pl x 15))), (3, .int (nI 15))] [.int (nI 15), .int (nI 15)] rfl ?_
    refine g_icmp_ge X 30 dX2_placesIn_7 (by decide) (fun hc1 => ?_) (fun hc1 => ?_)
    · refine g_run X KX2_placesIn_30_2 KX2_placesIn_30_2_d 31 [(0, .long x), (2, .int (nI (pl x 15))), (3, .int (nI 15))] [.int (nI (pl x 15))] rfl ?_
      exact g_iret X hr () (rfl) (trivial) ((List.append_nil _).symm) (Nat.le_of_ble_eq_true rfl) (Nat.le_of_ble_eq_true rfl) dX2_placesIn_31
    · rw [nI_leI (by omega) (by omega)] at hc1; first | omega | (simp at hc1)
  · intro i hi k4
    refine g_run X KX2_placesIn_4_1 KX2_placesIn_4_1_d 7 [(0, .long x), (2, .int (nI (pl x i))), (3, .int (nI i))] [.int (nI 15), .int (nI i)] rfl ?_
    refine g_icmp_ge X 30 dX2_placesIn_7 (by decide) (fun hc2 => ?_) (fun hc2 => ?_)
    · rw [nI_leI (by omega) (by omega)] at hc2; first | omega | (simp at hc2)
    · refine g_run X KX2_placesIn_10_3 KX2_placesIn_10_3_d 12 [(0, .long x), (2, .int (nI (pl x i))), (3, .int (nI i))] [.int (nI i), .long x] rfl ?_
      refine g_callSN X hSB hAf (host := "Chipfield") (As := [.long x, .int (nI i)]) (wr := []) (n := 2) (c_X5_numberAt l D g x i (by omega)) rfl srcN hrdN w_215 (nw_in n_267 rfl) w_214 w_1 (by decide +kernel) rfl ⟨Nat.le_of_ble_eq_true rfl, Nat.le_of_ble_eq_true rfl⟩ rfl rfl rfl (Nat.le_of_ble_eq_true rfl) ⟨Nat.le_of_ble_eq_true rfl, Nat.le_of_ble_eq_true rfl⟩ dX2_placesIn_12 (fun u3 _ => ?_)
      refine g_af (ws' := []) (st' := [.int (nI (nib x i))]) (cells' := 0) (slots' := 0) (pc' := 15) rfl rfl rfl rfl rfl ?_
      refine g_if_eq X 24 dX2_placesIn_15 (by decide) (fun hc4 => ?_) (fun hc4 => ?_)
      · rw [nz_eq (by have := nib_lt x i; omega)] at hc4
        refine g_run X KX2_placesIn_24_4 KX2_placesIn_24_4_d 4 [(3, .int ((nI i) + (nI 1))), (0, .long x), (2, .int (nI (pl x i)))] [] rfl ?_
        refine g_nm (lv' := [(3, .int (nI (i + 1))), (0, .long x), (2, .int (nI (pl x i)))]) (st' := []) (by simp only [nI_add]) (by simp only [nI_add]) ?_
        refine g_lv (lv' := [(0, .long x), (2, .int (nI (pl x i))), (3, .int (nI (i + 1)))]) (lsub_c 1 rfl (lsub_c 2 rfl (lsub_c 0 rfl (lsub_n)))) ?_
        refine g_cs (ws' := []) (lv' := [(0, .long x), (2, .int (nI (pl x (i + 1)))), (3, .int (nI (i + 1)))]) (rfl) (by simp [pl, *]) ?_
        exact k4
      · rw [nz_eq (by have := nib_lt x i; omega)] at hc4
        refine g_run X KX2_placesIn_18_5 KX2_placesIn_18_5_d 4 [(3, .int ((nI i) + (nI 1))), (2, .int ((nI (pl x i)) ||| ((nI 1) <<< ((nI i) &&& 31)))), (0, .long x)] [] rfl ?_
        refine g_nm (lv' := [(3, .int (nI (i + 1))), (2, .int (nI ((pl x i) ||| (2 ^ i)))), (0, .long x)]) (st' := []) (by simp only [nI_add, nx_or, sh1 (show i < 31 by omega)]) (by simp only [nI_add, nx_or, sh1 (show i < 31 by omega)]) ?_
        refine g_lv (lv' := [(0, .long x), (2, .int (nI ((pl x i) ||| (2 ^ i)))), (3, .int (nI (i + 1)))]) (lsub_c 2 rfl (lsub_c 1 rfl (lsub_c 0 rfl (lsub_n)))) ?_
        refine g_cs (ws' := []) (lv' := [(0, .long x), (2, .int (nI (pl x (i + 1)))), (3, .int (nI (i + 1)))]) (rfl) (by simp [pl, *]) ?_
        exact k4

def KX2_dataIn_0_0 : List (Nat × Instr × Nat) := [(0, .lload_n 0, 1), (1, .bipush 16, 2), (3, .lushr, 1)]
theorem KX2_dataIn_0_0_d : ∀ z ∈ KX2_dataIn_0_0, decode cX2_dataIn z.1 = .ok z.2 := by decide +kernel
set_option maxHeartbeats 4000000 in
set_option maxRecDepth 100000 in
theorem c_X2_dataIn (l : Launch) (D : va_G) (g : Nat → ClassId) (x : Int64) : CT l yX2_dataIn cX2_dataIn 2 ((Option.some FieldType.long)) ({ frames := 0, cells := 0, slots := 0, locals := 0 } : Room) [.long x] D CL (TYS g) [] [] (S := Unit) (fun _ => some (.long ((x.toUInt64 >>> ((nI 16).toInt64.toUInt64 &&& Int64.toUInt64 63)).toInt64))) (fun _ => []) (fun _ => True) 0 0 := by
  refine ct_of (by decide +kernel) (Nat.le_of_ble_eq_true rfl) ?_
  intro p e s m below meth c A X hr hnm hSB hRO hAf
  refine g_cs (ws' := []) (lv' := [(0, .long x)]) rfl rfl ?_
  refine g_run X KX2_dataIn_0_0 KX2_dataIn_0_0_d 4 [(0, .long x)] [.long ((x.toUInt64 >>> ((nI 16).toInt64.toUInt64 &&& Int64.toUInt64 63)).toInt64)] rfl ?_
  exact g_lret X hr () (rfl) (trivial) ((List.append_nil _).symm) (Nat.le_of_ble_eq_true rfl) (Nat.le_of_ble_eq_true rfl) dX2_dataIn_4

def KX2_blindTo_0_0 : List (Nat × Instr × Nat) := [(0, .lconst 0, 1), (1, .lstore 4, 2), (3, .iconst 0, 1), (4, .istore 6, 2)]
theorem KX2_blindTo_0_0_d : ∀ z ∈ KX2_blindTo_0_0, decode cX2_blindTo z.1 = .ok z.2 := by decide +kernel
def KX2_blindTo_6_1 : List (Nat × Instr × Nat) := [(6, .iload 6, 2), (8, .iconst 1, 1), (9, .iadd, 1), (10, .iload_n 3, 1)]
theorem KX2_blindTo_6_1_d : ∀ z ∈ KX2_blindTo_6_1, decode cX2_blindTo z.1 = .ok z.2 := by decide +kernel
def KX2_blindTo_48_2 : List (Nat × Instr × Nat) := [(48, .lload 4, 2)]
theorem KX2_blindTo_48_2_d : ∀ z ∈ KX2_blindTo_48_2, decode cX2_blindTo z.1 = .ok z.2 := by decide +kernel
def KX2_blindTo_14_3 : List (Nat × Instr × Nat) := [(14, .lload 4, 2), (16, .iload 6, 2), (18, .lload_n 1, 1), (19, .iload 6, 2)]
theorem KX2_blindTo_14_3_d : ∀ z ∈ KX2_blindTo_14_3, decode cX2_blindTo z.1 = .ok z.2 := by decide +kernel
def KX2_blindTo_24_4 : List (Nat × Instr × Nat) := [(24, .iload_n 0, 1)]
theorem KX2_blindTo_24_4_d : ∀ z ∈ KX2_blindTo_24_4, decode cX2_blindTo z.1 = .ok z.2 := by decide +kernel
def KX2_blindTo_28_5 : List (Nat × Instr × Nat) := [(28, .lload_n 1, 1), (29, .iload 6, 2), (31, .iconst 1, 1), (32, .iadd, 1)]
theorem KX2_blindTo_28_5_d : ∀ z ∈ KX2_blindTo_28_5, decode cX2_blindTo z.1 = .ok z.2 := by decide +kernel
def KX2_blindTo_36_6 : List (Nat × Instr × Nat) := [(36, .ixor, 1)]
theorem KX2_blindTo_36_6_d : ∀ z ∈ KX2_blindTo_36_6, decode cX2_blindTo z.1 = .ok z.2 := by decide +kernel
def KX2_blindTo_40_7 : List (Nat × Instr × Nat) := [(40, .lstore 4, 2), (42, .iinc 6 1, 3), (45, .goto (-39), 3)]
theorem KX2_blindTo_40_7_d : ∀ z ∈ KX2_blindTo_40_7, decode cX2_blindTo z.1 = .ok z.2 := by decide +kernel
set_option maxHeartbeats 4000000 in
set_option maxRecDepth 100000 in
theorem c_X2_blindTo (l : Launch) (D : va_G) (g : Nat → ClassId) (q : Nat) (x : Int64) (n : Nat) (hq : q < 15) (h1 : 1 ≤ n) (h4 : n < 5) : CT l yX2_blindTo cX2_blindTo 7 ((Option.some FieldType.long)) ({ frames := 1, cells := 0, slots := 0, locals := 24 } : Room) [.int (nI q), .long x, .int (nI n)] D CL (TYS g) [] [] (S := Unit) (fun _ => some (.long (bl q x (n - 1)))) (fun _ => []) (fun _ => True) 0 0 := by
  refine ct_of (by decide +kernel) (Nat.le_of_ble_eq_true rfl) ?_
  intro p e s m below meth c A X hr hnm hSB hRO hAf
  refine g_cs (ws' := []) (lv' := [(0, .int (nI q)), (1, .long x), (3, .int (nI n))]) rfl rfl ?_
  refine g_run X KX2_blindTo_0_0 KX2_blindTo_0_0_d 6 [(6, .int (nI 0)), (4, .long (lN 0)), (0, .int (nI q)), (1, .long x), (3, .int (nI n))] [] rfl ?_
  refine g_lv (lv' := [(0, .int (nI q)), (1, .long x), (3, .int (nI n)), (4, .long (lN 0)), (6, .int (nI 0))]) (lsub_c 2 rfl (lsub_c 3 rfl (lsub_c 4 rfl (lsub_c 1 rfl (lsub_c 0 rfl (lsub_n)))))) ?_
  refine g_for (n - 1) (fun _ => []) (fun k => [(0, .int (nI q)), (1, .long x), (3, .int (nI n)), (4, .long (bl q x k)), (6, .int (nI k))]) (rfl) (rfl) ?_ ?_
  · refine g_run X KX2_blindTo_6_1 KX2_blindTo_6_1_d 11 [(0, .int (nI q)), (1, .long x), (3, .int (nI n)), (4, .long (bl q x (n - 1))), (6, .int (nI (n - 1)))] [.int (nI n), .int ((nI (n - 1)) + (nI 1))] rfl ?_
    refine g_nm (lv' := [(0, .int (nI q)), (1, .long x), (3, .int (nI n)), (4, .long (bl q x (n - 1))), (6, .int (nI (n - 1)))]) (st' := [.int (nI n), .int (nI ((n - 1) + 1))]) (by simp only [nI_add]) (by simp only [nI_add]) ?_
    refine g_icmp_ge X 48 dX2_blindTo_11 (by decide) (fun hc1 => ?_) (fun hc1 => ?_)
    · refine g_run X KX2_blindTo_48_2 KX2_blindTo_48_2_d 50 [(0, .int (nI q)), (1, .long x), (3, .int (nI n)), (4, .long (bl q x (n - 1))), (6, .int (nI (n - 1)))] [.long (bl q x (n - 1))] rfl ?_
      exact g_lret X hr () (rfl) (trivial) ((List.append_nil _).symm) (Nat.le_of_ble_eq_true rfl) (Nat.le_of_ble_eq_true rfl) dX2_blindTo_50
    · rw [nI_leI (by omega) (by omega)] at hc1; first | omega | (simp at hc1)
  · intro k hk k6
    refine g_run X KX2_blindTo_6_1 KX2_blindTo_6_1_d 11 [(0, .int (nI q)), (1, .long x), (3, .int (nI n)), (4, .long (bl q x k)), (6, .int (nI k))] [.int (nI n), .int ((nI k) + (nI 1))] rfl ?_
    refine g_nm (lv' := [(0, .int (nI q)), (1, .long x), (3, .int (nI n)), (4, .long (bl q x k)), (6, .int (nI k))]) (st' := [.int (nI n), .int (nI (k + 1))]) (by simp only [nI_add]) (by simp only [nI_add]) ?_
    refine g_icmp_ge X 48 dX2_blindTo_11 (by decide) (fun hc2 => ?_) (fun hc2 => ?_)
    · rw [nI_leI (by omega) (by omega)] at hc2; first | omega | (simp at hc2)
    · refine g_run X KX2_blindTo_14_3 KX2_blindTo_14_3_d 21 [(0, .int (nI q)), (1, .long x), (3, .int (nI n)), (4, .long (bl q x k)), (6, .int (nI k))] [.int (nI k), .long x, .int (nI k), .long (bl q x k)] rfl ?_
      refine g_callSN X hSB hAf (host := "Chipfield") (As := [.long x, .int (nI k)]) (wr := []) (n := 2) (c_X5_numberAt l D g x k (by omega)) rfl srcN hrdN w_215 (nw_in n_267 rfl) w_214 w_1 (by decide +kernel) rfl ⟨Nat.le_of_ble_eq_true rfl, Nat.le_of_ble_eq_true rfl⟩ rfl rfl rfl (Nat.le_of_ble_eq_true rfl) ⟨Nat.le_of_ble_eq_true rfl, Nat.le_of_ble_eq_true rfl⟩ dX2_blindTo_21 (fun u3 _ => ?_)
      refine g_af (ws' := []) (st' := [.int (nI (nib x k)), .int (nI k), .long (bl q x k)]) (cells' := 0) (slots' := 0) (pc' := 24) rfl rfl rfl rfl rfl ?_
      refine g_run X KX2_blindTo_24_4 KX2_blindTo_24_4_d 25 [(0, .int (nI q)), (1, .long x), (3, .int (nI n)), (4, .long (bl q x k)), (6, .int (nI k))] [.int (nI q), .int (nI (nib x k)), .int (nI k), .long (bl q x k)] rfl ?_
      refine g_callS X hSB hAf (As := [.int (nI (nib x k)), .int (nI q)]) (wr := []) (n := 2) (c_X2_timesPower l D g (nib x k) q (nib_lt _ _) (by omega)) rfl srcN hrdN w_270 w_268 w_269 w_22 (by decide +kernel) rfl ⟨Nat.le_of_ble_eq_true rfl, Nat.le_of_ble_eq_true rfl⟩ rfl rfl rfl (Nat.le_of_ble_eq_true rfl) ⟨Nat.le_of_ble_eq_true rfl, Nat.le_of_ble_eq_true rfl⟩ dX2_blindTo_25 (fun u4 _ => ?_)
      refine g_af (ws' := []) (st' := [.int (nI (tp (nib x k) q)), .int (nI k), .long (bl q x k)]) (cells' := 0) (slots' := 0) (pc' := 28) rfl rfl rfl rfl rfl ?_
      refine g_run X KX2_blindTo_28_5 KX2_blindTo_28_5_d 33 [(0, .int (nI q)), (1, .long x), (3, .int (nI n)), (4, .long (bl q x k)), (6, .int (nI k))] [.int ((nI k) + (nI 1)), .long x, .int (nI (tp (nib x k) q)), .int (nI k), .long (bl q x k)] rfl ?_
      refine g_nm (lv' := [(0, .int (nI q)), (1, .long x), (3, .int (nI n)), (4, .long (bl q x k)), (6, .int (nI k))]) (st' := [.int (nI (k + 1)), .long x, .int (nI (tp (nib x k) q)), .int (nI k), .long (bl q x k)]) (by simp only [nI_add]) (by simp only [nI_add]) ?_
      refine g_callSN X hSB hAf (host := "Chipfield") (As := [.long x, .int (nI (k + 1))]) (wr := []) (n := 2) (c_X5_numberAt l D g x (k + 1) (by omega)) rfl srcN hrdN w_215 (nw_in n_267 rfl) w_214 w_1 (by decide +kernel) rfl ⟨Nat.le_of_ble_eq_true rfl, Nat.le_of_ble_eq_true rfl⟩ rfl rfl rfl (Nat.le_of_ble_eq_true rfl) ⟨Nat.le_of_ble_eq_true rfl, Nat.le_of_ble_eq_true rfl⟩ dX2_blindTo_33 (fun u5 _ => ?_)
      refine g_af (ws' := []) (st' := [.int (nI (nib x (k + 1))), .int (nI (tp (nib x k) q)), .int (nI k), .long (bl q x k)]) (cells' := 0) (slots' := 0) (pc' := 36) rfl rfl rfl rfl rfl ?_
      refine g_run X KX2_blindTo_36_6 KX2_blindTo_36_6_d 37 [(0, .int (nI q)), (1, .long x), (3, .int (nI n)), (4, .long (bl q x k)), (6, .int (nI k))] [.int ((nI (tp (nib x k) q)) ^^^ (nI (nib x (k + 1)))), .int (nI k), .long (bl q x k)] rfl ?_
      refine g_nm (lv' := [(0, .int (nI q)), (1, .long x), (3, .int (nI n)), (4, .long (bl q x k)), (6, .int (nI k))]) (st' := [.int (nI ((tp (nib x k) q) ^^^ (nib x (k + 1)))), .int (nI k), .long (bl q x k)]) (by simp only [nx_xor]) (by simp only [nx_xor]) ?_
      refine g_callSN X hSB hAf (host := "Chipfield") (As := [.long (bl q x k), .int (nI k), .int (nI ((tp (nib x k) q) ^^^ (nib x (k + 1))))]) (wr := []) (n := 3) (c_X5_withNumber l D g (bl q x k) k ((tp (nib x k) q) ^^^ (nib x (k + 1))) (by omega)) rfl srcN hrdN w_222 (nw_in n_275 rfl) w_221 w_1 (by decide +kernel) rfl ⟨Nat.le_of_ble_eq_true rfl, Nat.le_of_ble_eq_true rfl⟩ rfl rfl rfl (Nat.le_of_ble_eq_true rfl) ⟨Nat.le_of_ble_eq_true rfl, Nat.le_of_ble_eq_true rfl⟩ dX2_blindTo_37 (fun u6 _ => ?_)
      refine g_af (ws' := []) (st' := [.long (wn (bl q x k) k ((tp (nib x k) q) ^^^ (nib x (k + 1))))]) (cells' := 0) (slots' := 0) (pc' := 40) rfl rfl rfl rfl rfl ?_
      refine g_run X KX2_blindTo_40_7 KX2_blindTo_40_7_d 6 [(6, .int ((nI k) + (nI 1))), (4, .long (wn (bl q x k) k ((tp (nib x k) q) ^^^ (nib x (k + 1))))), (0, .int (nI q)), (1, .long x), (3, .int (nI n))] [] rfl ?_
      refine g_nm (lv' := [(6, .int (nI (k + 1))), (4, .long (wn (bl q x k) k ((tp (nib x k) q) ^^^ (nib x (k + 1))))), (0, .int (nI q)), (1, .long x), (3, .int (nI n))]) (st' := []) (by simp only [nI_add]) (by simp only [nI_add]) ?_
      refine g_lv (lv' := [(0, .int (nI q)), (1, .long x), (3, .int (nI n)), (4, .long (wn (bl q x k) k ((tp (nib x k) q) ^^^ (nib x (k + 1))))), (6, .int (nI (k + 1)))]) (lsub_c 2 rfl (lsub_c 3 rfl (lsub_c 4 rfl (lsub_c 1 rfl (lsub_c 0 rfl (lsub_n)))))) ?_
      refine g_cs (ws' := []) (lv' := [(0, .int (nI q)), (1, .long x), (3, .int (nI n)), (4, .long (bl q x (k + 1))), (6, .int (nI (k + 1)))]) (rfl) (rfl) ?_
      exact k6

theorem sub15 {a b : Nat} (ha : a < 15) (hb : b < 15) : nI (a + 15 - b) = nI a - nI b + nI 15 := by
  have e : ∀ a, a < 15 → ∀ b, b < 15 → nI (a + 15 - b) = nI a - nI b + nI 15 := by decide +kernel
  exact e a ha b hb

def KX2_onlyError_0_0 : List (Nat × Instr × Nat) := [(0, .lload_n 0, 1), (1, .iconst 0, 1)]
theorem KX2_onlyError_0_0_d : ∀ z ∈ KX2_onlyError_0_0, decode cX2_onlyError z.1 = .ok z.2 := by decide +kernel
def KX2_onlyError_5_1 : List (Nat × Instr × Nat) := [(5, .istore_n 3, 1), (6, .lload_n 0, 1), (7, .iconst 1, 1)]
theorem KX2_onlyError_5_1_d : ∀ z ∈ KX2_onlyError_5_1, decode cX2_onlyError z.1 = .ok z.2 := by decide +kernel
def KX2_onlyError_11_2 : List (Nat × Instr × Nat) := [(11, .istore 4, 2), (13, .iload_n 2, 1), (14, .iconst 2, 1)]
theorem KX2_onlyError_11_2_d : ∀ z ∈ KX2_onlyError_11_2, decode cX2_onlyError z.1 = .ok z.2 := by decide +kernel
def KX2_onlyError_27_3 : List (Nat × Instr × Nat) := [(27, .iconst (-1), 1)]
theorem KX2_onlyError_27_3_d : ∀ z ∈ KX2_onlyError_27_3, decode cX2_onlyError z.1 = .ok z.2 := by decide +kernel
def KX2_onlyError_18_4 : List (Nat × Instr × Nat) := [(18, .iload_n 3, 1)]
theorem KX2_onlyError_18_4_d : ∀ z ∈ KX2_onlyError_18_4, decode cX2_onlyError z.1 = .ok z.2 := by decide +kernel
def KX2_onlyError_22_5 : List (Nat × Instr × Nat) := [(22, .iload 4, 2)]
theorem KX2_onlyError_22_5_d : ∀ z ∈ KX2_onlyError_22_5, decode cX2_onlyError z.1 = .ok z.2 := by decide +kernel
def KX2_onlyError_32_6 : List (Nat × Instr × Nat) := [(32, .iload 4, 2)]
theorem KX2_onlyError_32_6_d : ∀ z ∈ KX2_onlyError_32_6, decode cX2_onlyError z.1 = .ok z.2 := by decide +kernel
def KX2_onlyError_38_7 : List (Nat × Instr × Nat) := [(38, .iload_n 3, 1)]
theorem KX2_onlyError_38_7_d : ∀ z ∈ KX2_onlyError_38_7, decode cX2_onlyError z.1 = .ok z.2 := by decide +kernel
def KX2_onlyError_40_8 : List (Nat × Instr × Nat) := [(40, .isub, 1), (41, .bipush 15, 2), (43, .iadd, 1), (44, .bipush 15, 2)]
theorem KX2_onlyError_40_8_d : ∀ z ∈ KX2_onlyError_40_8, decode cX2_onlyError z.1 = .ok z.2 := by decide +kernel
def KX2_onlyError_47_9 : List (Nat × Instr × Nat) := [(47, .istore 5, 2), (49, .iconst 1, 1), (50, .istore 6, 2)]
theorem KX2_onlyError_47_9_d : ∀ z ∈ KX2_onlyError_47_9, decode cX2_onlyError z.1 = .ok z.2 := by decide +kernel
def KX2_onlyError_52_10 : List (Nat × Instr × Nat) := [(52, .iload 6, 2), (54, .iload_n 2, 1)]
theorem KX2_onlyError_52_10_d : ∀ z ∈ KX2_onlyError_52_10, decode cX2_onlyError z.1 = .ok z.2 := by decide +kernel
def KX2_onlyError_88_11 : List (Nat × Instr × Nat) := [(88, .iload 5, 2)]
theorem KX2_onlyError_88_11_d : ∀ z ∈ KX2_onlyError_88_11, decode cX2_onlyError z.1 = .ok z.2 := by decide +kernel
def KX2_onlyError_58_12 : List (Nat × Instr × Nat) := [(58, .lload_n 0, 1), (59, .iload 6, 2), (61, .iconst 1, 1), (62, .isub, 1)]
theorem KX2_onlyError_58_12_d : ∀ z ∈ KX2_onlyError_58_12, decode cX2_onlyError z.1 = .ok z.2 := by decide +kernel
def KX2_onlyError_66_13 : List (Nat × Instr × Nat) := [(66, .iload 5, 2)]
theorem KX2_onlyError_66_13_d : ∀ z ∈ KX2_onlyError_66_13, decode cX2_onlyError z.1 = .ok z.2 := by decide +kernel
def KX2_onlyError_71_14 : List (Nat × Instr × Nat) := [(71, .lload_n 0, 1), (72, .iload 6, 2)]
theorem KX2_onlyError_71_14_d : ∀ z ∈ KX2_onlyError_71_14, decode cX2_onlyError z.1 = .ok z.2 := by decide +kernel
def KX2_onlyError_82_15 : List (Nat × Instr × Nat) := [(82, .iinc 6 1, 3), (85, .goto (-33), 3)]
theorem KX2_onlyError_82_15_d : ∀ z ∈ KX2_onlyError_82_15, decode cX2_onlyError z.1 = .ok z.2 := by decide +kernel
def KX2_onlyError_80_16 : List (Nat × Instr × Nat) := [(80, .iconst (-1), 1)]
theorem KX2_onlyError_80_16_d : ∀ z ∈ KX2_onlyError_80_16, decode cX2_onlyError z.1 = .ok z.2 := by decide +kernel
set_option maxHeartbeats 4000000 in
set_option maxRecDepth 100000 in
theorem c_X2_onlyError (l : Launch) (D : va_G) (g : Nat → ClassId) (x : Int64) (n : Nat) (hn : n < 5) : CT l yX2_onlyError cX2_onlyError 7 ((Option.some FieldType.int)) ({ frames := 1, cells := 0, slots := 0, locals := 22 } : Room) [.long x, .int (nI n)] D CL (TYS g) [] [] (S := Unit) (fun _ => some (.int (oI (oe x n)))) (fun _ => []) (fun _ => True) 0 0 := by
  refine ct_of (by decide +kernel) (Nat.le_of_ble_eq_true rfl) ?_
  intro p e s m below meth c A X hr hnm hSB hRO hAf
  refine g_cs (ws' := []) (lv' := [(0, .long x), (2, .int (nI n))]) rfl rfl ?_
  obtain ⟨tE, hZE, hTE⟩ := hSB.2.2.1
  refine g_run X KX2_onlyError_0_0 KX2_onlyError_0_0_d 2 [(0, .long x), (2, .int (nI n))] [.int (nI 0), .long x] rfl ?_
  refine g_callSN X hSB hAf (host := "Chipfield") (As := [.long x, .int (nI 0)]) (wr := []) (n := 2) (c_X5_numberAt l D g x 0 (by omega)) rfl srcN hrdN w_215 (nw_in n_267 rfl) w_214 w_1 (by decide +kernel) rfl ⟨Nat.le_of_ble_eq_true rfl, Nat.le_of_ble_eq_true rfl⟩ rfl rfl rfl (Nat.le_of_ble_eq_true rfl) ⟨Nat.le_of_ble_eq_true rfl, Nat.le_of_ble_eq_true rfl⟩ dX2_onlyError_2 (fun u1 _ => ?_)
  refine g_af (ws' := []) (st' := [.int (nI (nib x 0))]) (cells' := 0) (slots' := 0) (pc' := 5) rfl rfl rfl rfl rfl ?_
  refine g_run X KX2_onlyError_5_1 KX2_onlyError_5_1_d 8 [(3, .int (nI (nib x 0))), (0, .long x), (2, .int (nI n))] [.int (nI 1), .long x] rfl ?_
  refine g_callSN X hSB hAf (host := "Chipfield") (As := [.long x, .int (nI 1)]) (wr := []) (n := 2) (c_X5_numberAt l D g x 1 (by omega)) rfl srcN hrdN w_215 (nw_in n_267 rfl) w_214 w_1 (by decide +kernel) rfl ⟨Nat.le_of_ble_eq_true rfl, Nat.le_of_ble_eq_true rfl⟩ rfl rfl rfl (Nat.le_of_ble_eq_true rfl) ⟨Nat.le_of_ble_eq_true rfl, Nat.le_of_ble_eq_true rfl⟩ dX2_onlyError_8 (fun u2 _ => ?_)
  refine g_af (ws' := []) (st' := [.int (nI (nib x 1))]) (cells' := 0) (slots' := 0) (pc' := 11) rfl rfl rfl rfl rfl ?_
  refine g_run X KX2_onlyError_11_2 KX2_onlyError_11_2_d 15 [(4, .int (nI (nib x 1))), (3, .int (nI (nib x 0))), (0, .long x), (2, .int (nI n))] [.int (nI 2), .int (nI n)] rfl ?_
  refine g_icmp_lt X 27 dX2_onlyError_15 (by decide) (fun hc3 => ?_) (fun hc3 => ?_)
  · rw [nI_ltI (by omega) (by omega)] at hc3
    refine g_run X KX2_onlyError_27_3 KX2_onlyError_27_3_d 28 [(4, .int (nI (nib x 1))), (3, .int (nI (nib x 0))), (0, .long x), (2, .int (nI n))] [.int (-nI 1)] rfl ?_
    exact g_iret X hr () (by show some (Value.int _) = some (Value.int _); rw [oe, if_pos (by omega)]; rfl) (trivial) ((List.append_nil _).symm) (Nat.le_of_ble_eq_true rfl) (Nat.le_of_ble_eq_true rfl) dX2_onlyError_28
  · rw [nI_ltI (by omega) (by omega)] at hc3
    refine g_run X KX2_onlyError_18_4 KX2_onlyError_18_4_d 19 [(4, .int (nI (nib x 1))), (3, .int (nI (nib x 0))), (0, .long x), (2, .int (nI n))] [.int (nI (nib x 0))] rfl ?_
    refine g_if_eq X 27 dX2_onlyError_19 (by decide) (fun hc4 => ?_) (fun hc4 => ?_)
    · rw [nz_eq (by have := nib_lt x 0; omega)] at hc4
      refine g_run X KX2_onlyError_27_3 KX2_onlyError_27_3_d 28 [(4, .int (nI (nib x 1))), (3, .int (nI (nib x 0))), (0, .long x), (2, .int (nI n))] [.int (-nI 1)] rfl ?_
      exact g_iret X hr () (by show some (Value.int _) = some (Value.int _); rw [oe, if_pos (by omega)]; rfl) (trivial) ((List.append_nil _).symm) (Nat.le_of_ble_eq_true rfl) (Nat.le_of_ble_eq_true rfl) dX2_onlyError_28
    · rw [nz_eq (by have := nib_lt x 0; omega)] at hc4
      refine g_run X KX2_onlyError_22_5 KX2_onlyError_22_5_d 24 [(4, .int (nI (nib x 1))), (3, .int (nI (nib x 0))), (0, .long x), (2, .int (nI n))] [.int (nI (nib x 1))] rfl ?_
      refine g_if_ne X 29 dX2_onlyError_24 (by decide) (fun hc5 => ?_) (fun hc5 => ?_)
      · rw [nz_eq (by have := nib_lt x 1; omega)] at hc5
        refine g_gets X hZE w_273 dX2_onlyError_29 ?_
        refine g_run X KX2_onlyError_32_6 KX2_onlyError_32_6_d 34 [(4, .int (nI (nib x 1))), (3, .int (nI (nib x 0))), (0, .long x), (2, .int (nI n))] [.int (nI (nib x 1)), .ref tE] rfl ?_
        refine g_ti X hTE (v := .int (nI (ex (nib x 1)))) (nib x 1) rfl (nib_lt _ _) (by decide) rfl dX2_onlyError_34 ?_
        refine g_gets X hZE w_273 dX2_onlyError_35 ?_
        refine g_run X KX2_onlyError_38_7 KX2_onlyError_38_7_d 39 [(4, .int (nI (nib x 1))), (3, .int (nI (nib x 0))), (0, .long x), (2, .int (nI n))] [.int (nI (nib x 0)), .ref tE, .int (nI (ex (nib x 1)))] rfl ?_
        refine g_ti X hTE (v := .int (nI (ex (nib x 0)))) (nib x 0) rfl (nib_lt _ _) (by decide) rfl dX2_onlyError_39 ?_
        refine g_run X KX2_onlyError_40_8 KX2_onlyError_40_8_d 46 [(4, .int (nI (nib x 1))), (3, .int (nI (nib x 0))), (0, .long x), (2, .int (nI n))] [.int (nI 15), .int (((nI (ex (nib x 1))) - (nI (ex (nib x 0)))) + (nI 15))] rfl ?_
        have h0 := ex_lt _ (nib_lt x 0)
        have h1 := ex_lt _ (nib_lt x 1)
        refine g_st (st' := [.int (nI 15), .int (nI (ex (nib x 1) + 15 - ex (nib x 0)))]) (by rw [sub15 (by omega) (by omega)]) ?_
        refine g_irem X (v := nI ((ex (nib x 1) + 15 - ex (nib x 0)) % 15)) (nI_ne0 (by decide) (by decide)) (pk_rem (by omega) (by omega) (by decide)) dX2_onlyError_46 ?_
        refine g_st (st' := [.int (nI (oeP x))]) rfl ?_
        refine g_run X KX2_onlyError_47_9 KX2_onlyError_47_9_d 52 [(6, .int (nI 1)), (5, .int (nI (oeP x))), (4, .int (nI (nib x 1))), (3, .int (nI (nib x 0))), (0, .long x), (2, .int (nI n))] [] rfl ?_
        refine g_lv (lv' := [(0, .long x), (2, .int (nI n)), (3, .int (nI (nib x 0))), (4, .int (nI (nib x 1))), (5, .int (nI (oeP x))), (6, .int (nI 1))]) (lsub_c 4 rfl (lsub_c 5 rfl (lsub_c 3 rfl (lsub_c 2 rfl (lsub_c 1 rfl (lsub_c 0 rfl (lsub_n))))))) ?_
        refine g_forP (n - 1) (fun _ => []) (fun i => [(0, .long x), (2, .int (nI n)), (3, .int (nI (nib x 0))), (4, .int (nI (nib x 1))), (5, .int (nI (oeP x))), (6, .int (nI (i + 1)))]) (fun i => ∀ k, k < i → tp (nib x k) (oeP x) = nib x (k + 1)) (fun _ h => absurd h (Nat.not_lt_zero _)) (rfl) (rfl) ?_ ?_
        · intro hP52
          refine g_run X KX2_onlyError_52_10 KX2_onlyError_52_10_d 55 [(0, .long x), (2, .int (nI n)), (3, .int (nI (nib x 0))), (4, .int (nI (nib x 1))), (5, .int (nI (oeP x))), (6, .int (nI (n - 1 + 1)))] [.int (nI n), .int (nI (n - 1 + 1))] rfl ?_
          refine g_icmp_ge X 88 dX2_onlyError_55 (by decide) (fun hc6 => ?_) (fun hc6 => ?_)
          · refine g_run X KX2_onlyError_88_11 KX2_onlyError_88_11_d 90 [(0, .long x), (2, .int (nI n)), (3, .int (nI (nib x 0))), (4, .int (nI (nib x 1))), (5, .int (nI (oeP x))), (6, .int (nI (n - 1 + 1)))] [.int (nI (oeP x))] rfl ?_
            exact g_iret X hr () (by show some (Value.int _) = some (Value.int _); rw [oe, if_neg (by omega), if_pos hP52]; rfl) (trivial) ((List.append_nil _).symm) (Nat.le_of_ble_eq_true rfl) (Nat.le_of_ble_eq_true rfl) dX2_onlyError_90
          · rw [nI_leI (by omega) (by omega)] at hc6; first | omega | (simp at hc6)
        · intro i hi hP52 k52
          refine g_run X KX2_onlyError_52_10 KX2_onlyError_52_10_d 55 [(0, .long x), (2, .int (nI n)), (3, .int (nI (nib x 0))), (4, .int (nI (nib x 1))), (5, .int (nI (oeP x))), (6, .int (nI (i + 1)))] [.int (nI n), .int (nI (i + 1))] rfl ?_
          refine g_icmp_ge X 88 dX2_onlyError_55 (by decide) (fun hc7 => ?_) (fun hc7 => ?_)
          · rw [nI_leI (by omega) (by omega)] at hc7; first | omega | (simp at hc7)
          · refine g_run X KX2_onlyError_58_12 KX2_onlyError_58_12_d 63 [(0, .long x), (2, .int (nI n)), (3, .int (nI (nib x 0))), (4, .int (nI (nib x 1))), (5, .int (nI (oeP x))), (6, .int (nI (i + 1)))] [.int ((nI (i + 1)) - (nI 1)), .long x] rfl ?_
            refine g_st (st' := [.int (nI i), .long x]) (by rw [pk_sub (by omega)]; rfl) ?_
            refine g_callSN X hSB hAf (host := "Chipfield") (As := [.long x, .int (nI i)]) (wr := []) (n := 2) (c_X5_numberAt l D g x i (by omega)) rfl srcN hrdN w_215 (nw_in n_267 rfl) w_214 w_1 (by decide +kernel) rfl ⟨Nat.le_of_ble_eq_true rfl, Nat.le_of_ble_eq_true rfl⟩ rfl rfl rfl (Nat.le_of_ble_eq_true rfl) ⟨Nat.le_of_ble_eq_true rfl, Nat.le_of_ble_eq_true rfl⟩ dX2_onlyError_63 (fun u8 _ => ?_)
            refine g_af (ws' := []) (st' := [.int (nI (nib x i))]) (cells' := 0) (slots' := 0) (pc' := 66) rfl rfl rfl rfl rfl ?_
            refine g_run X KX2_onlyError_66_13 KX2_onlyError_66_13_d 68 [(0, .long x), (2, .int (nI n)), (3, .int (nI (nib x 0))), (4, .int (nI (nib x 1))), (5, .int (nI (oeP x))), (6, .int (nI (i + 1)))] [.int (nI (oeP x)), .int (nI (nib x i))] rfl ?_
            refine g_callS X hSB hAf (As := [.int (nI (nib x i)), .int (nI (oeP x))]) (wr := []) (n := 2) (c_X2_timesPower l D g (nib x i) (oeP x) (nib_lt _ _) (by have := oeP_lt x; omega)) rfl srcN hrdN w_270 w_268 w_269 w_22 (by decide +kernel) rfl ⟨Nat.le_of_ble_eq_true rfl, Nat.le_of_ble_eq_true rfl⟩ rfl rfl rfl (Nat.le_of_ble_eq_true rfl) ⟨Nat.le_of_ble_eq_true rfl, Nat.le_of_ble_eq_true rfl⟩ dX2_onlyError_68 (fun u9 _ => ?_)
            refine g_af (ws' := []) (st' := [.int (nI (tp (nib x i) (oeP x)))]) (cells' := 0) (slots' := 0) (pc' := 71) rfl rfl rfl rfl rfl ?_
            refine g_run X KX2_onlyError_71_14 KX2_onlyError_71_14_d 74 [(0, .long x), (2, .int (nI n)), (3, .int (nI (nib x 0))), (4, .int (nI (nib x 1))), (5, .int (nI (oeP x))), (6, .int (nI (i + 1)))] [.int (nI (i + 1)), .long x, .int (nI (tp (nib x i) (oeP x)))] rfl ?_
            refine g_callSN X hSB hAf (host := "Chipfield") (As := [.long x, .int (nI (i + 1))]) (wr := []) (n := 2) (c_X5_numberAt l D g x (i + 1) (by omega)) rfl srcN hrdN w_215 (nw_in n_267 rfl) w_214 w_1 (by decide +kernel) rfl ⟨Nat.le_of_ble_eq_true rfl, Nat.le_of_ble_eq_true rfl⟩ rfl rfl rfl (Nat.le_of_ble_eq_true rfl) ⟨Nat.le_of_ble_eq_true rfl, Nat.le_of_ble_eq_true rfl⟩ dX2_onlyError_74 (fun u10 _ => ?_)
            refine g_af (ws' := []) (st' := [.int (nI (nib x (i + 1))), .int (nI (tp (nib x i) (oeP x)))]) (cells' := 0) (slots' := 0) (pc' := 77) rfl rfl rfl rfl rfl ?_
            refine g_icmp_eq X 82 dX2_onlyError_77 (by decide) (fun hc11 => ?_) (fun hc11 => ?_)
            · rw [nI_eq (by have := @tp_lt (nib x i) (oeP x); omega) (by have := nib_lt x (i + 1); omega)] at hc11
              refine g_run X KX2_onlyError_82_15 KX2_onlyError_82_15_d 52 [(6, .int ((nI (i + 1)) + (nI 1))), (0, .long x), (2, .int (nI n)), (3, .int (nI (nib x 0))), (4, .int (nI (nib x 1))), (5, .int (nI (oeP x)))] [] rfl ?_
              refine g_nm (lv' := [(6, .int (nI ((i + 1) + 1))), (0, .long x), (2, .int (nI n)), (3, .int (nI (nib x 0))), (4, .int (nI (nib x 1))), (5, .int (nI (oeP x)))]) (st' := []) (by simp only [nI_add]) (by simp only [nI_add]) ?_
              refine g_lv (lv' := [(0, .long x), (2, .int (nI n)), (3, .int (nI (nib x 0))), (4, .int (nI (nib x 1))), (5, .int (nI (oeP x))), (6, .int (nI ((i + 1) + 1)))]) (lsub_c 1 rfl (lsub_c 2 rfl (lsub_c 3 rfl (lsub_c 4 rfl (lsub_c 5 rfl (lsub_c 0 rfl (lsub_n))))))) ?_
              refine g_cs (ws' := []) (lv' := [(0, .long x), (2, .int (nI n)), (3, .int (nI (nib x 0))), (4, .int (nI (nib x 1))), (5, .int (nI (oeP x))), (6, .int (nI ((i + 1) + 1)))]) (rfl) (rfl) ?_
              exact k52 (fun k hk => by rcases Nat.lt_succ_iff_lt_or_eq.mp hk with h | h; exact hP52 k h; subst h; assumption)
            · rw [nI_eq (by have := @tp_lt (nib x i) (oeP x); omega) (by have := nib_lt x (i + 1); omega)] at hc11
              refine g_run X KX2_onlyError_80_16 KX2_onlyError_80_16_d 81 [(0, .long x), (2, .int (nI n)), (3, .int (nI (nib x 0))), (4, .int (nI (nib x 1))), (5, .int (nI (oeP x))), (6, .int (nI (i + 1)))] [.int (-nI 1)] rfl ?_
              exact g_iret X hr () (by show some (Value.int _) = some (Value.int _); rw [oe, if_neg (by omega), if_neg (fun hz => absurd (hz i hi) (by assumption))]; rfl) (trivial) ((List.append_nil _).symm) (Nat.le_of_ble_eq_true rfl) (Nat.le_of_ble_eq_true rfl) dX2_onlyError_81
      · rw [nz_eq (by have := nib_lt x 1; omega)] at hc5
        refine g_run X KX2_onlyError_27_3 KX2_onlyError_27_3_d 28 [(4, .int (nI (nib x 1))), (3, .int (nI (nib x 0))), (0, .long x), (2, .int (nI n))] [.int (-nI 1)] rfl ?_
        exact g_iret X hr () (by show some (Value.int _) = some (Value.int _); rw [oe, if_pos (by omega)]; rfl) (trivial) ((List.append_nil _).symm) (Nat.le_of_ble_eq_true rfl) (Nat.le_of_ble_eq_true rfl) dX2_onlyError_28

theorem ps_t {b : Nat} {i : Nat} (h : b.testBit i = true) : pcn b (i + 1) = pcn b i + 1 := by rw [pcn, h]; rfl
theorem ps_f {b : Nat} {i : Nat} (h : b.testBit i = false) : pcn b (i + 1) = pcn b i := by rw [pcn, h]; rfl
theorem es_t {b i : Nat} {x : Int64} (h : b.testBit i = true) : ebl b x (i + 1) = bl i (ebl b x i) (4 - pcn b i - 1) := by rw [ebl, if_pos h]
theorem es_f {b i : Nat} {x : Int64} (h : b.testBit i = false) : ebl b x (i + 1) = ebl b x i := by rw [ebl, if_neg (by rw [h]; decide)]
theorem nf_t {x : Bool} (h : ¬ x = false) : x = true := by cases x <;> first | rfl | exact absurd rfl h
theorem pcn_le {b i j : Nat} (h : b.testBit i = true) (hj : i < j) (h4 : pcn b j ≤ 4) : pcn b i ≤ 3 := by
  have h1 := pcn_mono b (show i + 1 ≤ j from hj)
  rw [ps_t h] at h1
  omega
theorem two_lt {i : Nat} (h : i < 15) : 2 ^ i < 2 ^ 15 := Nat.pow_lt_pow_right (by decide) h
theorem l0 : (lN 0 : Int64) = 0 := rfl

