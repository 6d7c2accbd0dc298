/-! the classes of the worlds, the array classes; the class's functions on numbers -/
abbrev CL : List vw_C := [(RX0, TX0, 5), (RX1, TX1, 9), (RX3, TX3, 5), (RX4, TX4, 8), (RX5, TX5, 3), (RX6, TX6, 2), (RX7, TX7, 5), (RX8, TX8, 4), (RX9, TX9, 22), (RJx4a65c, TJx4a65c, 3), (RJ4, TJ4, 4), (RJ0, TJ0, 4)]
abbrev TYS (g : Nat → ClassId) : List (ClassId × FieldType) := [(g 0, .int), (g 1, .object "Chipfield$Chip"), (g 2, .object "Chipfield$Frame"), (g 3, .object "ChipfieldModel$Chip"), (g 4, .object "java/lang/Object"), (g 5, .long), (g 6, .byte)]
theorem oI_none {o : Option Nat} (h : ∀ k, o = some k → k < 2 ^ 31) : oI o = -nI 1 ↔ o = none := by
  cases o with
  | none => exact ⟨fun _ => rfl, fun _ => rfl⟩
  | some k =>
    refine ⟨fun q => ?_, fun q => by cases q⟩
    have h1 := nI_toInt (h k rfl)
    have h2 : (nI k) = -nI 1 := q
    rw [h2] at h1
    have h3 : (-nI 1).toInt = -1 := by decide
    omega
theorem m1_ne {k : Nat} (h : k < 2 ^ 31) : ¬ nI k = -nI 1 := fun q => by
  have := (oI_none (o := some k) (fun j e => by cases e; exact h)).mp q
  cases this

def KX5_numberAt_0_0 : List (Nat × Instr × Nat) := [(0, .lload_n 0, 1), (1, .iconst 4, 1), (2, .iload_n 2, 1), (3, .imul, 1), (4, .lushr, 1), (5, .l2i, 1), (6, .bipush 15, 2), (8, .iand, 1)]
theorem KX5_numberAt_0_0_d : ∀ z ∈ KX5_numberAt_0_0, decode cX5_numberAt z.1 = .ok z.2 := by decide +kernel
set_option maxHeartbeats 4000000 in
set_option maxRecDepth 100000 in
theorem c_X5_numberAt (l : Launch) (D : va_G) (g : Nat → ClassId) (x : Int64) (q : Nat) (hq : q < 16) : CT l yX5_numberAt cX5_numberAt 3 ((Option.some FieldType.int)) ({ frames := 0, cells := 0, slots := 0, locals := 0 } : Room) [.long x, .int (nI q)] D CL (TYS g) ([]) ([]) (S := Unit) (fun _ => some (.int (nI (nib x q)))) (fun _ => []) (fun _ => True) 0 0 := by
  refine ct_of (by decide +kernel) (Nat.le_of_ble_eq_true rfl) ?_
  intro p e s m below meth c A X hr hnm hSB hRO hAf
  refine g_cs (ws' := []) (lv' := [(0, .long x), (2, .int (nI q))]) rfl rfl ?_
  refine g_run X KX5_numberAt_0_0 KX5_numberAt_0_0_d 9 [(0, .long x), (2, .int (nI q))] [.int ((((x.toUInt64 >>> (((nI 4) * (nI q)).toInt64.toUInt64 &&& Int64.toUInt64 63)).toInt64).toInt32) &&& (nI 15))] rfl ?_
  exact g_iret X hr () (by show some (Value.int _) = some (Value.int _); rw [pk_mul, nA_eq hq]) (trivial) ((List.append_nil _).symm) (Nat.le_of_ble_eq_true rfl) (Nat.le_of_ble_eq_true rfl) dX5_numberAt_9

def KX5_withNumber_0_0 : List (Nat × Instr × Nat) := [(0, .iconst 4, 1), (1, .iload_n 2, 1), (2, .imul, 1), (3, .istore 4, 2), (5, .lload_n 0, 1)]
theorem KX5_withNumber_0_0_d : ∀ z ∈ KX5_withNumber_0_0, decode cX5_withNumber z.1 = .ok z.2 := by decide +kernel
def KX5_withNumber_9_1 : List (Nat × Instr × Nat) := [(9, .iload 4, 2), (11, .lshl, 1)]
theorem KX5_withNumber_9_1_d : ∀ z ∈ KX5_withNumber_9_1, decode cX5_withNumber z.1 = .ok z.2 := by decide +kernel
def KX5_withNumber_15_2 : List (Nat × Instr × Nat) := [(15, .lxor, 1), (16, .land, 1), (17, .iload_n 3, 1), (18, .bipush 15, 2), (20, .iand, 1), (21, .i2l, 1), (22, .iload 4, 2), (24, .lshl, 1), (25, .lor, 1)]
theorem KX5_withNumber_15_2_d : ∀ z ∈ KX5_withNumber_15_2, decode cX5_withNumber z.1 = .ok z.2 := by decide +kernel
set_option maxHeartbeats 4000000 in
set_option maxRecDepth 100000 in
theorem c_X5_withNumber (l : Launch) (D : va_G) (g : Nat → ClassId) (x : Int64) (q : Nat) (v : Nat) (hq : q < 16) : CT l yX5_withNumber cX5_withNumber 5 ((Option.some FieldType.long)) ({ frames := 0, cells := 0, slots := 0, locals := 0 } : Room) [.long x, .int (nI q), .int (nI v)] D CL (TYS g) ([]) ([]) (S := Unit) (fun _ => some (.long (wn x q v))) (fun _ => []) (fun _ => True) 0 0 := by
  refine ct_of (by decide +kernel) (Nat.le_of_ble_eq_true rfl) ?_
  intro p e s m below meth c A X hr hnm hSB hRO hAf
  refine g_cs (ws' := []) (lv' := [(0, .long x), (2, .int (nI q)), (3, .int (nI v))]) rfl rfl ?_
  refine g_run X KX5_withNumber_0_0 KX5_withNumber_0_0_d 6 [(4, .int ((nI 4) * (nI q))), (0, .long x), (2, .int (nI q)), (3, .int (nI v))] [.long x] rfl ?_
  refine g_nm (lv' := [(4, .int (nI (4 * q))), (0, .long x), (2, .int (nI q)), (3, .int (nI v))]) (st' := [.long x]) (by simp only [pk_mul]) (by simp only [pk_mul]) ?_
  refine g_ldc2 X (v := (15 : Int64)) w_223 dX5_withNumber_6 ?_
  refine g_run X KX5_withNumber_9_1 KX5_withNumber_9_1_d 12 [(4, .int (nI (4 * q))), (0, .long x), (2, .int (nI q)), (3, .int (nI v))] [.long ((15 : Int64) <<< ((nI (4 * q)).toInt64 &&& 63)), .long x] rfl ?_
  refine g_ldc2 X (v := (-1 : Int64)) w_224 dX5_withNumber_12 ?_
  refine g_run X KX5_withNumber_15_2 KX5_withNumber_15_2_d 26 [(4, .int (nI (4 * q))), (0, .long x), (2, .int (nI q)), (3, .int (nI v))] [.long ((x &&& (((15 : Int64) <<< ((nI (4 * q)).toInt64 &&& 63)) ^^^ (-1 : Int64))) ||| ((((nI v) &&& (nI 15)).toInt64) <<< ((nI (4 * q)).toInt64 &&& 63)))] rfl ?_
  exact g_lret X hr () (rfl) (trivial) ((List.append_nil _).symm) (Nat.le_of_ble_eq_true rfl) (Nat.le_of_ble_eq_true rfl) dX5_withNumber_26

def KX5_isIn_0_0 : List (Nat × Instr × Nat) := [(0, .iload_n 0, 1), (1, .iload_n 1, 1), (2, .ishr, 1), (3, .iconst 1, 1), (4, .iand, 1)]
theorem KX5_isIn_0_0_d : ∀ z ∈ KX5_isIn_0_0, decode cX5_isIn z.1 = .ok z.2 := by decide +kernel
def KX5_isIn_12_1 : List (Nat × Instr × Nat) := [(12, .iconst 0, 1)]
theorem KX5_isIn_12_1_d : ∀ z ∈ KX5_isIn_12_1, decode cX5_isIn z.1 = .ok z.2 := by decide +kernel
def KX5_isIn_8_2 : List (Nat × Instr × Nat) := [(8, .iconst 1, 1), (9, .goto 4, 3)]
theorem KX5_isIn_8_2_d : ∀ z ∈ KX5_isIn_8_2, decode cX5_isIn z.1 = .ok z.2 := by decide +kernel
set_option maxHeartbeats 4000000 in
set_option maxRecDepth 100000 in
theorem c_X5_isIn (l : Launch) (D : va_G) (g : Nat → ClassId) (b : Nat) (q : Nat) (hb : b < 2 ^ 31) (hq : q < 31) : CT l yX5_isIn cX5_isIn 2 ((Option.some FieldType.boolean)) ({ frames := 0, cells := 0, slots := 0, locals := 0 } : Room) [.int (nI b), .int (nI q)] D CL (TYS g) ([]) ([]) (S := Unit) (fun _ => some (.int (nI (bN (b.testBit q))))) (fun _ => []) (fun _ => True) 0 0 := by
  refine ct_of (by decide +kernel) (Nat.le_of_ble_eq_true rfl) ?_
  intro p e s m below meth c A X hr hnm hSB hRO hAf
  refine g_cs (ws' := []) (lv' := [(0, .int (nI b)), (1, .int (nI q))]) rfl rfl ?_
  refine g_run X KX5_isIn_0_0 KX5_isIn_0_0_d 5 [(0, .int (nI b)), (1, .int (nI q))] [.int (((nI b) >>> ((nI q) &&& 31)) &&& (nI 1))] rfl ?_
  refine g_if_eq X 12 dX5_isIn_5 (by decide) (fun hc1 => ?_) (fun hc1 => ?_)
  · rw [in_eq hb hq, bN_eq0] at hc1
    refine g_run X KX5_isIn_12_1 KX5_isIn_12_1_d 13 [(0, .int (nI b)), (1, .int (nI q))] [.int (nI 0)] rfl ?_
    exact g_zret X hr (by decide +kernel) () (by show some (Value.int _) = some (Value.int _); simp [bN, *]) (trivial) ((List.append_nil _).symm) (Nat.le_of_ble_eq_true rfl) (Nat.le_of_ble_eq_true rfl) dX5_isIn_13
  · rw [in_eq hb hq, bN_eq0] at hc1
    refine g_run X KX5_isIn_8_2 KX5_isIn_8_2_d 13 [(0, .int (nI b)), (1, .int (nI q))] [.int (nI 1)] rfl ?_
    exact g_zret X hr (by decide +kernel) () (by show some (Value.int _) = some (Value.int _); simp [bN, *]) (trivial) ((List.append_nil _).symm) (Nat.le_of_ble_eq_true rfl) (Nat.le_of_ble_eq_true rfl) dX5_isIn_13

def KX2_timesPower_0_0 : List (Nat × Instr × Nat) := [(0, .iload_n 0, 1), (1, .iconst 1, 1)]
theorem KX2_timesPower_0_0_d : ∀ z ∈ KX2_timesPower_0_0, decode cX2_timesPower z.1 = .ok z.2 := by decide +kernel
def KX2_timesPower_15_1 : List (Nat × Instr × Nat) := [(15, .iconst 0, 1)]
theorem KX2_timesPower_15_1_d : ∀ z ∈ KX2_timesPower_15_1, decode cX2_timesPower z.1 = .ok z.2 := by decide +kernel
def KX2_timesPower_5_2 : List (Nat × Instr × Nat) := [(5, .iload_n 0, 1), (6, .bipush 15, 2)]
theorem KX2_timesPower_5_2_d : ∀ z ∈ KX2_timesPower_5_2, decode cX2_timesPower z.1 = .ok z.2 := by decide +kernel
def KX2_timesPower_11_3 : List (Nat × Instr × Nat) := [(11, .iload_n 1, 1)]
theorem KX2_timesPower_11_3_d : ∀ z ∈ KX2_timesPower_11_3, decode cX2_timesPower z.1 = .ok z.2 := by decide +kernel
def KX2_timesPower_23_4 : List (Nat × Instr × Nat) := [(23, .iload_n 0, 1)]
theorem KX2_timesPower_23_4_d : ∀ z ∈ KX2_timesPower_23_4, decode cX2_timesPower z.1 = .ok z.2 := by decide +kernel
def KX2_timesPower_25_5 : List (Nat × Instr × Nat) := [(25, .iload_n 1, 1), (26, .bipush 15, 2)]
theorem KX2_timesPower_25_5_d : ∀ z ∈ KX2_timesPower_25_5, decode cX2_timesPower z.1 = .ok z.2 := by decide +kernel
def KX2_timesPower_29_6 : List (Nat × Instr × Nat) := [(29, .iadd, 1), (30, .bipush 15, 2)]
theorem KX2_timesPower_29_6_d : ∀ z ∈ KX2_timesPower_29_6, decode cX2_timesPower z.1 = .ok z.2 := by decide +kernel
set_option maxHeartbeats 4000000 in
set_option maxRecDepth 100000 in
theorem c_X2_timesPower (l : Launch) (D : va_G) (g : Nat → ClassId) (a : Nat) (n : Nat) (ha : a < 16) (hn : n < 2 ^ 31) : CT l yX2_timesPower cX2_timesPower 2 ((Option.some FieldType.int)) ({ frames := 0, cells := 0, slots := 0, locals := 0 } : Room) [.int (nI a), .int (nI n)] D CL (TYS g) ([]) ([]) (S := Unit) (fun _ => some (.int (nI (tp a n)))) (fun _ => []) (fun _ => True) 0 0 := by
  refine ct_of (by decide +kernel) (Nat.le_of_ble_eq_true rfl) ?_
  intro p e s m below meth c A X hr hnm hSB hRO hAf
  refine g_cs (ws' := []) (lv' := [(0, .int (nI a)), (1, .int (nI n))]) rfl rfl ?_
  obtain ⟨tP, hZP, hTP⟩ := hSB.2.1
  obtain ⟨tE, hZE, hTE⟩ := hSB.2.2.1
  refine g_run X KX2_timesPower_0_0 KX2_timesPower_0_0_d 2 [(0, .int (nI a)), (1, .int (nI n))] [.int (nI 1), .int (nI a)] rfl ?_
  refine g_icmp_lt X 15 dX2_timesPower_2 (by decide) (fun hc1 => ?_) (fun hc1 => ?_)
  · rw [nI_ltI (by omega) (by omega)] at hc1
    refine g_run X KX2_timesPower_15_1 KX2_timesPower_15_1_d 16 [(0, .int (nI a)), (1, .int (nI n))] [.int (nI 0)] rfl ?_
    exact g_iret X hr () (by show some (Value.int _) = some (Value.int _); rw [tp, if_pos (by omega)]) (trivial) ((List.append_nil _).symm) (Nat.le_of_ble_eq_true rfl) (Nat.le_of_ble_eq_true rfl) dX2_timesPower_16
  · rw [nI_ltI (by omega) (by omega)] at hc1
    refine g_run X KX2_timesPower_5_2 KX2_timesPower_5_2_d 8 [(0, .int (nI a)), (1, .int (nI n))] [.int (nI 15), .int (nI a)] rfl ?_
    refine g_icmp_gt X 15 dX2_timesPower_8 (by decide) (fun hc2 => ?_) (fun hc2 => ?_)
    · rw [nI_ltI (by omega) (by omega)] at hc2; first | omega | (simp at hc2)
    · refine g_run X KX2_timesPower_11_3 KX2_timesPower_11_3_d 12 [(0, .int (nI a)), (1, .int (nI n))] [.int (nI n)] rfl ?_
      refine g_if_ge X 17 dX2_timesPower_12 (by decide) (fun hc3 => ?_) (fun hc3 => ?_)
      · have hex := ex_lt a ha
        refine g_gets X hZP w_271 dX2_timesPower_17 ?_
        refine g_gets X hZE w_273 dX2_timesPower_20 ?_
        refine g_run X KX2_timesPower_23_4 KX2_timesPower_23_4_d 24 [(0, .int (nI a)), (1, .int (nI n))] [.int (nI a), .ref tE, .ref tP] rfl ?_
        refine g_ti X hTE (v := .int (nI (ex a))) a rfl (by omega) (by decide) rfl dX2_timesPower_24 ?_
        refine g_run X KX2_timesPower_25_5 KX2_timesPower_25_5_d 28 [(0, .int (nI a)), (1, .int (nI n))] [.int (nI 15), .int (nI n), .int (nI (ex a)), .ref tP] rfl ?_
        refine g_irem X (v := nI (n % 15)) (nI_ne0 (by decide) (by decide)) (pk_rem (by omega) (by omega) (by decide)) dX2_timesPower_28 ?_
        refine g_run X KX2_timesPower_29_6 KX2_timesPower_29_6_d 32 [(0, .int (nI a)), (1, .int (nI n))] [.int (nI 15), .int ((nI (ex a)) + (nI (n % 15))), .ref tP] rfl ?_
        refine g_nm (lv' := [(0, .int (nI a)), (1, .int (nI n))]) (st' := [.int (nI 15), .int (nI ((ex a) + (n % 15))), .ref tP]) (by simp only [nI_add]) (by simp only [nI_add]) ?_
        refine g_irem X (v := nI (((ex a) + (n % 15)) % 15)) (nI_ne0 (by decide) (by decide)) (pk_rem (by omega) (by omega) (by decide)) dX2_timesPower_32 ?_
        refine g_ti X hTP (v := .int (nI (pw (((ex a) + (n % 15)) % 15)))) (((ex a) + (n % 15)) % 15) rfl (by omega) (by decide) rfl dX2_timesPower_33 ?_
        exact g_iret X hr () (by show some (Value.int _) = some (Value.int _); rw [tp, if_neg (by omega)]) (trivial) ((List.append_nil _).symm) (Nat.le_of_ble_eq_true rfl) (Nat.le_of_ble_eq_true rfl) dX2_timesPower_34
      · rw [nz_ge (by omega)] at hc3; first | omega | (simp at hc3)

def KX2_product_0_0 : List (Nat × Instr × Nat) := [(0, .iload_n 1, 1), (1, .iconst 1, 1)]
theorem KX2_product_0_0_d : ∀ z ∈ KX2_product_0_0, decode cX2_product z.1 = .ok z.2 := by decide +kernel
def KX2_product_11_1 : List (Nat × Instr × Nat) := [(11, .iconst 0, 1)]
theorem KX2_product_11_1_d : ∀ z ∈ KX2_product_11_1, decode cX2_product z.1 = .ok z.2 := by decide +kernel
def KX2_product_5_2 : List (Nat × Instr × Nat) := [(5, .iload_n 1, 1), (6, .bipush 15, 2)]
theorem KX2_product_5_2_d : ∀ z ∈ KX2_product_5_2, decode cX2_product z.1 = .ok z.2 := by decide +kernel
def KX2_product_13_3 : List (Nat × Instr × Nat) := [(13, .iload_n 0, 1)]
theorem KX2_product_13_3_d : ∀ z ∈ KX2_product_13_3, decode cX2_product z.1 = .ok z.2 := by decide +kernel
def KX2_product_17_4 : List (Nat × Instr × Nat) := [(17, .iload_n 1, 1)]
theorem KX2_product_17_4_d : ∀ z ∈ KX2_product_17_4, decode cX2_product z.1 = .ok z.2 := by decide +kernel
set_option maxHeartbeats 4000000 in
set_option maxRecDepth 100000 in
theorem c_X2_product (l : Launch) (D : va_G) (g : Nat → ClassId) (a : Nat) (b : Nat) (ha : a < 16) (hb : b < 16) : CT l yX2_product cX2_product 2 ((Option.some FieldType.int)) ({ frames := 1, cells := 0, slots := 0, locals := 21 } : Room) [.int (nI a), .int (nI b)] D CL (TYS g) ([]) ([]) (S := Unit) (fun _ => some (.int (nI (gm a b)))) (fun _ => []) (fun _ => True) 0 0 := by
  refine ct_of (by decide +kernel) (Nat.le_of_ble_eq_true rfl) ?_
  intro p e s m below meth c A X hr hnm hSB hRO hAf
  refine g_cs (ws' := []) (lv' := [(0, .int (nI a)), (1, .int (nI b))]) rfl rfl ?_
  obtain ⟨tE, hZE, hTE⟩ := hSB.2.2.1
  refine g_run X KX2_product_0_0 KX2_product_0_0_d 2 [(0, .int (nI a)), (1, .int (nI b))] [.int (nI 1), .int (nI b)] rfl ?_
  refine g_icmp_lt X 11 dX2_product_2 (by decide) (fun hc1 => ?_) (fun hc1 => ?_)
  · rw [nI_ltI (by omega) (by omega)] at hc1
    refine g_run X KX2_product_11_1 KX2_product_11_1_d 12 [(0, .int (nI a)), (1, .int (nI b))] [.int (nI 0)] rfl ?_
    exact g_iret X hr () (by show some (Value.int _) = some (Value.int _); rw [gm, if_pos (by omega)]) (trivial) ((List.append_nil _).symm) (Nat.le_of_ble_eq_true rfl) (Nat.le_of_ble_eq_true rfl) dX2_product_12
  · rw [nI_ltI (by omega) (by omega)] at hc1
    refine g_run X KX2_product_5_2 KX2_product_5_2_d 8 [(0, .int (nI a)), (1, .int (nI b))] [.int (nI 15), .int (nI b)] rfl ?_
    refine g_icmp_le X 13 dX2_product_8 (by decide) (fun hc2 => ?_) (fun hc2 => ?_)
    · refine g_run X KX2_product_13_3 KX2_product_13_3_d 14 [(0, .int (nI a)), (1, .int (nI b))] [.int (nI a)] rfl ?_
      refine g_gets X hZE w_273 dX2_product_14 ?_
      refine g_run X KX2_product_17_4 KX2_product_17_4_d 18 [(0, .int (nI a)), (1, .int (nI b))] [.int (nI b), .ref tE, .int (nI a)] rfl ?_
      refine g_ti X hTE (v := .int (nI (ex b))) b rfl (by omega) (by decide) rfl dX2_product_18 ?_
      refine g_callS X hSB hAf (As := [.int (nI a), .int (nI (ex b))]) (wr := []) (n := 2) (c_X2_timesPower l D g a (ex b) (by omega) (by have := ex_lt b hb; omega)) rfl srcN hrdN w_270 w_268 w_269 w_22 (by decide +kernel) rfl ⟨Nat.le_of_ble_eq_true rfl, Nat.le_of_ble_eq_true rfl⟩ rfl rfl rfl (Nat.le_of_ble_eq_true rfl) ⟨Nat.le_of_ble_eq_true rfl, Nat.le_of_ble_eq_true rfl⟩ dX2_product_19 (fun hu3 _ => ?_)
      refine g_af (ws' := []) (st' := [.int (nI (tp a (ex b)))]) (cells' := 0) (slots' := 0) (pc' := 22) rfl rfl rfl rfl rfl ?_
      exact g_iret X hr () (by show some (Value.int _) = some (Value.int _); rw [gm, if_neg (by omega)]) (trivial) ((List.append_nil _).symm) (Nat.le_of_ble_eq_true rfl) (Nat.le_of_ble_eq_true rfl) dX2_product_22
    · rw [nI_leI (by omega) (by omega)] at hc2; first | omega | (simp at hc2)

def KX2_quotient_0_0 : List (Nat × Instr × Nat) := [(0, .iload_n 1, 1), (1, .iconst 1, 1)]
theorem KX2_quotient_0_0_d : ∀ z ∈ KX2_quotient_0_0, decode cX2_quotient z.1 = .ok z.2 := by decide +kernel
def KX2_quotient_11_1 : List (Nat × Instr × Nat) := [(11, .iconst 0, 1)]
theorem KX2_quotient_11_1_d : ∀ z ∈ KX2_quotient_11_1, decode cX2_quotient z.1 = .ok z.2 := by decide +kernel
def KX2_quotient_5_2 : List (Nat × Instr × Nat) := [(5, .iload_n 1, 1), (6, .bipush 15, 2)]
theorem KX2_quotient_5_2_d : ∀ z ∈ KX2_quotient_5_2, decode cX2_quotient z.1 = .ok z.2 := by decide +kernel
def KX2_quotient_13_3 : List (Nat × Instr × Nat) := [(13, .iload_n 0, 1), (14, .bipush 15, 2)]
theorem KX2_quotient_13_3_d : ∀ z ∈ KX2_quotient_13_3, decode cX2_quotient z.1 = .ok z.2 := by decide +kernel
def KX2_quotient_19_4 : List (Nat × Instr × Nat) := [(19, .iload_n 1, 1)]
theorem KX2_quotient_19_4_d : ∀ z ∈ KX2_quotient_19_4, decode cX2_quotient z.1 = .ok z.2 := by decide +kernel
def KX2_quotient_21_5 : List (Nat × Instr × Nat) := [(21, .isub, 1)]
theorem KX2_quotient_21_5_d : ∀ z ∈ KX2_quotient_21_5, decode cX2_quotient z.1 = .ok z.2 := by decide +kernel
set_option maxHeartbeats 4000000 in
set_option maxRecDepth 100000 in
theorem c_X2_quotient (l : Launch) (D : va_G) (g : Nat → ClassId) (a : Nat) (b : Nat) (ha : a < 16) (hb : b < 16) : CT l yX2_quotient cX2_quotient 2 ((Option.some FieldType.int)) ({ frames := 1, cells := 0, slots := 0, locals := 21 } : Room) [.int (nI a), .int (nI b)] D CL (TYS g) ([]) ([]) (S := Unit) (fun _ => some (.int (nI (gq a b)))) (fun _ => []) (fun _ => True) 0 0 := by
  refine ct_of (by decide +kernel) (Nat.le_of_ble_eq_true rfl) ?_
  intro p e s m below meth c A X hr hnm hSB hRO hAf
  refine g_cs (ws' := []) (lv' := [(0, .int (nI a)), (1, .int (nI b))]) rfl rfl ?_
  obtain ⟨tE, hZE, hTE⟩ := hSB.2.2.1
  refine g_run X KX2_quotient_0_0 KX2_quotient_0_0_d 2 [(0, .int (nI a)), (1, .int (nI b))] [.int (nI 1), .int (nI b)] rfl ?_
  refine g_icmp_lt X 11 dX2_quotient_2 (by decide) (fun hc1 => ?_) (fun hc1 => ?_)
  · rw [nI_ltI (by omega) (by omega)] at hc1
    refine g_run X KX2_quotient_11_1 KX2_quotient_11_1_d 12 [(0, .int (nI a)), (1, .int (nI b))] [.int (nI 0)] rfl ?_
    exact g_iret X hr () (by show some (Value.int _) = some (Value.int _); rw [gq, if_pos (by omega)]) (trivial) ((List.append_nil _).symm) (Nat.le_of_ble_eq_true rfl) (Nat.le_of_ble_eq_true rfl) dX2_quotient_12
  · rw [nI_ltI (by omega) (by omega)] at hc1
    refine g_run X KX2_quotient_5_2 KX2_quotient_5_2_d 8 [(0, .int (nI a)), (1, .int (nI b))] [.int (nI 15), .int (nI b)] rfl ?_
    refine g_icmp_le X 13 dX2_quotient_8 (by decide) (fun hc2 => ?_) (fun hc2 => ?_)
    · refine g_run X KX2_quotient_13_3 KX2_quotient_13_3_d 16 [(0, .int (nI a)), (1, .int (nI b))] [.int (nI 15), .int (nI a)] rfl ?_
      refine g_gets X hZE w_273 dX2_quotient_16 ?_
      refine g_run X KX2_quotient_19_4 KX2_quotient_19_4_d 20 [(0, .int (nI a)), (1, .int (nI b))] [.int (nI b), .ref tE, .int (nI 15), .int (nI a)] rfl ?_
      refine g_ti X hTE (v := .int (nI (ex b))) b rfl (by omega) (by decide) rfl dX2_quotient_20 ?_
      refine g_run X KX2_quotient_21_5 KX2_quotient_21_5_d 22 [(0, .int (nI a)), (1, .int (nI b))] [.int ((nI 15) - (nI (ex b))), .int (nI a)] rfl ?_
      have hex := ex_lt b hb
      refine g_st (st' := [.int (nI (15 - ex b)), .int (nI a)]) (by rw [pk_sub (by omega)]) ?_
      refine g_callS X hSB hAf (As := [.int (nI a), .int (nI (15 - ex b))]) (wr := []) (n := 2) (c_X2_timesPower l D g a (15 - ex b) (by omega) (by omega)) rfl srcN hrdN w_270 w_268 w_269 w_22 (by decide +kernel) rfl ⟨Nat.le_of_ble_eq_true rfl, Nat.le_of_ble_eq_true rfl⟩ rfl rfl rfl (Nat.le_of_ble_eq_true rfl) ⟨Nat.le_of_ble_eq_true rfl, Nat.le_of_ble_eq_true rfl⟩ dX2_quotient_22 (fun hu3 _ => ?_)
      refine g_af (ws' := []) (st' := [.int (nI (tp a (15 - ex b)))]) (cells' := 0) (slots' := 0) (pc' := 25) rfl rfl rfl rfl rfl ?_
      exact g_iret X hr () (by show some (Value.int _) = some (Value.int _); rw [gq, if_neg (by omega)]) (trivial) ((List.append_nil _).symm) (Nat.le_of_ble_eq_true rfl) (Nat.le_of_ble_eq_true rfl) dX2_quotient_25
    · rw [nI_leI (by omega) (by omega)] at hc2; first | omega | (simp at hc2)

def KX2_sumOf_0_0 : List (Nat × Instr × Nat) := [(0, .iconst 0, 1), (1, .istore_n 3, 1), (2, .iconst 0, 1), (3, .istore 4, 2)]
theorem KX2_sumOf_0_0_d : ∀ z ∈ KX2_sumOf_0_0, decode cX2_sumOf z.1 = .ok z.2 := by decide +kernel
def KX2_sumOf_5_1 : List (Nat × Instr × Nat) := [(5, .iload 4, 2), (7, .bipush 15, 2)]
theorem KX2_sumOf_5_1_d : ∀ z ∈ KX2_sumOf_5_1, decode cX2_sumOf z.1 = .ok z.2 := by decide +kernel
def KX2_sumOf_34_2 : List (Nat × Instr × Nat) := [(34, .iload_n 3, 1)]
theorem KX2_sumOf_34_2_d : ∀ z ∈ KX2_sumOf_34_2, decode cX2_sumOf z.1 = .ok z.2 := by decide +kernel
def KX2_sumOf_12_3 : List (Nat × Instr × Nat) := [(12, .iload_n 3, 1), (13, .lload_n 0, 1), (14, .iload 4, 2)]
theorem KX2_sumOf_12_3_d : ∀ z ∈ KX2_sumOf_12_3, decode cX2_sumOf z.1 = .ok z.2 := by decide +kernel
def KX2_sumOf_19_4 : List (Nat × Instr × Nat) := [(19, .iload 4, 2), (21, .iload_n 2, 1), (22, .imul, 1)]
theorem KX2_sumOf_19_4_d : ∀ z ∈ KX2_sumOf_19_4, decode cX2_sumOf z.1 = .ok z.2 := by decide +kernel
def KX2_sumOf_26_5 : List (Nat × Instr × Nat) := [(26, .ixor, 1), (27, .istore_n 3, 1), (28, .iinc 4 1, 3), (31, .goto (-26), 3)]
theorem KX2_sumOf_26_5_d : ∀ z ∈ KX2_sumOf_26_5, decode cX2_sumOf z.1 = .ok z.2 := by decide +kernel
set_option maxHeartbeats 4000000 in
set_option maxRecDepth 100000 in
theorem c_X2_sumOf (l : Launch) (D : va_G) (g : Nat → ClassId) (x : Int64) (j : Nat) (hj : j < 5) : CT l yX2_sumOf cX2_sumOf 5 ((Option.some FieldType.int)) ({ frames := 1, cells := 0, slots := 0, locals := 22 } : Room) [.long x, .int (nI j)] D CL (TYS g) ([]) ([]) (S := Unit) (fun _ => some (.int (nI (sm x j 15)))) (fun _ => []) (fun _ => True) 0 0 := by
  refine ct_of (by decide +kernel) (Nat.le_of_ble_eq_true rfl) ?_
  intro p e s m below meth c A X hr hnm hSB hRO hAf
  refine g_cs (ws' := []) (lv' := [(0, .long x), (2, .int (nI j))]) rfl rfl ?_
  refine g_run X KX2_sumOf_0_0 KX2_sumOf_0_0_d 5 [(4, .int (nI 0)), (3, .int (nI 0)), (0, .long x), (2, .int (nI j))] [] rfl ?_
  refine g_lv (lv' := [(0, .long x), (2, .int (nI j)), (3, .int (nI 0)), (4, .int (nI 0))]) (lsub_c 2 rfl (lsub_c 3 rfl (lsub_c 1 rfl (lsub_c 0 rfl (lsub_n))))) ?_
  refine g_for 15 (fun _ => []) (fun i => [(0, .long x), (2, .int (nI j)), (3, .int (nI (sm x j i))), (4, .int (nI i))]) (rfl) (rfl) ?_ ?_
  · refine g_run X KX2_sumOf_5_1 KX2_sumOf_5_1_d 9 [(0, .long x), (2, .int (nI j)), (3, .int (nI (sm x j 15))), (4, .int (nI 15))] [.int (nI 15), .int (nI 15)] rfl ?_
    refine g_icmp_ge X 34 dX2_sumOf_9 (by decide) (fun hc1 => ?_) (fun hc1 => ?_)
    · refine g_run X KX2_sumOf_34_2 KX2_sumOf_34_2_d 35 [(0, .long x), (2, .int (nI j)), (3, .int (nI (sm x j 15))), (4, .int (nI 15))] [.int (nI (sm x j 15))] rfl ?_
      exact g_iret X hr () (rfl) (trivial) ((List.append_nil _).symm) (Nat.le_of_ble_eq_true rfl) (Nat.le_of_ble_eq_true rfl) dX2_sumOf_35
    · rw [nI_leI (by omega) (by omega)] at hc1; first | omega | (simp at hc1)
  · intro i hi k5
    refine g_run X KX2_sumOf_5_1 KX2_sumOf_5_1_d 9 [(0, .long x), (2, .int (nI j)), (3, .int (nI (sm x j i))), (4, .int (nI i))] [.int (nI 15), .int (nI i)] rfl ?_
    refine g_icmp_ge X 34 dX2_sumOf_9 (by decide) (fun hc2 => ?_) (fun hc2 => ?_)
    · rw [nI_leI (by omega) (by omega)] at hc2; first | omega | (simp at hc2)
    · refine g_run X KX2_sumOf_12_3 KX2_sumOf_12_3_d 16 [(0, .long x), (2, .int (nI j)), (3, .int (nI (sm x j i))), (4, .int (nI i))] [.int (nI i), .long x, .int (nI (sm x j i))] rfl ?_
      refine g_callSN X hSB hAf (host := "Chipfield") (As := [.long x, .int (nI i)]) (wr := []) (n := 2) (c_X5_numberAt l D g x i (by omega)) rfl srcN hrdN w_215 (nw_in n_267 rfl) w_214 w_1 (by decide +kernel) rfl ⟨Nat.le_of_ble_eq_true rfl, Nat.le_of_ble_eq_true rfl⟩ rfl rfl rfl (Nat.le_of_ble_eq_true rfl) ⟨Nat.le_of_ble_eq_true rfl, Nat.le_of_ble_eq_true rfl⟩ dX2_sumOf_16 (fun hu3 _ => ?_)
      refine g_af (ws' := []) (st' := [.int (nI (nib x i)), .int (nI (sm x j i))]) (cells' := 0) (slots' := 0) (pc' := 19) rfl rfl rfl rfl rfl ?_
      refine g_run X KX2_sumOf_19_4 KX2_sumOf_19_4_d 23 [(0, .long x), (2, .int (nI j)), (3, .int (nI (sm x j i))), (4, .int (nI i))] [.int ((nI i) * (nI j)), .int (nI (nib x i)), .int (nI (sm x j i))] rfl ?_
      refine g_nm (lv' := [(0, .long x), (2, .int (nI j)), (3, .int (nI (sm x j i))), (4, .int (nI i))]) (st' := [.int (nI (i * j)), .int (nI (nib x i)), .int (nI (sm x j i))]) (by simp only [pk_mul]) (by simp only [pk_mul]) ?_
      refine g_callS X hSB hAf (As := [.int (nI (nib x i)), .int (nI (i * j))]) (wr := []) (n := 2) (c_X2_timesPower l D g (nib x i) (i * j) (nib_lt _ _) (Nat.lt_of_le_of_lt (Nat.mul_le_mul (Nat.le_of_lt hi) (Nat.le_of_lt hj)) (by decide))) rfl srcN hrdN w_270 w_268 w_269 w_22 (by decide +kernel) rfl ⟨Nat.le_of_ble_eq_true rfl, Nat.le_of_ble_eq_true rfl⟩ rfl rfl rfl (Nat.le_of_ble_eq_true rfl) ⟨Nat.le_of_ble_eq_true rfl, Nat.le_of_ble_eq_true rfl⟩ dX2_sumOf_23 (fun hu4 _ => ?_)
      refine g_af (ws' := []) (st' := [.int (nI (tp (nib x i) (i * j))), .int (nI (sm x j i))]) (cells' := 0) (slots' := 0) (pc' := 26) rfl rfl rfl rfl rfl ?_
      refine g_run X KX2_sumOf_26_5 KX2_sumOf_26_5_d 5 [(4, .int ((nI i) + (nI 1))), (3, .int ((nI (sm x j i)) ^^^ (nI (tp (nib x i) (i * j))))), (0, .long x), (2, .int (nI j))] [] rfl ?_
      refine g_nm (lv' := [(4, .int (nI (i + 1))), (3, .int (nI ((sm x j i) ^^^ (tp (nib x i) (i * j))))), (0, .long x), (2, .int (nI j))]) (st' := []) (by simp only [nI_add, nx_xor]) (by simp only [nI_add, nx_xor]) ?_
      refine g_lv (lv' := [(0, .long x), (2, .int (nI j)), (3, .int (nI ((sm x j i) ^^^ (tp (nib x i) (i * j))))), (4, .int (nI (i + 1)))]) (lsub_c 2 rfl (lsub_c 3 rfl (lsub_c 1 rfl (lsub_c 0 rfl (lsub_n))))) ?_
      refine g_cs (ws' := []) (lv' := [(0, .long x), (2, .int (nI j)), (3, .int (nI (sm x j (i + 1)))), (4, .int (nI (i + 1)))]) (rfl) (rfl) ?_
      exact k5

def KX2_placesIn_0_0 : List (Nat × Instr × Nat) := [(0, .iconst 0, 1), (1, .istore_n 2, 1), (2, .iconst 0, 1), (3, .istore_n 3, 1)]
theorem KX2_placesIn_0_0_d : ∀ z ∈ KX2_placesIn_0_0, decode cX2_placesIn z.1 = .ok z.2 := by decide +kernel
def KX2_placesIn_4_1 : List (Nat × Instr × Nat) := [(4, .iload_n 3, 1), (5, .bipush 15, 2)]
theorem KX2_placesIn_4_1_d : ∀ z ∈ KX2_placesIn_4_1, decode cX2_placesIn z.1 = .ok z.2 := by decide +kernel
def KX2_placesIn_30_2 : List (Nat × Instr × Nat) := [(30, .iload_n 2, 1)]
theorem KX2_placesIn_30_2_d : ∀ z ∈ KX2_placesIn_30_2, decode cX2_placesIn z.1 = .ok z.2 := by decide +kernel
def KX2_placesIn_10_3 : List (Nat × Instr × Nat) := [(10, .lload_n 0, 1), (11, .iload_n 3, 1)]
theorem KX2_placesIn_10_3_d : ∀ z ∈ KX2_placesIn_10_3, decode cX2_placesIn z.1 = .ok z.2 := by decide +kernel
def KX2_placesIn_24_4 : List (Nat × Instr × Nat) := [(24, .iinc 3 1, 3), (27, .goto (-23), 3)]
theorem KX2_placesIn_24_4_d : ∀ z ∈ KX2_placesIn_24_4, decode cX2_placesIn z.1 = .ok z.2 := by decide +kernel
def KX2_placesIn_18_5 : List (Nat × Instr × Nat) := [(18, .iload_n 2, 1), (19, .iconst 1, 1), (20, .iload_n 3, 1), (21, .ishl, 1), (22, .ior, 1), (23, .istore_n 2, 1), (24, .iinc 3 1, 3), (27, .goto (-23), 3)]
theorem KX2_placesIn_18_5_d : ∀ z ∈ KX2_placesIn_18_5, decode cX2_placesIn z.1 = .ok z.2 := by decide +kernel
set_option maxHeartbeats 4000000 in
set_option maxRecDepth 100000 in
theorem c_X2_placesIn (l : Launch) (D : va_G) (g : Nat → ClassId) (x : Int64) : CT l yX2_placesIn cX2_placesIn 4 ((Option.some FieldType.int)) ({ frames := 1, cells := 0, slots := 0, locals := 22 } : Room) [.long x] D CL (TYS g) ([]) ([]) (S := Unit) (fun _ => some (.int (nI (pl x 15)))) (fun _ => []) (fun _ => True) 0 0 := by
  refine ct_of (by decide +kernel) (Nat.le_of_ble_eq_true rfl) ?_
  intro p e s m below meth c A X hr hnm hSB hRO hAf
  refine g_cs (ws' := []) (lv' := [(0, .long x)]) rfl rfl ?_
  refine g_run X KX2_placesIn_0_0 KX2_placesIn_0_0_d 4 [(3, .int (nI 0)), (2, .int (nI 0)), (0, .long x)] [] rfl ?_
  refine g_lv (lv' := [(0, .long x), (2, .int (nI 0)), (3, .int (nI 0))]) (lsub_c 2 rfl (lsub_c 1 rfl (lsub_c 0 rfl (lsub_n)))) ?_
  refine g_for 15 (fun _ => []) (fun i => [(0, .long x), (2, .int (nI (pl x i))), (3, .int (nI i))]) (rfl) (rfl) ?_ ?_
  · refine g_run X KX2_placesIn_4_1 KX2_placesIn_4_1_d 7 [(0, .long x), (2, .int (nI (pl x 15))), (3, .int (nI 15))] [.int (nI 15), .int (nI 15)] rfl ?_
    refine g_icmp_ge X 30 dX2_placesIn_7 (by decide) (fun hc1 => ?_) (fun hc1 => ?_)
    · refine g_run X KX2_placesIn_30_2 KX2_placesIn_30_2_d 31 [(0, .long x), (2, .int (nI (pl x 15))), (3, .int (nI 15))] [.int (nI (pl x 15))] rfl ?_
      exact g_iret X hr () (rfl) (trivial) ((List.append_nil _).symm) (Nat.le_of_ble_eq_true rfl) (Nat.le_of_ble_eq_true rfl) dX2_placesIn_31
    · rw [nI_leI (by omega) (by omega)] at hc1; first | omega | (simp at hc1)
  · intro i hi k4
    refine g_run X KX2_placesIn_4_1 KX2_placesIn_4_1_d 7 [(0, .long x), (2, .int (nI (pl x i))), (3, .int (nI i))] [.int (nI 15), .int (nI i)] rfl ?_
    refine g_icmp_ge X 30 dX2_placesIn_7 (by decide) (fun hc2 => ?_) (fun hc2 => ?_)
    · rw [nI_leI (by omega) (by omega)] at hc2; first | omega | (simp at hc2)
    · refine g_run X KX2_placesIn_10_3 KX2_placesIn_10_3_d 12 [(0, .long x), (2, .int (nI (pl x i))), (3, .int (nI i))] [.int (nI i), .long x] rfl ?_
      refine g_callSN X hSB hAf (host := "Chipfield") (As := [.long x, .int (nI i)]) (wr := []) (n := 2) (c_X5_numberAt l D g x i (by omega)) rfl srcN hrdN w_215 (nw_in n_267 rfl) w_214 w_1 (by decide +kernel) rfl ⟨Nat.le_of_ble_eq_true rfl, Nat.le_of_ble_eq_true rfl⟩ rfl rfl rfl (Nat.le_of_ble_eq_true rfl) ⟨Nat.le_of_ble_eq_true rfl, Nat.le_of_ble_eq_true rfl⟩ dX2_placesIn_12 (fun hu3 _ => ?_)
      refine g_af (ws' := []) (st' := [.int (nI (nib x i))]) (cells' := 0) (slots' := 0) (pc' := 15) rfl rfl rfl rfl rfl ?_
      refine g_if_eq X 24 dX2_placesIn_15 (by decide) (fun hc4 => ?_) (fun hc4 => ?_)
      · rw [nz_eq (by have := nib_lt x i; omega)] at hc4
        refine g_run X KX2_placesIn_24_4 KX2_placesIn_24_4_d 4 [(3, .int ((nI i) + (nI 1))), (0, .long x), (2, .int (nI (pl x i)))] [] rfl ?_
        refine g_nm (lv' := [(3, .int (nI (i + 1))), (0, .long x), (2, .int (nI (pl x i)))]) (st' := []) (by simp only [nI_add]) (by simp only [nI_add]) ?_
        refine g_lv (lv' := [(0, .long x), (2, .int (nI (pl x i))), (3, .int (nI (i + 1)))]) (lsub_c 1 rfl (lsub_c 2 rfl (lsub_c 0 rfl (lsub_n)))) ?_
        refine g_cs (ws' := []) (lv' := [(0, .long x), (2, .int (nI (pl x (i + 1)))), (3, .int (nI (i + 1)))]) (rfl) (by simp [pl, *]) ?_
        exact k4
      · rw [nz_eq (by have := nib_lt x i; omega)] at hc4
        refine g_run X KX2_placesIn_18_5 KX2_placesIn_18_5_d 4 [(3, .int ((nI i) + (nI 1))), (2, .int ((nI (pl x i)) ||| ((nI 1) <<< ((nI i) &&& 31)))), (0, .long x)] [] rfl ?_
        refine g_nm (lv' := [(3, .int (nI (i + 1))), (2, .int (nI ((pl x i) ||| (2 ^ i)))), (0, .long x)]) (st' := []) (by simp only [nI_add, nx_or, sh1 (show i < 31 by omega)]) (by simp only [nI_add, nx_or, sh1 (show i < 31 by omega)]) ?_
        refine g_lv (lv' := [(0, .long x), (2, .int (nI ((pl x i) ||| (2 ^ i)))), (3, .int (nI (i + 1)))]) (lsub_c 2 rfl (lsub_c 1 rfl (lsub_c 0 rfl (lsub_n)))) ?_
        refine g_cs (ws' := []) (lv' := [(0, .long x), (2, .int (nI (pl x (i + 1)))), (3, .int (nI (i + 1)))]) (rfl) (by simp [pl, *]) ?_
        exact k4

def KX2_dataIn_0_0 : List (Nat × Instr × Nat) := [(0, .lload_n 0, 1), (1, .bipush 16, 2), (3, .lushr, 1)]
theorem KX2_dataIn_0_0_d : ∀ z ∈ KX2_dataIn_0_0, decode cX2_dataIn z.1 = .ok z.2 := by decide +kernel
set_option maxHeartbeats 4000000 in
set_option maxRecDepth 100000 in
theorem c_X2_dataIn (l : Launch) (D : va_G) (g : Nat → ClassId) (x : Int64) : CT l yX2_dataIn cX2_dataIn 2 ((Option.some FieldType.long)) ({ frames := 0, cells := 0, slots := 0, locals := 0 } : Room) [.long x] D CL (TYS g) ([]) ([]) (S := Unit) (fun _ => some (.long ((x.toUInt64 >>> ((nI 16).toInt64.toUInt64 &&& Int64.toUInt64 63)).toInt64))) (fun _ => []) (fun _ => True) 0 0 := by
  refine ct_of (by decide +kernel) (Nat.le_of_ble_eq_true rfl) ?_
  intro p e s m below meth c A X hr hnm hSB hRO hAf
  refine g_cs (ws' := []) (lv' := [(0, .long x)]) rfl rfl ?_
  refine g_run X KX2_dataIn_0_0 KX2_dataIn_0_0_d 4 [(0, .long x)] [.long ((x.toUInt64 >>> ((nI 16).toInt64.toUInt64 &&& Int64.toUInt64 63)).toInt64)] rfl ?_
  exact g_lret X hr () (rfl) (trivial) ((List.append_nil _).symm) (Nat.le_of_ble_eq_true rfl) (Nat.le_of_ble_eq_true rfl) dX2_dataIn_4

def KX2_blindTo_0_0 : List (Nat × Instr × Nat) := [(0, .lconst 0, 1), (1, .lstore 4, 2), (3, .iconst 0, 1), (4, .istore 6, 2)]
theorem KX2_blindTo_0_0_d : ∀ z ∈ KX2_blindTo_0_0, decode cX2_blindTo z.1 = .ok z.2 := by decide +kernel
def KX2_blindTo_6_1 : List (Nat × Instr × Nat) := [(6, .iload 6, 2), (8, .iconst 1, 1), (9, .iadd, 1), (10, .iload_n 3, 1)]
theorem KX2_blindTo_6_1_d : ∀ z ∈ KX2_blindTo_6_1, decode cX2_blindTo z.1 = .ok z.2 := by decide +kernel
def KX2_blindTo_48_2 : List (Nat × Instr × Nat) := [(48, .lload 4, 2)]
theorem KX2_blindTo_48_2_d : ∀ z ∈ KX2_blindTo_48_2, decode cX2_blindTo z.1 = .ok z.2 := by decide +kernel
def KX2_blindTo_14_3 : List (Nat × Instr × Nat) := [(14, .lload 4, 2), (16, .iload 6, 2), (18, .lload_n 1, 1), (19, .iload 6, 2)]
theorem KX2_blindTo_14_3_d : ∀ z ∈ KX2_blindTo_14_3, decode cX2_blindTo z.1 = .ok z.2 := by decide +kernel
def KX2_blindTo_24_4 : List (Nat × Instr × Nat) := [(24, .iload_n 0, 1)]
theorem KX2_blindTo_24_4_d : ∀ z ∈ KX2_blindTo_24_4, decode cX2_blindTo z.1 = .ok z.2 := by decide +kernel
def KX2_blindTo_28_5 : List (Nat × Instr × Nat) := [(28, .lload_n 1, 1), (29, .iload 6, 2), (31, .iconst 1, 1), (32, .iadd, 1)]
theorem KX2_blindTo_28_5_d : ∀ z ∈ KX2_blindTo_28_5, decode cX2_blindTo z.1 = .ok z.2 := by decide +kernel
def KX2_blindTo_36_6 : List (Nat × Instr × Nat) := [(36, .ixor, 1)]
theorem KX2_blindTo_36_6_d : ∀ z ∈ KX2_blindTo_36_6, decode cX2_blindTo z.1 = .ok z.2 := by decide +kernel
def KX2_blindTo_40_7 : List (Nat × Instr × Nat) := [(40, .lstore 4, 2), (42, .iinc 6 1, 3), (45, .goto (-39), 3)]
theorem KX2_blindTo_40_7_d : ∀ z ∈ KX2_blindTo_40_7, decode cX2_blindTo z.1 = .ok z.2 := by decide +kernel
set_option maxHeartbeats 4000000 in
set_option maxRecDepth 100000 in
theorem c_X2_blindTo (l : Launch) (D : va_G) (g : Nat → ClassId) (q : Nat) (x : Int64) (n : Nat) (hq : q < 15) (h1 : 1 ≤ n) (h4 : n < 5) : CT l yX2_blindTo cX2_blindTo 7 ((Option.some FieldType.long)) ({ frames := 1, cells := 0, slots := 0, locals := 24 } : Room) [.int (nI q), .long x, .int (nI n)] D CL (TYS g) ([]) ([]) (S := Unit) (fun _ => some (.long (bl q x (n - 1)))) (fun _ => []) (fun _ => True) 0 0 := by
  refine ct_of (by decide +kernel) (Nat.le_of_ble_eq_true rfl) ?_
  intro p e s m below meth c A X hr hnm hSB hRO hAf
  refine g_cs (ws' := []) (lv' := [(0, .int (nI q)), (1, .long x), (3, .int (nI n))]) rfl rfl ?_
  refine g_run X KX2_blindTo_0_0 KX2_blindTo_0_0_d 6 [(6, .int (nI 0)), (4, .long (lN 0)), (0, .int (nI q)), (1, .long x), (3, .int (nI n))] [] rfl ?_
  refine g_lv (lv' := [(0, .int (nI q)), (1, .long x), (3, .int (nI n)), (4, .long (lN 0)), (6, .int (nI 0))]) (lsub_c 2 rfl (lsub_c 3 rfl (lsub_c 4 rfl (lsub_c 1 rfl (lsub_c 0 rfl (lsub_n)))))) ?_
  refine g_for (n - 1) (fun _ => []) (fun k => [(0, .int (nI q)), (1, .long x), (3, .int (nI n)), (4, .long (bl q x k)), (6, .int (nI k))]) (rfl) (rfl) ?_ ?_
  · refine g_run X KX2_blindTo_6_1 KX2_blindTo_6_1_d 11 [(0, .int (nI q)), (1, .long x), (3, .int (nI n)), (4, .long (bl q x (n - 1))), (6, .int (nI (n - 1)))] [.int (nI n), .int ((nI (n - 1)) + (nI 1))] rfl ?_
    refine g_nm (lv' := [(0, .int (nI q)), (1, .long x), (3, .int (nI n)), (4, .long (bl q x (n - 1))), (6, .int (nI (n - 1)))]) (st' := [.int (nI n), .int (nI ((n - 1) + 1))]) (by simp only [nI_add]) (by simp only [nI_add]) ?_
    refine g_icmp_ge X 48 dX2_blindTo_11 (by decide) (fun hc1 => ?_) (fun hc1 => ?_)
    · refine g_run X KX2_blindTo_48_2 KX2_blindTo_48_2_d 50 [(0, .int (nI q)), (1, .long x), (3, .int (nI n)), (4, .long (bl q x (n - 1))), (6, .int (nI (n - 1)))] [.long (bl q x (n - 1))] rfl ?_
      exact g_lret X hr () (rfl) (trivial) ((List.append_nil _).symm) (Nat.le_of_ble_eq_true rfl) (Nat.le_of_ble_eq_true rfl) dX2_blindTo_50
    · rw [nI_leI (by omega) (by omega)] at hc1; first | omega | (simp at hc1)
  · intro k hk k6
    refine g_run X KX2_blindTo_6_1 KX2_blindTo_6_1_d 11 [(0, .int (nI q)), (1, .long x), (3, .int (nI n)), (4, .long (bl q x k)), (6, .int (nI k))] [.int (nI n), .int ((nI k) + (nI 1))] rfl ?_
    refine g_nm (lv' := [(0, .int (nI q)), (1, .long x), (3, .int (nI n)), (4, .long (bl q x k)), (6, .int (nI k))]) (st' := [.int (nI n), .int (nI (k + 1))]) (by simp only [nI_add]) (by simp only [nI_add]) ?_
    refine g_icmp_ge X 48 dX2_blindTo_11 (by decide) (fun hc2 => ?_) (fun hc2 => ?_)
    · rw [nI_leI (by omega) (by omega)] at hc2; first | omega | (simp at hc2)
    · refine g_run X KX2_blindTo_14_3 KX2_blindTo_14_3_d 21 [(0, .int (nI q)), (1, .long x), (3, .int (nI n)), (4, .long (bl q x k)), (6, .int (nI k))] [.int (nI k), .long x, .int (nI k), .long (bl q x k)] rfl ?_
      refine g_callSN X hSB hAf (host := "Chipfield") (As := [.long x, .int (nI k)]) (wr := []) (n := 2) (c_X5_numberAt l D g x k (by omega)) rfl srcN hrdN w_215 (nw_in n_267 rfl) w_214 w_1 (by decide +kernel) rfl ⟨Nat.le_of_ble_eq_true rfl, Nat.le_of_ble_eq_true rfl⟩ rfl rfl rfl (Nat.le_of_ble_eq_true rfl) ⟨Nat.le_of_ble_eq_true rfl, Nat.le_of_ble_eq_true rfl⟩ dX2_blindTo_21 (fun hu3 _ => ?_)
      refine g_af (ws' := []) (st' := [.int (nI (nib x k)), .int (nI k), .long (bl q x k)]) (cells' := 0) (slots' := 0) (pc' := 24) rfl rfl rfl rfl rfl ?_
      refine g_run X KX2_blindTo_24_4 KX2_blindTo_24_4_d 25 [(0, .int (nI q)), (1, .long x), (3, .int (nI n)), (4, .long (bl q x k)), (6, .int (nI k))] [.int (nI q), .int (nI (nib x k)), .int (nI k), .long (bl q x k)] rfl ?_
      refine g_callS X hSB hAf (As := [.int (nI (nib x k)), .int (nI q)]) (wr := []) (n := 2) (c_X2_timesPower l D g (nib x k) q (nib_lt _ _) (by omega)) rfl srcN hrdN w_270 w_268 w_269 w_22 (by decide +kernel) rfl ⟨Nat.le_of_ble_eq_true rfl, Nat.le_of_ble_eq_true rfl⟩ rfl rfl rfl (Nat.le_of_ble_eq_true rfl) ⟨Nat.le_of_ble_eq_true rfl, Nat.le_of_ble_eq_true rfl⟩ dX2_blindTo_25 (fun hu4 _ => ?_)
      refine g_af (ws' := []) (st' := [.int (nI (tp (nib x k) q)), .int (nI k), .long (bl q x k)]) (cells' := 0) (slots' := 0) (pc' := 28) rfl rfl rfl rfl rfl ?_
      refine g_run X KX2_blindTo_28_5 KX2_blindTo_28_5_d 33 [(0, .int (nI q)), (1, .long x), (3, .int (nI n)), (4, .long (bl q x k)), (6, .int (nI k))] [.int ((nI k) + (nI 1)), .long x, .int (nI (tp (nib x k) q)), .int (nI k), .long (bl q x k)] rfl ?_
      refine g_nm (lv' := [(0, .int (nI q)), (1, .long x), (3, .int (nI n)), (4, .long (bl q x k)), (6, .int (nI k))]) (st' := [.int (nI (k + 1)), .long x, .int (nI (tp (nib x k) q)), .int (nI k), .long (bl q x k)]) (by simp only [nI_add]) (by simp only [nI_add]) ?_
      refine g_callSN X hSB hAf (host := "Chipfield") (As := [.long x, .int (nI (k + 1))]) (wr := []) (n := 2) (c_X5_numberAt l D g x (k + 1) (by omega)) rfl srcN hrdN w_215 (nw_in n_267 rfl) w_214 w_1 (by decide +kernel) rfl ⟨Nat.le_of_ble_eq_true rfl, Nat.le_of_ble_eq_true rfl⟩ rfl rfl rfl (Nat.le_of_ble_eq_true rfl) ⟨Nat.le_of_ble_eq_true rfl, Nat.le_of_ble_eq_true rfl⟩ dX2_blindTo_33 (fun hu5 _ => ?_)
      refine g_af (ws' := []) (st' := [.int (nI (nib x (k + 1))), .int (nI (tp (nib x k) q)), .int (nI k), .long (bl q x k)]) (cells' := 0) (slots' := 0) (pc' := 36) rfl rfl rfl rfl rfl ?_
      refine g_run X KX2_blindTo_36_6 KX2_blindTo_36_6_d 37 [(0, .int (nI q)), (1, .long x), (3, .int (nI n)), (4, .long (bl q x k)), (6, .int (nI k))] [.int ((nI (tp (nib x k) q)) ^^^ (nI (nib x (k + 1)))), .int (nI k), .long (bl q x k)] rfl ?_
      refine g_nm (lv' := [(0, .int (nI q)), (1, .long x), (3, .int (nI n)), (4, .long (bl q x k)), (6, .int (nI k))]) (st' := [.int (nI ((tp (nib x k) q) ^^^ (nib x (k + 1)))), .int (nI k), .long (bl q x k)]) (by simp only [nx_xor]) (by simp only [nx_xor]) ?_
      refine g_callSN X hSB hAf (host := "Chipfield") (As := [.long (bl q x k), .int (nI k), .int (nI ((tp (nib x k) q) ^^^ (nib x (k + 1))))]) (wr := []) (n := 3) (c_X5_withNumber l D g (bl q x k) k ((tp (nib x k) q) ^^^ (nib x (k + 1))) (by omega)) rfl srcN hrdN w_222 (nw_in n_275 rfl) w_221 w_1 (by decide +kernel) rfl ⟨Nat.le_of_ble_eq_true rfl, Nat.le_of_ble_eq_true rfl⟩ rfl rfl rfl (Nat.le_of_ble_eq_true rfl) ⟨Nat.le_of_ble_eq_true rfl, Nat.le_of_ble_eq_true rfl⟩ dX2_blindTo_37 (fun hu6 _ => ?_)
      refine g_af (ws' := []) (st' := [.long (wn (bl q x k) k ((tp (nib x k) q) ^^^ (nib x (k + 1))))]) (cells' := 0) (slots' := 0) (pc' := 40) rfl rfl rfl rfl rfl ?_
      refine g_run X KX2_blindTo_40_7 KX2_blindTo_40_7_d 6 [(6, .int ((nI k) + (nI 1))), (4, .long (wn (bl q x k) k ((tp (nib x k) q) ^^^ (nib x (k + 1))))), (0, .int (nI q)), (1, .long x), (3, .int (nI n))] [] rfl ?_
      refine g_nm (lv' := [(6, .int (nI (k + 1))), (4, .long (wn (bl q x k) k ((tp (nib x k) q) ^^^ (nib x (k + 1))))), (0, .int (nI q)), (1, .long x), (3, .int (nI n))]) (st' := []) (by simp only [nI_add]) (by simp only [nI_add]) ?_
      refine g_lv (lv' := [(0, .int (nI q)), (1, .long x), (3, .int (nI n)), (4, .long (wn (bl q x k) k ((tp (nib x k) q) ^^^ (nib x (k + 1))))), (6, .int (nI (k + 1)))]) (lsub_c 2 rfl (lsub_c 3 rfl (lsub_c 4 rfl (lsub_c 1 rfl (lsub_c 0 rfl (lsub_n)))))) ?_
      refine g_cs (ws' := []) (lv' := [(0, .int (nI q)), (1, .long x), (3, .int (nI n)), (4, .long (bl q x (k + 1))), (6, .int (nI (k + 1)))]) (rfl) (rfl) ?_
      exact k6

theorem sub15 {a b : Nat} (ha : a < 15) (hb : b < 15) : nI (a + 15 - b) = nI a - nI b + nI 15 := by
  have e : ∀ a, a < 15 → ∀ b, b < 15 → nI (a + 15 - b) = nI a - nI b + nI 15 := by decide +kernel
  exact e a ha b hb

def KX2_onlyError_0_0 : List (Nat × Instr × Nat) := [(0, .lload_n 0, 1), (1, .iconst 0, 1)]
theorem KX2_onlyError_0_0_d : ∀ z ∈ KX2_onlyError_0_0, decode cX2_onlyError z.1 = .ok z.2 := by decide +kernel
def KX2_onlyError_5_1 : List (Nat × Instr × Nat) := [(5, .istore_n 3, 1), (6, .lload_n 0, 1), (7, .iconst 1, 1)]
theorem KX2_onlyError_5_1_d : ∀ z ∈ KX2_onlyError_5_1, decode cX2_onlyError z.1 = .ok z.2 := by decide +kernel
def KX2_onlyError_11_2 : List (Nat × Instr × Nat) := [(11, .istore 4, 2), (13, .iload_n 2, 1), (14, .iconst 2, 1)]
theorem KX2_onlyError_11_2_d : ∀ z ∈ KX2_onlyError_11_2, decode cX2_onlyError z.1 = .ok z.2 := by decide +kernel
def KX2_onlyError_27_3 : List (Nat × Instr × Nat) := [(27, .iconst (-1), 1)]
theorem KX2_onlyError_27_3_d : ∀ z ∈ KX2_onlyError_27_3, decode cX2_onlyError z.1 = .ok z.2 := by decide +kernel
def KX2_onlyError_18_4 : List (Nat × Instr × Nat) := [(18, .iload_n 3, 1)]
theorem KX2_onlyError_18_4_d : ∀ z ∈ KX2_onlyError_18_4, decode cX2_onlyError z.1 = .ok z.2 := by decide +kernel
def KX2_onlyError_22_5 : List (Nat × Instr × Nat) := [(22, .iload 4, 2)]
theorem KX2_onlyError_22_5_d : ∀ z ∈ KX2_onlyError_22_5, decode cX2_onlyError z.1 = .ok z.2 := by decide +kernel
def KX2_onlyError_32_6 : List (Nat × Instr × Nat) := [(32, .iload 4, 2)]
theorem KX2_onlyError_32_6_d : ∀ z ∈ KX2_onlyError_32_6, decode cX2_onlyError z.1 = .ok z.2 := by decide +kernel
def KX2_onlyError_38_7 : List (Nat × Instr × Nat) := [(38, .iload_n 3, 1)]
theorem KX2_onlyError_38_7_d : ∀ z ∈ KX2_onlyError_38_7, decode cX2_onlyError z.1 = .ok z.2 := by decide +kernel
def KX2_onlyError_40_8 : List (Nat × Instr × Nat) := [(40, .isub, 1), (41, .bipush 15, 2), (43, .iadd, 1), (44, .bipush 15, 2)]
theorem KX2_onlyError_40_8_d : ∀ z ∈ KX2_onlyError_40_8, decode cX2_onlyError z.1 = .ok z.2 := by decide +kernel
def KX2_onlyError_47_9 : List (Nat × Instr × Nat) := [(47, .istore 5, 2), (49, .iconst 1, 1), (50, .istore 6, 2)]
theorem KX2_onlyError_47_9_d : ∀ z ∈ KX2_onlyError_47_9, decode cX2_onlyError z.1 = .ok z.2 := by decide +kernel
def KX2_onlyError_52_10 : List (Nat × Instr × Nat) := [(52, .iload 6, 2), (54, .iload_n 2, 1)]
theorem KX2_onlyError_52_10_d : ∀ z ∈ KX2_onlyError_52_10, decode cX2_onlyError z.1 = .ok z.2 := by decide +kernel
def KX2_onlyError_88_11 : List (Nat × Instr × Nat) := [(88, .iload 5, 2)]
theorem KX2_onlyError_88_11_d : ∀ z ∈ KX2_onlyError_88_11, decode cX2_onlyError z.1 = .ok z.2 := by decide +kernel
def KX2_onlyError_58_12 : List (Nat × Instr × Nat) := [(58, .lload_n 0, 1), (59, .iload 6, 2), (61, .iconst 1, 1), (62, .isub, 1)]
theorem KX2_onlyError_58_12_d : ∀ z ∈ KX2_onlyError_58_12, decode cX2_onlyError z.1 = .ok z.2 := by decide +kernel
def KX2_onlyError_66_13 : List (Nat × Instr × Nat) := [(66, .iload 5, 2)]
theorem KX2_onlyError_66_13_d : ∀ z ∈ KX2_onlyError_66_13, decode cX2_onlyError z.1 = .ok z.2 := by decide +kernel
def KX2_onlyError_71_14 : List (Nat × Instr × Nat) := [(71, .lload_n 0, 1), (72, .iload 6, 2)]
theorem KX2_onlyError_71_14_d : ∀ z ∈ KX2_onlyError_71_14, decode cX2_onlyError z.1 = .ok z.2 := by decide +kernel
def KX2_onlyError_82_15 : List (Nat × Instr × Nat) := [(82, .iinc 6 1, 3), (85, .goto (-33), 3)]
theorem KX2_onlyError_82_15_d : ∀ z ∈ KX2_onlyError_82_15, decode cX2_onlyError z.1 = .ok z.2 := by decide +kernel
def KX2_onlyError_80_16 : List (Nat × Instr × Nat) := [(80, .iconst (-1), 1)]
theorem KX2_onlyError_80_16_d : ∀ z ∈ KX2_onlyError_80_16, decode cX2_onlyError z.1 = .ok z.2 := by decide +kernel
set_option maxHeartbeats 4000000 in
set_option maxRecDepth 100000 in
theorem c_X2_onlyError (l : Launch) (D : va_G) (g : Nat → ClassId) (x : Int64) (n : Nat) (hn : n < 5) : CT l yX2_onlyError cX2_onlyError 7 ((Option.some FieldType.int)) ({ frames := 1, cells := 0, slots := 0, locals := 22 } : Room) [.long x, .int (nI n)] D CL (TYS g) ([]) ([]) (S := Unit) (fun _ => some (.int (oI (oe x n)))) (fun _ => []) (fun _ => True) 0 0 := by
  refine ct_of (by decide +kernel) (Nat.le_of_ble_eq_true rfl) ?_
  intro p e s m below meth c A X hr hnm hSB hRO hAf
  refine g_cs (ws' := []) (lv' := [(0, .long x), (2, .int (nI n))]) rfl rfl ?_
  obtain ⟨tE, hZE, hTE⟩ := hSB.2.2.1
  refine g_run X KX2_onlyError_0_0 KX2_onlyError_0_0_d 2 [(0, .long x), (2, .int (nI n))] [.int (nI 0), .long x] rfl ?_
  refine g_callSN X hSB hAf (host := "Chipfield") (As := [.long x, .int (nI 0)]) (wr := []) (n := 2) (c_X5_numberAt l D g x 0 (by omega)) rfl srcN hrdN w_215 (nw_in n_267 rfl) w_214 w_1 (by decide +kernel) rfl ⟨Nat.le_of_ble_eq_true rfl, Nat.le_of_ble_eq_true rfl⟩ rfl rfl rfl (Nat.le_of_ble_eq_true rfl) ⟨Nat.le_of_ble_eq_true rfl, Nat.le_of_ble_eq_true rfl⟩ dX2_onlyError_2 (fun hu1 _ => ?_)
  refine g_af (ws' := []) (st' := [.int (nI (nib x 0))]) (cells' := 0) (slots' := 0) (pc' := 5) rfl rfl rfl rfl rfl ?_
  refine g_run X KX2_onlyError_5_1 KX2_onlyError_5_1_d 8 [(3, .int (nI (nib x 0))), (0, .long x), (2, .int (nI n))] [.int (nI 1), .long x] rfl ?_
  refine g_callSN X hSB hAf (host := "Chipfield") (As := [.long x, .int (nI 1)]) (wr := []) (n := 2) (c_X5_numberAt l D g x 1 (by omega)) rfl srcN hrdN w_215 (nw_in n_267 rfl) w_214 w_1 (by decide +kernel) rfl ⟨Nat.le_of_ble_eq_true rfl, Nat.le_of_ble_eq_true rfl⟩ rfl rfl rfl (Nat.le_of_ble_eq_true rfl) ⟨Nat.le_of_ble_eq_true rfl, Nat.le_of_ble_eq_true rfl⟩ dX2_onlyError_8 (fun hu2 _ => ?_)
  refine g_af (ws' := []) (st' := [.int (nI (nib x 1))]) (cells' := 0) (slots' := 0) (pc' := 11) rfl rfl rfl rfl rfl ?_
  refine g_run X KX2_onlyError_11_2 KX2_onlyError_11_2_d 15 [(4, .int (nI (nib x 1))), (3, .int (nI (nib x 0))), (0, .long x), (2, .int (nI n))] [.int (nI 2), .int (nI n)] rfl ?_
  refine g_icmp_lt X 27 dX2_onlyError_15 (by decide) (fun hc3 => ?_) (fun hc3 => ?_)
  · rw [nI_ltI (by omega) (by omega)] at hc3
    refine g_run X KX2_onlyError_27_3 KX2_onlyError_27_3_d 28 [(4, .int (nI (nib x 1))), (3, .int (nI (nib x 0))), (0, .long x), (2, .int (nI n))] [.int (-nI 1)] rfl ?_
    exact g_iret X hr () (by show some (Value.int _) = some (Value.int _); first | (rw [oe, if_pos (by omega)]; done) | (rw [oe, if_pos (by omega)]; rfl)) (trivial) ((List.append_nil _).symm) (Nat.le_of_ble_eq_true rfl) (Nat.le_of_ble_eq_true rfl) dX2_onlyError_28
  · rw [nI_ltI (by omega) (by omega)] at hc3
    refine g_run X KX2_onlyError_18_4 KX2_onlyError_18_4_d 19 [(4, .int (nI (nib x 1))), (3, .int (nI (nib x 0))), (0, .long x), (2, .int (nI n))] [.int (nI (nib x 0))] rfl ?_
    refine g_if_eq X 27 dX2_onlyError_19 (by decide) (fun hc4 => ?_) (fun hc4 => ?_)
    · rw [nz_eq (by have := nib_lt x 0; omega)] at hc4
      refine g_run X KX2_onlyError_27_3 KX2_onlyError_27_3_d 28 [(4, .int (nI (nib x 1))), (3, .int (nI (nib x 0))), (0, .long x), (2, .int (nI n))] [.int (-nI 1)] rfl ?_
      exact g_iret X hr () (by show some (Value.int _) = some (Value.int _); first | (rw [oe, if_pos (by omega)]; done) | (rw [oe, if_pos (by omega)]; rfl)) (trivial) ((List.append_nil _).symm) (Nat.le_of_ble_eq_true rfl) (Nat.le_of_ble_eq_true rfl) dX2_onlyError_28
    · rw [nz_eq (by have := nib_lt x 0; omega)] at hc4
      refine g_run X KX2_onlyError_22_5 KX2_onlyError_22_5_d 24 [(4, .int (nI (nib x 1))), (3, .int (nI (nib x 0))), (0, .long x), (2, .int (nI n))] [.int (nI (nib x 1))] rfl ?_
      refine g_if_ne X 29 dX2_onlyError_24 (by decide) (fun hc5 => ?_) (fun hc5 => ?_)
      · rw [nz_eq (by have := nib_lt x 1; omega)] at hc5
        refine g_gets X hZE w_273 dX2_onlyError_29 ?_
        refine g_run X KX2_onlyError_32_6 KX2_onlyError_32_6_d 34 [(4, .int (nI (nib x 1))), (3, .int (nI (nib x 0))), (0, .long x), (2, .int (nI n))] [.int (nI (nib x 1)), .ref tE] rfl ?_
        refine g_ti X hTE (v := .int (nI (ex (nib x 1)))) (nib x 1) rfl (nib_lt _ _) (by decide) rfl dX2_onlyError_34 ?_
        refine g_gets X hZE w_273 dX2_onlyError_35 ?_
        refine g_run X KX2_onlyError_38_7 KX2_onlyError_38_7_d 39 [(4, .int (nI (nib x 1))), (3, .int (nI (nib x 0))), (0, .long x), (2, .int (nI n))] [.int (nI (nib x 0)), .ref tE, .int (nI (ex (nib x 1)))] rfl ?_
        refine g_ti X hTE (v := .int (nI (ex (nib x 0)))) (nib x 0) rfl (nib_lt _ _) (by decide) rfl dX2_onlyError_39 ?_
        refine g_run X KX2_onlyError_40_8 KX2_onlyError_40_8_d 46 [(4, .int (nI (nib x 1))), (3, .int (nI (nib x 0))), (0, .long x), (2, .int (nI n))] [.int (nI 15), .int (((nI (ex (nib x 1))) - (nI (ex (nib x 0)))) + (nI 15))] rfl ?_
        have h0 := ex_lt _ (nib_lt x 0)
        have h1 := ex_lt _ (nib_lt x 1)
        refine g_st (st' := [.int (nI 15), .int (nI (ex (nib x 1) + 15 - ex (nib x 0)))]) (by rw [sub15 (by omega) (by omega)]) ?_
        refine g_irem X (v := nI ((ex (nib x 1) + 15 - ex (nib x 0)) % 15)) (nI_ne0 (by decide) (by decide)) (pk_rem (by omega) (by omega) (by decide)) dX2_onlyError_46 ?_
        refine g_st (st' := [.int (nI (oeP x))]) rfl ?_
        refine g_run X KX2_onlyError_47_9 KX2_onlyError_47_9_d 52 [(6, .int (nI 1)), (5, .int (nI (oeP x))), (4, .int (nI (nib x 1))), (3, .int (nI (nib x 0))), (0, .long x), (2, .int (nI n))] [] rfl ?_
        refine g_lv (lv' := [(0, .long x), (2, .int (nI n)), (3, .int (nI (nib x 0))), (4, .int (nI (nib x 1))), (5, .int (nI (oeP x))), (6, .int (nI 1))]) (lsub_c 4 rfl (lsub_c 5 rfl (lsub_c 3 rfl (lsub_c 2 rfl (lsub_c 1 rfl (lsub_c 0 rfl (lsub_n))))))) ?_
        refine g_forP (n - 1) (fun _ => []) (fun i => [(0, .long x), (2, .int (nI n)), (3, .int (nI (nib x 0))), (4, .int (nI (nib x 1))), (5, .int (nI (oeP x))), (6, .int (nI (i + 1)))]) (fun i => ∀ k, k < i → tp (nib x k) (oeP x) = nib x (k + 1)) (fun _ h => absurd h (Nat.not_lt_zero _)) (rfl) (rfl) ?_ ?_
        · intro hP52
          refine g_run X KX2_onlyError_52_10 KX2_onlyError_52_10_d 55 [(0, .long x), (2, .int (nI n)), (3, .int (nI (nib x 0))), (4, .int (nI (nib x 1))), (5, .int (nI (oeP x))), (6, .int (nI (n - 1 + 1)))] [.int (nI n), .int (nI (n - 1 + 1))] rfl ?_
          refine g_icmp_ge X 88 dX2_onlyError_55 (by decide) (fun hc6 => ?_) (fun hc6 => ?_)
          · refine g_run X KX2_onlyError_88_11 KX2_onlyError_88_11_d 90 [(0, .long x), (2, .int (nI n)), (3, .int (nI (nib x 0))), (4, .int (nI (nib x 1))), (5, .int (nI (oeP x))), (6, .int (nI (n - 1 + 1)))] [.int (nI (oeP x))] rfl ?_
            exact g_iret X hr () (by show some (Value.int _) = some (Value.int _); first | (rw [oe, if_neg (by omega), if_pos hP52]; done) | (rw [oe, if_neg (by omega), if_pos hP52]; rfl)) (trivial) ((List.append_nil _).symm) (Nat.le_of_ble_eq_true rfl) (Nat.le_of_ble_eq_true rfl) dX2_onlyError_90
          · rw [nI_leI (by omega) (by omega)] at hc6; first | omega | (simp at hc6)
        · intro i hi hP52 k52
          refine g_run X KX2_onlyError_52_10 KX2_onlyError_52_10_d 55 [(0, .long x), (2, .int (nI n)), (3, .int (nI (nib x 0))), (4, .int (nI (nib x 1))), (5, .int (nI (oeP x))), (6, .int (nI (i + 1)))] [.int (nI n), .int (nI (i + 1))] rfl ?_
          refine g_icmp_ge X 88 dX2_onlyError_55 (by decide) (fun hc7 => ?_) (fun hc7 => ?_)
          · rw [nI_leI (by omega) (by omega)] at hc7; first | omega | (simp at hc7)
          · refine g_run X KX2_onlyError_58_12 KX2_onlyError_58_12_d 63 [(0, .long x), (2, .int (nI n)), (3, .int (nI (nib x 0))), (4, .int (nI (nib x 1))), (5, .int (nI (oeP x))), (6, .int (nI (i + 1)))] [.int ((nI (i + 1)) - (nI 1)), .long x] rfl ?_
            refine g_st (st' := [.int (nI i), .long x]) (by rw [pk_sub (by omega)]; rfl) ?_
            refine g_callSN X hSB hAf (host := "Chipfield") (As := [.long x, .int (nI i)]) (wr := []) (n := 2) (c_X5_numberAt l D g x i (by omega)) rfl srcN hrdN w_215 (nw_in n_267 rfl) w_214 w_1 (by decide +kernel) rfl ⟨Nat.le_of_ble_eq_true rfl, Nat.le_of_ble_eq_true rfl⟩ rfl rfl rfl (Nat.le_of_ble_eq_true rfl) ⟨Nat.le_of_ble_eq_true rfl, Nat.le_of_ble_eq_true rfl⟩ dX2_onlyError_63 (fun hu8 _ => ?_)
            refine g_af (ws' := []) (st' := [.int (nI (nib x i))]) (cells' := 0) (slots' := 0) (pc' := 66) rfl rfl rfl rfl rfl ?_
            refine g_run X KX2_onlyError_66_13 KX2_onlyError_66_13_d 68 [(0, .long x), (2, .int (nI n)), (3, .int (nI (nib x 0))), (4, .int (nI (nib x 1))), (5, .int (nI (oeP x))), (6, .int (nI (i + 1)))] [.int (nI (oeP x)), .int (nI (nib x i))] rfl ?_
            refine g_callS X hSB hAf (As := [.int (nI (nib x i)), .int (nI (oeP x))]) (wr := []) (n := 2) (c_X2_timesPower l D g (nib x i) (oeP x) (nib_lt _ _) (by have := oeP_lt x; omega)) rfl srcN hrdN w_270 w_268 w_269 w_22 (by decide +kernel) rfl ⟨Nat.le_of_ble_eq_true rfl, Nat.le_of_ble_eq_true rfl⟩ rfl rfl rfl (Nat.le_of_ble_eq_true rfl) ⟨Nat.le_of_ble_eq_true rfl, Nat.le_of_ble_eq_true rfl⟩ dX2_onlyError_68 (fun hu9 _ => ?_)
            refine g_af (ws' := []) (st' := [.int (nI (tp (nib x i) (oeP x)))]) (cells' := 0) (slots' := 0) (pc' := 71) rfl rfl rfl rfl rfl ?_
            refine g_run X KX2_onlyError_71_14 KX2_onlyError_71_14_d 74 [(0, .long x), (2, .int (nI n)), (3, .int (nI (nib x 0))), (4, .int (nI (nib x 1))), (5, .int (nI (oeP x))), (6, .int (nI (i + 1)))] [.int (nI (i + 1)), .long x, .int (nI (tp (nib x i) (oeP x)))] rfl ?_
            refine g_callSN X hSB hAf (host := "Chipfield") (As := [.long x, .int (nI (i + 1))]) (wr := []) (n := 2) (c_X5_numberAt l D g x (i + 1) (by omega)) rfl srcN hrdN w_215 (nw_in n_267 rfl) w_214 w_1 (by decide +kernel) rfl ⟨Nat.le_of_ble_eq_true rfl, Nat.le_of_ble_eq_true rfl⟩ rfl rfl rfl (Nat.le_of_ble_eq_true rfl) ⟨Nat.le_of_ble_eq_true rfl, Nat.le_of_ble_eq_true rfl⟩ dX2_onlyError_74 (fun hu10 _ => ?_)
            refine g_af (ws' := []) (st' := [.int (nI (nib x (i + 1))), .int (nI (tp (nib x i) (oeP x)))]) (cells' := 0) (slots' := 0) (pc' := 77) rfl rfl rfl rfl rfl ?_
            refine g_icmp_eq X 82 dX2_onlyError_77 (by decide) (fun hc11 => ?_) (fun hc11 => ?_)
            · rw [nI_eq (by have := @tp_lt (nib x i) (oeP x); omega) (by have := nib_lt x (i + 1); omega)] at hc11
              refine g_run X KX2_onlyError_82_15 KX2_onlyError_82_15_d 52 [(6, .int ((nI (i + 1)) + (nI 1))), (0, .long x), (2, .int (nI n)), (3, .int (nI (nib x 0))), (4, .int (nI (nib x 1))), (5, .int (nI (oeP x)))] [] rfl ?_
              refine g_nm (lv' := [(6, .int (nI ((i + 1) + 1))), (0, .long x), (2, .int (nI n)), (3, .int (nI (nib x 0))), (4, .int (nI (nib x 1))), (5, .int (nI (oeP x)))]) (st' := []) (by simp only [nI_add]) (by simp only [nI_add]) ?_
              refine g_lv (lv' := [(0, .long x), (2, .int (nI n)), (3, .int (nI (nib x 0))), (4, .int (nI (nib x 1))), (5, .int (nI (oeP x))), (6, .int (nI ((i + 1) + 1)))]) (lsub_c 1 rfl (lsub_c 2 rfl (lsub_c 3 rfl (lsub_c 4 rfl (lsub_c 5 rfl (lsub_c 0 rfl (lsub_n))))))) ?_
              refine g_cs (ws' := []) (lv' := [(0, .long x), (2, .int (nI n)), (3, .int (nI (nib x 0))), (4, .int (nI (nib x 1))), (5, .int (nI (oeP x))), (6, .int (nI ((i + 1) + 1)))]) (rfl) (rfl) ?_
              exact k52 (fun k hk => by rcases Nat.lt_succ_iff_lt_or_eq.mp hk with h | h; exact hP52 k h; subst h; assumption)
            · rw [nI_eq (by have := @tp_lt (nib x i) (oeP x); omega) (by have := nib_lt x (i + 1); omega)] at hc11
              refine g_run X KX2_onlyError_80_16 KX2_onlyError_80_16_d 81 [(0, .long x), (2, .int (nI n)), (3, .int (nI (nib x 0))), (4, .int (nI (nib x 1))), (5, .int (nI (oeP x))), (6, .int (nI (i + 1)))] [.int (-nI 1)] rfl ?_
              exact g_iret X hr () (by show some (Value.int _) = some (Value.int _); first | (rw [oe, if_neg (by omega), if_neg (fun hz => absurd (hz i hi) (by assumption))]; done) | (rw [oe, if_neg (by omega), if_neg (fun hz => absurd (hz i hi) (by assumption))]; rfl)) (trivial) ((List.append_nil _).symm) (Nat.le_of_ble_eq_true rfl) (Nat.le_of_ble_eq_true rfl) dX2_onlyError_81
      · rw [nz_eq (by have := nib_lt x 1; omega)] at hc5
        refine g_run X KX2_onlyError_27_3 KX2_onlyError_27_3_d 28 [(4, .int (nI (nib x 1))), (3, .int (nI (nib x 0))), (0, .long x), (2, .int (nI n))] [.int (-nI 1)] rfl ?_
        exact g_iret X hr () (by show some (Value.int _) = some (Value.int _); first | (rw [oe, if_pos (by omega)]; done) | (rw [oe, if_pos (by omega)]; rfl)) (trivial) ((List.append_nil _).symm) (Nat.le_of_ble_eq_true rfl) (Nat.le_of_ble_eq_true rfl) dX2_onlyError_28

theorem ps_t {b : Nat} {i : Nat} (h : b.testBit i = true) : pcn b (i + 1) = pcn b i + 1 := by rw [pcn, h]; rfl
theorem ps_f {b : Nat} {i : Nat} (h : b.testBit i = false) : pcn b (i + 1) = pcn b i := by rw [pcn, h]; rfl
theorem es_t {b i : Nat} {x : Int64} (h : b.testBit i = true) : ebl b x (i + 1) = bl i (ebl b x i) (4 - pcn b i - 1) := by rw [ebl, if_pos h]
theorem es_f {b i : Nat} {x : Int64} (h : b.testBit i = false) : ebl b x (i + 1) = ebl b x i := by rw [ebl, if_neg (by rw [h]; decide)]
theorem nf_t {x : Bool} (h : ¬ x = false) : x = true := by cases x <;> first | rfl | exact absurd rfl h
theorem pcn_le {b i j : Nat} (h : b.testBit i = true) (hj : i < j) (h4 : pcn b j ≤ 4) : pcn b i ≤ 3 := by
  have h1 := pcn_mono b (show i + 1 ≤ j from hj)
  rw [ps_t h] at h1
  omega
theorem two_lt {i : Nat} (h : i < 15) : 2 ^ i < 2 ^ 15 := Nat.pow_lt_pow_right (by decide) h
theorem eb_0 {b : Nat} {x : Int64} (h : ebl b x 15 = lN 0) : eb b x = some 0 := by rw [eb, if_pos h]
theorem eb_P {b P : Nat} {x : Int64} (h : ¬ ebl b x 15 = lN 0) (ho : oe (ebl b x 15) (4 - pcn b 15) = some P) (hp : b.testBit P = false) : eb b x = some (2 ^ P) := by
  rw [eb, if_neg h, ho]; dsimp only; rw [if_neg (by rw [hp]; decide)]
theorem eb_Pt {b P : Nat} {x : Int64} (h : ¬ ebl b x 15 = lN 0) (ho : oe (ebl b x 15) (4 - pcn b 15) = some P) (hp : b.testBit P = true) : eb b x = if 4 ≤ 4 - pcn b 15 then fsome (eb2f (ebl b x 15)) 15 0 else none := by
  rw [eb, if_neg h, ho]; dsimp only; rw [if_pos hp]
theorem eb_no {b : Nat} {x : Int64} (h : ¬ ebl b x 15 = lN 0) (ho : oe (ebl b x 15) (4 - pcn b 15) = none) : eb b x = if 4 ≤ 4 - pcn b 15 then fsome (eb2f (ebl b x 15)) 15 0 else none := by
  rw [eb, if_neg h, ho]
theorem pcn_or (b P n : Nat) : pcn (b ||| 2 ^ P) n ≤ pcn b n + (if P < n then 1 else 0) := by
  induction n with
  | zero => exact Nat.le_refl _
  | succ n ih =>
    rw [pcn, pcn, Nat.testBit_or, Nat.testBit_two_pow]
    by_cases h : P = n
    · subst h
      rw [if_neg (Nat.lt_irrefl _)] at ih
      rw [if_pos (Nat.lt_succ_self _)]
      have := bN_lt (b.testBit P || decide (P = P))
      have := bN_lt (b.testBit P)
      omega
    · have e : (b.testBit n || decide (P = n)) = b.testBit n := by simp [h]
      rw [e]
      by_cases h2 : P < n
      · rw [if_pos h2] at ih; rw [if_pos (by omega)]; omega
      · rw [if_neg h2] at ih; rw [if_neg (by omega)]; omega
theorem oe_n {x : Int64} {n P : Nat} (h : oe x n = some P) : 2 ≤ n := by
  unfold oe at h
  split at h
  · cases h
  · omega
theorem fs_in {f : Nat → Option Nat} {r : Nat} : ∀ n i, fsome f n i = some r → ∃ k, i ≤ k ∧ k < i + n ∧ f k = some r
  | 0, i, h => by cases h
  | n + 1, i, h => by
    unfold fsome at h
    cases hf : f i with
    | some v =>
      rw [hf] at h; cases h
      exact ⟨i, Nat.le_refl _, by omega, hf⟩
    | none =>
      rw [hf] at h
      obtain ⟨k, h1, h2, h3⟩ := fs_in n (i + 1) h
      exact ⟨k, by omega, by omega, h3⟩
theorem eb_in {b : Nat} {x : Int64} {r : Nat} (h : eb b x = some r) : r = 0 ∨ (∃ P, P < 15 ∧ r = 2 ^ P ∧ pcn b 15 ≤ 2) ∨ ∃ i t, i < 15 ∧ t < 15 ∧ r = 2 ^ i ||| 2 ^ t ∧ pcn b 15 = 0 := by
  have key : (if 4 ≤ 4 - pcn b 15 then fsome (eb2f (ebl b x 15)) 15 0 else none) = some r → ∃ i t, i < 15 ∧ t < 15 ∧ r = 2 ^ i ||| 2 ^ t ∧ pcn b 15 = 0 := by
    intro h
    split at h
    next h4 =>
      obtain ⟨k, h1, h2, h3⟩ := fs_in 15 0 h
      unfold eb2f at h3
      split at h3
      next t ht =>
        split at h3
        · cases h3
        · cases h3
          exact ⟨k, t, by omega, oe_lt ht, rfl, by omega⟩
      next => cases h3
    next => cases h
  unfold eb at h
  split at h
  · cases h; exact Or.inl rfl
  · split at h
    next P ho =>
      split at h
      · exact Or.inr (Or.inr (key h))
      · cases h
        have := oe_n ho
        exact Or.inr (Or.inl ⟨P, oe_lt ho, rfl, by omega⟩)
    next => exact Or.inr (Or.inr (key h))
theorem eb_lt {b : Nat} {x : Int64} {r : Nat} (h : eb b x = some r) : r < 2 ^ 15 := by
  rcases eb_in h with rfl | ⟨P, hP, rfl, -⟩ | ⟨i, t, hi, ht, rfl, -⟩
  · decide
  · exact two_lt hP
  · exact or_lt (two_lt hi) (two_lt ht)
theorem eb_bits {b : Nat} {x : Int64} {r : Nat} (h : eb b x = some r) (h4 : pcn b 15 ≤ 4) : pcn (b ||| r) 15 ≤ 4 := by
  rcases eb_in h with rfl | ⟨P, hP, rfl, h2⟩ | ⟨i, t, hi, ht, rfl, h0⟩
  · rw [Nat.or_zero]; exact h4
  · have := pcn_or b P 15
    rw [if_pos hP] at this
    omega
  · have h1 := pcn_or b i 15
    have h2 := pcn_or (b ||| 2 ^ i) t 15
    rw [if_pos hi] at h1
    rw [if_pos ht, Nat.or_assoc] at h2
    omega
theorem pcx_eq {q b : Nat} (h : b.testBit q = true) (i : Nat) : pcx q b i + (if q < i then 1 else 0) = pcn b i := by
  induction i with
  | zero => rfl
  | succ i ih =>
    rw [pcx, pcn]
    by_cases hq : i = q
    · subst hq
      rw [if_neg (fun z => z.1 rfl), if_pos (Nat.lt_succ_self _), h]
      rw [if_neg (Nat.lt_irrefl _)] at ih
      show pcx i b i + 1 = pcn b i + 1
      omega
    · have e : (q < i + 1) ↔ q < i := by omega
      simp only [e]
      cases hb : b.testBit i with
      | true => rw [if_pos ⟨hq, rfl⟩]; show _ + 1 + _ = _ + 1; omega
      | false => rw [if_neg (fun z => by cases z.2)]; show _ = _ + 0; omega
theorem pcx_le {q b : Nat} (h : b.testBit q = true) (hq : q < 15) (h4 : pcn b 15 ≤ 4) : pcx q b 15 ≤ 3 := by
  have := pcx_eq h 15
  rw [if_pos hq] at this
  omega
theorem as_t {q b i : Nat} {x : Int64} (h : i ≠ q ∧ b.testBit i = true) : pcx q b (i + 1) = pcx q b i + 1 ∧ eal q b x (i + 1) = bl i (eal q b x i) (4 - pcx q b i - 1) ∧ eaf q b (i + 1) = gm (eaf q b i) (tp 1 q ^^^ tp 1 i) := by
  rw [pcx, eal, eaf, if_pos h, if_pos h, if_pos h]; exact ⟨rfl, rfl, rfl⟩
theorem as_f {q b i : Nat} {x : Int64} (h : ¬ (i ≠ q ∧ b.testBit i = true)) : pcx q b (i + 1) = pcx q b i ∧ eal q b x (i + 1) = eal q b x i ∧ eaf q b (i + 1) = eaf q b i := by
  rw [pcx, eal, eaf, if_neg h, if_neg h, if_neg h]; exact ⟨rfl, rfl, rfl⟩

def KX2_errorsBeside_0_0 : List (Nat × Instr × Nat) := [(0, .lload_n 1, 1), (1, .lstore_n 3, 1), (2, .iconst 4, 1), (3, .istore 5, 2), (5, .iconst 0, 1), (6, .istore 6, 2)]
theorem KX2_errorsBeside_0_0_d : ∀ z ∈ KX2_errorsBeside_0_0, decode cX2_errorsBeside z.1 = .ok z.2 := by decide +kernel
def KX2_errorsBeside_8_1 : List (Nat × Instr × Nat) := [(8, .iload 6, 2), (10, .bipush 15, 2)]
theorem KX2_errorsBeside_8_1_d : ∀ z ∈ KX2_errorsBeside_8_1, decode cX2_errorsBeside z.1 = .ok z.2 := by decide +kernel
def KX2_errorsBeside_42_2 : List (Nat × Instr × Nat) := [(42, .lload_n 3, 1), (43, .lconst 0, 1), (44, .lcmp, 1)]
theorem KX2_errorsBeside_42_2_d : ∀ z ∈ KX2_errorsBeside_42_2, decode cX2_errorsBeside z.1 = .ok z.2 := by decide +kernel
def KX2_errorsBeside_50_3 : List (Nat × Instr × Nat) := [(50, .lload_n 3, 1), (51, .iload 5, 2)]
theorem KX2_errorsBeside_50_3_d : ∀ z ∈ KX2_errorsBeside_50_3, decode cX2_errorsBeside z.1 = .ok z.2 := by decide +kernel
def KX2_errorsBeside_56_4 : List (Nat × Instr × Nat) := [(56, .istore 6, 2)]
theorem KX2_errorsBeside_56_4_d : ∀ z ∈ KX2_errorsBeside_56_4, decode cX2_errorsBeside z.1 = .ok z.2 := by decide +kernel
def KX2_errorsBeside_58_5 : List (Nat × Instr × Nat) := [(58, .iload 6, 2), (60, .iconst (-1), 1)]
theorem KX2_errorsBeside_58_5_d : ∀ z ∈ KX2_errorsBeside_58_5, decode cX2_errorsBeside z.1 = .ok z.2 := by decide +kernel
def KX2_errorsBeside_78_6 : List (Nat × Instr × Nat) := [(78, .iload 5, 2), (80, .iconst 4, 1)]
theorem KX2_errorsBeside_78_6_d : ∀ z ∈ KX2_errorsBeside_78_6, decode cX2_errorsBeside z.1 = .ok z.2 := by decide +kernel
def KX2_errorsBeside_86_7 : List (Nat × Instr × Nat) := [(86, .iconst 0, 1), (87, .istore 7, 2)]
theorem KX2_errorsBeside_86_7_d : ∀ z ∈ KX2_errorsBeside_86_7, decode cX2_errorsBeside z.1 = .ok z.2 := by decide +kernel
def KX2_errorsBeside_89_8 : List (Nat × Instr × Nat) := [(89, .iload 7, 2), (91, .bipush 15, 2)]
theorem KX2_errorsBeside_89_8_d : ∀ z ∈ KX2_errorsBeside_89_8, decode cX2_errorsBeside z.1 = .ok z.2 := by decide +kernel
def KX2_errorsBeside_142_9 : List (Nat × Instr × Nat) := [(142, .iconst (-1), 1)]
theorem KX2_errorsBeside_142_9_d : ∀ z ∈ KX2_errorsBeside_142_9, decode cX2_errorsBeside z.1 = .ok z.2 := by decide +kernel
def KX2_errorsBeside_96_10 : List (Nat × Instr × Nat) := [(96, .iload 7, 2), (98, .lload_n 3, 1), (99, .iload 5, 2)]
theorem KX2_errorsBeside_96_10_d : ∀ z ∈ KX2_errorsBeside_96_10, decode cX2_errorsBeside z.1 = .ok z.2 := by decide +kernel
def KX2_errorsBeside_104_11 : List (Nat × Instr × Nat) := [(104, .iload 5, 2), (106, .iconst 1, 1), (107, .isub, 1)]
theorem KX2_errorsBeside_104_11_d : ∀ z ∈ KX2_errorsBeside_104_11, decode cX2_errorsBeside z.1 = .ok z.2 := by decide +kernel
def KX2_errorsBeside_111_12 : List (Nat × Instr × Nat) := [(111, .istore 8, 2)]
theorem KX2_errorsBeside_111_12_d : ∀ z ∈ KX2_errorsBeside_111_12, decode cX2_errorsBeside z.1 = .ok z.2 := by decide +kernel
def KX2_errorsBeside_113_13 : List (Nat × Instr × Nat) := [(113, .iload 8, 2), (115, .iconst (-1), 1)]
theorem KX2_errorsBeside_113_13_d : ∀ z ∈ KX2_errorsBeside_113_13, decode cX2_errorsBeside z.1 = .ok z.2 := by decide +kernel
def KX2_errorsBeside_136_14 : List (Nat × Instr × Nat) := [(136, .iinc 7 1, 3), (139, .goto (-50), 3)]
theorem KX2_errorsBeside_136_14_d : ∀ z ∈ KX2_errorsBeside_136_14, decode cX2_errorsBeside z.1 = .ok z.2 := by decide +kernel
def KX2_errorsBeside_119_15 : List (Nat × Instr × Nat) := [(119, .iload 8, 2), (121, .iload 7, 2)]
theorem KX2_errorsBeside_119_15_d : ∀ z ∈ KX2_errorsBeside_119_15, decode cX2_errorsBeside z.1 = .ok z.2 := by decide +kernel
def KX2_errorsBeside_126_16 : List (Nat × Instr × Nat) := [(126, .iconst 1, 1), (127, .iload 7, 2), (129, .ishl, 1), (130, .iconst 1, 1), (131, .iload 8, 2), (133, .ishl, 1), (134, .ior, 1)]
theorem KX2_errorsBeside_126_16_d : ∀ z ∈ KX2_errorsBeside_126_16, decode cX2_errorsBeside z.1 = .ok z.2 := by decide +kernel
def KX2_errorsBeside_84_17 : List (Nat × Instr × Nat) := [(84, .iconst (-1), 1)]
theorem KX2_errorsBeside_84_17_d : ∀ z ∈ KX2_errorsBeside_84_17, decode cX2_errorsBeside z.1 = .ok z.2 := by decide +kernel
def KX2_errorsBeside_64_18 : List (Nat × Instr × Nat) := [(64, .iload_n 0, 1), (65, .iload 6, 2)]
theorem KX2_errorsBeside_64_18_d : ∀ z ∈ KX2_errorsBeside_64_18, decode cX2_errorsBeside z.1 = .ok z.2 := by decide +kernel
def KX2_errorsBeside_73_19 : List (Nat × Instr × Nat) := [(73, .iconst 1, 1), (74, .iload 6, 2), (76, .ishl, 1)]
theorem KX2_errorsBeside_73_19_d : ∀ z ∈ KX2_errorsBeside_73_19, decode cX2_errorsBeside z.1 = .ok z.2 := by decide +kernel
def KX2_errorsBeside_48_20 : List (Nat × Instr × Nat) := [(48, .iconst 0, 1)]
theorem KX2_errorsBeside_48_20_d : ∀ z ∈ KX2_errorsBeside_48_20, decode cX2_errorsBeside z.1 = .ok z.2 := by decide +kernel
def KX2_errorsBeside_15_21 : List (Nat × Instr × Nat) := [(15, .iload_n 0, 1), (16, .iload 6, 2)]
theorem KX2_errorsBeside_15_21_d : ∀ z ∈ KX2_errorsBeside_15_21, decode cX2_errorsBeside z.1 = .ok z.2 := by decide +kernel
def KX2_errorsBeside_36_22 : List (Nat × Instr × Nat) := [(36, .iinc 6 1, 3), (39, .goto (-31), 3)]
theorem KX2_errorsBeside_36_22_d : ∀ z ∈ KX2_errorsBeside_36_22, decode cX2_errorsBeside z.1 = .ok z.2 := by decide +kernel
def KX2_errorsBeside_24_23 : List (Nat × Instr × Nat) := [(24, .iload 6, 2), (26, .lload_n 3, 1), (27, .iload 5, 2)]
theorem KX2_errorsBeside_24_23_d : ∀ z ∈ KX2_errorsBeside_24_23, decode cX2_errorsBeside z.1 = .ok z.2 := by decide +kernel
def KX2_errorsBeside_32_24 : List (Nat × Instr × Nat) := [(32, .lstore_n 3, 1), (33, .iinc 5 (-1), 3), (36, .iinc 6 1, 3), (39, .goto (-31), 3)]
theorem KX2_errorsBeside_32_24_d : ∀ z ∈ KX2_errorsBeside_32_24, decode cX2_errorsBeside z.1 = .ok z.2 := by decide +kernel
set_option maxHeartbeats 4000000 in
set_option maxRecDepth 100000 in
theorem c_X2_errorsBeside (l : Launch) (D : va_G) (g : Nat → ClassId) (b : Nat) (x : Int64) (hb : b < 2 ^ 15) (h4 : pcn b 15 ≤ 4) : CT l yX2_errorsBeside cX2_errorsBeside 9 ((Option.some FieldType.int)) ({ frames := 2, cells := 0, slots := 0, locals := 50 } : Room) [.int (nI b), .long x] D CL (TYS g) ([]) ([]) (S := Unit) (fun _ => some (.int (oI (eb b x)))) (fun _ => []) (fun _ => True) 0 0 := by
  refine ct_of (by decide +kernel) (Nat.le_of_ble_eq_true rfl) ?_
  intro p e s m below meth c A X hr hnm hSB hRO hAf
  refine g_cs (ws' := []) (lv' := [(0, .int (nI b)), (1, .long x)]) rfl rfl ?_
  refine g_run X KX2_errorsBeside_0_0 KX2_errorsBeside_0_0_d 8 [(6, .int (nI 0)), (5, .int (nI 4)), (3, .long x), (0, .int (nI b)), (1, .long x)] [] rfl ?_
  refine g_lv (lv' := [(0, .int (nI b)), (1, .long x), (3, .long x), (5, .int (nI 4)), (6, .int (nI 0))]) (lsub_c 3 rfl (lsub_c 4 rfl (lsub_c 2 rfl (lsub_c 1 rfl (lsub_c 0 rfl (lsub_n)))))) ?_
  refine g_for 15 (fun _ => []) (fun i => [(0, .int (nI b)), (1, .long x), (3, .long (ebl b x i)), (5, .int (nI (4 - pcn b i))), (6, .int (nI i))]) (rfl) (rfl) ?_ ?_
  · refine g_run X KX2_errorsBeside_8_1 KX2_errorsBeside_8_1_d 12 [(0, .int (nI b)), (1, .long x), (3, .long (ebl b x 15)), (5, .int (nI (4 - pcn b 15))), (6, .int (nI 15))] [.int (nI 15), .int (nI 15)] rfl ?_
    refine g_icmp_ge X 42 dX2_errorsBeside_12 (by decide) (fun hc1 => ?_) (fun hc1 => ?_)
    · refine g_run X KX2_errorsBeside_42_2 KX2_errorsBeside_42_2_d 45 [(0, .int (nI b)), (1, .long x), (3, .long (ebl b x 15)), (5, .int (nI (4 - pcn b 15))), (6, .int (nI 15))] [.int (lg_cmp (ebl b x 15) (lN 0))] rfl ?_
      refine g_if_ne X 50 dX2_errorsBeside_45 (by decide) (fun hc2 => ?_) (fun hc2 => ?_)
      · rw [lc0] at hc2; have hz := hc2
        refine g_run X KX2_errorsBeside_50_3 KX2_errorsBeside_50_3_d 53 [(0, .int (nI b)), (1, .long x), (3, .long (ebl b x 15)), (5, .int (nI (4 - pcn b 15))), (6, .int (nI 15))] [.int (nI (4 - pcn b 15)), .long (ebl b x 15)] rfl ?_
        refine g_callS X hSB hAf (As := [.long (ebl b x 15), .int (nI (4 - pcn b 15))]) (wr := []) (n := 2) (c_X2_onlyError l D g (ebl b x 15) (4 - pcn b 15) (by omega)) rfl srcN hrdN w_287 w_285 w_286 w_22 (by decide +kernel) rfl ⟨Nat.le_of_ble_eq_true rfl, Nat.le_of_ble_eq_true rfl⟩ rfl rfl rfl (Nat.le_of_ble_eq_true rfl) ⟨Nat.le_of_ble_eq_true rfl, Nat.le_of_ble_eq_true rfl⟩ dX2_errorsBeside_53 (fun hu3 _ => ?_)
        refine g_af (ws' := []) (st' := [.int (oI (oe (ebl b x 15) (4 - pcn b 15)))]) (cells' := 0) (slots' := 0) (pc' := 56) rfl rfl rfl rfl rfl ?_
        refine g_run X KX2_errorsBeside_56_4 KX2_errorsBeside_56_4_d 58 [(6, .int (oI (oe (ebl b x 15) (4 - pcn b 15)))), (0, .int (nI b)), (1, .long x), (3, .long (ebl b x 15)), (5, .int (nI (4 - pcn b 15)))] [] rfl ?_
        rcases hoe : oe (ebl b x 15) (4 - pcn b 15) with _ | P
        · refine g_nm (lv' := [(6, .int (-nI 1)), (0, .int (nI b)), (1, .long x), (3, .long (ebl b x 15)), (5, .int (nI (4 - pcn b 15)))]) (st' := []) rfl rfl ?_
          have hEB0 := eb_no hz hoe
          refine g_run X KX2_errorsBeside_58_5 KX2_errorsBeside_58_5_d 61 [(6, .int (-nI 1)), (0, .int (nI b)), (1, .long x), (3, .long (ebl b x 15)), (5, .int (nI (4 - pcn b 15)))] [.int (-nI 1), .int (-nI 1)] rfl ?_
          refine g_icmp_eq X 78 dX2_errorsBeside_61 (by decide) (fun hc4 => ?_) (fun hc4 => ?_)
          · refine g_run X KX2_errorsBeside_78_6 KX2_errorsBeside_78_6_d 81 [(6, .int (-nI 1)), (0, .int (nI b)), (1, .long x), (3, .long (ebl b x 15)), (5, .int (nI (4 - pcn b 15)))] [.int (nI 4), .int (nI (4 - pcn b 15))] rfl ?_
            refine g_icmp_ge X 86 dX2_errorsBeside_81 (by decide) (fun hc5 => ?_) (fun hc5 => ?_)
            · rw [nI_leI (by omega) (by omega)] at hc5; have hEB := hEB0.trans (if_pos hc5)
              refine g_nm (lv' := [(6, .int (-nI 1)), (0, .int (nI b)), (1, .long x), (3, .long (ebl b x 15)), (5, .int (nI 4))]) (st' := []) (by rw [show 4 - pcn b 15 = 4 by omega]) rfl ?_
              refine g_run X KX2_errorsBeside_86_7 KX2_errorsBeside_86_7_d 89 [(7, .int (nI 0)), (6, .int (-nI 1)), (0, .int (nI b)), (1, .long x), (3, .long (ebl b x 15)), (5, .int (nI 4))] [] rfl ?_
              refine g_lv (lv' := [(0, .int (nI b)), (1, .long x), (3, .long (ebl b x 15)), (5, .int (nI 4)), (7, .int (nI 0))]) (lsub_c 2 rfl (lsub_c 3 rfl (lsub_c 4 rfl (lsub_c 5 rfl (lsub_c 0 rfl (lsub_n)))))) ?_
              refine g_forP 15 (fun _ => []) (fun i => [(0, .int (nI b)), (1, .long x), (3, .long (ebl b x 15)), (5, .int (nI 4)), (7, .int (nI i))]) (fun i => fsome (eb2f (ebl b x 15)) 15 0 = fsome (eb2f (ebl b x 15)) (15 - i) i) (rfl) (rfl) (rfl) ?_ ?_
              · intro hP89
                refine g_run X KX2_errorsBeside_89_8 KX2_errorsBeside_89_8_d 93 [(0, .int (nI b)), (1, .long x), (3, .long (ebl b x 15)), (5, .int (nI 4)), (7, .int (nI 15))] [.int (nI 15), .int (nI 15)] rfl ?_
                refine g_icmp_ge X 142 dX2_errorsBeside_93 (by decide) (fun hc6 => ?_) (fun hc6 => ?_)
                · have hEB := hEB.trans hP89
                  refine g_run X KX2_errorsBeside_142_9 KX2_errorsBeside_142_9_d 143 [(0, .int (nI b)), (1, .long x), (3, .long (ebl b x 15)), (5, .int (nI 4)), (7, .int (nI 15))] [.int (-nI 1)] rfl ?_
                  exact g_iret X hr () (by show some (Value.int _) = some (Value.int _); first | (rw [hEB]; done) | (rw [hEB]; rfl)) (trivial) ((List.append_nil _).symm) (Nat.le_of_ble_eq_true rfl) (Nat.le_of_ble_eq_true rfl) dX2_errorsBeside_143
                · rw [nI_leI (by omega) (by omega)] at hc6; first | omega | (simp at hc6)
              · intro i hi hP89 k89
                refine g_run X KX2_errorsBeside_89_8 KX2_errorsBeside_89_8_d 93 [(0, .int (nI b)), (1, .long x), (3, .long (ebl b x 15)), (5, .int (nI 4)), (7, .int (nI i))] [.int (nI 15), .int (nI i)] rfl ?_
                refine g_icmp_ge X 142 dX2_errorsBeside_93 (by decide) (fun hc7 => ?_) (fun hc7 => ?_)
                · rw [nI_leI (by omega) (by omega)] at hc7; first | omega | (simp at hc7)
                · refine g_run X KX2_errorsBeside_96_10 KX2_errorsBeside_96_10_d 101 [(0, .int (nI b)), (1, .long x), (3, .long (ebl b x 15)), (5, .int (nI 4)), (7, .int (nI i))] [.int (nI 4), .long (ebl b x 15), .int (nI i)] rfl ?_
                  refine g_callS X hSB hAf (As := [.int (nI i), .long (ebl b x 15), .int (nI 4)]) (wr := []) (n := 3) (c_X2_blindTo l D g i (ebl b x 15) 4 (by omega) (by omega) (by omega)) rfl srcN hrdN w_284 w_282 w_283 w_22 (by decide +kernel) rfl ⟨Nat.le_of_ble_eq_true rfl, Nat.le_of_ble_eq_true rfl⟩ rfl rfl rfl (Nat.le_of_ble_eq_true rfl) ⟨Nat.le_of_ble_eq_true rfl, Nat.le_of_ble_eq_true rfl⟩ dX2_errorsBeside_101 (fun hu8 _ => ?_)
                  refine g_af (ws' := []) (st' := [.long (bl i (ebl b x 15) (4 - 1))]) (cells' := 0) (slots' := 0) (pc' := 104) rfl rfl rfl rfl rfl ?_
                  refine g_run X KX2_errorsBeside_104_11 KX2_errorsBeside_104_11_d 108 [(0, .int (nI b)), (1, .long x), (3, .long (ebl b x 15)), (5, .int (nI 4)), (7, .int (nI i))] [.int ((nI 4) - (nI 1)), .long (bl i (ebl b x 15) (4 - 1))] rfl ?_
                  refine g_st (st' := [.int (nI 3), .long (bl i (ebl b x 15) 3)]) (by rw [pk_sub (by decide)]) ?_
                  refine g_callS X hSB hAf (As := [.long (bl i (ebl b x 15) 3), .int (nI 3)]) (wr := []) (n := 2) (c_X2_onlyError l D g (bl i (ebl b x 15) 3) 3 (by omega)) rfl srcN hrdN w_287 w_285 w_286 w_22 (by decide +kernel) rfl ⟨Nat.le_of_ble_eq_true rfl, Nat.le_of_ble_eq_true rfl⟩ rfl rfl rfl (Nat.le_of_ble_eq_true rfl) ⟨Nat.le_of_ble_eq_true rfl, Nat.le_of_ble_eq_true rfl⟩ dX2_errorsBeside_108 (fun hu9 _ => ?_)
                  refine g_af (ws' := []) (st' := [.int (oI (oe (bl i (ebl b x 15) 3) 3))]) (cells' := 0) (slots' := 0) (pc' := 111) rfl rfl rfl rfl rfl ?_
                  refine g_run X KX2_errorsBeside_111_12 KX2_errorsBeside_111_12_d 113 [(8, .int (oI (oe (bl i (ebl b x 15) 3) 3))), (0, .int (nI b)), (1, .long x), (3, .long (ebl b x 15)), (5, .int (nI 4)), (7, .int (nI i))] [] rfl ?_
                  rcases hoi : oe (bl i (ebl b x 15) 3) 3 with _ | t
                  · refine g_nm (lv' := [(8, .int (-nI 1)), (0, .int (nI b)), (1, .long x), (3, .long (ebl b x 15)), (5, .int (nI 4)), (7, .int (nI i))]) (st' := []) rfl rfl ?_
                    have hef : eb2f (ebl b x 15) i = none := by unfold eb2f; rw [hoi]
                    refine g_run X KX2_errorsBeside_113_13 KX2_errorsBeside_113_13_d 116 [(8, .int (-nI 1)), (0, .int (nI b)), (1, .long x), (3, .long (ebl b x 15)), (5, .int (nI 4)), (7, .int (nI i))] [.int (-nI 1), .int (-nI 1)] rfl ?_
                    refine g_icmp_eq X 136 dX2_errorsBeside_116 (by decide) (fun hc10 => ?_) (fun hc10 => ?_)
                    · refine g_run X KX2_errorsBeside_136_14 KX2_errorsBeside_136_14_d 89 [(7, .int ((nI i) + (nI 1))), (8, .int (-nI 1)), (0, .int (nI b)), (1, .long x), (3, .long (ebl b x 15)), (5, .int (nI 4))] [] rfl ?_
                      refine g_nm (lv' := [(7, .int (nI (i + 1))), (8, .int (-nI 1)), (0, .int (nI b)), (1, .long x), (3, .long (ebl b x 15)), (5, .int (nI 4))]) (st' := []) (by simp only [nI_add]) (by simp only [nI_add]) ?_
                      refine g_lv (lv' := [(0, .int (nI b)), (1, .long x), (3, .long (ebl b x 15)), (5, .int (nI 4)), (7, .int (nI (i + 1)))]) (lsub_c 2 rfl (lsub_c 3 rfl (lsub_c 4 rfl (lsub_c 5 rfl (lsub_c 0 rfl (lsub_n)))))) ?_
                      refine g_cs (ws' := []) (lv' := [(0, .int (nI b)), (1, .long x), (3, .long (ebl b x 15)), (5, .int (nI 4)), (7, .int (nI (i + 1)))]) (rfl) (rfl) ?_
                      exact k89 (hP89.trans (fs_none hi hef))
                    · exact absurd rfl hc10
                  · have ht15 := oe_lt hoi
                    refine g_nm (lv' := [(8, .int (nI t)), (0, .int (nI b)), (1, .long x), (3, .long (ebl b x 15)), (5, .int (nI 4)), (7, .int (nI i))]) (st' := []) rfl rfl ?_
                    refine g_run X KX2_errorsBeside_113_13 KX2_errorsBeside_113_13_d 116 [(8, .int (nI t)), (0, .int (nI b)), (1, .long x), (3, .long (ebl b x 15)), (5, .int (nI 4)), (7, .int (nI i))] [.int (-nI 1), .int (nI t)] rfl ?_
                    refine g_icmp_eq X 136 dX2_errorsBeside_116 (by decide) (fun hc11 => ?_) (fun hc11 => ?_)
                    · exact absurd hc11 (m1_ne (by omega))
                    · refine g_run X KX2_errorsBeside_119_15 KX2_errorsBeside_119_15_d 123 [(8, .int (nI t)), (0, .int (nI b)), (1, .long x), (3, .long (ebl b x 15)), (5, .int (nI 4)), (7, .int (nI i))] [.int (nI i), .int (nI t)] rfl ?_
                      refine g_icmp_eq X 136 dX2_errorsBeside_123 (by decide) (fun hc12 => ?_) (fun hc12 => ?_)
                      · rw [nI_eq (by omega) (by omega)] at hc12; have hef : eb2f (ebl b x 15) i = none := (by unfold eb2f; rw [hoi]; exact if_pos hc12)
                        refine g_run X KX2_errorsBeside_136_14 KX2_errorsBeside_136_14_d 89 [(7, .int ((nI i) + (nI 1))), (8, .int (nI t)), (0, .int (nI b)), (1, .long x), (3, .long (ebl b x 15)), (5, .int (nI 4))] [] rfl ?_
                        refine g_nm (lv' := [(7, .int (nI (i + 1))), (8, .int (nI t)), (0, .int (nI b)), (1, .long x), (3, .long (ebl b x 15)), (5, .int (nI 4))]) (st' := []) (by simp only [nI_add]) (by simp only [nI_add]) ?_
                        refine g_lv (lv' := [(0, .int (nI b)), (1, .long x), (3, .long (ebl b x 15)), (5, .int (nI 4)), (7, .int (nI (i + 1)))]) (lsub_c 2 rfl (lsub_c 3 rfl (lsub_c 4 rfl (lsub_c 5 rfl (lsub_c 0 rfl (lsub_n)))))) ?_
                        refine g_cs (ws' := []) (lv' := [(0, .int (nI b)), (1, .long x), (3, .long (ebl b x 15)), (5, .int (nI 4)), (7, .int (nI (i + 1)))]) (rfl) (rfl) ?_
                        exact k89 (hP89.trans (fs_none hi hef))
                      · rw [nI_eq (by omega) (by omega)] at hc12; have hef : eb2f (ebl b x 15) i = some (2 ^ i ||| 2 ^ t) := (by unfold eb2f; rw [hoi]; exact if_neg hc12); have hEB := hEB.trans (hP89.trans (fs_some hi hef))
                        refine g_run X KX2_errorsBeside_126_16 KX2_errorsBeside_126_16_d 135 [(8, .int (nI t)), (0, .int (nI b)), (1, .long x), (3, .long (ebl b x 15)), (5, .int (nI 4)), (7, .int (nI i))] [.int (((nI 1) <<< ((nI i) &&& 31)) ||| ((nI 1) <<< ((nI t) &&& 31)))] rfl ?_
                        refine g_nm (lv' := [(8, .int (nI t)), (0, .int (nI b)), (1, .long x), (3, .long (ebl b x 15)), (5, .int (nI 4)), (7, .int (nI i))]) (st' := [.int (nI ((2 ^ i) ||| (2 ^ t)))]) (by simp only [nx_or, sh1 (show i < 31 by omega), sh1 (show t < 31 by omega)]) (by simp only [nx_or, sh1 (show i < 31 by omega), sh1 (show t < 31 by omega)]) ?_
                        exact g_iret X hr () (by show some (Value.int _) = some (Value.int _); first | (rw [hEB]; done) | (rw [hEB]; rfl)) (trivial) ((List.append_nil _).symm) (Nat.le_of_ble_eq_true rfl) (Nat.le_of_ble_eq_true rfl) dX2_errorsBeside_135
            · rw [nI_leI (by omega) (by omega)] at hc5; have hEB := hEB0.trans (if_neg hc5)
              refine g_run X KX2_errorsBeside_84_17 KX2_errorsBeside_84_17_d 85 [(6, .int (-nI 1)), (0, .int (nI b)), (1, .long x), (3, .long (ebl b x 15)), (5, .int (nI (4 - pcn b 15)))] [.int (-nI 1)] rfl ?_
              exact g_iret X hr () (by show some (Value.int _) = some (Value.int _); first | (rw [hEB]; done) | (rw [hEB]; rfl)) (trivial) ((List.append_nil _).symm) (Nat.le_of_ble_eq_true rfl) (Nat.le_of_ble_eq_true rfl) dX2_errorsBeside_85
          · exact absurd rfl hc4
        · have hP15 := oe_lt hoe
          refine g_nm (lv' := [(6, .int (nI P)), (0, .int (nI b)), (1, .long x), (3, .long (ebl b x 15)), (5, .int (nI (4 - pcn b 15)))]) (st' := []) rfl rfl ?_
          refine g_run X KX2_errorsBeside_58_5 KX2_errorsBeside_58_5_d 61 [(6, .int (nI P)), (0, .int (nI b)), (1, .long x), (3, .long (ebl b x 15)), (5, .int (nI (4 - pcn b 15)))] [.int (-nI 1), .int (nI P)] rfl ?_
          refine g_icmp_eq X 78 dX2_errorsBeside_61 (by decide) (fun hc13 => ?_) (fun hc13 => ?_)
          · exact absurd hc13 (m1_ne (by omega))
          · refine g_run X KX2_errorsBeside_64_18 KX2_errorsBeside_64_18_d 67 [(6, .int (nI P)), (0, .int (nI b)), (1, .long x), (3, .long (ebl b x 15)), (5, .int (nI (4 - pcn b 15)))] [.int (nI P), .int (nI b)] rfl ?_
            refine g_callSN X hSB hAf (host := "Chipfield") (As := [.int (nI b), .int (nI P)]) (wr := []) (n := 2) (c_X5_isIn l D g b P (by omega) (by omega)) rfl srcN hrdN w_281 (nw_in n_279 rfl) w_280 w_1 (by decide +kernel) rfl ⟨Nat.le_of_ble_eq_true rfl, Nat.le_of_ble_eq_true rfl⟩ rfl rfl rfl (Nat.le_of_ble_eq_true rfl) ⟨Nat.le_of_ble_eq_true rfl, Nat.le_of_ble_eq_true rfl⟩ dX2_errorsBeside_67 (fun hu14 _ => ?_)
            refine g_af (ws' := []) (st' := [.int (nI (bN (b.testBit P)))]) (cells' := 0) (slots' := 0) (pc' := 70) rfl rfl rfl rfl rfl ?_
            refine g_if_ne X 78 dX2_errorsBeside_70 (by decide) (fun hc15 => ?_) (fun hc15 => ?_)
            · rw [bN_eq0] at hc15; have hEB0 := eb_Pt hz hoe (nf_t hc15)
              refine g_run X KX2_errorsBeside_78_6 KX2_errorsBeside_78_6_d 81 [(6, .int (nI P)), (0, .int (nI b)), (1, .long x), (3, .long (ebl b x 15)), (5, .int (nI (4 - pcn b 15)))] [.int (nI 4), .int (nI (4 - pcn b 15))] rfl ?_
              refine g_icmp_ge X 86 dX2_errorsBeside_81 (by decide) (fun hc16 => ?_) (fun hc16 => ?_)
              · rw [nI_leI (by omega) (by omega)] at hc16; have hEB := hEB0.trans (if_pos hc16)
                refine g_nm (lv' := [(6, .int (nI P)), (0, .int (nI b)), (1, .long x), (3, .long (ebl b x 15)), (5, .int (nI 4))]) (st' := []) (by rw [show 4 - pcn b 15 = 4 by omega]) rfl ?_
                refine g_run X KX2_errorsBeside_86_7 KX2_errorsBeside_86_7_d 89 [(7, .int (nI 0)), (6, .int (nI P)), (0, .int (nI b)), (1, .long x), (3, .long (ebl b x 15)), (5, .int (nI 4))] [] rfl ?_
                refine g_lv (lv' := [(0, .int (nI b)), (1, .long x), (3, .long (ebl b x 15)), (5, .int (nI 4)), (7, .int (nI 0))]) (lsub_c 2 rfl (lsub_c 3 rfl (lsub_c 4 rfl (lsub_c 5 rfl (lsub_c 0 rfl (lsub_n)))))) ?_
                refine g_forP 15 (fun _ => []) (fun i => [(0, .int (nI b)), (1, .long x), (3, .long (ebl b x 15)), (5, .int (nI 4)), (7, .int (nI i))]) (fun i => fsome (eb2f (ebl b x 15)) 15 0 = fsome (eb2f (ebl b x 15)) (15 - i) i) (rfl) (rfl) (rfl) ?_ ?_
                · intro hP89
                  refine g_run X KX2_errorsBeside_89_8 KX2_errorsBeside_89_8_d 93 [(0, .int (nI b)), (1, .long x), (3, .long (ebl b x 15)), (5, .int (nI 4)), (7, .int (nI 15))] [.int (nI 15), .int (nI 15)] rfl ?_
                  refine g_icmp_ge X 142 dX2_errorsBeside_93 (by decide) (fun hc17 => ?_) (fun hc17 => ?_)
                  · have hEB := hEB.trans hP89
                    refine g_run X KX2_errorsBeside_142_9 KX2_errorsBeside_142_9_d 143 [(0, .int (nI b)), (1, .long x), (3, .long (ebl b x 15)), (5, .int (nI 4)), (7, .int (nI 15))] [.int (-nI 1)] rfl ?_
                    exact g_iret X hr () (by show some (Value.int _) = some (Value.int _); first | (rw [hEB]; done) | (rw [hEB]; rfl)) (trivial) ((List.append_nil _).symm) (Nat.le_of_ble_eq_true rfl) (Nat.le_of_ble_eq_true rfl) dX2_errorsBeside_143
                  · rw [nI_leI (by omega) (by omega)] at hc17; first | omega | (simp at hc17)
                · intro i hi hP89 k89
                  refine g_run X KX2_errorsBeside_89_8 KX2_errorsBeside_89_8_d 93 [(0, .int (nI b)), (1, .long x), (3, .long (ebl b x 15)), (5, .int (nI 4)), (7, .int (nI i))] [.int (nI 15), .int (nI i)] rfl ?_
                  refine g_icmp_ge X 142 dX2_errorsBeside_93 (by decide) (fun hc18 => ?_) (fun hc18 => ?_)
                  · rw [nI_leI (by omega) (by omega)] at hc18; first | omega | (simp at hc18)
                  · refine g_run X KX2_errorsBeside_96_10 KX2_errorsBeside_96_10_d 101 [(0, .int (nI b)), (1, .long x), (3, .long (ebl b x 15)), (5, .int (nI 4)), (7, .int (nI i))] [.int (nI 4), .long (ebl b x 15), .int (nI i)] rfl ?_
                    refine g_callS X hSB hAf (As := [.int (nI i), .long (ebl b x 15), .int (nI 4)]) (wr := []) (n := 3) (c_X2_blindTo l D g i (ebl b x 15) 4 (by omega) (by omega) (by omega)) rfl srcN hrdN w_284 w_282 w_283 w_22 (by decide +kernel) rfl ⟨Nat.le_of_ble_eq_true rfl, Nat.le_of_ble_eq_true rfl⟩ rfl rfl rfl (Nat.le_of_ble_eq_true rfl) ⟨Nat.le_of_ble_eq_true rfl, Nat.le_of_ble_eq_true rfl⟩ dX2_errorsBeside_101 (fun hu19 _ => ?_)
                    refine g_af (ws' := []) (st' := [.long (bl i (ebl b x 15) (4 - 1))]) (cells' := 0) (slots' := 0) (pc' := 104) rfl rfl rfl rfl rfl ?_
                    refine g_run X KX2_errorsBeside_104_11 KX2_errorsBeside_104_11_d 108 [(0, .int (nI b)), (1, .long x), (3, .long (ebl b x 15)), (5, .int (nI 4)), (7, .int (nI i))] [.int ((nI 4) - (nI 1)), .long (bl i (ebl b x 15) (4 - 1))] rfl ?_
                    refine g_st (st' := [.int (nI 3), .long (bl i (ebl b x 15) 3)]) (by rw [pk_sub (by decide)]) ?_
                    refine g_callS X hSB hAf (As := [.long (bl i (ebl b x 15) 3), .int (nI 3)]) (wr := []) (n := 2) (c_X2_onlyError l D g (bl i (ebl b x 15) 3) 3 (by omega)) rfl srcN hrdN w_287 w_285 w_286 w_22 (by decide +kernel) rfl ⟨Nat.le_of_ble_eq_true rfl, Nat.le_of_ble_eq_true rfl⟩ rfl rfl rfl (Nat.le_of_ble_eq_true rfl) ⟨Nat.le_of_ble_eq_true rfl, Nat.le_of_ble_eq_true rfl⟩ dX2_errorsBeside_108 (fun hu20 _ => ?_)
                    refine g_af (ws' := []) (st' := [.int (oI (oe (bl i (ebl b x 15) 3) 3))]) (cells' := 0) (slots' := 0) (pc' := 111) rfl rfl rfl rfl rfl ?_
                    refine g_run X KX2_errorsBeside_111_12 KX2_errorsBeside_111_12_d 113 [(8, .int (oI (oe (bl i (ebl b x 15) 3) 3))), (0, .int (nI b)), (1, .long x), (3, .long (ebl b x 15)), (5, .int (nI 4)), (7, .int (nI i))] [] rfl ?_
                    rcases hoi : oe (bl i (ebl b x 15) 3) 3 with _ | t
                    · refine g_nm (lv' := [(8, .int (-nI 1)), (0, .int (nI b)), (1, .long x), (3, .long (ebl b x 15)), (5, .int (nI 4)), (7, .int (nI i))]) (st' := []) rfl rfl ?_
                      have hef : eb2f (ebl b x 15) i = none := by unfold eb2f; rw [hoi]
                      refine g_run X KX2_errorsBeside_113_13 KX2_errorsBeside_113_13_d 116 [(8, .int (-nI 1)), (0, .int (nI b)), (1, .long x), (3, .long (ebl b x 15)), (5, .int (nI 4)), (7, .int (nI i))] [.int (-nI 1), .int (-nI 1)] rfl ?_
                      refine g_icmp_eq X 136 dX2_errorsBeside_116 (by decide) (fun hc21 => ?_) (fun hc21 => ?_)
                      · refine g_run X KX2_errorsBeside_136_14 KX2_errorsBeside_136_14_d 89 [(7, .int ((nI i) + (nI 1))), (8, .int (-nI 1)), (0, .int (nI b)), (1, .long x), (3, .long (ebl b x 15)), (5, .int (nI 4))] [] rfl ?_
                        refine g_nm (lv' := [(7, .int (nI (i + 1))), (8, .int (-nI 1)), (0, .int (nI b)), (1, .long x), (3, .long (ebl b x 15)), (5, .int (nI 4))]) (st' := []) (by simp only [nI_add]) (by simp only [nI_add]) ?_
                        refine g_lv (lv' := [(0, .int (nI b)), (1, .long x), (3, .long (ebl b x 15)), (5, .int (nI 4)), (7, .int (nI (i + 1)))]) (lsub_c 2 rfl (lsub_c 3 rfl (lsub_c 4 rfl (lsub_c 5 rfl (lsub_c 0 rfl (lsub_n)))))) ?_
                        refine g_cs (ws' := []) (lv' := [(0, .int (nI b)), (1, .long x), (3, .long (ebl b x 15)), (5, .int (nI 4)), (7, .int (nI (i + 1)))]) (rfl) (rfl) ?_
                        exact k89 (hP89.trans (fs_none hi hef))
                      · exact absurd rfl hc21
                    · have ht15 := oe_lt hoi
                      refine g_nm (lv' := [(8, .int (nI t)), (0, .int (nI b)), (1, .long x), (3, .long (ebl b x 15)), (5, .int (nI 4)), (7, .int (nI i))]) (st' := []) rfl rfl ?_
                      refine g_run X KX2_errorsBeside_113_13 KX2_errorsBeside_113_13_d 116 [(8, .int (nI t)), (0, .int (nI b)), (1, .long x), (3, .long (ebl b x 15)), (5, .int (nI 4)), (7, .int (nI i))] [.int (-nI 1), .int (nI t)] rfl ?_
                      refine g_icmp_eq X 136 dX2_errorsBeside_116 (by decide) (fun hc22 => ?_) (fun hc22 => ?_)
                      · exact absurd hc22 (m1_ne (by omega))
                      · refine g_run X KX2_errorsBeside_119_15 KX2_errorsBeside_119_15_d 123 [(8, .int (nI t)), (0, .int (nI b)), (1, .long x), (3, .long (ebl b x 15)), (5, .int (nI 4)), (7, .int (nI i))] [.int (nI i), .int (nI t)] rfl ?_
                        refine g_icmp_eq X 136 dX2_errorsBeside_123 (by decide) (fun hc23 => ?_) (fun hc23 => ?_)
                        · rw [nI_eq (by omega) (by omega)] at hc23; have hef : eb2f (ebl b x 15) i = none := (by unfold eb2f; rw [hoi]; exact if_pos hc23)
                          refine g_run X KX2_errorsBeside_136_14 KX2_errorsBeside_136_14_d 89 [(7, .int ((nI i) + (nI 1))), (8, .int (nI t)), (0, .int (nI b)), (1, .long x), (3, .long (ebl b x 15)), (5, .int (nI 4))] [] rfl ?_
                          refine g_nm (lv' := [(7, .int (nI (i + 1))), (8, .int (nI t)), (0, .int (nI b)), (1, .long x), (3, .long (ebl b x 15)), (5, .int (nI 4))]) (st' := []) (by simp only [nI_add]) (by simp only [nI_add]) ?_
                          refine g_lv (lv' := [(0, .int (nI b)), (1, .long x), (3, .long (ebl b x 15)), (5, .int (nI 4)), (7, .int (nI (i + 1)))]) (lsub_c 2 rfl (lsub_c 3 rfl (lsub_c 4 rfl (lsub_c 5 rfl (lsub_c 0 rfl (lsub_n)))))) ?_
                          refine g_cs (ws' := []) (lv' := [(0, .int (nI b)), (1, .long x), (3, .long (ebl b x 15)), (5, .int (nI 4)), (7, .int (nI (i + 1)))]) (rfl) (rfl) ?_
                          exact k89 (hP89.trans (fs_none hi hef))
                        · rw [nI_eq (by omega) (by omega)] at hc23; have hef : eb2f (ebl b x 15) i = some (2 ^ i ||| 2 ^ t) := (by unfold eb2f; rw [hoi]; exact if_neg hc23); have hEB := hEB.trans (hP89.trans (fs_some hi hef))
                          refine g_run X KX2_errorsBeside_126_16 KX2_errorsBeside_126_16_d 135 [(8, .int (nI t)), (0, .int (nI b)), (1, .long x), (3, .long (ebl b x 15)), (5, .int (nI 4)), (7, .int (nI i))] [.int (((nI 1) <<< ((nI i) &&& 31)) ||| ((nI 1) <<< ((nI t) &&& 31)))] rfl ?_
                          refine g_nm (lv' := [(8, .int (nI t)), (0, .int (nI b)), (1, .long x), (3, .long (ebl b x 15)), (5, .int (nI 4)), (7, .int (nI i))]) (st' := [.int (nI ((2 ^ i) ||| (2 ^ t)))]) (by simp only [nx_or, sh1 (show i < 31 by omega), sh1 (show t < 31 by omega)]) (by simp only [nx_or, sh1 (show i < 31 by omega), sh1 (show t < 31 by omega)]) ?_
                          exact g_iret X hr () (by show some (Value.int _) = some (Value.int _); first | (rw [hEB]; done) | (rw [hEB]; rfl)) (trivial) ((List.append_nil _).symm) (Nat.le_of_ble_eq_true rfl) (Nat.le_of_ble_eq_true rfl) dX2_errorsBeside_135
              · rw [nI_leI (by omega) (by omega)] at hc16; have hEB := hEB0.trans (if_neg hc16)
                refine g_run X KX2_errorsBeside_84_17 KX2_errorsBeside_84_17_d 85 [(6, .int (nI P)), (0, .int (nI b)), (1, .long x), (3, .long (ebl b x 15)), (5, .int (nI (4 - pcn b 15)))] [.int (-nI 1)] rfl ?_
                exact g_iret X hr () (by show some (Value.int _) = some (Value.int _); first | (rw [hEB]; done) | (rw [hEB]; rfl)) (trivial) ((List.append_nil _).symm) (Nat.le_of_ble_eq_true rfl) (Nat.le_of_ble_eq_true rfl) dX2_errorsBeside_85
            · rw [bN_eq0] at hc15; have hEB := eb_P hz hoe hc15
              refine g_run X KX2_errorsBeside_73_19 KX2_errorsBeside_73_19_d 77 [(6, .int (nI P)), (0, .int (nI b)), (1, .long x), (3, .long (ebl b x 15)), (5, .int (nI (4 - pcn b 15)))] [.int ((nI 1) <<< ((nI P) &&& 31))] rfl ?_
              refine g_nm (lv' := [(6, .int (nI P)), (0, .int (nI b)), (1, .long x), (3, .long (ebl b x 15)), (5, .int (nI (4 - pcn b 15)))]) (st' := [.int (nI (2 ^ P))]) (by simp only [sh1 (show P < 31 by omega)]) (by simp only [sh1 (show P < 31 by omega)]) ?_
              exact g_iret X hr () (by show some (Value.int _) = some (Value.int _); first | (rw [hEB]; done) | (rw [hEB]; rfl)) (trivial) ((List.append_nil _).symm) (Nat.le_of_ble_eq_true rfl) (Nat.le_of_ble_eq_true rfl) dX2_errorsBeside_77
      · rw [lc0] at hc2; have hEB := eb_0 hc2
        refine g_run X KX2_errorsBeside_48_20 KX2_errorsBeside_48_20_d 49 [(0, .int (nI b)), (1, .long x), (3, .long (ebl b x 15)), (5, .int (nI (4 - pcn b 15))), (6, .int (nI 15))] [.int (nI 0)] rfl ?_
        exact g_iret X hr () (by show some (Value.int _) = some (Value.int _); first | (rw [hEB]; done) | (rw [hEB]; rfl)) (trivial) ((List.append_nil _).symm) (Nat.le_of_ble_eq_true rfl) (Nat.le_of_ble_eq_true rfl) dX2_errorsBeside_49
    · rw [nI_leI (by omega) (by omega)] at hc1; first | omega | (simp at hc1)
  · intro i hi k8
    refine g_run X KX2_errorsBeside_8_1 KX2_errorsBeside_8_1_d 12 [(0, .int (nI b)), (1, .long x), (3, .long (ebl b x i)), (5, .int (nI (4 - pcn b i))), (6, .int (nI i))] [.int (nI 15), .int (nI i)] rfl ?_
    refine g_icmp_ge X 42 dX2_errorsBeside_12 (by decide) (fun hc24 => ?_) (fun hc24 => ?_)
    · rw [nI_leI (by omega) (by omega)] at hc24; first | omega | (simp at hc24)
    · refine g_run X KX2_errorsBeside_15_21 KX2_errorsBeside_15_21_d 18 [(0, .int (nI b)), (1, .long x), (3, .long (ebl b x i)), (5, .int (nI (4 - pcn b i))), (6, .int (nI i))] [.int (nI i), .int (nI b)] rfl ?_
      refine g_callSN X hSB hAf (host := "Chipfield") (As := [.int (nI b), .int (nI i)]) (wr := []) (n := 2) (c_X5_isIn l D g b i (by omega) (by omega)) rfl srcN hrdN w_281 (nw_in n_279 rfl) w_280 w_1 (by decide +kernel) rfl ⟨Nat.le_of_ble_eq_true rfl, Nat.le_of_ble_eq_true rfl⟩ rfl rfl rfl (Nat.le_of_ble_eq_true rfl) ⟨Nat.le_of_ble_eq_true rfl, Nat.le_of_ble_eq_true rfl⟩ dX2_errorsBeside_18 (fun hu25 _ => ?_)
      refine g_af (ws' := []) (st' := [.int (nI (bN (b.testBit i)))]) (cells' := 0) (slots' := 0) (pc' := 21) rfl rfl rfl rfl rfl ?_
      refine g_if_eq X 36 dX2_errorsBeside_21 (by decide) (fun hc26 => ?_) (fun hc26 => ?_)
      · rw [bN_eq0] at hc26; have hbF := hc26
        refine g_run X KX2_errorsBeside_36_22 KX2_errorsBeside_36_22_d 8 [(6, .int ((nI i) + (nI 1))), (0, .int (nI b)), (1, .long x), (3, .long (ebl b x i)), (5, .int (nI (4 - pcn b i)))] [] rfl ?_
        refine g_nm (lv' := [(6, .int (nI (i + 1))), (0, .int (nI b)), (1, .long x), (3, .long (ebl b x i)), (5, .int (nI (4 - pcn b i)))]) (st' := []) (by simp only [nI_add]) (by simp only [nI_add]) ?_
        refine g_lv (lv' := [(0, .int (nI b)), (1, .long x), (3, .long (ebl b x i)), (5, .int (nI (4 - pcn b i))), (6, .int (nI (i + 1)))]) (lsub_c 1 rfl (lsub_c 2 rfl (lsub_c 3 rfl (lsub_c 4 rfl (lsub_c 0 rfl (lsub_n)))))) ?_
        refine g_cs (ws' := []) (lv' := [(0, .int (nI b)), (1, .long x), (3, .long (ebl b x (i + 1))), (5, .int (nI (4 - pcn b (i + 1)))), (6, .int (nI (i + 1)))]) (rfl) (by first | rw [ps_t hbT, es_t hbT, show 4 - (pcn b i + 1) = 4 - pcn b i - 1 by omega, m1s (by omega)] | rw [ps_f hbF, es_f hbF]) ?_
        exact k8
      · rw [bN_eq0] at hc26; have hbT := nf_t hc26; have hle := pcn_le hbT hi h4
        refine g_run X KX2_errorsBeside_24_23 KX2_errorsBeside_24_23_d 29 [(0, .int (nI b)), (1, .long x), (3, .long (ebl b x i)), (5, .int (nI (4 - pcn b i))), (6, .int (nI i))] [.int (nI (4 - pcn b i)), .long (ebl b x i), .int (nI i)] rfl ?_
        refine g_callS X hSB hAf (As := [.int (nI i), .long (ebl b x i), .int (nI (4 - pcn b i))]) (wr := []) (n := 3) (c_X2_blindTo l D g i (ebl b x i) (4 - pcn b i) (by omega) (by omega) (by omega)) rfl srcN hrdN w_284 w_282 w_283 w_22 (by decide +kernel) rfl ⟨Nat.le_of_ble_eq_true rfl, Nat.le_of_ble_eq_true rfl⟩ rfl rfl rfl (Nat.le_of_ble_eq_true rfl) ⟨Nat.le_of_ble_eq_true rfl, Nat.le_of_ble_eq_true rfl⟩ dX2_errorsBeside_29 (fun hu27 _ => ?_)
        refine g_af (ws' := []) (st' := [.long (bl i (ebl b x i) ((4 - pcn b i) - 1))]) (cells' := 0) (slots' := 0) (pc' := 32) rfl rfl rfl rfl rfl ?_
        refine g_run X KX2_errorsBeside_32_24 KX2_errorsBeside_32_24_d 8 [(6, .int ((nI i) + (nI 1))), (5, .int ((nI (4 - pcn b i)) + (-nI 1))), (3, .long (bl i (ebl b x i) ((4 - pcn b i) - 1))), (0, .int (nI b)), (1, .long x)] [] rfl ?_
        refine g_nm (lv' := [(6, .int (nI (i + 1))), (5, .int ((nI (4 - pcn b i)) + (-nI 1))), (3, .long (bl i (ebl b x i) ((4 - pcn b i) - 1))), (0, .int (nI b)), (1, .long x)]) (st' := []) (by simp only [nI_add]) (by simp only [nI_add]) ?_
        refine g_lv (lv' := [(0, .int (nI b)), (1, .long x), (3, .long (bl i (ebl b x i) ((4 - pcn b i) - 1))), (5, .int ((nI (4 - pcn b i)) + (-nI 1))), (6, .int (nI (i + 1)))]) (lsub_c 3 rfl (lsub_c 4 rfl (lsub_c 2 rfl (lsub_c 1 rfl (lsub_c 0 rfl (lsub_n)))))) ?_
        refine g_cs (ws' := []) (lv' := [(0, .int (nI b)), (1, .long x), (3, .long (ebl b x (i + 1))), (5, .int (nI (4 - pcn b (i + 1)))), (6, .int (nI (i + 1)))]) (rfl) (by first | rw [ps_t hbT, es_t hbT, show 4 - (pcn b i + 1) = 4 - pcn b i - 1 by omega, m1s (by omega)] | rw [ps_f hbF, es_f hbF]) ?_
        exact k8

def KX2_errorAt_0_0 : List (Nat × Instr × Nat) := [(0, .lload_n 2, 1), (1, .lstore 4, 2), (3, .iconst 4, 1), (4, .istore 6, 2), (6, .iconst 1, 1), (7, .iload_n 0, 1)]
theorem KX2_errorAt_0_0_d : ∀ z ∈ KX2_errorAt_0_0, decode cX2_errorAt z.1 = .ok z.2 := by decide +kernel
def KX2_errorAt_11_1 : List (Nat × Instr × Nat) := [(11, .istore 7, 2), (13, .iload 7, 2), (15, .istore 8, 2), (17, .iconst 0, 1), (18, .istore 9, 2)]
theorem KX2_errorAt_11_1_d : ∀ z ∈ KX2_errorAt_11_1, decode cX2_errorAt z.1 = .ok z.2 := by decide +kernel
def KX2_errorAt_20_2 : List (Nat × Instr × Nat) := [(20, .iload 9, 2), (22, .bipush 15, 2)]
theorem KX2_errorAt_20_2_d : ∀ z ∈ KX2_errorAt_20_2, decode cX2_errorAt z.1 = .ok z.2 := by decide +kernel
def KX2_errorAt_78_3 : List (Nat × Instr × Nat) := [(78, .lload 4, 2), (80, .iconst 0, 1)]
theorem KX2_errorAt_78_3_d : ∀ z ∈ KX2_errorAt_78_3, decode cX2_errorAt z.1 = .ok z.2 := by decide +kernel
def KX2_errorAt_84_4 : List (Nat × Instr × Nat) := [(84, .iload 8, 2)]
theorem KX2_errorAt_84_4_d : ∀ z ∈ KX2_errorAt_84_4, decode cX2_errorAt z.1 = .ok z.2 := by decide +kernel
def KX2_errorAt_27_5 : List (Nat × Instr × Nat) := [(27, .iload 9, 2), (29, .iload_n 0, 1)]
theorem KX2_errorAt_27_5_d : ∀ z ∈ KX2_errorAt_27_5, decode cX2_errorAt z.1 = .ok z.2 := by decide +kernel
def KX2_errorAt_72_6 : List (Nat × Instr × Nat) := [(72, .iinc 9 1, 3), (75, .goto (-55), 3)]
theorem KX2_errorAt_72_6_d : ∀ z ∈ KX2_errorAt_72_6, decode cX2_errorAt z.1 = .ok z.2 := by decide +kernel
def KX2_errorAt_33_7 : List (Nat × Instr × Nat) := [(33, .iload_n 1, 1), (34, .iload 9, 2)]
theorem KX2_errorAt_33_7_d : ∀ z ∈ KX2_errorAt_33_7, decode cX2_errorAt z.1 = .ok z.2 := by decide +kernel
def KX2_errorAt_42_8 : List (Nat × Instr × Nat) := [(42, .iload 9, 2), (44, .lload 4, 2), (46, .iload 6, 2)]
theorem KX2_errorAt_42_8_d : ∀ z ∈ KX2_errorAt_42_8, decode cX2_errorAt z.1 = .ok z.2 := by decide +kernel
def KX2_errorAt_51_9 : List (Nat × Instr × Nat) := [(51, .lstore 4, 2), (53, .iinc 6 (-1), 3), (56, .iload 8, 2), (58, .iload 7, 2), (60, .iconst 1, 1), (61, .iload 9, 2)]
theorem KX2_errorAt_51_9_d : ∀ z ∈ KX2_errorAt_51_9, decode cX2_errorAt z.1 = .ok z.2 := by decide +kernel
def KX2_errorAt_66_10 : List (Nat × Instr × Nat) := [(66, .ixor, 1)]
theorem KX2_errorAt_66_10_d : ∀ z ∈ KX2_errorAt_66_10, decode cX2_errorAt z.1 = .ok z.2 := by decide +kernel
def KX2_errorAt_70_11 : List (Nat × Instr × Nat) := [(70, .istore 8, 2), (72, .iinc 9 1, 3), (75, .goto (-55), 3)]
theorem KX2_errorAt_70_11_d : ∀ z ∈ KX2_errorAt_70_11, decode cX2_errorAt z.1 = .ok z.2 := by decide +kernel
set_option maxHeartbeats 4000000 in
set_option maxRecDepth 100000 in
theorem c_X2_errorAt (l : Launch) (D : va_G) (g : Nat → ClassId) (q : Nat) (b : Nat) (x : Int64) (hq : q < 15) (hb : b < 2 ^ 15) (h3 : pcx q b 15 ≤ 3) : CT l yX2_errorAt cX2_errorAt 10 ((Option.some FieldType.int)) ({ frames := 2, cells := 0, slots := 0, locals := 50 } : Room) [.int (nI q), .int (nI b), .long x] D CL (TYS g) ([]) ([]) (S := Unit) (fun _ => some (.int (nI (ea q b x)))) (fun _ => []) (fun _ => True) 0 0 := by
  refine ct_of (by decide +kernel) (Nat.le_of_ble_eq_true rfl) ?_
  intro p e s m below meth c A X hr hnm hSB hRO hAf
  refine g_cs (ws' := []) (lv' := [(0, .int (nI q)), (1, .int (nI b)), (2, .long x)]) rfl rfl ?_
  refine g_run X KX2_errorAt_0_0 KX2_errorAt_0_0_d 8 [(6, .int (nI 4)), (4, .long x), (0, .int (nI q)), (1, .int (nI b)), (2, .long x)] [.int (nI q), .int (nI 1)] rfl ?_
  refine g_callS X hSB hAf (As := [.int (nI 1), .int (nI q)]) (wr := []) (n := 2) (c_X2_timesPower l D g 1 q (by decide) (by omega)) rfl srcN hrdN w_270 w_268 w_269 w_22 (by decide +kernel) rfl ⟨Nat.le_of_ble_eq_true rfl, Nat.le_of_ble_eq_true rfl⟩ rfl rfl rfl (Nat.le_of_ble_eq_true rfl) ⟨Nat.le_of_ble_eq_true rfl, Nat.le_of_ble_eq_true rfl⟩ dX2_errorAt_8 (fun hu1 _ => ?_)
  refine g_af (ws' := []) (st' := [.int (nI (tp 1 q))]) (cells' := 0) (slots' := 0) (pc' := 11) rfl rfl rfl rfl rfl ?_
  refine g_run X KX2_errorAt_11_1 KX2_errorAt_11_1_d 20 [(9, .int (nI 0)), (8, .int (nI (tp 1 q))), (7, .int (nI (tp 1 q))), (6, .int (nI 4)), (4, .long x), (0, .int (nI q)), (1, .int (nI b)), (2, .long x)] [] rfl ?_
  refine g_lv (lv' := [(0, .int (nI q)), (1, .int (nI b)), (2, .long x), (4, .long x), (6, .int (nI 4)), (7, .int (nI (tp 1 q))), (8, .int (nI (tp 1 q))), (9, .int (nI 0))]) (lsub_c 5 rfl (lsub_c 6 rfl (lsub_c 7 rfl (lsub_c 4 rfl (lsub_c 3 rfl (lsub_c 2 rfl (lsub_c 1 rfl (lsub_c 0 rfl (lsub_n))))))))) ?_
  refine g_for 15 (fun _ => []) (fun i => [(0, .int (nI q)), (1, .int (nI b)), (2, .long x), (4, .long (eal q b x i)), (6, .int (nI (4 - pcx q b i))), (7, .int (nI (tp 1 q))), (8, .int (nI (eaf q b i))), (9, .int (nI i))]) (rfl) (rfl) ?_ ?_
  · refine g_run X KX2_errorAt_20_2 KX2_errorAt_20_2_d 24 [(0, .int (nI q)), (1, .int (nI b)), (2, .long x), (4, .long (eal q b x 15)), (6, .int (nI (4 - pcx q b 15))), (7, .int (nI (tp 1 q))), (8, .int (nI (eaf q b 15))), (9, .int (nI 15))] [.int (nI 15), .int (nI 15)] rfl ?_
    refine g_icmp_ge X 78 dX2_errorAt_24 (by decide) (fun hc2 => ?_) (fun hc2 => ?_)
    · refine g_run X KX2_errorAt_78_3 KX2_errorAt_78_3_d 81 [(0, .int (nI q)), (1, .int (nI b)), (2, .long x), (4, .long (eal q b x 15)), (6, .int (nI (4 - pcx q b 15))), (7, .int (nI (tp 1 q))), (8, .int (nI (eaf q b 15))), (9, .int (nI 15))] [.int (nI 0), .long (eal q b x 15)] rfl ?_
      refine g_callSN X hSB hAf (host := "Chipfield") (As := [.long (eal q b x 15), .int (nI 0)]) (wr := []) (n := 2) (c_X5_numberAt l D g (eal q b x 15) 0 (by omega)) rfl srcN hrdN w_215 (nw_in n_267 rfl) w_214 w_1 (by decide +kernel) rfl ⟨Nat.le_of_ble_eq_true rfl, Nat.le_of_ble_eq_true rfl⟩ rfl rfl rfl (Nat.le_of_ble_eq_true rfl) ⟨Nat.le_of_ble_eq_true rfl, Nat.le_of_ble_eq_true rfl⟩ dX2_errorAt_81 (fun hu3 _ => ?_)
      refine g_af (ws' := []) (st' := [.int (nI (nib (eal q b x 15) 0))]) (cells' := 0) (slots' := 0) (pc' := 84) rfl rfl rfl rfl rfl ?_
      refine g_run X KX2_errorAt_84_4 KX2_errorAt_84_4_d 86 [(0, .int (nI q)), (1, .int (nI b)), (2, .long x), (4, .long (eal q b x 15)), (6, .int (nI (4 - pcx q b 15))), (7, .int (nI (tp 1 q))), (8, .int (nI (eaf q b 15))), (9, .int (nI 15))] [.int (nI (eaf q b 15)), .int (nI (nib (eal q b x 15) 0))] rfl ?_
      refine g_callS X hSB hAf (As := [.int (nI (nib (eal q b x 15) 0)), .int (nI (eaf q b 15))]) (wr := []) (n := 2) (c_X2_quotient l D g (nib (eal q b x 15) 0) (eaf q b 15) (nib_lt _ _) (eaf_lt _ _ _)) rfl srcN hrdN w_296 w_294 w_295 w_22 (by decide +kernel) rfl ⟨Nat.le_of_ble_eq_true rfl, Nat.le_of_ble_eq_true rfl⟩ rfl rfl rfl (Nat.le_of_ble_eq_true rfl) ⟨Nat.le_of_ble_eq_true rfl, Nat.le_of_ble_eq_true rfl⟩ dX2_errorAt_86 (fun hu4 _ => ?_)
      refine g_af (ws' := []) (st' := [.int (nI (gq (nib (eal q b x 15) 0) (eaf q b 15)))]) (cells' := 0) (slots' := 0) (pc' := 89) rfl rfl rfl rfl rfl ?_
      exact g_iret X hr () (by show some (Value.int _) = some (Value.int _); rfl) (trivial) ((List.append_nil _).symm) (Nat.le_of_ble_eq_true rfl) (Nat.le_of_ble_eq_true rfl) dX2_errorAt_89
    · rw [nI_leI (by omega) (by omega)] at hc2; first | omega | (simp at hc2)
  · intro i hi k20
    refine g_run X KX2_errorAt_20_2 KX2_errorAt_20_2_d 24 [(0, .int (nI q)), (1, .int (nI b)), (2, .long x), (4, .long (eal q b x i)), (6, .int (nI (4 - pcx q b i))), (7, .int (nI (tp 1 q))), (8, .int (nI (eaf q b i))), (9, .int (nI i))] [.int (nI 15), .int (nI i)] rfl ?_
    refine g_icmp_ge X 78 dX2_errorAt_24 (by decide) (fun hc5 => ?_) (fun hc5 => ?_)
    · rw [nI_leI (by omega) (by omega)] at hc5; first | omega | (simp at hc5)
    · refine g_run X KX2_errorAt_27_5 KX2_errorAt_27_5_d 30 [(0, .int (nI q)), (1, .int (nI b)), (2, .long x), (4, .long (eal q b x i)), (6, .int (nI (4 - pcx q b i))), (7, .int (nI (tp 1 q))), (8, .int (nI (eaf q b i))), (9, .int (nI i))] [.int (nI q), .int (nI i)] rfl ?_
      refine g_icmp_eq X 72 dX2_errorAt_30 (by decide) (fun hc6 => ?_) (fun hc6 => ?_)
      · rw [nI_eq (by omega) (by omega)] at hc6; have hs := as_f (b := b) (x := x) (fun z => z.1 hc6)
        refine g_run X KX2_errorAt_72_6 KX2_errorAt_72_6_d 20 [(9, .int ((nI i) + (nI 1))), (0, .int (nI q)), (1, .int (nI b)), (2, .long x), (4, .long (eal q b x i)), (6, .int (nI (4 - pcx q b i))), (7, .int (nI (tp 1 q))), (8, .int (nI (eaf q b i)))] [] rfl ?_
        refine g_nm (lv' := [(9, .int (nI (i + 1))), (0, .int (nI q)), (1, .int (nI b)), (2, .long x), (4, .long (eal q b x i)), (6, .int (nI (4 - pcx q b i))), (7, .int (nI (tp 1 q))), (8, .int (nI (eaf q b i)))]) (st' := []) (by simp only [nI_add]) (by simp only [nI_add]) ?_
        refine g_lv (lv' := [(0, .int (nI q)), (1, .int (nI b)), (2, .long x), (4, .long (eal q b x i)), (6, .int (nI (4 - pcx q b i))), (7, .int (nI (tp 1 q))), (8, .int (nI (eaf q b i))), (9, .int (nI (i + 1)))]) (lsub_c 1 rfl (lsub_c 2 rfl (lsub_c 3 rfl (lsub_c 4 rfl (lsub_c 5 rfl (lsub_c 6 rfl (lsub_c 7 rfl (lsub_c 0 rfl (lsub_n))))))))) ?_
        refine g_cs (ws' := []) (lv' := [(0, .int (nI q)), (1, .int (nI b)), (2, .long x), (4, .long (eal q b x (i + 1))), (6, .int (nI (4 - pcx q b (i + 1)))), (7, .int (nI (tp 1 q))), (8, .int (nI (eaf q b (i + 1)))), (9, .int (nI (i + 1)))]) (rfl) (by first | rw [hs.1, hs.2.1, hs.2.2, show 4 - (pcx q b i + 1) = 4 - pcx q b i - 1 by omega, m1s (by omega)] | rw [hs.1, hs.2.1, hs.2.2]) ?_
        exact k20
      · rw [nI_eq (by omega) (by omega)] at hc6; have hiq := hc6
        refine g_run X KX2_errorAt_33_7 KX2_errorAt_33_7_d 36 [(0, .int (nI q)), (1, .int (nI b)), (2, .long x), (4, .long (eal q b x i)), (6, .int (nI (4 - pcx q b i))), (7, .int (nI (tp 1 q))), (8, .int (nI (eaf q b i))), (9, .int (nI i))] [.int (nI i), .int (nI b)] rfl ?_
        refine g_callSN X hSB hAf (host := "Chipfield") (As := [.int (nI b), .int (nI i)]) (wr := []) (n := 2) (c_X5_isIn l D g b i (by omega) (by omega)) rfl srcN hrdN w_281 (nw_in n_279 rfl) w_280 w_1 (by decide +kernel) rfl ⟨Nat.le_of_ble_eq_true rfl, Nat.le_of_ble_eq_true rfl⟩ rfl rfl rfl (Nat.le_of_ble_eq_true rfl) ⟨Nat.le_of_ble_eq_true rfl, Nat.le_of_ble_eq_true rfl⟩ dX2_errorAt_36 (fun hu7 _ => ?_)
        refine g_af (ws' := []) (st' := [.int (nI (bN (b.testBit i)))]) (cells' := 0) (slots' := 0) (pc' := 39) rfl rfl rfl rfl rfl ?_
        refine g_if_eq X 72 dX2_errorAt_39 (by decide) (fun hc8 => ?_) (fun hc8 => ?_)
        · rw [bN_eq0] at hc8; have hs := as_f (q := q) (x := x) (fun z => by rw [hc8] at z; cases z.2)
          refine g_run X KX2_errorAt_72_6 KX2_errorAt_72_6_d 20 [(9, .int ((nI i) + (nI 1))), (0, .int (nI q)), (1, .int (nI b)), (2, .long x), (4, .long (eal q b x i)), (6, .int (nI (4 - pcx q b i))), (7, .int (nI (tp 1 q))), (8, .int (nI (eaf q b i)))] [] rfl ?_
          refine g_nm (lv' := [(9, .int (nI (i + 1))), (0, .int (nI q)), (1, .int (nI b)), (2, .long x), (4, .long (eal q b x i)), (6, .int (nI (4 - pcx q b i))), (7, .int (nI (tp 1 q))), (8, .int (nI (eaf q b i)))]) (st' := []) (by simp only [nI_add]) (by simp only [nI_add]) ?_
          refine g_lv (lv' := [(0, .int (nI q)), (1, .int (nI b)), (2, .long x), (4, .long (eal q b x i)), (6, .int (nI (4 - pcx q b i))), (7, .int (nI (tp 1 q))), (8, .int (nI (eaf q b i))), (9, .int (nI (i + 1)))]) (lsub_c 1 rfl (lsub_c 2 rfl (lsub_c 3 rfl (lsub_c 4 rfl (lsub_c 5 rfl (lsub_c 6 rfl (lsub_c 7 rfl (lsub_c 0 rfl (lsub_n))))))))) ?_
          refine g_cs (ws' := []) (lv' := [(0, .int (nI q)), (1, .int (nI b)), (2, .long x), (4, .long (eal q b x (i + 1))), (6, .int (nI (4 - pcx q b (i + 1)))), (7, .int (nI (tp 1 q))), (8, .int (nI (eaf q b (i + 1)))), (9, .int (nI (i + 1)))]) (rfl) (by first | rw [hs.1, hs.2.1, hs.2.2, show 4 - (pcx q b i + 1) = 4 - pcx q b i - 1 by omega, m1s (by omega)] | rw [hs.1, hs.2.1, hs.2.2]) ?_
          exact k20
        · rw [bN_eq0] at hc8; have hs := as_t (x := x) ⟨hiq, nf_t hc8⟩; have hle := pcx_mono q b (show i + 1 ≤ 15 from hi); rw [hs.1] at hle
          refine g_run X KX2_errorAt_42_8 KX2_errorAt_42_8_d 48 [(0, .int (nI q)), (1, .int (nI b)), (2, .long x), (4, .long (eal q b x i)), (6, .int (nI (4 - pcx q b i))), (7, .int (nI (tp 1 q))), (8, .int (nI (eaf q b i))), (9, .int (nI i))] [.int (nI (4 - pcx q b i)), .long (eal q b x i), .int (nI i)] rfl ?_
          refine g_callS X hSB hAf (As := [.int (nI i), .long (eal q b x i), .int (nI (4 - pcx q b i))]) (wr := []) (n := 3) (c_X2_blindTo l D g i (eal q b x i) (4 - pcx q b i) (by omega) (by omega) (by omega)) rfl srcN hrdN w_284 w_282 w_283 w_22 (by decide +kernel) rfl ⟨Nat.le_of_ble_eq_true rfl, Nat.le_of_ble_eq_true rfl⟩ rfl rfl rfl (Nat.le_of_ble_eq_true rfl) ⟨Nat.le_of_ble_eq_true rfl, Nat.le_of_ble_eq_true rfl⟩ dX2_errorAt_48 (fun hu9 _ => ?_)
          refine g_af (ws' := []) (st' := [.long (bl i (eal q b x i) ((4 - pcx q b i) - 1))]) (cells' := 0) (slots' := 0) (pc' := 51) rfl rfl rfl rfl rfl ?_
          refine g_run X KX2_errorAt_51_9 KX2_errorAt_51_9_d 63 [(6, .int ((nI (4 - pcx q b i)) + (-nI 1))), (4, .long (bl i (eal q b x i) ((4 - pcx q b i) - 1))), (0, .int (nI q)), (1, .int (nI b)), (2, .long x), (7, .int (nI (tp 1 q))), (8, .int (nI (eaf q b i))), (9, .int (nI i))] [.int (nI i), .int (nI 1), .int (nI (tp 1 q)), .int (nI (eaf q b i))] rfl ?_
          refine g_callS X hSB hAf (As := [.int (nI 1), .int (nI i)]) (wr := []) (n := 2) (c_X2_timesPower l D g 1 i (by decide) (by omega)) rfl srcN hrdN w_270 w_268 w_269 w_22 (by decide +kernel) rfl ⟨Nat.le_of_ble_eq_true rfl, Nat.le_of_ble_eq_true rfl⟩ rfl rfl rfl (Nat.le_of_ble_eq_true rfl) ⟨Nat.le_of_ble_eq_true rfl, Nat.le_of_ble_eq_true rfl⟩ dX2_errorAt_63 (fun hu10 _ => ?_)
          refine g_af (ws' := []) (st' := [.int (nI (tp 1 i)), .int (nI (tp 1 q)), .int (nI (eaf q b i))]) (cells' := 0) (slots' := 0) (pc' := 66) rfl rfl rfl rfl rfl ?_
          refine g_run X KX2_errorAt_66_10 KX2_errorAt_66_10_d 67 [(6, .int ((nI (4 - pcx q b i)) + (-nI 1))), (4, .long (bl i (eal q b x i) ((4 - pcx q b i) - 1))), (0, .int (nI q)), (1, .int (nI b)), (2, .long x), (7, .int (nI (tp 1 q))), (8, .int (nI (eaf q b i))), (9, .int (nI i))] [.int ((nI (tp 1 q)) ^^^ (nI (tp 1 i))), .int (nI (eaf q b i))] rfl ?_
          refine g_nm (lv' := [(6, .int ((nI (4 - pcx q b i)) + (-nI 1))), (4, .long (bl i (eal q b x i) ((4 - pcx q b i) - 1))), (0, .int (nI q)), (1, .int (nI b)), (2, .long x), (7, .int (nI (tp 1 q))), (8, .int (nI (eaf q b i))), (9, .int (nI i))]) (st' := [.int (nI ((tp 1 q) ^^^ (tp 1 i))), .int (nI (eaf q b i))]) (by simp only [nx_xor]) (by simp only [nx_xor]) ?_
          refine g_callS X hSB hAf (As := [.int (nI (eaf q b i)), .int (nI ((tp 1 q) ^^^ (tp 1 i)))]) (wr := []) (n := 2) (c_X2_product l D g (eaf q b i) ((tp 1 q) ^^^ (tp 1 i)) (eaf_lt _ _ _) (xor_lt16 tp_lt tp_lt)) rfl srcN hrdN w_293 w_291 w_292 w_22 (by decide +kernel) rfl ⟨Nat.le_of_ble_eq_true rfl, Nat.le_of_ble_eq_true rfl⟩ rfl rfl rfl (Nat.le_of_ble_eq_true rfl) ⟨Nat.le_of_ble_eq_true rfl, Nat.le_of_ble_eq_true rfl⟩ dX2_errorAt_67 (fun hu11 _ => ?_)
          refine g_af (ws' := []) (st' := [.int (nI (gm (eaf q b i) ((tp 1 q) ^^^ (tp 1 i))))]) (cells' := 0) (slots' := 0) (pc' := 70) rfl rfl rfl rfl rfl ?_
          refine g_run X KX2_errorAt_70_11 KX2_errorAt_70_11_d 20 [(9, .int ((nI i) + (nI 1))), (8, .int (nI (gm (eaf q b i) ((tp 1 q) ^^^ (tp 1 i))))), (6, .int ((nI (4 - pcx q b i)) + (-nI 1))), (4, .long (bl i (eal q b x i) ((4 - pcx q b i) - 1))), (0, .int (nI q)), (1, .int (nI b)), (2, .long x), (7, .int (nI (tp 1 q)))] [] rfl ?_
          refine g_nm (lv' := [(9, .int (nI (i + 1))), (8, .int (nI (gm (eaf q b i) ((tp 1 q) ^^^ (tp 1 i))))), (6, .int ((nI (4 - pcx q b i)) + (-nI 1))), (4, .long (bl i (eal q b x i) ((4 - pcx q b i) - 1))), (0, .int (nI q)), (1, .int (nI b)), (2, .long x), (7, .int (nI (tp 1 q)))]) (st' := []) (by simp only [nI_add]) (by simp only [nI_add]) ?_
          refine g_lv (lv' := [(0, .int (nI q)), (1, .int (nI b)), (2, .long x), (4, .long (bl i (eal q b x i) ((4 - pcx q b i) - 1))), (6, .int ((nI (4 - pcx q b i)) + (-nI 1))), (7, .int (nI (tp 1 q))), (8, .int (nI (gm (eaf q b i) ((tp 1 q) ^^^ (tp 1 i))))), (9, .int (nI (i + 1)))]) (lsub_c 4 rfl (lsub_c 5 rfl (lsub_c 6 rfl (lsub_c 3 rfl (lsub_c 2 rfl (lsub_c 7 rfl (lsub_c 1 rfl (lsub_c 0 rfl (lsub_n))))))))) ?_
          refine g_cs (ws' := []) (lv' := [(0, .int (nI q)), (1, .int (nI b)), (2, .long x), (4, .long (eal q b x (i + 1))), (6, .int (nI (4 - pcx q b (i + 1)))), (7, .int (nI (tp 1 q))), (8, .int (nI (eaf q b (i + 1)))), (9, .int (nI (i + 1)))]) (rfl) (by first | rw [hs.1, hs.2.1, hs.2.2, show 4 - (pcx q b i + 1) = 4 - pcx q b i - 1 by omega, m1s (by omega)] | rw [hs.1, hs.2.1, hs.2.2]) ?_
          exact k20

def KJ6_bitCount_0f7a4_0_0 : List (Nat × Instr × Nat) := [(0, .iload_n 0, 1), (1, .iload_n 0, 1), (2, .iconst 1, 1), (3, .iushr, 1)]
theorem KJ6_bitCount_0f7a4_0_0_d : ∀ z ∈ KJ6_bitCount_0f7a4_0_0, decode cJ6_bitCount_0f7a4 z.1 = .ok z.2 := by decide +kernel
def KJ6_bitCount_0f7a4_7_1 : List (Nat × Instr × Nat) := [(7, .iand, 1), (8, .isub, 1), (9, .istore_n 0, 1), (10, .iload_n 0, 1)]
theorem KJ6_bitCount_0f7a4_7_1_d : ∀ z ∈ KJ6_bitCount_0f7a4_7_1, decode cJ6_bitCount_0f7a4 z.1 = .ok z.2 := by decide +kernel
def KJ6_bitCount_0f7a4_14_2 : List (Nat × Instr × Nat) := [(14, .iand, 1), (15, .iload_n 0, 1), (16, .iconst 2, 1), (17, .iushr, 1)]
theorem KJ6_bitCount_0f7a4_14_2_d : ∀ z ∈ KJ6_bitCount_0f7a4_14_2, decode cJ6_bitCount_0f7a4 z.1 = .ok z.2 := by decide +kernel
def KJ6_bitCount_0f7a4_21_3 : List (Nat × Instr × Nat) := [(21, .iand, 1), (22, .iadd, 1), (23, .istore_n 0, 1), (24, .iload_n 0, 1), (25, .iload_n 0, 1), (26, .iconst 4, 1), (27, .iushr, 1), (28, .iadd, 1)]
theorem KJ6_bitCount_0f7a4_21_3_d : ∀ z ∈ KJ6_bitCount_0f7a4_21_3, decode cJ6_bitCount_0f7a4 z.1 = .ok z.2 := by decide +kernel
def KJ6_bitCount_0f7a4_32_4 : List (Nat × Instr × Nat) := [(32, .iand, 1), (33, .istore_n 0, 1), (34, .iload_n 0, 1), (35, .iload_n 0, 1), (36, .bipush 8, 2), (38, .iushr, 1), (39, .iadd, 1), (40, .istore_n 0, 1), (41, .iload_n 0, 1), (42, .iload_n 0, 1), (43, .bipush 16, 2), (45, .iushr, 1), (46, .iadd, 1), (47, .istore_n 0, 1), (48, .iload_n 0, 1), (49, .bipush 63, 2), (51, .iand, 1)]
theorem KJ6_bitCount_0f7a4_32_4_d : ∀ z ∈ KJ6_bitCount_0f7a4_32_4, decode cJ6_bitCount_0f7a4 z.1 = .ok z.2 := by decide +kernel
set_option maxHeartbeats 4000000 in
set_option maxRecDepth 100000 in
theorem c_J6_bitCount_0f7a4 (l : Launch) (D : va_G) (g : Nat → ClassId) (b : Nat) (hb : b < 32768) : CT l yJ6_bitCount_0f7a4 cJ6_bitCount_0f7a4 1 ((Option.some FieldType.int)) ({ frames := 0, cells := 0, slots := 0, locals := 0 } : Room) [.int (nI b)] D CL (TYS g) ([]) ([]) (S := Unit) (fun _ => some (.int (nI (pcn b 15)))) (fun _ => []) (fun _ => True) 0 0 := by
  refine ct_of (by decide +kernel) (Nat.le_of_ble_eq_true rfl) ?_
  intro p e s m below meth c A X hr hnm hSB hRO hAf
  refine g_cs (ws' := []) (lv' := [(0, .int (nI b))]) rfl rfl ?_
  refine g_run X KJ6_bitCount_0f7a4_0_0 KJ6_bitCount_0f7a4_0_0_d 4 [(0, .int (nI b))] [.int (((nI b).toUInt32 >>> ((nI 1).toUInt32 &&& Int32.toUInt32 31)).toInt32), .int (nI b)] rfl ?_
  refine g_ldcw X (v := nI 1431655765) w_260 dJ6_bitCount_0f7a4_4 ?_
  refine g_run X KJ6_bitCount_0f7a4_7_1 KJ6_bitCount_0f7a4_7_1_d 11 [(0, .int ((nI b) - ((((nI b).toUInt32 >>> ((nI 1).toUInt32 &&& Int32.toUInt32 31)).toInt32) &&& (nI 1431655765))))] [.int ((nI b) - ((((nI b).toUInt32 >>> ((nI 1).toUInt32 &&& Int32.toUInt32 31)).toInt32) &&& (nI 1431655765)))] rfl ?_
  refine g_ldcw X (v := nI 858993459) w_261 dJ6_bitCount_0f7a4_11 ?_
  refine g_run X KJ6_bitCount_0f7a4_14_2 KJ6_bitCount_0f7a4_14_2_d 18 [(0, .int ((nI b) - ((((nI b).toUInt32 >>> ((nI 1).toUInt32 &&& Int32.toUInt32 31)).toInt32) &&& (nI 1431655765))))] [.int ((((nI b) - ((((nI b).toUInt32 >>> ((nI 1).toUInt32 &&& Int32.toUInt32 31)).toInt32) &&& (nI 1431655765))).toUInt32 >>> ((nI 2).toUInt32 &&& Int32.toUInt32 31)).toInt32), .int (((nI b) - ((((nI b).toUInt32 >>> ((nI 1).toUInt32 &&& Int32.toUInt32 31)).toInt32) &&& (nI 1431655765))) &&& (nI 858993459))] rfl ?_
  refine g_ldcw X (v := nI 858993459) w_261 dJ6_bitCount_0f7a4_18 ?_
  refine g_run X KJ6_bitCount_0f7a4_21_3 KJ6_bitCount_0f7a4_21_3_d 29 [(0, .int ((((nI b) - ((((nI b).toUInt32 >>> ((nI 1).toUInt32 &&& Int32.toUInt32 31)).toInt32) &&& (nI 1431655765))) &&& (nI 858993459)) + (((((nI b) - ((((nI b).toUInt32 >>> ((nI 1).toUInt32 &&& Int32.toUInt32 31)).toInt32) &&& (nI 1431655765))).toUInt32 >>> ((nI 2).toUInt32 &&& Int32.toUInt32 31)).toInt32) &&& (nI 858993459))))] [.int (((((nI b) - ((((nI b).toUInt32 >>> ((nI 1).toUInt32 &&& Int32.toUInt32 31)).toInt32) &&& (nI 1431655765))) &&& (nI 858993459)) + (((((nI b) - ((((nI b).toUInt32 >>> ((nI 1).toUInt32 &&& Int32.toUInt32 31)).toInt32) &&& (nI 1431655765))).toUInt32 >>> ((nI 2).toUInt32 &&& Int32.toUInt32 31)).toInt32) &&& (nI 858993459))) + ((((((nI b) - ((((nI b).toUInt32 >>> ((nI 1).toUInt32 &&& Int32.toUInt32 31)).toInt32) &&& (nI 1431655765))) &&& (nI 858993459)) + (((((nI b) - ((((nI b).toUInt32 >>> ((nI 1).toUInt32 &&& Int32.toUInt32 31)).toInt32) &&& (nI 1431655765))).toUInt32 >>> ((nI 2).toUInt32 &&& Int32.toUInt32 31)).toInt32) &&& (nI 858993459))).toUInt32 >>> ((nI 4).toUInt32 &&& Int32.toUInt32 31)).toInt32))] rfl ?_
  refine g_ldcw X (v := nI 252645135) w_262 dJ6_bitCount_0f7a4_29 ?_
  refine g_run X KJ6_bitCount_0f7a4_32_4 KJ6_bitCount_0f7a4_32_4_d 52 [(0, .int ((((((((nI b) - ((((nI b).toUInt32 >>> ((nI 1).toUInt32 &&& Int32.toUInt32 31)).toInt32) &&& (nI 1431655765))) &&& (nI 858993459)) + (((((nI b) - ((((nI b).toUInt32 >>> ((nI 1).toUInt32 &&& Int32.toUInt32 31)).toInt32) &&& (nI 1431655765))).toUInt32 >>> ((nI 2).toUInt32 &&& Int32.toUInt32 31)).toInt32) &&& (nI 858993459))) + ((((((nI b) - ((((nI b).toUInt32 >>> ((nI 1).toUInt32 &&& Int32.toUInt32 31)).toInt32) &&& (nI 1431655765))) &&& (nI 858993459)) + (((((nI b) - ((((nI b).toUInt32 >>> ((nI 1).toUInt32 &&& Int32.toUInt32 31)).toInt32) &&& (nI 1431655765))).toUInt32 >>> ((nI 2).toUInt32 &&& Int32.toUInt32 31)).toInt32) &&& (nI 858993459))).toUInt32 >>> ((nI 4).toUInt32 &&& Int32.toUInt32 31)).toInt32)) &&& (nI 252645135)) + ((((((((nI b) - ((((nI b).toUInt32 >>> ((nI 1).toUInt32 &&& Int32.toUInt32 31)).toInt32) &&& (nI 1431655765))) &&& (nI 858993459)) + (((((nI b) - ((((nI b).toUInt32 >>> ((nI 1).toUInt32 &&& Int32.toUInt32 31)).toInt32) &&& (nI 1431655765))).toUInt32 >>> ((nI 2).toUInt32 &&& Int32.toUInt32 31)).toInt32) &&& (nI 858993459))) + ((((((nI b) - ((((nI b).toUInt32 >>> ((nI 1).toUInt32 &&& Int32.toUInt32 31)).toInt32) &&& (nI 1431655765))) &&& (nI 858993459)) + (((((nI b) - ((((nI b).toUInt32 >>> ((nI 1).toUInt32 &&& Int32.toUInt32 31)).toInt32) &&& (nI 1431655765))).toUInt32 >>> ((nI 2).toUInt32 &&& Int32.toUInt32 31)).toInt32) &&& (nI 858993459))).toUInt32 >>> ((nI 4).toUInt32 &&& Int32.toUInt32 31)).toInt32)) &&& (nI 252645135)).toUInt32 >>> ((nI 8).toUInt32 &&& Int32.toUInt32 31)).toInt32)) + (((((((((nI b) - ((((nI b).toUInt32 >>> ((nI 1).toUInt32 &&& Int32.toUInt32 31)).toInt32) &&& (nI 1431655765))) &&& (nI 858993459)) + (((((nI b) - ((((nI b).toUInt32 >>> ((nI 1).toUInt32 &&& Int32.toUInt32 31)).toInt32) &&& (nI 1431655765))).toUInt32 >>> ((nI 2).toUInt32 &&& Int32.toUInt32 31)).toInt32) &&& (nI 858993459))) + ((((((nI b) - ((((nI b).toUInt32 >>> ((nI 1).toUInt32 &&& Int32.toUInt32 31)).toInt32) &&& (nI 1431655765))) &&& (nI 858993459)) + (((((nI b) - ((((nI b).toUInt32 >>> ((nI 1).toUInt32 &&& Int32.toUInt32 31)).toInt32) &&& (nI 1431655765))).toUInt32 >>> ((nI 2).toUInt32 &&& Int32.toUInt32 31)).toInt32) &&& (nI 858993459))).toUInt32 >>> ((nI 4).toUInt32 &&& Int32.toUInt32 31)).toInt32)) &&& (nI 252645135)) + ((((((((nI b) - ((((nI b).toUInt32 >>> ((nI 1).toUInt32 &&& Int32.toUInt32 31)).toInt32) &&& (nI 1431655765))) &&& (nI 858993459)) + (((((nI b) - ((((nI b).toUInt32 >>> ((nI 1).toUInt32 &&& Int32.toUInt32 31)).toInt32) &&& (nI 1431655765))).toUInt32 >>> ((nI 2).toUInt32 &&& Int32.toUInt32 31)).toInt32) &&& (nI 858993459))) + ((((((nI b) - ((((nI b).toUInt32 >>> ((nI 1).toUInt32 &&& Int32.toUInt32 31)).toInt32) &&& (nI 1431655765))) &&& (nI 858993459)) + (((((nI b) - ((((nI b).toUInt32 >>> ((nI 1).toUInt32 &&& Int32.toUInt32 31)).toInt32) &&& (nI 1431655765))).toUInt32 >>> ((nI 2).toUInt32 &&& Int32.toUInt32 31)).toInt32) &&& (nI 858993459))).toUInt32 >>> ((nI 4).toUInt32 &&& Int32.toUInt32 31)).toInt32)) &&& (nI 252645135)).toUInt32 >>> ((nI 8).toUInt32 &&& Int32.toUInt32 31)).toInt32)).toUInt32 >>> ((nI 16).toUInt32 &&& Int32.toUInt32 31)).toInt32)))] [.int (((((((((nI b) - ((((nI b).toUInt32 >>> ((nI 1).toUInt32 &&& Int32.toUInt32 31)).toInt32) &&& (nI 1431655765))) &&& (nI 858993459)) + (((((nI b) - ((((nI b).toUInt32 >>> ((nI 1).toUInt32 &&& Int32.toUInt32 31)).toInt32) &&& (nI 1431655765))).toUInt32 >>> ((nI 2).toUInt32 &&& Int32.toUInt32 31)).toInt32) &&& (nI 858993459))) + ((((((nI b) - ((((nI b).toUInt32 >>> ((nI 1).toUInt32 &&& Int32.toUInt32 31)).toInt32) &&& (nI 1431655765))) &&& (nI 858993459)) + (((((nI b) - ((((nI b).toUInt32 >>> ((nI 1).toUInt32 &&& Int32.toUInt32 31)).toInt32) &&& (nI 1431655765))).toUInt32 >>> ((nI 2).toUInt32 &&& Int32.toUInt32 31)).toInt32) &&& (nI 858993459))).toUInt32 >>> ((nI 4).toUInt32 &&& Int32.toUInt32 31)).toInt32)) &&& (nI 252645135)) + ((((((((nI b) - ((((nI b).toUInt32 >>> ((nI 1).toUInt32 &&& Int32.toUInt32 31)).toInt32) &&& (nI 1431655765))) &&& (nI 858993459)) + (((((nI b) - ((((nI b).toUInt32 >>> ((nI 1).toUInt32 &&& Int32.toUInt32 31)).toInt32) &&& (nI 1431655765))).toUInt32 >>> ((nI 2).toUInt32 &&& Int32.toUInt32 31)).toInt32) &&& (nI 858993459))) + ((((((nI b) - ((((nI b).toUInt32 >>> ((nI 1).toUInt32 &&& Int32.toUInt32 31)).toInt32) &&& (nI 1431655765))) &&& (nI 858993459)) + (((((nI b) - ((((nI b).toUInt32 >>> ((nI 1).toUInt32 &&& Int32.toUInt32 31)).toInt32) &&& (nI 1431655765))).toUInt32 >>> ((nI 2).toUInt32 &&& Int32.toUInt32 31)).toInt32) &&& (nI 858993459))).toUInt32 >>> ((nI 4).toUInt32 &&& Int32.toUInt32 31)).toInt32)) &&& (nI 252645135)).toUInt32 >>> ((nI 8).toUInt32 &&& Int32.toUInt32 31)).toInt32)) + (((((((((nI b) - ((((nI b).toUInt32 >>> ((nI 1).toUInt32 &&& Int32.toUInt32 31)).toInt32) &&& (nI 1431655765))) &&& (nI 858993459)) + (((((nI b) - ((((nI b).toUInt32 >>> ((nI 1).toUInt32 &&& Int32.toUInt32 31)).toInt32) &&& (nI 1431655765))).toUInt32 >>> ((nI 2).toUInt32 &&& Int32.toUInt32 31)).toInt32) &&& (nI 858993459))) + ((((((nI b) - ((((nI b).toUInt32 >>> ((nI 1).toUInt32 &&& Int32.toUInt32 31)).toInt32) &&& (nI 1431655765))) &&& (nI 858993459)) + (((((nI b) - ((((nI b).toUInt32 >>> ((nI 1).toUInt32 &&& Int32.toUInt32 31)).toInt32) &&& (nI 1431655765))).toUInt32 >>> ((nI 2).toUInt32 &&& Int32.toUInt32 31)).toInt32) &&& (nI 858993459))).toUInt32 >>> ((nI 4).toUInt32 &&& Int32.toUInt32 31)).toInt32)) &&& (nI 252645135)) + ((((((((nI b) - ((((nI b).toUInt32 >>> ((nI 1).toUInt32 &&& Int32.toUInt32 31)).toInt32) &&& (nI 1431655765))) &&& (nI 858993459)) + (((((nI b) - ((((nI b).toUInt32 >>> ((nI 1).toUInt32 &&& Int32.toUInt32 31)).toInt32) &&& (nI 1431655765))).toUInt32 >>> ((nI 2).toUInt32 &&& Int32.toUInt32 31)).toInt32) &&& (nI 858993459))) + ((((((nI b) - ((((nI b).toUInt32 >>> ((nI 1).toUInt32 &&& Int32.toUInt32 31)).toInt32) &&& (nI 1431655765))) &&& (nI 858993459)) + (((((nI b) - ((((nI b).toUInt32 >>> ((nI 1).toUInt32 &&& Int32.toUInt32 31)).toInt32) &&& (nI 1431655765))).toUInt32 >>> ((nI 2).toUInt32 &&& Int32.toUInt32 31)).toInt32) &&& (nI 858993459))).toUInt32 >>> ((nI 4).toUInt32 &&& Int32.toUInt32 31)).toInt32)) &&& (nI 252645135)).toUInt32 >>> ((nI 8).toUInt32 &&& Int32.toUInt32 31)).toInt32)).toUInt32 >>> ((nI 16).toUInt32 &&& Int32.toUInt32 31)).toInt32)) &&& (nI 63))] rfl ?_
  exact g_iret X hr () (by show some (Value.int _) = some (Value.int _); first | (rw [← bcI_eq hb]; done) | (rw [← bcI_eq hb]; rfl)) (trivial) ((List.append_nil _).symm) (Nat.le_of_ble_eq_true rfl) (Nat.le_of_ble_eq_true rfl) dJ6_bitCount_0f7a4_52

theorem mw_big {b : Nat} {x : Int64} (h : 4 < pcn b 15) : mw b x = none := by rw [mw, if_pos h]
theorem mw_none {b : Nat} {x : Int64} (h4 : pcn b 15 ≤ 4) (h : eb b (sms x 4) = none) : mw b x = none := by rw [mw, if_neg (by omega), h]
theorem mw_some {b r : Nat} {x : Int64} (h4 : pcn b 15 ≤ 4) (h : eb b (sms x 4) = some r) : mw b x = some (mwl (b ||| r) (sms x 4) x 15) := by rw [mw, if_neg (by omega), h]

theorem pcn_15 (b : Nat) : pcn b 15 ≤ 15 := by
  have h : ∀ n, pcn b n ≤ n := by
    intro n
    induction n with
    | zero => exact Nat.le_refl _
    | succ n ih => have := bN_lt (b.testBit n); rw [pcn]; omega
  exact h 15

def KX2_mendedWord_0_0 : List (Nat × Instr × Nat) := [(0, .iload_n 2, 1)]
theorem KX2_mendedWord_0_0_d : ∀ z ∈ KX2_mendedWord_0_0, decode cX2_mendedWord z.1 = .ok z.2 := by decide +kernel
def KX2_mendedWord_4_1 : List (Nat × Instr × Nat) := [(4, .iconst 4, 1)]
theorem KX2_mendedWord_4_1_d : ∀ z ∈ KX2_mendedWord_4_1, decode cX2_mendedWord z.1 = .ok z.2 := by decide +kernel
def KX2_mendedWord_12_2 : List (Nat × Instr × Nat) := [(12, .lconst 0, 1), (13, .lstore_n 3, 1), (14, .iconst 1, 1), (15, .istore 5, 2)]
theorem KX2_mendedWord_12_2_d : ∀ z ∈ KX2_mendedWord_12_2, decode cX2_mendedWord z.1 = .ok z.2 := by decide +kernel
def KX2_mendedWord_17_3 : List (Nat × Instr × Nat) := [(17, .iload 5, 2), (19, .iconst 4, 1)]
theorem KX2_mendedWord_17_3_d : ∀ z ∈ KX2_mendedWord_17_3, decode cX2_mendedWord z.1 = .ok z.2 := by decide +kernel
def KX2_mendedWord_44_4 : List (Nat × Instr × Nat) := [(44, .iload_n 2, 1), (45, .lload_n 3, 1)]
theorem KX2_mendedWord_44_4_d : ∀ z ∈ KX2_mendedWord_44_4, decode cX2_mendedWord z.1 = .ok z.2 := by decide +kernel
def KX2_mendedWord_49_5 : List (Nat × Instr × Nat) := [(49, .istore 5, 2)]
theorem KX2_mendedWord_49_5_d : ∀ z ∈ KX2_mendedWord_49_5, decode cX2_mendedWord z.1 = .ok z.2 := by decide +kernel
def KX2_mendedWord_51_6 : List (Nat × Instr × Nat) := [(51, .iload 5, 2), (53, .iconst (-1), 1)]
theorem KX2_mendedWord_51_6_d : ∀ z ∈ KX2_mendedWord_51_6, decode cX2_mendedWord z.1 = .ok z.2 := by decide +kernel
def KX2_mendedWord_61_7 : List (Nat × Instr × Nat) := [(61, .iload_n 2, 1), (62, .iload 5, 2), (64, .ior, 1), (65, .istore 6, 2), (67, .lload_n 0, 1), (68, .lstore 7, 2), (70, .iconst 0, 1), (71, .istore 9, 2)]
theorem KX2_mendedWord_61_7_d : ∀ z ∈ KX2_mendedWord_61_7, decode cX2_mendedWord z.1 = .ok z.2 := by decide +kernel
def KX2_mendedWord_73_8 : List (Nat × Instr × Nat) := [(73, .iload 9, 2), (75, .bipush 15, 2)]
theorem KX2_mendedWord_73_8_d : ∀ z ∈ KX2_mendedWord_73_8, decode cX2_mendedWord z.1 = .ok z.2 := by decide +kernel
def KX2_mendedWord_115_9 : List (Nat × Instr × Nat) := [(115, .lload 7, 2)]
theorem KX2_mendedWord_115_9_d : ∀ z ∈ KX2_mendedWord_115_9, decode cX2_mendedWord z.1 = .ok z.2 := by decide +kernel
def KX2_mendedWord_80_10 : List (Nat × Instr × Nat) := [(80, .iload 6, 2), (82, .iload 9, 2)]
theorem KX2_mendedWord_80_10_d : ∀ z ∈ KX2_mendedWord_80_10, decode cX2_mendedWord z.1 = .ok z.2 := by decide +kernel
def KX2_mendedWord_109_11 : List (Nat × Instr × Nat) := [(109, .iinc 9 1, 3), (112, .goto (-39), 3)]
theorem KX2_mendedWord_109_11_d : ∀ z ∈ KX2_mendedWord_109_11, decode cX2_mendedWord z.1 = .ok z.2 := by decide +kernel
def KX2_mendedWord_90_12 : List (Nat × Instr × Nat) := [(90, .lload 7, 2), (92, .lconst 0, 1), (93, .iload 9, 2), (95, .iload 9, 2), (97, .iload 6, 2), (99, .lload_n 3, 1)]
theorem KX2_mendedWord_90_12_d : ∀ z ∈ KX2_mendedWord_90_12, decode cX2_mendedWord z.1 = .ok z.2 := by decide +kernel
def KX2_mendedWord_106_13 : List (Nat × Instr × Nat) := [(106, .lxor, 1), (107, .lstore 7, 2), (109, .iinc 9 1, 3), (112, .goto (-39), 3)]
theorem KX2_mendedWord_106_13_d : ∀ z ∈ KX2_mendedWord_106_13, decode cX2_mendedWord z.1 = .ok z.2 := by decide +kernel
def KX2_mendedWord_23_14 : List (Nat × Instr × Nat) := [(23, .lload_n 3, 1), (24, .iload 5, 2), (26, .iconst 1, 1), (27, .isub, 1)]
theorem KX2_mendedWord_23_14_d : ∀ z ∈ KX2_mendedWord_23_14, decode cX2_mendedWord z.1 = .ok z.2 := by decide +kernel
def KX2_mendedWord_28_15 : List (Nat × Instr × Nat) := [(28, .lload_n 0, 1), (29, .iload 5, 2)]
theorem KX2_mendedWord_28_15_d : ∀ z ∈ KX2_mendedWord_28_15, decode cX2_mendedWord z.1 = .ok z.2 := by decide +kernel
def KX2_mendedWord_37_16 : List (Nat × Instr × Nat) := [(37, .lstore_n 3, 1), (38, .iinc 5 1, 3), (41, .goto (-24), 3)]
theorem KX2_mendedWord_37_16_d : ∀ z ∈ KX2_mendedWord_37_16, decode cX2_mendedWord z.1 = .ok z.2 := by decide +kernel
set_option maxHeartbeats 4000000 in
set_option maxRecDepth 100000 in
theorem c_X2_mendedWord (l : Launch) (D : va_G) (g : Nat → ClassId) (x : Int64) (b : Nat) (hb : b < 2 ^ 15) : CT l yX2_mendedWord cX2_mendedWord 10 ((Option.some FieldType.long)) ({ frames := 3, cells := 0, slots := 0, locals := 79 } : Room) [.long x, .int (nI b)] D CL (TYS g) ([]) ([]) (S := Unit) (fun _ => some (.long (oL (mw b x)))) (fun _ => []) (fun _ => True) 0 0 := by
  refine ct_of (by decide +kernel) (Nat.le_of_ble_eq_true rfl) ?_
  intro p e s m below meth c A X hr hnm hSB hRO hAf
  refine g_cs (ws' := []) (lv' := [(0, .long x), (2, .int (nI b))]) rfl rfl ?_
  refine g_run X KX2_mendedWord_0_0 KX2_mendedWord_0_0_d 1 [(0, .long x), (2, .int (nI b))] [.int (nI b)] rfl ?_
  refine g_callS X hSB hAf (As := [.int (nI b)]) (wr := []) (n := 1) (c_J6_bitCount_0f7a4 l D g b (by omega)) rfl srcN hrdN w_259 w_257 w_258 w_24 (by decide +kernel) rfl ⟨Nat.le_of_ble_eq_true rfl, Nat.le_of_ble_eq_true rfl⟩ rfl rfl rfl (Nat.le_of_ble_eq_true rfl) ⟨Nat.le_of_ble_eq_true rfl, Nat.le_of_ble_eq_true rfl⟩ dX2_mendedWord_1 (fun hu1 _ => ?_)
  refine g_af (ws' := []) (st' := [.int (nI (pcn b 15))]) (cells' := 0) (slots' := 0) (pc' := 4) rfl rfl rfl rfl rfl ?_
  have hp15 := pcn_15 b
  refine g_run X KX2_mendedWord_4_1 KX2_mendedWord_4_1_d 5 [(0, .long x), (2, .int (nI b))] [.int (nI 4), .int (nI (pcn b 15))] rfl ?_
  refine g_icmp_le X 12 dX2_mendedWord_5 (by decide) (fun hc2 => ?_) (fun hc2 => ?_)
  · rw [nI_leI (by omega) (by omega)] at hc2; have h4 := hc2
    refine g_run X KX2_mendedWord_12_2 KX2_mendedWord_12_2_d 17 [(5, .int (nI 1)), (3, .long (lN 0)), (0, .long x), (2, .int (nI b))] [] rfl ?_
    refine g_lv (lv' := [(0, .long x), (2, .int (nI b)), (3, .long (lN 0)), (5, .int (nI 1))]) (lsub_c 2 rfl (lsub_c 3 rfl (lsub_c 1 rfl (lsub_c 0 rfl (lsub_n))))) ?_
    refine g_for 4 (fun _ => []) (fun i => [(0, .long x), (2, .int (nI b)), (3, .long (sms x i)), (5, .int (nI (i + 1)))]) (rfl) (rfl) ?_ ?_
    · refine g_run X KX2_mendedWord_17_3 KX2_mendedWord_17_3_d 20 [(0, .long x), (2, .int (nI b)), (3, .long (sms x 4)), (5, .int (nI (4 + 1)))] [.int (nI 4), .int (nI (4 + 1))] rfl ?_
      refine g_icmp_gt X 44 dX2_mendedWord_20 (by decide) (fun hc3 => ?_) (fun hc3 => ?_)
      · refine g_run X KX2_mendedWord_44_4 KX2_mendedWord_44_4_d 46 [(0, .long x), (2, .int (nI b)), (3, .long (sms x 4)), (5, .int (nI (4 + 1)))] [.long (sms x 4), .int (nI b)] rfl ?_
        refine g_callS X hSB hAf (As := [.int (nI b), .long (sms x 4)]) (wr := []) (n := 2) (c_X2_errorsBeside l D g b (sms x 4) (by omega) (h4)) rfl srcN hrdN w_278 w_276 w_277 w_22 (by decide +kernel) rfl ⟨Nat.le_of_ble_eq_true rfl, Nat.le_of_ble_eq_true rfl⟩ rfl rfl rfl (Nat.le_of_ble_eq_true rfl) ⟨Nat.le_of_ble_eq_true rfl, Nat.le_of_ble_eq_true rfl⟩ dX2_mendedWord_46 (fun hu4 _ => ?_)
        refine g_af (ws' := []) (st' := [.int (oI (eb b (sms x 4)))]) (cells' := 0) (slots' := 0) (pc' := 49) rfl rfl rfl rfl rfl ?_
        refine g_run X KX2_mendedWord_49_5 KX2_mendedWord_49_5_d 51 [(5, .int (oI (eb b (sms x 4)))), (0, .long x), (2, .int (nI b)), (3, .long (sms x 4))] [] rfl ?_
        rcases heb : eb b (sms x 4) with _ | r
        · refine g_nm (lv' := [(5, .int (-nI 1)), (0, .long x), (2, .int (nI b)), (3, .long (sms x 4))]) (st' := []) rfl rfl ?_
          have hM := mw_none h4 heb
          refine g_run X KX2_mendedWord_51_6 KX2_mendedWord_51_6_d 54 [(5, .int (-nI 1)), (0, .long x), (2, .int (nI b)), (3, .long (sms x 4))] [.int (-nI 1), .int (-nI 1)] rfl ?_
          refine g_icmp_ne X 61 dX2_mendedWord_54 (by decide) (fun hc5 => ?_) (fun hc5 => ?_)
          · exact absurd rfl hc5
          · refine g_ldc2 X (v := (-1 : Int64)) w_263 dX2_mendedWord_57 ?_
            exact g_lret X hr () (by show some (Value.long _) = some (Value.long _); first | (rw [hM]; done) | (rw [hM]; rfl)) (trivial) ((List.append_nil _).symm) (Nat.le_of_ble_eq_true rfl) (Nat.le_of_ble_eq_true rfl) dX2_mendedWord_60
        · refine g_nm (lv' := [(5, .int (nI r)), (0, .long x), (2, .int (nI b)), (3, .long (sms x 4))]) (st' := []) rfl rfl ?_
          have hM := mw_some h4 heb
          have hr15 := eb_lt heb
          have hor := or_lt hb hr15
          have hbits := eb_bits heb h4
          refine g_run X KX2_mendedWord_51_6 KX2_mendedWord_51_6_d 54 [(5, .int (nI r)), (0, .long x), (2, .int (nI b)), (3, .long (sms x 4))] [.int (-nI 1), .int (nI r)] rfl ?_
          refine g_icmp_ne X 61 dX2_mendedWord_54 (by decide) (fun hc6 => ?_) (fun hc6 => ?_)
          · refine g_run X KX2_mendedWord_61_7 KX2_mendedWord_61_7_d 73 [(9, .int (nI 0)), (7, .long x), (6, .int ((nI b) ||| (nI r))), (5, .int (nI r)), (0, .long x), (2, .int (nI b)), (3, .long (sms x 4))] [] rfl ?_
            refine g_nm (lv' := [(9, .int (nI 0)), (7, .long x), (6, .int (nI (b ||| r))), (5, .int (nI r)), (0, .long x), (2, .int (nI b)), (3, .long (sms x 4))]) (st' := []) (by simp only [nx_or]) (by simp only [nx_or]) ?_
            refine g_lv (lv' := [(0, .long x), (2, .int (nI b)), (3, .long (sms x 4)), (5, .int (nI r)), (6, .int (nI (b ||| r))), (7, .long x), (9, .int (nI 0))]) (lsub_c 4 rfl (lsub_c 5 rfl (lsub_c 6 rfl (lsub_c 3 rfl (lsub_c 2 rfl (lsub_c 1 rfl (lsub_c 0 rfl (lsub_n)))))))) ?_
            refine g_for 15 (fun _ => []) (fun i => [(0, .long x), (2, .int (nI b)), (3, .long (sms x 4)), (5, .int (nI r)), (6, .int (nI (b ||| r))), (7, .long (mwl (b ||| r) (sms x 4) x i)), (9, .int (nI i))]) (rfl) (rfl) ?_ ?_
            · refine g_run X KX2_mendedWord_73_8 KX2_mendedWord_73_8_d 77 [(0, .long x), (2, .int (nI b)), (3, .long (sms x 4)), (5, .int (nI r)), (6, .int (nI (b ||| r))), (7, .long (mwl (b ||| r) (sms x 4) x 15)), (9, .int (nI 15))] [.int (nI 15), .int (nI 15)] rfl ?_
              refine g_icmp_ge X 115 dX2_mendedWord_77 (by decide) (fun hc7 => ?_) (fun hc7 => ?_)
              · refine g_run X KX2_mendedWord_115_9 KX2_mendedWord_115_9_d 117 [(0, .long x), (2, .int (nI b)), (3, .long (sms x 4)), (5, .int (nI r)), (6, .int (nI (b ||| r))), (7, .long (mwl (b ||| r) (sms x 4) x 15)), (9, .int (nI 15))] [.long (mwl (b ||| r) (sms x 4) x 15)] rfl ?_
                exact g_lret X hr () (by show some (Value.long _) = some (Value.long _); first | (rw [hM]; done) | (rw [hM]; rfl)) (trivial) ((List.append_nil _).symm) (Nat.le_of_ble_eq_true rfl) (Nat.le_of_ble_eq_true rfl) dX2_mendedWord_117
              · rw [nI_leI (by omega) (by omega)] at hc7; first | omega | (simp at hc7)
            · intro i hi k73
              refine g_run X KX2_mendedWord_73_8 KX2_mendedWord_73_8_d 77 [(0, .long x), (2, .int (nI b)), (3, .long (sms x 4)), (5, .int (nI r)), (6, .int (nI (b ||| r))), (7, .long (mwl (b ||| r) (sms x 4) x i)), (9, .int (nI i))] [.int (nI 15), .int (nI i)] rfl ?_
              refine g_icmp_ge X 115 dX2_mendedWord_77 (by decide) (fun hc8 => ?_) (fun hc8 => ?_)
              · rw [nI_leI (by omega) (by omega)] at hc8; first | omega | (simp at hc8)
              · refine g_run X KX2_mendedWord_80_10 KX2_mendedWord_80_10_d 84 [(0, .long x), (2, .int (nI b)), (3, .long (sms x 4)), (5, .int (nI r)), (6, .int (nI (b ||| r))), (7, .long (mwl (b ||| r) (sms x 4) x i)), (9, .int (nI i))] [.int (nI i), .int (nI (b ||| r))] rfl ?_
                refine g_callSN X hSB hAf (host := "Chipfield") (As := [.int (nI (b ||| r)), .int (nI i)]) (wr := []) (n := 2) (c_X5_isIn l D g (b ||| r) i (by omega) (by omega)) rfl srcN hrdN w_281 (nw_in n_279 rfl) w_280 w_1 (by decide +kernel) rfl ⟨Nat.le_of_ble_eq_true rfl, Nat.le_of_ble_eq_true rfl⟩ rfl rfl rfl (Nat.le_of_ble_eq_true rfl) ⟨Nat.le_of_ble_eq_true rfl, Nat.le_of_ble_eq_true rfl⟩ dX2_mendedWord_84 (fun hu9 _ => ?_)
                refine g_af (ws' := []) (st' := [.int (nI (bN ((b ||| r).testBit i)))]) (cells' := 0) (slots' := 0) (pc' := 87) rfl rfl rfl rfl rfl ?_
                refine g_if_eq X 109 dX2_mendedWord_87 (by decide) (fun hc10 => ?_) (fun hc10 => ?_)
                · rw [bN_eq0] at hc10
                  refine g_run X KX2_mendedWord_109_11 KX2_mendedWord_109_11_d 73 [(9, .int ((nI i) + (nI 1))), (0, .long x), (2, .int (nI b)), (3, .long (sms x 4)), (5, .int (nI r)), (6, .int (nI (b ||| r))), (7, .long (mwl (b ||| r) (sms x 4) x i))] [] rfl ?_
                  refine g_nm (lv' := [(9, .int (nI (i + 1))), (0, .long x), (2, .int (nI b)), (3, .long (sms x 4)), (5, .int (nI r)), (6, .int (nI (b ||| r))), (7, .long (mwl (b ||| r) (sms x 4) x i))]) (st' := []) (by simp only [nI_add]) (by simp only [nI_add]) ?_
                  refine g_lv (lv' := [(0, .long x), (2, .int (nI b)), (3, .long (sms x 4)), (5, .int (nI r)), (6, .int (nI (b ||| r))), (7, .long (mwl (b ||| r) (sms x 4) x i)), (9, .int (nI (i + 1)))]) (lsub_c 1 rfl (lsub_c 2 rfl (lsub_c 3 rfl (lsub_c 4 rfl (lsub_c 5 rfl (lsub_c 6 rfl (lsub_c 0 rfl (lsub_n)))))))) ?_
                  refine g_cs (ws' := []) (lv' := [(0, .long x), (2, .int (nI b)), (3, .long (sms x 4)), (5, .int (nI r)), (6, .int (nI (b ||| r))), (7, .long (mwl (b ||| r) (sms x 4) x (i + 1))), (9, .int (nI (i + 1)))]) (rfl) (by simp [mwl, *]) ?_
                  exact k73
                · rw [bN_eq0] at hc10; have hbT := nf_t hc10
                  refine g_run X KX2_mendedWord_90_12 KX2_mendedWord_90_12_d 100 [(0, .long x), (2, .int (nI b)), (3, .long (sms x 4)), (5, .int (nI r)), (6, .int (nI (b ||| r))), (7, .long (mwl (b ||| r) (sms x 4) x i)), (9, .int (nI i))] [.long (sms x 4), .int (nI (b ||| r)), .int (nI i), .int (nI i), .long (lN 0), .long (mwl (b ||| r) (sms x 4) x i)] rfl ?_
                  refine g_callS X hSB hAf (As := [.int (nI i), .int (nI (b ||| r)), .long (sms x 4)]) (wr := []) (n := 3) (c_X2_errorAt l D g i (b ||| r) (sms x 4) (by omega) (hor) (pcx_le hbT hi hbits)) rfl srcN hrdN w_290 w_288 w_289 w_22 (by decide +kernel) rfl ⟨Nat.le_of_ble_eq_true rfl, Nat.le_of_ble_eq_true rfl⟩ rfl rfl rfl (Nat.le_of_ble_eq_true rfl) ⟨Nat.le_of_ble_eq_true rfl, Nat.le_of_ble_eq_true rfl⟩ dX2_mendedWord_100 (fun hu11 _ => ?_)
                  refine g_af (ws' := []) (st' := [.int (nI (ea i (b ||| r) (sms x 4))), .int (nI i), .long (lN 0), .long (mwl (b ||| r) (sms x 4) x i)]) (cells' := 0) (slots' := 0) (pc' := 103) rfl rfl rfl rfl rfl ?_
                  refine g_callSN X hSB hAf (host := "Chipfield") (As := [.long (lN 0), .int (nI i), .int (nI (ea i (b ||| r) (sms x 4)))]) (wr := []) (n := 3) (c_X5_withNumber l D g (lN 0) i (ea i (b ||| r) (sms x 4)) (by omega)) rfl srcN hrdN w_222 (nw_in n_275 rfl) w_221 w_1 (by decide +kernel) rfl ⟨Nat.le_of_ble_eq_true rfl, Nat.le_of_ble_eq_true rfl⟩ rfl rfl rfl (Nat.le_of_ble_eq_true rfl) ⟨Nat.le_of_ble_eq_true rfl, Nat.le_of_ble_eq_true rfl⟩ dX2_mendedWord_103 (fun hu12 _ => ?_)
                  refine g_af (ws' := []) (st' := [.long (wn (lN 0) i (ea i (b ||| r) (sms x 4))), .long (mwl (b ||| r) (sms x 4) x i)]) (cells' := 0) (slots' := 0) (pc' := 106) rfl rfl rfl rfl rfl ?_
                  refine g_run X KX2_mendedWord_106_13 KX2_mendedWord_106_13_d 73 [(9, .int ((nI i) + (nI 1))), (7, .long ((mwl (b ||| r) (sms x 4) x i) ^^^ (wn (lN 0) i (ea i (b ||| r) (sms x 4))))), (0, .long x), (2, .int (nI b)), (3, .long (sms x 4)), (5, .int (nI r)), (6, .int (nI (b ||| r)))] [] rfl ?_
                  refine g_nm (lv' := [(9, .int (nI (i + 1))), (7, .long ((mwl (b ||| r) (sms x 4) x i) ^^^ (wn (lN 0) i (ea i (b ||| r) (sms x 4))))), (0, .long x), (2, .int (nI b)), (3, .long (sms x 4)), (5, .int (nI r)), (6, .int (nI (b ||| r)))]) (st' := []) (by simp only [nI_add]) (by simp only [nI_add]) ?_
                  refine g_lv (lv' := [(0, .long x), (2, .int (nI b)), (3, .long (sms x 4)), (5, .int (nI r)), (6, .int (nI (b ||| r))), (7, .long ((mwl (b ||| r) (sms x 4) x i) ^^^ (wn (lN 0) i (ea i (b ||| r) (sms x 4))))), (9, .int (nI (i + 1)))]) (lsub_c 2 rfl (lsub_c 3 rfl (lsub_c 4 rfl (lsub_c 5 rfl (lsub_c 6 rfl (lsub_c 1 rfl (lsub_c 0 rfl (lsub_n)))))))) ?_
                  refine g_cs (ws' := []) (lv' := [(0, .long x), (2, .int (nI b)), (3, .long (sms x 4)), (5, .int (nI r)), (6, .int (nI (b ||| r))), (7, .long (mwl (b ||| r) (sms x 4) x (i + 1))), (9, .int (nI (i + 1)))]) (rfl) (by simp [mwl, *]) ?_
                  exact k73
          · exact absurd hc6 (m1_ne (by omega))
      · rw [nI_ltI (by omega) (by omega)] at hc3; first | omega | (simp at hc3)
    · intro i hi k17
      refine g_run X KX2_mendedWord_17_3 KX2_mendedWord_17_3_d 20 [(0, .long x), (2, .int (nI b)), (3, .long (sms x i)), (5, .int (nI (i + 1)))] [.int (nI 4), .int (nI (i + 1))] rfl ?_
      refine g_icmp_gt X 44 dX2_mendedWord_20 (by decide) (fun hc13 => ?_) (fun hc13 => ?_)
      · rw [nI_ltI (by omega) (by omega)] at hc13; first | omega | (simp at hc13)
      · refine g_run X KX2_mendedWord_23_14 KX2_mendedWord_23_14_d 28 [(0, .long x), (2, .int (nI b)), (3, .long (sms x i)), (5, .int (nI (i + 1)))] [.int ((nI (i + 1)) - (nI 1)), .long (sms x i)] rfl ?_
        refine g_st (st' := [.int (nI i), .long (sms x i)]) (by rw [pk_sub (by omega), Nat.add_sub_cancel]) ?_
        refine g_run X KX2_mendedWord_28_15 KX2_mendedWord_28_15_d 31 [(0, .long x), (2, .int (nI b)), (3, .long (sms x i)), (5, .int (nI (i + 1)))] [.int (nI (i + 1)), .long x, .int (nI i), .long (sms x i)] rfl ?_
        refine g_callS X hSB hAf (As := [.long x, .int (nI (i + 1))]) (wr := []) (n := 2) (c_X2_sumOf l D g x (i + 1) (by omega)) rfl srcN hrdN w_266 w_264 w_265 w_22 (by decide +kernel) rfl ⟨Nat.le_of_ble_eq_true rfl, Nat.le_of_ble_eq_true rfl⟩ rfl rfl rfl (Nat.le_of_ble_eq_true rfl) ⟨Nat.le_of_ble_eq_true rfl, Nat.le_of_ble_eq_true rfl⟩ dX2_mendedWord_31 (fun hu14 _ => ?_)
        refine g_af (ws' := []) (st' := [.int (nI (sm x (i + 1) 15)), .int (nI i), .long (sms x i)]) (cells' := 0) (slots' := 0) (pc' := 34) rfl rfl rfl rfl rfl ?_
        refine g_callSN X hSB hAf (host := "Chipfield") (As := [.long (sms x i), .int (nI i), .int (nI (sm x (i + 1) 15))]) (wr := []) (n := 3) (c_X5_withNumber l D g (sms x i) i (sm x (i + 1) 15) (by omega)) rfl srcN hrdN w_222 (nw_in n_275 rfl) w_221 w_1 (by decide +kernel) rfl ⟨Nat.le_of_ble_eq_true rfl, Nat.le_of_ble_eq_true rfl⟩ rfl rfl rfl (Nat.le_of_ble_eq_true rfl) ⟨Nat.le_of_ble_eq_true rfl, Nat.le_of_ble_eq_true rfl⟩ dX2_mendedWord_34 (fun hu15 _ => ?_)
        refine g_af (ws' := []) (st' := [.long (wn (sms x i) i (sm x (i + 1) 15))]) (cells' := 0) (slots' := 0) (pc' := 37) rfl rfl rfl rfl rfl ?_
        refine g_run X KX2_mendedWord_37_16 KX2_mendedWord_37_16_d 17 [(5, .int ((nI (i + 1)) + (nI 1))), (3, .long (wn (sms x i) i (sm x (i + 1) 15))), (0, .long x), (2, .int (nI b))] [] rfl ?_
        refine g_nm (lv' := [(5, .int (nI ((i + 1) + 1))), (3, .long (wn (sms x i) i (sm x (i + 1) 15))), (0, .long x), (2, .int (nI b))]) (st' := []) (by simp only [nI_add]) (by simp only [nI_add]) ?_
        refine g_lv (lv' := [(0, .long x), (2, .int (nI b)), (3, .long (wn (sms x i) i (sm x (i + 1) 15))), (5, .int (nI ((i + 1) + 1)))]) (lsub_c 2 rfl (lsub_c 3 rfl (lsub_c 1 rfl (lsub_c 0 rfl (lsub_n))))) ?_
        refine g_cs (ws' := []) (lv' := [(0, .long x), (2, .int (nI b)), (3, .long (sms x (i + 1))), (5, .int (nI ((i + 1) + 1)))]) (rfl) (rfl) ?_
        exact k17
  · rw [nI_leI (by omega) (by omega)] at hc2; have hM := mw_big (x := x) (show 4 < pcn b 15 by omega)
    refine g_ldc2 X (v := (-1 : Int64)) w_263 dX2_mendedWord_8 ?_
    exact g_lret X hr () (by show some (Value.long _) = some (Value.long _); first | (rw [hM]; done) | (rw [hM]; rfl)) (trivial) ((List.append_nil _).symm) (Nat.le_of_ble_eq_true rfl) (Nat.le_of_ble_eq_true rfl) dX2_mendedWord_11

def KX2_wordOf_0_0 : List (Nat × Instr × Nat) := [(0, .lload_n 0, 1), (1, .bipush 16, 2), (3, .lshl, 1), (4, .bipush 15, 2)]
theorem KX2_wordOf_0_0_d : ∀ z ∈ KX2_wordOf_0_0, decode cX2_wordOf z.1 = .ok z.2 := by decide +kernel
set_option maxHeartbeats 4000000 in
set_option maxRecDepth 100000 in
theorem c_X2_wordOf (l : Launch) (D : va_G) (g : Nat → ClassId) (x : Int64) : CT l yX2_wordOf cX2_wordOf 2 ((Option.some FieldType.long)) ({ frames := 4, cells := 0, slots := 0, locals := 108 } : Room) [.long x] D CL (TYS g) ([]) ([]) (S := Unit) (fun _ => some (.long (oL (mw 15 (x <<< ((nI 16).toInt64 &&& 63)))))) (fun _ => []) (fun _ => True) 0 0 := by
  refine ct_of (by decide +kernel) (Nat.le_of_ble_eq_true rfl) ?_
  intro p e s m below meth c A X hr hnm hSB hRO hAf
  refine g_cs (ws' := []) (lv' := [(0, .long x)]) rfl rfl ?_
  refine g_run X KX2_wordOf_0_0 KX2_wordOf_0_0_d 6 [(0, .long x)] [.int (nI 15), .long (x <<< ((nI 16).toInt64 &&& 63))] rfl ?_
  refine g_callS X hSB hAf (As := [.long (x <<< ((nI 16).toInt64 &&& 63)), .int (nI 15)]) (wr := []) (n := 2) (c_X2_mendedWord l D g (x <<< ((nI 16).toInt64 &&& 63)) 15 (by decide)) rfl srcN hrdN w_256 w_513 w_255 w_22 (by decide +kernel) rfl ⟨Nat.le_of_ble_eq_true rfl, Nat.le_of_ble_eq_true rfl⟩ rfl rfl rfl (Nat.le_of_ble_eq_true rfl) ⟨Nat.le_of_ble_eq_true rfl, Nat.le_of_ble_eq_true rfl⟩ dX2_wordOf_6 (fun hu1 _ => ?_)
  refine g_af (ws' := []) (st' := [.long (oL (mw 15 (x <<< ((nI 16).toInt64 &&& 63))))]) (cells' := 0) (slots' := 0) (pc' := 9) rfl rfl rfl rfl rfl ?_
  exact g_lret X hr () (rfl) (trivial) ((List.append_nil _).symm) (Nat.le_of_ble_eq_true rfl) (Nat.le_of_ble_eq_true rfl) dX2_wordOf_9

def KX1_madSymbol_0_0 : List (Nat × Instr × Nat) := [(0, .iload_n 0, 1), (1, .iload_n 1, 1), (2, .iadd, 1), (3, .bipush 15, 2), (5, .iand, 1)]
theorem KX1_madSymbol_0_0_d : ∀ z ∈ KX1_madSymbol_0_0, decode cX1_madSymbol z.1 = .ok z.2 := by decide +kernel
set_option maxHeartbeats 4000000 in
set_option maxRecDepth 100000 in
theorem c_X1_madSymbol (l : Launch) (D : va_G) (g : Nat → ClassId) (k : Int32) (q : Nat) : CT l yX1_madSymbol cX1_madSymbol 2 ((Option.some FieldType.int)) ({ frames := 0, cells := 0, slots := 0, locals := 0 } : Room) [.int k, .int (nI q)] D CL (TYS g) ([]) ([]) (S := Unit) (fun _ => some (.int ((k + nI q) &&& nI 15))) (fun _ => []) (fun _ => True) 0 0 := by
  refine ct_of (by decide +kernel) (Nat.le_of_ble_eq_true rfl) ?_
  intro p e s m below meth c A X hr hnm hSB hRO hAf
  refine g_cs (ws' := []) (lv' := [(0, .int k), (1, .int (nI q))]) rfl rfl ?_
  refine g_run X KX1_madSymbol_0_0 KX1_madSymbol_0_0_d 6 [(0, .int k), (1, .int (nI q))] [.int ((k + (nI q)) &&& (nI 15))] rfl ?_
  exact g_iret X hr () (rfl) (trivial) ((List.append_nil _).symm) (Nat.le_of_ble_eq_true rfl) (Nat.le_of_ble_eq_true rfl) dX1_madSymbol_6

def KX5_dataOrNone_0_0 : List (Nat × Instr × Nat) := [(0, .lload_n 0, 1)]
theorem KX5_dataOrNone_0_0_d : ∀ z ∈ KX5_dataOrNone_0_0, decode cX5_dataOrNone z.1 = .ok z.2 := by decide +kernel
def KX5_dataOrNone_4_1 : List (Nat × Instr × Nat) := [(4, .lcmp, 1)]
theorem KX5_dataOrNone_4_1_d : ∀ z ∈ KX5_dataOrNone_4_1, decode cX5_dataOrNone z.1 = .ok z.2 := by decide +kernel
def KX5_dataOrNone_14_2 : List (Nat × Instr × Nat) := [(14, .lload_n 0, 1)]
theorem KX5_dataOrNone_14_2_d : ∀ z ∈ KX5_dataOrNone_14_2, decode cX5_dataOrNone z.1 = .ok z.2 := by decide +kernel
def KX5_dataOrNone_11_3 : List (Nat × Instr × Nat) := [(11, .goto 7, 3)]
theorem KX5_dataOrNone_11_3_d : ∀ z ∈ KX5_dataOrNone_11_3, decode cX5_dataOrNone z.1 = .ok z.2 := by decide +kernel
set_option maxHeartbeats 4000000 in
set_option maxRecDepth 100000 in
theorem c_X5_dataOrNone (l : Launch) (D : va_G) (g : Nat → ClassId) (x : Int64) : CT l yX5_dataOrNone cX5_dataOrNone 2 ((Option.some FieldType.long)) ({ frames := 1, cells := 0, slots := 0, locals := 21 } : Room) [.long x] D CL (TYS g) ([]) ([]) (S := Unit) (fun _ => some (.long (if x = -1 then -1 else (x.toUInt64 >>> ((nI 16).toInt64.toUInt64 &&& Int64.toUInt64 63)).toInt64))) (fun _ => []) (fun _ => True) 0 0 := by
  refine ct_of (by decide +kernel) (Nat.le_of_ble_eq_true rfl) ?_
  intro p e s m below meth c A X hr hnm hSB hRO hAf
  refine g_cs (ws' := []) (lv' := [(0, .long x)]) rfl rfl ?_
  refine g_run X KX5_dataOrNone_0_0 KX5_dataOrNone_0_0_d 1 [(0, .long x)] [.long x] rfl ?_
  refine g_ldc2 X (v := (-1 : Int64)) w_224 dX5_dataOrNone_1 ?_
  refine g_run X KX5_dataOrNone_4_1 KX5_dataOrNone_4_1_d 5 [(0, .long x)] [.int (lg_cmp x (-1 : Int64))] rfl ?_
  refine g_if_ne X 14 dX5_dataOrNone_5 (by decide) (fun hc1 => ?_) (fun hc1 => ?_)
  · rw [lc0] at hc1
    refine g_run X KX5_dataOrNone_14_2 KX5_dataOrNone_14_2_d 15 [(0, .long x)] [.long x] rfl ?_
    refine g_callS X hSB hAf (As := [.long x]) (wr := []) (n := 1) (c_X2_dataIn l D g x ) rfl srcN hrdN w_454 w_452 w_453 w_22 (by decide +kernel) rfl ⟨Nat.le_of_ble_eq_true rfl, Nat.le_of_ble_eq_true rfl⟩ rfl rfl rfl (Nat.le_of_ble_eq_true rfl) ⟨Nat.le_of_ble_eq_true rfl, Nat.le_of_ble_eq_true rfl⟩ dX5_dataOrNone_15 (fun hu2 _ => ?_)
    refine g_af (ws' := []) (st' := [.long ((x.toUInt64 >>> ((nI 16).toInt64.toUInt64 &&& Int64.toUInt64 63)).toInt64)]) (cells' := 0) (slots' := 0) (pc' := 18) rfl rfl rfl rfl rfl ?_
    exact g_lret X hr () (by show some (Value.long _) = some (Value.long _); first | rw [if_neg (by assumption)] | rw [if_pos (by assumption)]) (trivial) ((List.append_nil _).symm) (Nat.le_of_ble_eq_true rfl) (Nat.le_of_ble_eq_true rfl) dX5_dataOrNone_18
  · rw [lc0] at hc1
    refine g_ldc2 X (v := (-1 : Int64)) w_224 dX5_dataOrNone_8 ?_
    refine g_run X KX5_dataOrNone_11_3 KX5_dataOrNone_11_3_d 18 [(0, .long x)] [.long (-1 : Int64)] rfl ?_
    exact g_lret X hr () (by show some (Value.long _) = some (Value.long _); first | rw [if_neg (by assumption)] | rw [if_pos (by assumption)]) (trivial) ((List.append_nil _).symm) (Nat.le_of_ble_eq_true rfl) (Nat.le_of_ble_eq_true rfl) dX5_dataOrNone_18

def KX5_wrongIn_0_0 : List (Nat × Instr × Nat) := [(0, .lload_n 2, 1)]
theorem KX5_wrongIn_0_0_d : ∀ z ∈ KX5_wrongIn_0_0, decode cX5_wrongIn z.1 = .ok z.2 := by decide +kernel
def KX5_wrongIn_4_1 : List (Nat × Instr × Nat) := [(4, .lcmp, 1)]
theorem KX5_wrongIn_4_1_d : ∀ z ∈ KX5_wrongIn_4_1, decode cX5_wrongIn z.1 = .ok z.2 := by decide +kernel
def KX5_wrongIn_12_2 : List (Nat × Instr × Nat) := [(12, .lload_n 0, 1), (13, .lload_n 2, 1), (14, .lxor, 1)]
theorem KX5_wrongIn_12_2_d : ∀ z ∈ KX5_wrongIn_12_2, decode cX5_wrongIn z.1 = .ok z.2 := by decide +kernel
def KX5_wrongIn_8_3 : List (Nat × Instr × Nat) := [(8, .iconst (-1), 1), (9, .goto 12, 3)]
theorem KX5_wrongIn_8_3_d : ∀ z ∈ KX5_wrongIn_8_3, decode cX5_wrongIn z.1 = .ok z.2 := by decide +kernel
set_option maxHeartbeats 4000000 in
set_option maxRecDepth 100000 in
theorem c_X5_wrongIn (l : Launch) (D : va_G) (g : Nat → ClassId) (x : Int64) (y : Int64) : CT l yX5_wrongIn cX5_wrongIn 4 ((Option.some FieldType.int)) ({ frames := 2, cells := 0, slots := 0, locals := 45 } : Room) [.long x, .long y] D CL (TYS g) ([]) ([]) (S := Unit) (fun _ => some (.int (if y = -1 then -nI 1 else nI (pcn (pl (x ^^^ y) 15) 15)))) (fun _ => []) (fun _ => True) 0 0 := by
  refine ct_of (by decide +kernel) (Nat.le_of_ble_eq_true rfl) ?_
  intro p e s m below meth c A X hr hnm hSB hRO hAf
  refine g_cs (ws' := []) (lv' := [(0, .long x), (2, .long y)]) rfl rfl ?_
  refine g_run X KX5_wrongIn_0_0 KX5_wrongIn_0_0_d 1 [(0, .long x), (2, .long y)] [.long y] rfl ?_
  refine g_ldc2 X (v := (-1 : Int64)) w_224 dX5_wrongIn_1 ?_
  refine g_run X KX5_wrongIn_4_1 KX5_wrongIn_4_1_d 5 [(0, .long x), (2, .long y)] [.int (lg_cmp y (-1 : Int64))] rfl ?_
  refine g_if_ne X 12 dX5_wrongIn_5 (by decide) (fun hc1 => ?_) (fun hc1 => ?_)
  · rw [lc0] at hc1
    refine g_run X KX5_wrongIn_12_2 KX5_wrongIn_12_2_d 15 [(0, .long x), (2, .long y)] [.long (x ^^^ y)] rfl ?_
    refine g_callS X hSB hAf (As := [.long (x ^^^ y)]) (wr := []) (n := 1) (c_X2_placesIn l D g (x ^^^ y) ) rfl srcN hrdN w_444 w_442 w_443 w_22 (by decide +kernel) rfl ⟨Nat.le_of_ble_eq_true rfl, Nat.le_of_ble_eq_true rfl⟩ rfl rfl rfl (Nat.le_of_ble_eq_true rfl) ⟨Nat.le_of_ble_eq_true rfl, Nat.le_of_ble_eq_true rfl⟩ dX5_wrongIn_15 (fun hu2 _ => ?_)
    refine g_af (ws' := []) (st' := [.int (nI (pl (x ^^^ y) 15))]) (cells' := 0) (slots' := 0) (pc' := 18) rfl rfl rfl rfl rfl ?_
    refine g_callS X hSB hAf (As := [.int (nI (pl (x ^^^ y) 15))]) (wr := []) (n := 1) (c_J6_bitCount_0f7a4 l D g (pl (x ^^^ y) 15) (pl_lt _ _)) rfl srcN hrdN w_259 w_309 w_258 w_24 (by decide +kernel) rfl ⟨Nat.le_of_ble_eq_true rfl, Nat.le_of_ble_eq_true rfl⟩ rfl rfl rfl (Nat.le_of_ble_eq_true rfl) ⟨Nat.le_of_ble_eq_true rfl, Nat.le_of_ble_eq_true rfl⟩ dX5_wrongIn_18 (fun hu3 _ => ?_)
    refine g_af (ws' := []) (st' := [.int (nI (pcn (pl (x ^^^ y) 15) 15))]) (cells' := 0) (slots' := 0) (pc' := 21) rfl rfl rfl rfl rfl ?_
    exact g_iret X hr () (by show some (Value.int _) = some (Value.int _); first | rw [if_neg (by assumption)] | rw [if_pos (by assumption)]) (trivial) ((List.append_nil _).symm) (Nat.le_of_ble_eq_true rfl) (Nat.le_of_ble_eq_true rfl) dX5_wrongIn_21
  · rw [lc0] at hc1
    refine g_run X KX5_wrongIn_8_3 KX5_wrongIn_8_3_d 21 [(0, .long x), (2, .long y)] [.int (-nI 1)] rfl ?_
    exact g_iret X hr () (by show some (Value.int _) = some (Value.int _); first | rw [if_neg (by assumption)] | rw [if_pos (by assumption)]) (trivial) ((List.append_nil _).symm) (Nat.le_of_ble_eq_true rfl) (Nat.le_of_ble_eq_true rfl) dX5_wrongIn_21

