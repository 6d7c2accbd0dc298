/-! the class's face -/
theorem lc_lt {x y : Int64} : lg_cmp x y < 0 ↔ x < y := by
  unfold lg_cmp
  rw [Int64.lt_iff_toInt_lt]
  split
  next h => rw [gt_iff_lt, Int64.lt_iff_toInt_lt] at h; exact ⟨fun q => absurd q (by decide), fun q => by omega⟩
  next h =>
    rw [gt_iff_lt, Int64.lt_iff_toInt_lt] at h
    split
    next e => subst e; exact ⟨fun q => absurd q (by decide), fun q => by omega⟩
    next e => exact ⟨fun _ => by have : x.toInt ≠ y.toInt := fun z => e (Int64.toInt_inj.mp z); omega, fun _ => by decide⟩
theorem lc_le {x y : Int64} : lg_cmp x y ≤ 0 ↔ x ≤ y := by
  unfold lg_cmp
  rw [Int64.le_iff_toInt_le]
  split
  next h => rw [gt_iff_lt, Int64.lt_iff_toInt_lt] at h; exact ⟨fun q => absurd q (by decide), fun q => by omega⟩
  next h =>
    rw [gt_iff_lt, Int64.lt_iff_toInt_lt] at h
    split
    next e => exact ⟨fun _ => by omega, fun _ => by decide⟩
    next e => exact ⟨fun _ => by omega, fun _ => by decide⟩
/-- DATA that are allowed -/
def dOK (x : Int64) : Prop := ¬ x < lN 0 ∧ x ≤ (17592186044415 : Int64)
/-- the word of the code for data -/
def wdO (x : Int64) : Int64 := oL (mw 15 (x <<< ((nI 16).toInt64 &&& 63)))
def dtO (x : Int64) : Int64 := if x = -1 then -1 else (x.toUInt64 >>> ((nI 16).toInt64.toUInt64 &&& Int64.toUInt64 63)).toInt64
/-- how many places are wrong in x, for the word y -/
def wrO (x y : Int64) : Int32 := if y = -1 then -nI 1 else nI (pcn (pl (x ^^^ y) 15) 15)
theorem an15 {a b : Nat} (ha : a < 2 ^ 15) (hb : b < 2 ^ 15) : nI b &&& (nI a ^^^ -nI 1) = nI (b &&& (32767 ^^^ a)) := by
  rw [show -nI 1 = nI (2 ^ 32 - 1) from by decide, nx_xor, nx_and]
  congr 1
  apply Nat.eq_of_testBit_eq
  intro i
  rw [Nat.testBit_and, Nat.testBit_and, Nat.testBit_xor, Nat.testBit_xor, Nat.testBit_two_pow_sub_one, show (32767 : Nat) = 2 ^ 15 - 1 from rfl, Nat.testBit_two_pow_sub_one]
  by_cases h : i < 15
  · simp [h, show i < 32 by omega, Bool.xor_comm]
  · rw [Nat.testBit_lt_two_pow (Nat.lt_of_lt_of_le hb (Nat.pow_le_pow_right (by decide) (by omega)))]; simp
theorem an_lt {a b : Nat} (hb : b < 2 ^ 15) : b &&& a < 2 ^ 15 := Nat.lt_of_le_of_lt Nat.and_le_left hb

def KX5_checkLine_0_0 : List (Nat × Instr × Nat) := [(0, .iload_n 0, 1)]
theorem KX5_checkLine_0_0_d : ∀ z ∈ KX5_checkLine_0_0, decode cX5_checkLine z.1 = .ok z.2 := by decide +kernel
def KX5_checkLine_4_1 : List (Nat × Instr × Nat) := [(4, .iload_n 0, 1), (5, .bipush 16, 2)]
theorem KX5_checkLine_4_1_d : ∀ z ∈ KX5_checkLine_4_1, decode cX5_checkLine z.1 = .ok z.2 := by decide +kernel
set_option maxHeartbeats 4000000 in
set_option maxRecDepth 100000 in
theorem c_X5_checkLine (l : Launch) (D : va_G) (g : Nat → ClassId) (q : Nat) (hq : q < 16) : CT l yX5_checkLine cX5_checkLine 1 ((Option.none : Option Jvm.ClassFile.FieldType)) ({ frames := 0, cells := 0, slots := 0, locals := 0 } : Room) [.int (nI q)] D CL (TYS g) ([]) ([]) (S := Unit) (fun _ => none) (fun _ => []) (fun _ => True) 0 0 := by
  refine ct_of (by decide +kernel) (Nat.le_of_ble_eq_true rfl) ?_
  intro p e s m below meth c A X hr hnm hSB hRO hAf
  refine g_cs (ws' := []) (lv' := [(0, .int (nI q))]) rfl rfl ?_
  refine g_run X KX5_checkLine_0_0 KX5_checkLine_0_0_d 1 [(0, .int (nI q))] [.int (nI q)] rfl ?_
  refine g_if_lt X 10 dX5_checkLine_1 (by decide) (fun hc1 => ?_) (fun hc1 => ?_)
  · rw [nz_lt (by omega)] at hc1; first | omega | (simp at hc1)
  · refine g_run X KX5_checkLine_4_1 KX5_checkLine_4_1_d 7 [(0, .int (nI q))] [.int (nI 16), .int (nI q)] rfl ?_
    refine g_icmp_lt X 21 dX5_checkLine_7 (by decide) (fun hc2 => ?_) (fun hc2 => ?_)
    · exact g_vret X hr () rfl (trivial) ((List.append_nil _).symm) (Nat.le_of_ble_eq_true rfl) (Nat.le_of_ble_eq_true rfl) dX5_checkLine_21
    · rw [nI_ltI (by omega) (by omega)] at hc2; first | omega | (simp at hc2)

set_option maxHeartbeats 4000000 in
set_option maxRecDepth 100000 in
theorem x_X5_checkLine (l : Launch) (hfl : l.stackTraces = false) (D : va_G) (g : Nat → ClassId) (x : Int32) (hx : x < 0 ∨ ¬ x < nI 16) : CX l yX5_checkLine cX5_checkLine 1 ((Option.none : Option Jvm.ClassFile.FieldType)) ({ frames := 6, cells := 1, slots := 6, locals := 100 } : Room) [.int x] D CL (TYS g) ([]) xIO 1 6 := by
  refine cx_of (by decide +kernel) (Nat.le_of_ble_eq_true rfl) ?_
  intro p e s m below meth c A X hnt hSB hRO hAf
  refine g_cs (ws' := []) (lv' := [(0, .int x)]) rfl rfl ?_
  refine g_run X KX5_checkLine_0_0 KX5_checkLine_0_0_d 1 [(0, .int x)] [.int x] rfl ?_
  refine g_if_lt X 10 dX5_checkLine_1 (by decide) (fun hc1 => ?_) (fun hc1 => ?_)
  · exact g_throwSW (E := xIO) X hSB hfl hnt (text := "line is not 0 to 15") (names := xNm) (by decide +kernel) (by decide +kernel) w_408 w_20 (by decide +kernel) hatIO hgdIO dX5_checkLine_10 dX5_checkLine_13 dX5_checkLine_14 dX5_checkLine_17 dX5_checkLine_20 (Nat.le_of_ble_eq_true rfl) (Nat.le_of_ble_eq_true rfl) (Nat.le_of_ble_eq_true rfl) (Nat.le_of_ble_eq_true rfl) (Nat.le_of_ble_eq_true rfl) (Nat.le_of_ble_eq_true rfl)
  · refine g_run X KX5_checkLine_4_1 KX5_checkLine_4_1_d 7 [(0, .int x)] [.int (nI 16), .int x] rfl ?_
    refine g_icmp_lt X 21 dX5_checkLine_7 (by decide) (fun hc2 => ?_) (fun hc2 => ?_)
    · exact (hx.elim (fun z => absurd z (by assumption)) (fun z => absurd hc2 z))
    · exact g_throwSW (E := xIO) X hSB hfl hnt (text := "line is not 0 to 15") (names := xNm) (by decide +kernel) (by decide +kernel) w_408 w_20 (by decide +kernel) hatIO hgdIO dX5_checkLine_10 dX5_checkLine_13 dX5_checkLine_14 dX5_checkLine_17 dX5_checkLine_20 (Nat.le_of_ble_eq_true rfl) (Nat.le_of_ble_eq_true rfl) (Nat.le_of_ble_eq_true rfl) (Nat.le_of_ble_eq_true rfl) (Nat.le_of_ble_eq_true rfl) (Nat.le_of_ble_eq_true rfl)

def KX5_checkPlace_0_0 : List (Nat × Instr × Nat) := [(0, .iload_n 0, 1)]
theorem KX5_checkPlace_0_0_d : ∀ z ∈ KX5_checkPlace_0_0, decode cX5_checkPlace z.1 = .ok z.2 := by decide +kernel
def KX5_checkPlace_4_1 : List (Nat × Instr × Nat) := [(4, .iload_n 0, 1), (5, .bipush 15, 2)]
theorem KX5_checkPlace_4_1_d : ∀ z ∈ KX5_checkPlace_4_1, decode cX5_checkPlace z.1 = .ok z.2 := by decide +kernel
set_option maxHeartbeats 4000000 in
set_option maxRecDepth 100000 in
theorem c_X5_checkPlace (l : Launch) (D : va_G) (g : Nat → ClassId) (q : Nat) (hq : q < 15) : CT l yX5_checkPlace cX5_checkPlace 1 ((Option.none : Option Jvm.ClassFile.FieldType)) ({ frames := 0, cells := 0, slots := 0, locals := 0 } : Room) [.int (nI q)] D CL (TYS g) ([]) ([]) (S := Unit) (fun _ => none) (fun _ => []) (fun _ => True) 0 0 := by
  refine ct_of (by decide +kernel) (Nat.le_of_ble_eq_true rfl) ?_
  intro p e s m below meth c A X hr hnm hSB hRO hAf
  refine g_cs (ws' := []) (lv' := [(0, .int (nI q))]) rfl rfl ?_
  refine g_run X KX5_checkPlace_0_0 KX5_checkPlace_0_0_d 1 [(0, .int (nI q))] [.int (nI q)] rfl ?_
  refine g_if_lt X 10 dX5_checkPlace_1 (by decide) (fun hc1 => ?_) (fun hc1 => ?_)
  · rw [nz_lt (by omega)] at hc1; first | omega | (simp at hc1)
  · refine g_run X KX5_checkPlace_4_1 KX5_checkPlace_4_1_d 7 [(0, .int (nI q))] [.int (nI 15), .int (nI q)] rfl ?_
    refine g_icmp_lt X 21 dX5_checkPlace_7 (by decide) (fun hc2 => ?_) (fun hc2 => ?_)
    · exact g_vret X hr () rfl (trivial) ((List.append_nil _).symm) (Nat.le_of_ble_eq_true rfl) (Nat.le_of_ble_eq_true rfl) dX5_checkPlace_21
    · rw [nI_ltI (by omega) (by omega)] at hc2; first | omega | (simp at hc2)

set_option maxHeartbeats 4000000 in
set_option maxRecDepth 100000 in
theorem x_X5_checkPlace (l : Launch) (hfl : l.stackTraces = false) (D : va_G) (g : Nat → ClassId) (x : Int32) (hx : x < 0 ∨ ¬ x < nI 15) : CX l yX5_checkPlace cX5_checkPlace 1 ((Option.none : Option Jvm.ClassFile.FieldType)) ({ frames := 6, cells := 1, slots := 6, locals := 100 } : Room) [.int x] D CL (TYS g) ([]) xIO 1 6 := by
  refine cx_of (by decide +kernel) (Nat.le_of_ble_eq_true rfl) ?_
  intro p e s m below meth c A X hnt hSB hRO hAf
  refine g_cs (ws' := []) (lv' := [(0, .int x)]) rfl rfl ?_
  refine g_run X KX5_checkPlace_0_0 KX5_checkPlace_0_0_d 1 [(0, .int x)] [.int x] rfl ?_
  refine g_if_lt X 10 dX5_checkPlace_1 (by decide) (fun hc1 => ?_) (fun hc1 => ?_)
  · exact g_throwSW (E := xIO) X hSB hfl hnt (text := "place is not 0 to 14") (names := xNm) (by decide +kernel) (by decide +kernel) w_408 w_20 (by decide +kernel) hatIO hgdIO dX5_checkPlace_10 dX5_checkPlace_13 dX5_checkPlace_14 dX5_checkPlace_17 dX5_checkPlace_20 (Nat.le_of_ble_eq_true rfl) (Nat.le_of_ble_eq_true rfl) (Nat.le_of_ble_eq_true rfl) (Nat.le_of_ble_eq_true rfl) (Nat.le_of_ble_eq_true rfl) (Nat.le_of_ble_eq_true rfl)
  · refine g_run X KX5_checkPlace_4_1 KX5_checkPlace_4_1_d 7 [(0, .int x)] [.int (nI 15), .int x] rfl ?_
    refine g_icmp_lt X 21 dX5_checkPlace_7 (by decide) (fun hc2 => ?_) (fun hc2 => ?_)
    · exact (hx.elim (fun z => absurd z (by assumption)) (fun z => absurd hc2 z))
    · exact g_throwSW (E := xIO) X hSB hfl hnt (text := "place is not 0 to 14") (names := xNm) (by decide +kernel) (by decide +kernel) w_408 w_20 (by decide +kernel) hatIO hgdIO dX5_checkPlace_10 dX5_checkPlace_13 dX5_checkPlace_14 dX5_checkPlace_17 dX5_checkPlace_20 (Nat.le_of_ble_eq_true rfl) (Nat.le_of_ble_eq_true rfl) (Nat.le_of_ble_eq_true rfl) (Nat.le_of_ble_eq_true rfl) (Nat.le_of_ble_eq_true rfl) (Nat.le_of_ble_eq_true rfl)

def KX5_checkChip_0_0 : List (Nat × Instr × Nat) := [(0, .iload_n 0, 1)]
theorem KX5_checkChip_0_0_d : ∀ z ∈ KX5_checkChip_0_0, decode cX5_checkChip z.1 = .ok z.2 := by decide +kernel
def KX5_checkChip_4_1 : List (Nat × Instr × Nat) := [(4, .iload_n 0, 1), (5, .bipush 18, 2)]
theorem KX5_checkChip_4_1_d : ∀ z ∈ KX5_checkChip_4_1, decode cX5_checkChip z.1 = .ok z.2 := by decide +kernel
set_option maxHeartbeats 4000000 in
set_option maxRecDepth 100000 in
theorem c_X5_checkChip (l : Launch) (D : va_G) (g : Nat → ClassId) (q : Nat) (hq : q < 18) : CT l yX5_checkChip cX5_checkChip 1 ((Option.none : Option Jvm.ClassFile.FieldType)) ({ frames := 0, cells := 0, slots := 0, locals := 0 } : Room) [.int (nI q)] D CL (TYS g) ([]) ([]) (S := Unit) (fun _ => none) (fun _ => []) (fun _ => True) 0 0 := by
  refine ct_of (by decide +kernel) (Nat.le_of_ble_eq_true rfl) ?_
  intro p e s m below meth c A X hr hnm hSB hRO hAf
  refine g_cs (ws' := []) (lv' := [(0, .int (nI q))]) rfl rfl ?_
  refine g_run X KX5_checkChip_0_0 KX5_checkChip_0_0_d 1 [(0, .int (nI q))] [.int (nI q)] rfl ?_
  refine g_if_lt X 10 dX5_checkChip_1 (by decide) (fun hc1 => ?_) (fun hc1 => ?_)
  · rw [nz_lt (by omega)] at hc1; first | omega | (simp at hc1)
  · refine g_run X KX5_checkChip_4_1 KX5_checkChip_4_1_d 7 [(0, .int (nI q))] [.int (nI 18), .int (nI q)] rfl ?_
    refine g_icmp_lt X 21 dX5_checkChip_7 (by decide) (fun hc2 => ?_) (fun hc2 => ?_)
    · exact g_vret X hr () rfl (trivial) ((List.append_nil _).symm) (Nat.le_of_ble_eq_true rfl) (Nat.le_of_ble_eq_true rfl) dX5_checkChip_21
    · rw [nI_ltI (by omega) (by omega)] at hc2; first | omega | (simp at hc2)

set_option maxHeartbeats 4000000 in
set_option maxRecDepth 100000 in
theorem x_X5_checkChip (l : Launch) (hfl : l.stackTraces = false) (D : va_G) (g : Nat → ClassId) (x : Int32) (hx : x < 0 ∨ ¬ x < nI 18) : CX l yX5_checkChip cX5_checkChip 1 ((Option.none : Option Jvm.ClassFile.FieldType)) ({ frames := 6, cells := 1, slots := 6, locals := 100 } : Room) [.int x] D CL (TYS g) ([]) xIO 1 6 := by
  refine cx_of (by decide +kernel) (Nat.le_of_ble_eq_true rfl) ?_
  intro p e s m below meth c A X hnt hSB hRO hAf
  refine g_cs (ws' := []) (lv' := [(0, .int x)]) rfl rfl ?_
  refine g_run X KX5_checkChip_0_0 KX5_checkChip_0_0_d 1 [(0, .int x)] [.int x] rfl ?_
  refine g_if_lt X 10 dX5_checkChip_1 (by decide) (fun hc1 => ?_) (fun hc1 => ?_)
  · exact g_throwSW (E := xIO) X hSB hfl hnt (text := "chip is not 0 to 17") (names := xNm) (by decide +kernel) (by decide +kernel) w_408 w_20 (by decide +kernel) hatIO hgdIO dX5_checkChip_10 dX5_checkChip_13 dX5_checkChip_14 dX5_checkChip_17 dX5_checkChip_20 (Nat.le_of_ble_eq_true rfl) (Nat.le_of_ble_eq_true rfl) (Nat.le_of_ble_eq_true rfl) (Nat.le_of_ble_eq_true rfl) (Nat.le_of_ble_eq_true rfl) (Nat.le_of_ble_eq_true rfl)
  · refine g_run X KX5_checkChip_4_1 KX5_checkChip_4_1_d 7 [(0, .int x)] [.int (nI 18), .int x] rfl ?_
    refine g_icmp_lt X 21 dX5_checkChip_7 (by decide) (fun hc2 => ?_) (fun hc2 => ?_)
    · exact (hx.elim (fun z => absurd z (by assumption)) (fun z => absurd hc2 z))
    · exact g_throwSW (E := xIO) X hSB hfl hnt (text := "chip is not 0 to 17") (names := xNm) (by decide +kernel) (by decide +kernel) w_408 w_20 (by decide +kernel) hatIO hgdIO dX5_checkChip_10 dX5_checkChip_13 dX5_checkChip_14 dX5_checkChip_17 dX5_checkChip_20 (Nat.le_of_ble_eq_true rfl) (Nat.le_of_ble_eq_true rfl) (Nat.le_of_ble_eq_true rfl) (Nat.le_of_ble_eq_true rfl) (Nat.le_of_ble_eq_true rfl) (Nat.le_of_ble_eq_true rfl)

def KX5_checkFrame_0_0 : List (Nat × Instr × Nat) := [(0, .iload_n 0, 1)]
theorem KX5_checkFrame_0_0_d : ∀ z ∈ KX5_checkFrame_0_0, decode cX5_checkFrame z.1 = .ok z.2 := by decide +kernel
def KX5_checkFrame_4_1 : List (Nat × Instr × Nat) := [(4, .iload_n 0, 1), (5, .iconst 4, 1)]
theorem KX5_checkFrame_4_1_d : ∀ z ∈ KX5_checkFrame_4_1, decode cX5_checkFrame z.1 = .ok z.2 := by decide +kernel
set_option maxHeartbeats 4000000 in
set_option maxRecDepth 100000 in
theorem c_X5_checkFrame (l : Launch) (D : va_G) (g : Nat → ClassId) (q : Nat) (hq : q < 4) : CT l yX5_checkFrame cX5_checkFrame 1 ((Option.none : Option Jvm.ClassFile.FieldType)) ({ frames := 0, cells := 0, slots := 0, locals := 0 } : Room) [.int (nI q)] D CL (TYS g) ([]) ([]) (S := Unit) (fun _ => none) (fun _ => []) (fun _ => True) 0 0 := by
  refine ct_of (by decide +kernel) (Nat.le_of_ble_eq_true rfl) ?_
  intro p e s m below meth c A X hr hnm hSB hRO hAf
  refine g_cs (ws' := []) (lv' := [(0, .int (nI q))]) rfl rfl ?_
  refine g_run X KX5_checkFrame_0_0 KX5_checkFrame_0_0_d 1 [(0, .int (nI q))] [.int (nI q)] rfl ?_
  refine g_if_lt X 9 dX5_checkFrame_1 (by decide) (fun hc1 => ?_) (fun hc1 => ?_)
  · rw [nz_lt (by omega)] at hc1; first | omega | (simp at hc1)
  · refine g_run X KX5_checkFrame_4_1 KX5_checkFrame_4_1_d 6 [(0, .int (nI q))] [.int (nI 4), .int (nI q)] rfl ?_
    refine g_icmp_lt X 20 dX5_checkFrame_6 (by decide) (fun hc2 => ?_) (fun hc2 => ?_)
    · exact g_vret X hr () rfl (trivial) ((List.append_nil _).symm) (Nat.le_of_ble_eq_true rfl) (Nat.le_of_ble_eq_true rfl) dX5_checkFrame_20
    · rw [nI_ltI (by omega) (by omega)] at hc2; first | omega | (simp at hc2)

set_option maxHeartbeats 4000000 in
set_option maxRecDepth 100000 in
theorem x_X5_checkFrame (l : Launch) (hfl : l.stackTraces = false) (D : va_G) (g : Nat → ClassId) (x : Int32) (hx : x < 0 ∨ ¬ x < nI 4) : CX l yX5_checkFrame cX5_checkFrame 1 ((Option.none : Option Jvm.ClassFile.FieldType)) ({ frames := 6, cells := 1, slots := 6, locals := 100 } : Room) [.int x] D CL (TYS g) ([]) xIO 1 6 := by
  refine cx_of (by decide +kernel) (Nat.le_of_ble_eq_true rfl) ?_
  intro p e s m below meth c A X hnt hSB hRO hAf
  refine g_cs (ws' := []) (lv' := [(0, .int x)]) rfl rfl ?_
  refine g_run X KX5_checkFrame_0_0 KX5_checkFrame_0_0_d 1 [(0, .int x)] [.int x] rfl ?_
  refine g_if_lt X 9 dX5_checkFrame_1 (by decide) (fun hc1 => ?_) (fun hc1 => ?_)
  · exact g_throwSW (E := xIO) X hSB hfl hnt (text := "frame is not 0 to 3") (names := xNm) (by decide +kernel) (by decide +kernel) w_408 w_20 (by decide +kernel) hatIO hgdIO dX5_checkFrame_9 dX5_checkFrame_12 dX5_checkFrame_13 dX5_checkFrame_16 dX5_checkFrame_19 (Nat.le_of_ble_eq_true rfl) (Nat.le_of_ble_eq_true rfl) (Nat.le_of_ble_eq_true rfl) (Nat.le_of_ble_eq_true rfl) (Nat.le_of_ble_eq_true rfl) (Nat.le_of_ble_eq_true rfl)
  · refine g_run X KX5_checkFrame_4_1 KX5_checkFrame_4_1_d 6 [(0, .int x)] [.int (nI 4), .int x] rfl ?_
    refine g_icmp_lt X 20 dX5_checkFrame_6 (by decide) (fun hc2 => ?_) (fun hc2 => ?_)
    · exact (hx.elim (fun z => absurd z (by assumption)) (fun z => absurd hc2 z))
    · exact g_throwSW (E := xIO) X hSB hfl hnt (text := "frame is not 0 to 3") (names := xNm) (by decide +kernel) (by decide +kernel) w_408 w_20 (by decide +kernel) hatIO hgdIO dX5_checkFrame_9 dX5_checkFrame_12 dX5_checkFrame_13 dX5_checkFrame_16 dX5_checkFrame_19 (Nat.le_of_ble_eq_true rfl) (Nat.le_of_ble_eq_true rfl) (Nat.le_of_ble_eq_true rfl) (Nat.le_of_ble_eq_true rfl) (Nat.le_of_ble_eq_true rfl) (Nat.le_of_ble_eq_true rfl)

def KX5_checkElement_0_0 : List (Nat × Instr × Nat) := [(0, .iload_n 0, 1)]
theorem KX5_checkElement_0_0_d : ∀ z ∈ KX5_checkElement_0_0, decode cX5_checkElement z.1 = .ok z.2 := by decide +kernel
def KX5_checkElement_4_1 : List (Nat × Instr × Nat) := [(4, .iload_n 0, 1), (5, .bipush 15, 2)]
theorem KX5_checkElement_4_1_d : ∀ z ∈ KX5_checkElement_4_1, decode cX5_checkElement z.1 = .ok z.2 := by decide +kernel
set_option maxHeartbeats 4000000 in
set_option maxRecDepth 100000 in
theorem c_X5_checkElement (l : Launch) (D : va_G) (g : Nat → ClassId) (q : Nat) (hq : q < 16) : CT l yX5_checkElement cX5_checkElement 1 ((Option.none : Option Jvm.ClassFile.FieldType)) ({ frames := 0, cells := 0, slots := 0, locals := 0 } : Room) [.int (nI q)] D CL (TYS g) ([]) ([]) (S := Unit) (fun _ => none) (fun _ => []) (fun _ => True) 0 0 := by
  refine ct_of (by decide +kernel) (Nat.le_of_ble_eq_true rfl) ?_
  intro p e s m below meth c A X hr hnm hSB hRO hAf
  refine g_cs (ws' := []) (lv' := [(0, .int (nI q))]) rfl rfl ?_
  refine g_run X KX5_checkElement_0_0 KX5_checkElement_0_0_d 1 [(0, .int (nI q))] [.int (nI q)] rfl ?_
  refine g_if_lt X 10 dX5_checkElement_1 (by decide) (fun hc1 => ?_) (fun hc1 => ?_)
  · rw [nz_lt (by omega)] at hc1; first | omega | (simp at hc1)
  · refine g_run X KX5_checkElement_4_1 KX5_checkElement_4_1_d 7 [(0, .int (nI q))] [.int (nI 15), .int (nI q)] rfl ?_
    refine g_icmp_le X 21 dX5_checkElement_7 (by decide) (fun hc2 => ?_) (fun hc2 => ?_)
    · exact g_vret X hr () rfl (trivial) ((List.append_nil _).symm) (Nat.le_of_ble_eq_true rfl) (Nat.le_of_ble_eq_true rfl) dX5_checkElement_21
    · rw [nI_leI (by omega) (by omega)] at hc2; first | omega | (simp at hc2)

set_option maxHeartbeats 4000000 in
set_option maxRecDepth 100000 in
theorem x_X5_checkElement (l : Launch) (hfl : l.stackTraces = false) (D : va_G) (g : Nat → ClassId) (x : Int32) (hx : x < 0 ∨ ¬ x ≤ nI 15) : CX l yX5_checkElement cX5_checkElement 1 ((Option.none : Option Jvm.ClassFile.FieldType)) ({ frames := 6, cells := 1, slots := 6, locals := 100 } : Room) [.int x] D CL (TYS g) ([]) xIA 1 6 := by
  refine cx_of (by decide +kernel) (Nat.le_of_ble_eq_true rfl) ?_
  intro p e s m below meth c A X hnt hSB hRO hAf
  refine g_cs (ws' := []) (lv' := [(0, .int x)]) rfl rfl ?_
  refine g_run X KX5_checkElement_0_0 KX5_checkElement_0_0_d 1 [(0, .int x)] [.int x] rfl ?_
  refine g_if_lt X 10 dX5_checkElement_1 (by decide) (fun hc1 => ?_) (fun hc1 => ?_)
  · exact g_throwSW (E := xIA) X hSB hfl hnt (text := "a number is not 0 to 15") (names := xNm) (by decide +kernel) (by decide +kernel) w_333 w_21 (by decide +kernel) hatIA hgdIA dX5_checkElement_10 dX5_checkElement_13 dX5_checkElement_14 dX5_checkElement_17 dX5_checkElement_20 (Nat.le_of_ble_eq_true rfl) (Nat.le_of_ble_eq_true rfl) (Nat.le_of_ble_eq_true rfl) (Nat.le_of_ble_eq_true rfl) (Nat.le_of_ble_eq_true rfl) (Nat.le_of_ble_eq_true rfl)
  · refine g_run X KX5_checkElement_4_1 KX5_checkElement_4_1_d 7 [(0, .int x)] [.int (nI 15), .int x] rfl ?_
    refine g_icmp_le X 21 dX5_checkElement_7 (by decide) (fun hc2 => ?_) (fun hc2 => ?_)
    · exact (hx.elim (fun z => absurd z (by assumption)) (fun z => absurd hc2 z))
    · exact g_throwSW (E := xIA) X hSB hfl hnt (text := "a number is not 0 to 15") (names := xNm) (by decide +kernel) (by decide +kernel) w_333 w_21 (by decide +kernel) hatIA hgdIA dX5_checkElement_10 dX5_checkElement_13 dX5_checkElement_14 dX5_checkElement_17 dX5_checkElement_20 (Nat.le_of_ble_eq_true rfl) (Nat.le_of_ble_eq_true rfl) (Nat.le_of_ble_eq_true rfl) (Nat.le_of_ble_eq_true rfl) (Nat.le_of_ble_eq_true rfl) (Nat.le_of_ble_eq_true rfl)

def KX5_checkElementNotZero_0_0 : List (Nat × Instr × Nat) := [(0, .iload_n 0, 1), (1, .iconst 1, 1)]
theorem KX5_checkElementNotZero_0_0_d : ∀ z ∈ KX5_checkElementNotZero_0_0, decode cX5_checkElementNotZero z.1 = .ok z.2 := by decide +kernel
def KX5_checkElementNotZero_5_1 : List (Nat × Instr × Nat) := [(5, .iload_n 0, 1), (6, .bipush 15, 2)]
theorem KX5_checkElementNotZero_5_1_d : ∀ z ∈ KX5_checkElementNotZero_5_1, decode cX5_checkElementNotZero z.1 = .ok z.2 := by decide +kernel
set_option maxHeartbeats 4000000 in
set_option maxRecDepth 100000 in
theorem c_X5_checkElementNotZero (l : Launch) (D : va_G) (g : Nat → ClassId) (q : Nat) (h1 : 1 ≤ q) (hq : q < 16) : CT l yX5_checkElementNotZero cX5_checkElementNotZero 1 ((Option.none : Option Jvm.ClassFile.FieldType)) ({ frames := 0, cells := 0, slots := 0, locals := 0 } : Room) [.int (nI q)] D CL (TYS g) ([]) ([]) (S := Unit) (fun _ => none) (fun _ => []) (fun _ => True) 0 0 := by
  refine ct_of (by decide +kernel) (Nat.le_of_ble_eq_true rfl) ?_
  intro p e s m below meth c A X hr hnm hSB hRO hAf
  refine g_cs (ws' := []) (lv' := [(0, .int (nI q))]) rfl rfl ?_
  refine g_run X KX5_checkElementNotZero_0_0 KX5_checkElementNotZero_0_0_d 2 [(0, .int (nI q))] [.int (nI 1), .int (nI q)] rfl ?_
  refine g_icmp_lt X 11 dX5_checkElementNotZero_2 (by decide) (fun hc1 => ?_) (fun hc1 => ?_)
  · rw [nI_ltI (by omega) (by omega)] at hc1; first | omega | (simp at hc1)
  · refine g_run X KX5_checkElementNotZero_5_1 KX5_checkElementNotZero_5_1_d 8 [(0, .int (nI q))] [.int (nI 15), .int (nI q)] rfl ?_
    refine g_icmp_le X 22 dX5_checkElementNotZero_8 (by decide) (fun hc2 => ?_) (fun hc2 => ?_)
    · exact g_vret X hr () rfl (trivial) ((List.append_nil _).symm) (Nat.le_of_ble_eq_true rfl) (Nat.le_of_ble_eq_true rfl) dX5_checkElementNotZero_22
    · rw [nI_leI (by omega) (by omega)] at hc2; first | omega | (simp at hc2)

set_option maxHeartbeats 4000000 in
set_option maxRecDepth 100000 in
theorem x_X5_checkElementNotZero (l : Launch) (hfl : l.stackTraces = false) (D : va_G) (g : Nat → ClassId) (x : Int32) (hx : x < nI 1 ∨ ¬ x ≤ nI 15) : CX l yX5_checkElementNotZero cX5_checkElementNotZero 1 ((Option.none : Option Jvm.ClassFile.FieldType)) ({ frames := 6, cells := 1, slots := 6, locals := 100 } : Room) [.int x] D CL (TYS g) ([]) xIA 1 6 := by
  refine cx_of (by decide +kernel) (Nat.le_of_ble_eq_true rfl) ?_
  intro p e s m below meth c A X hnt hSB hRO hAf
  refine g_cs (ws' := []) (lv' := [(0, .int x)]) rfl rfl ?_
  refine g_run X KX5_checkElementNotZero_0_0 KX5_checkElementNotZero_0_0_d 2 [(0, .int x)] [.int (nI 1), .int x] rfl ?_
  refine g_icmp_lt X 11 dX5_checkElementNotZero_2 (by decide) (fun hc1 => ?_) (fun hc1 => ?_)
  · exact g_throwSW (E := xIA) X hSB hfl hnt (text := "a number is not 1 to 15") (names := xNm) (by decide +kernel) (by decide +kernel) w_333 w_21 (by decide +kernel) hatIA hgdIA dX5_checkElementNotZero_11 dX5_checkElementNotZero_14 dX5_checkElementNotZero_15 dX5_checkElementNotZero_18 dX5_checkElementNotZero_21 (Nat.le_of_ble_eq_true rfl) (Nat.le_of_ble_eq_true rfl) (Nat.le_of_ble_eq_true rfl) (Nat.le_of_ble_eq_true rfl) (Nat.le_of_ble_eq_true rfl) (Nat.le_of_ble_eq_true rfl)
  · refine g_run X KX5_checkElementNotZero_5_1 KX5_checkElementNotZero_5_1_d 8 [(0, .int x)] [.int (nI 15), .int x] rfl ?_
    refine g_icmp_le X 22 dX5_checkElementNotZero_8 (by decide) (fun hc2 => ?_) (fun hc2 => ?_)
    · exact (hx.elim (fun z => absurd z (by assumption)) (fun z => absurd hc2 z))
    · exact g_throwSW (E := xIA) X hSB hfl hnt (text := "a number is not 1 to 15") (names := xNm) (by decide +kernel) (by decide +kernel) w_333 w_21 (by decide +kernel) hatIA hgdIA dX5_checkElementNotZero_11 dX5_checkElementNotZero_14 dX5_checkElementNotZero_15 dX5_checkElementNotZero_18 dX5_checkElementNotZero_21 (Nat.le_of_ble_eq_true rfl) (Nat.le_of_ble_eq_true rfl) (Nat.le_of_ble_eq_true rfl) (Nat.le_of_ble_eq_true rfl) (Nat.le_of_ble_eq_true rfl) (Nat.le_of_ble_eq_true rfl)

def KX5_checkData_0_0 : List (Nat × Instr × Nat) := [(0, .lload_n 0, 1), (1, .lconst 0, 1), (2, .lcmp, 1)]
theorem KX5_checkData_0_0_d : ∀ z ∈ KX5_checkData_0_0, decode cX5_checkData z.1 = .ok z.2 := by decide +kernel
def KX5_checkData_6_1 : List (Nat × Instr × Nat) := [(6, .lload_n 0, 1)]
theorem KX5_checkData_6_1_d : ∀ z ∈ KX5_checkData_6_1, decode cX5_checkData z.1 = .ok z.2 := by decide +kernel
def KX5_checkData_10_2 : List (Nat × Instr × Nat) := [(10, .lcmp, 1)]
theorem KX5_checkData_10_2_d : ∀ z ∈ KX5_checkData_10_2, decode cX5_checkData z.1 = .ok z.2 := by decide +kernel
set_option maxHeartbeats 4000000 in
set_option maxRecDepth 100000 in
theorem c_X5_checkData (l : Launch) (D : va_G) (g : Nat → ClassId) (x : Int64) (hx : dOK x) : CT l yX5_checkData cX5_checkData 2 ((Option.none : Option Jvm.ClassFile.FieldType)) ({ frames := 0, cells := 0, slots := 0, locals := 0 } : Room) [.long x] D CL (TYS g) ([]) ([]) (S := Unit) (fun _ => none) (fun _ => []) (fun _ => True) 0 0 := by
  refine ct_of (by decide +kernel) (Nat.le_of_ble_eq_true rfl) ?_
  intro p e s m below meth c A X hr hnm hSB hRO hAf
  refine g_cs (ws' := []) (lv' := [(0, .long x)]) rfl rfl ?_
  refine g_run X KX5_checkData_0_0 KX5_checkData_0_0_d 3 [(0, .long x)] [.int (lg_cmp x (lN 0))] rfl ?_
  refine g_if_lt X 14 dX5_checkData_3 (by decide) (fun hc1 => ?_) (fun hc1 => ?_)
  · rw [lc_lt] at hc1; exact (hx.1 hc1).elim
  · refine g_run X KX5_checkData_6_1 KX5_checkData_6_1_d 7 [(0, .long x)] [.long x] rfl ?_
    refine g_ldc2 X (v := (17592186044415 : Int64)) w_508 dX5_checkData_7 ?_
    refine g_run X KX5_checkData_10_2 KX5_checkData_10_2_d 11 [(0, .long x)] [.int (lg_cmp x (17592186044415 : Int64))] rfl ?_
    refine g_if_le X 25 dX5_checkData_11 (by decide) (fun hc2 => ?_) (fun hc2 => ?_)
    · exact g_vret X hr () rfl (trivial) ((List.append_nil _).symm) (Nat.le_of_ble_eq_true rfl) (Nat.le_of_ble_eq_true rfl) dX5_checkData_25
    · rw [lc_le] at hc2; exact (hc2 hx.2).elim

set_option maxHeartbeats 4000000 in
set_option maxRecDepth 100000 in
theorem x_X5_checkData (l : Launch) (hfl : l.stackTraces = false) (D : va_G) (g : Nat → ClassId) (x : Int64) (hx : ¬ dOK x) : CX l yX5_checkData cX5_checkData 2 ((Option.none : Option Jvm.ClassFile.FieldType)) ({ frames := 6, cells := 1, slots := 6, locals := 100 } : Room) [.long x] D CL (TYS g) ([]) xIA 1 6 := by
  refine cx_of (by decide +kernel) (Nat.le_of_ble_eq_true rfl) ?_
  intro p e s m below meth c A X hnt hSB hRO hAf
  refine g_cs (ws' := []) (lv' := [(0, .long x)]) rfl rfl ?_
  refine g_run X KX5_checkData_0_0 KX5_checkData_0_0_d 3 [(0, .long x)] [.int (lg_cmp x (lN 0))] rfl ?_
  refine g_if_lt X 14 dX5_checkData_3 (by decide) (fun hc1 => ?_) (fun hc1 => ?_)
  · exact g_throwSW (E := xIA) X hSB hfl hnt (text := "data is not 0 to 2^44 - 1") (names := xNm) (by decide +kernel) (by decide +kernel) w_333 w_21 (by decide +kernel) hatIA hgdIA dX5_checkData_14 dX5_checkData_17 dX5_checkData_18 dX5_checkData_21 dX5_checkData_24 (Nat.le_of_ble_eq_true rfl) (Nat.le_of_ble_eq_true rfl) (Nat.le_of_ble_eq_true rfl) (Nat.le_of_ble_eq_true rfl) (Nat.le_of_ble_eq_true rfl) (Nat.le_of_ble_eq_true rfl)
  · rw [lc_lt] at hc1; have h0 := hc1
    refine g_run X KX5_checkData_6_1 KX5_checkData_6_1_d 7 [(0, .long x)] [.long x] rfl ?_
    refine g_ldc2 X (v := (17592186044415 : Int64)) w_508 dX5_checkData_7 ?_
    refine g_run X KX5_checkData_10_2 KX5_checkData_10_2_d 11 [(0, .long x)] [.int (lg_cmp x (17592186044415 : Int64))] rfl ?_
    refine g_if_le X 25 dX5_checkData_11 (by decide) (fun hc2 => ?_) (fun hc2 => ?_)
    · rw [lc_le] at hc2; exact (hx ⟨h0, hc2⟩).elim
    · exact g_throwSW (E := xIA) X hSB hfl hnt (text := "data is not 0 to 2^44 - 1") (names := xNm) (by decide +kernel) (by decide +kernel) w_333 w_21 (by decide +kernel) hatIA hgdIA dX5_checkData_14 dX5_checkData_17 dX5_checkData_18 dX5_checkData_21 dX5_checkData_24 (Nat.le_of_ble_eq_true rfl) (Nat.le_of_ble_eq_true rfl) (Nat.le_of_ble_eq_true rfl) (Nat.le_of_ble_eq_true rfl) (Nat.le_of_ble_eq_true rfl) (Nat.le_of_ble_eq_true rfl)

