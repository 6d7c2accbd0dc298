/-! the bank, asked -/
def KX9_bankNow_0_0 : List (Nat × Instr × Nat) := [(0, .iload_n 1, 1)]
theorem KX9_bankNow_0_0_d : ∀ z ∈ KX9_bankNow_0_0, decode cX9_bankNow z.1 = .ok z.2 := by decide +kernel
def KX9_bankNow_64_1 : List (Nat × Instr × Nat) := [(64, .aload_n 0, 1)]
theorem KX9_bankNow_64_1_d : ∀ z ∈ KX9_bankNow_64_1, decode cX9_bankNow z.1 = .ok z.2 := by decide +kernel
def KX9_bankNow_69_2 : List (Nat × Instr × Nat) := [(69, .aload_n 0, 1)]
theorem KX9_bankNow_69_2_d : ∀ z ∈ KX9_bankNow_69_2, decode cX9_bankNow z.1 = .ok z.2 := by decide +kernel
def KX9_bankNow_74_3 : List (Nat × Instr × Nat) := [(74, .aload_n 0, 1)]
theorem KX9_bankNow_74_3_d : ∀ z ∈ KX9_bankNow_74_3, decode cX9_bankNow z.1 = .ok z.2 := by decide +kernel
def KX9_bankNow_79_4 : List (Nat × Instr × Nat) := [(79, .aload_n 0, 1)]
theorem KX9_bankNow_79_4_d : ∀ z ∈ KX9_bankNow_79_4, decode cX9_bankNow z.1 = .ok z.2 := by decide +kernel
def KX9_bankNow_84_5 : List (Nat × Instr × Nat) := [(84, .aload_n 0, 1)]
theorem KX9_bankNow_84_5_d : ∀ z ∈ KX9_bankNow_84_5, decode cX9_bankNow z.1 = .ok z.2 := by decide +kernel
def KX9_bankNow_92_6 : List (Nat × Instr × Nat) := [(92, .aload_n 0, 1)]
theorem KX9_bankNow_92_6_d : ∀ z ∈ KX9_bankNow_92_6, decode cX9_bankNow z.1 = .ok z.2 := by decide +kernel
def KX9_bankNow_97_7 : List (Nat × Instr × Nat) := [(97, .aload_n 0, 1)]
theorem KX9_bankNow_97_7_d : ∀ z ∈ KX9_bankNow_97_7, decode cX9_bankNow z.1 = .ok z.2 := by decide +kernel
def KX9_bankNow_102_8 : List (Nat × Instr × Nat) := [(102, .aload_n 0, 1)]
theorem KX9_bankNow_102_8_d : ∀ z ∈ KX9_bankNow_102_8, decode cX9_bankNow z.1 = .ok z.2 := by decide +kernel
def KX9_bankNow_107_9 : List (Nat × Instr × Nat) := [(107, .aload_n 0, 1)]
theorem KX9_bankNow_107_9_d : ∀ z ∈ KX9_bankNow_107_9, decode cX9_bankNow z.1 = .ok z.2 := by decide +kernel
def KX9_bankNow_112_10 : List (Nat × Instr × Nat) := [(112, .aload_n 0, 1)]
theorem KX9_bankNow_112_10_d : ∀ z ∈ KX9_bankNow_112_10, decode cX9_bankNow z.1 = .ok z.2 := by decide +kernel
def KX9_bankNow_117_11 : List (Nat × Instr × Nat) := [(117, .iload_n 2, 1)]
theorem KX9_bankNow_117_11_d : ∀ z ∈ KX9_bankNow_117_11, decode cX9_bankNow z.1 = .ok z.2 := by decide +kernel
def KX9_bankNow_119_12 : List (Nat × Instr × Nat) := [(119, .aload_n 0, 1)]
theorem KX9_bankNow_119_12_d : ∀ z ∈ KX9_bankNow_119_12, decode cX9_bankNow z.1 = .ok z.2 := by decide +kernel
set_option maxHeartbeats 4000000 in
set_option maxRecDepth 100000 in
theorem c_X9_bankNow (l : Launch) (D : va_G) (g : Nat → ClassId) (ad : Nat → Nat) (I : Nat → Nat → Int32) (L : Nat → Nat → Int64) (S : Nat → Nat) (Z : Nat → Nat → Int32) (Y : Int64) (w : Nat) (y : Int32) (hS18 : ∀ p, p < 15 → S p < 18) (hsp : nI (spn I 18) = nI 18 - I 8 5) (hw : w < 12) (hne : w ≠ 10) : CT l yX9_bankNow cX9_bankNow 3 ((Option.some FieldType.int)) ({ frames := 4, cells := 0, slots := 0, locals := 86 } : Room) [.ref (ad 0), .int (nI w), .int y] D CL (TYS g) ([]) (WM ad g I L S Z Y) (S := Unit) (fun _ => some (.int (bkV I L S w))) (fun _ => WM ad g I L S Z Y) (fun _ => True) 0 0 := by
  refine ct_of (by decide +kernel) (Nat.le_of_ble_eq_true rfl) ?_
  intro p e s m below meth c A X hr hnm hSB hRO hAf
  refine g_cs (ws' := WM ad g I L S Z Y ++ []) (lv' := [(0, .ref (ad 0)), (1, .int (nI w)), (2, .int y)]) (List.append_nil _) rfl ?_
  refine g_run X KX9_bankNow_0_0 KX9_bankNow_0_0_d 1 [(0, .ref (ad 0)), (1, .int (nI w)), (2, .int y)] [.int (nI w)] rfl ?_
  rcases (show w = 0 ∨ w = 1 ∨ w = 2 ∨ w = 3 ∨ w = 4 ∨ w = 5 ∨ w = 6 ∨ w = 7 ∨ w = 8 ∨ w = 9 ∨ w = 10 ∨ w = 11 by omega) with rfl | rfl | rfl | rfl | rfl | rfl | rfl | rfl | rfl | rfl | rfl | rfl
  · refine g_swIn X 64 dX9_bankNow_1 (by decide +kernel) (by decide +kernel) (off := 63) (by decide +kernel) (by decide) ?_
    refine g_run X KX9_bankNow_64_1 KX9_bankNow_64_1_d 65 [(0, .ref (ad 0)), (1, .int (nI 0)), (2, .int y)] [.ref (ad 0)] rfl ?_
    refine g_get X srcW (v := .int (I 8 2)) hinX9 rfl 12 (by decide) w_1192 rfl (wm_mem (k := 0) (by decide)) rfl dX9_bankNow_65 ?_
    exact g_iret X hr () (by show some (Value.int _) = some (Value.int _); rw [bkV]) (trivial) (rfl) (Nat.le_of_ble_eq_true rfl) (Nat.le_of_ble_eq_true rfl) dX9_bankNow_68
  · refine g_swIn X 69 dX9_bankNow_1 (by decide +kernel) (by decide +kernel) (off := 68) (by decide +kernel) (by decide) ?_
    refine g_run X KX9_bankNow_69_2 KX9_bankNow_69_2_d 70 [(0, .ref (ad 0)), (1, .int (nI 1)), (2, .int y)] [.ref (ad 0)] rfl ?_
    refine g_get X srcW (v := .int (I 8 3)) hinX9 rfl 13 (by decide) w_1193 rfl (wm_mem (k := 0) (by decide)) rfl dX9_bankNow_70 ?_
    exact g_iret X hr () (by show some (Value.int _) = some (Value.int _); rw [bkV]) (trivial) (rfl) (Nat.le_of_ble_eq_true rfl) (Nat.le_of_ble_eq_true rfl) dX9_bankNow_73
  · refine g_swIn X 74 dX9_bankNow_1 (by decide +kernel) (by decide +kernel) (off := 73) (by decide +kernel) (by decide) ?_
    refine g_run X KX9_bankNow_74_3 KX9_bankNow_74_3_d 75 [(0, .ref (ad 0)), (1, .int (nI 2)), (2, .int y)] [.ref (ad 0)] rfl ?_
    refine g_get X srcW (v := .int (I 8 4)) hinX9 rfl 14 (by decide) w_1194 rfl (wm_mem (k := 0) (by decide)) rfl dX9_bankNow_75 ?_
    exact g_iret X hr () (by show some (Value.int _) = some (Value.int _); rw [bkV]) (trivial) (rfl) (Nat.le_of_ble_eq_true rfl) (Nat.le_of_ble_eq_true rfl) dX9_bankNow_78
  · refine g_swIn X 79 dX9_bankNow_1 (by decide +kernel) (by decide +kernel) (off := 78) (by decide +kernel) (by decide) ?_
    refine g_run X KX9_bankNow_79_4 KX9_bankNow_79_4_d 80 [(0, .ref (ad 0)), (1, .int (nI 3)), (2, .int y)] [.ref (ad 0)] rfl ?_
    refine g_callV X hSB hAf (srcW) (hrc1 := (rfl : CL[8]? = some _)) (wm_mem (k := 0) (by decide)) rfl (As := []) (wr := []) (n := 0) (c_X9_spares l D g ad I L S Z Y ) rfl srcN hrdN w_1348 w_1345 w_1347 w_s24 w_6 (by decide +kernel) rfl ⟨Nat.le_of_ble_eq_true rfl, Nat.le_of_ble_eq_true rfl⟩ rfl rfl rfl (Nat.le_of_ble_eq_true rfl) ⟨Nat.le_of_ble_eq_true rfl, Nat.le_of_ble_eq_true rfl⟩ dX9_bankNow_80 (fun hu1 _ => ?_)
    refine g_af (ws' := WM ad g I L S Z Y ++ []) (st' := [.int (nI (spn I 18))]) (cells' := 0) (slots' := 0) (pc' := 83) rfl rfl rfl rfl rfl ?_
    exact g_iret X hr () (by show some (Value.int _) = some (Value.int _); first | (rw [hsp]; done) | (rw [hsp]; rfl)) (trivial) (rfl) (Nat.le_of_ble_eq_true rfl) (Nat.le_of_ble_eq_true rfl) dX9_bankNow_83
  · refine g_swIn X 84 dX9_bankNow_1 (by decide +kernel) (by decide +kernel) (off := 83) (by decide +kernel) (by decide) ?_
    refine g_run X KX9_bankNow_84_5 KX9_bankNow_84_5_d 85 [(0, .ref (ad 0)), (1, .int (nI 4)), (2, .int y)] [.ref (ad 0)] rfl ?_
    refine g_callV X hSB hAf (srcW) (hrc1 := (rfl : CL[8]? = some _)) (wm_mem (k := 0) (by decide)) rfl (As := []) (wr := []) (n := 0) (c_X9_erased l D g ad I L S Z Y (hS18)) rfl srcN hrdN w_1339 w_1336 w_1338 w_s23 w_6 (by decide +kernel) rfl ⟨Nat.le_of_ble_eq_true rfl, Nat.le_of_ble_eq_true rfl⟩ rfl rfl rfl (Nat.le_of_ble_eq_true rfl) ⟨Nat.le_of_ble_eq_true rfl, Nat.le_of_ble_eq_true rfl⟩ dX9_bankNow_85 (fun hu2 _ => ?_)
    refine g_af (ws' := WM ad g I L S Z Y ++ []) (st' := [.int (nI (ers I S 15))]) (cells' := 0) (slots' := 0) (pc' := 88) rfl rfl rfl rfl rfl ?_
    refine g_callS X hSB hAf (As := [.int (nI (ers I S 15))]) (wr := WM ad g I L S Z Y ++ []) (n := 1) (c_J6_bitCount_0f7a4 l D g (ers I S 15) (ers_lt _ _ _)) rfl srcN hrdN w_259 w_1340 w_258 w_24 (by decide +kernel) rfl ⟨Nat.le_of_ble_eq_true rfl, Nat.le_of_ble_eq_true rfl⟩ rfl rfl rfl (Nat.le_of_ble_eq_true rfl) ⟨Nat.le_of_ble_eq_true rfl, Nat.le_of_ble_eq_true rfl⟩ dX9_bankNow_88 (fun hu3 _ => ?_)
    refine g_af (ws' := WM ad g I L S Z Y ++ []) (st' := [.int (nI (pcn (ers I S 15) 15))]) (cells' := 0) (slots' := 0) (pc' := 91) rfl rfl rfl rfl rfl ?_
    exact g_iret X hr () (by show some (Value.int _) = some (Value.int _); rw [bkV]) (trivial) (rfl) (Nat.le_of_ble_eq_true rfl) (Nat.le_of_ble_eq_true rfl) dX9_bankNow_91
  · refine g_swIn X 92 dX9_bankNow_1 (by decide +kernel) (by decide +kernel) (off := 91) (by decide +kernel) (by decide) ?_
    refine g_run X KX9_bankNow_92_6 KX9_bankNow_92_6_d 93 [(0, .ref (ad 0)), (1, .int (nI 5)), (2, .int y)] [.ref (ad 0)] rfl ?_
    refine g_callV X hSB hAf (srcW) (hrc1 := (rfl : CL[8]? = some _)) (wm_mem (k := 0) (by decide)) rfl (As := []) (wr := []) (n := 0) (c_X9_out l D g ad I L S Z Y ) rfl srcN hrdN w_1504 w_1501 w_1503 w_s39 w_6 (by decide +kernel) rfl ⟨Nat.le_of_ble_eq_true rfl, Nat.le_of_ble_eq_true rfl⟩ rfl rfl rfl (Nat.le_of_ble_eq_true rfl) ⟨Nat.le_of_ble_eq_true rfl, Nat.le_of_ble_eq_true rfl⟩ dX9_bankNow_93 (fun hu4 _ => ?_)
    refine g_af (ws' := WM ad g I L S Z Y ++ []) (st' := [.int (nI (outs I 18))]) (cells' := 0) (slots' := 0) (pc' := 96) rfl rfl rfl rfl rfl ?_
    exact g_iret X hr () (by show some (Value.int _) = some (Value.int _); rw [bkV]) (trivial) (rfl) (Nat.le_of_ble_eq_true rfl) (Nat.le_of_ble_eq_true rfl) dX9_bankNow_96
  · refine g_swIn X 97 dX9_bankNow_1 (by decide +kernel) (by decide +kernel) (off := 96) (by decide +kernel) (by decide) ?_
    refine g_run X KX9_bankNow_97_7 KX9_bankNow_97_7_d 98 [(0, .ref (ad 0)), (1, .int (nI 6)), (2, .int y)] [.ref (ad 0)] rfl ?_
    refine g_get X srcW (v := .int (I 8 1)) hinX9 rfl 10 (by decide) w_1190 rfl (wm_mem (k := 0) (by decide)) rfl dX9_bankNow_98 ?_
    exact g_iret X hr () (by show some (Value.int _) = some (Value.int _); rw [bkV]) (trivial) (rfl) (Nat.le_of_ble_eq_true rfl) (Nat.le_of_ble_eq_true rfl) dX9_bankNow_101
  · refine g_swIn X 102 dX9_bankNow_1 (by decide +kernel) (by decide +kernel) (off := 101) (by decide +kernel) (by decide) ?_
    refine g_run X KX9_bankNow_102_8 KX9_bankNow_102_8_d 103 [(0, .ref (ad 0)), (1, .int (nI 7)), (2, .int y)] [.ref (ad 0)] rfl ?_
    refine g_get X srcW (v := .int (I 8 6)) hinX9 rfl 15 (by decide) w_1195 rfl (wm_mem (k := 0) (by decide)) rfl dX9_bankNow_103 ?_
    exact g_iret X hr () (by show some (Value.int _) = some (Value.int _); rw [bkV]) (trivial) (rfl) (Nat.le_of_ble_eq_true rfl) (Nat.le_of_ble_eq_true rfl) dX9_bankNow_106
  · refine g_swIn X 107 dX9_bankNow_1 (by decide +kernel) (by decide +kernel) (off := 106) (by decide +kernel) (by decide) ?_
    refine g_run X KX9_bankNow_107_9 KX9_bankNow_107_9_d 108 [(0, .ref (ad 0)), (1, .int (nI 8)), (2, .int y)] [.ref (ad 0)] rfl ?_
    refine g_get X srcW (v := .int (I 8 7)) hinX9 rfl 16 (by decide) w_1196 rfl (wm_mem (k := 0) (by decide)) rfl dX9_bankNow_108 ?_
    exact g_iret X hr () (by show some (Value.int _) = some (Value.int _); rw [bkV]) (trivial) (rfl) (Nat.le_of_ble_eq_true rfl) (Nat.le_of_ble_eq_true rfl) dX9_bankNow_111
  · refine g_swIn X 112 dX9_bankNow_1 (by decide +kernel) (by decide +kernel) (off := 111) (by decide +kernel) (by decide) ?_
    refine g_run X KX9_bankNow_112_10 KX9_bankNow_112_10_d 113 [(0, .ref (ad 0)), (1, .int (nI 9)), (2, .int y)] [.ref (ad 0)] rfl ?_
    refine g_callV X hSB hAf (srcW) (hrc1 := (rfl : CL[8]? = some _)) (wm_mem (k := 0) (by decide)) rfl (As := []) (wr := []) (n := 0) (c_X9_dirty l D g ad I L S Z Y ) rfl srcN hrdN w_1420 w_1417 w_1419 w_s32 w_6 (by decide +kernel) rfl ⟨Nat.le_of_ble_eq_true rfl, Nat.le_of_ble_eq_true rfl⟩ rfl rfl rfl (Nat.le_of_ble_eq_true rfl) ⟨Nat.le_of_ble_eq_true rfl, Nat.le_of_ble_eq_true rfl⟩ dX9_bankNow_113 (fun hu5 _ => ?_)
    refine g_af (ws' := WM ad g I L S Z Y ++ []) (st' := [.int (nI (dirt I 4))]) (cells' := 0) (slots' := 0) (pc' := 116) rfl rfl rfl rfl rfl ?_
    exact g_iret X hr () (by show some (Value.int _) = some (Value.int _); rw [bkV]) (trivial) (rfl) (Nat.le_of_ble_eq_true rfl) (Nat.le_of_ble_eq_true rfl) dX9_bankNow_116
  · refine g_swIn X 117 dX9_bankNow_1 (by decide +kernel) (by decide +kernel) (off := 116) (by decide +kernel) (by decide) ?_
    refine g_run X KX9_bankNow_117_11 KX9_bankNow_117_11_d 118 [(0, .ref (ad 0)), (1, .int (nI 10)), (2, .int y)] [.int y] rfl ?_
    exact g_iret X hr () (absurd rfl hne) (trivial) (rfl) (Nat.le_of_ble_eq_true rfl) (Nat.le_of_ble_eq_true rfl) dX9_bankNow_118
  · refine g_swIn X 119 dX9_bankNow_1 (by decide +kernel) (by decide +kernel) (off := 118) (by decide +kernel) (by decide) ?_
    refine g_run X KX9_bankNow_119_12 KX9_bankNow_119_12_d 120 [(0, .ref (ad 0)), (1, .int (nI 11)), (2, .int y)] [.ref (ad 0)] rfl ?_
    refine g_get X srcW (v := .int (I 8 0)) hinX9 rfl 9 (by decide) w_1189 rfl (wm_mem (k := 0) (by decide)) rfl dX9_bankNow_120 ?_
    exact g_iret X hr () (by show some (Value.int _) = some (Value.int _); rw [bkV]) (trivial) (rfl) (Nat.le_of_ble_eq_true rfl) (Nat.le_of_ble_eq_true rfl) dX9_bankNow_123

set_option maxHeartbeats 4000000 in
set_option maxRecDepth 100000 in
theorem c_X9_bankNow_b (l : Launch) (D : va_G) (g : Nat → ClassId) (ad : Nat → Nat) (I : Nat → Nat → Int32) (L : Nat → Nat → Int64) (S : Nat → Nat) (Z : Nat → Nat → Int32) (Y : Int64) (y : Int32) : CT l yX9_bankNow cX9_bankNow 3 ((Option.some FieldType.int)) ({ frames := 0, cells := 0, slots := 0, locals := 0 } : Room) [.ref (ad 0), .int (nI 10), .int y] D CL (TYS g) ([]) (WM ad g I L S Z Y) (S := Unit) (fun _ => some (.int y)) (fun _ => WM ad g I L S Z Y) (fun _ => True) 0 0 := by
  refine ct_of (by decide +kernel) (Nat.le_of_ble_eq_true rfl) ?_
  intro p e s m below meth c A X hr hnm hSB hRO hAf
  refine g_cs (ws' := WM ad g I L S Z Y ++ []) (lv' := [(0, .ref (ad 0)), (1, .int (nI 10)), (2, .int y)]) (List.append_nil _) rfl ?_
  refine g_run X KX9_bankNow_0_0 KX9_bankNow_0_0_d 1 [(0, .ref (ad 0)), (1, .int (nI 10)), (2, .int y)] [.int (nI 10)] rfl ?_
  refine g_swIn X 117 dX9_bankNow_1 (by decide +kernel) (by decide +kernel) (off := 116) (by decide +kernel) (by decide) ?_
  refine g_run X KX9_bankNow_117_11 KX9_bankNow_117_11_d 118 [(0, .ref (ad 0)), (1, .int (nI 10)), (2, .int y)] [.int y] rfl ?_
  exact g_iret X hr () (rfl) (trivial) (rfl) (Nat.le_of_ble_eq_true rfl) (Nat.le_of_ble_eq_true rfl) dX9_bankNow_118

def KX9_bankNow_124_13 : List (Nat × Instr × Nat) := [(124, .aload_n 0, 1)]
theorem KX9_bankNow_124_13_d : ∀ z ∈ KX9_bankNow_124_13, decode cX9_bankNow z.1 = .ok z.2 := by decide +kernel
set_option maxHeartbeats 4000000 in
set_option maxRecDepth 100000 in
theorem c_X9_bankNow_d (l : Launch) (D : va_G) (g : Nat → ClassId) (ad : Nat → Nat) (I : Nat → Nat → Int32) (L : Nat → Nat → Int64) (S : Nat → Nat) (Z : Nat → Nat → Int32) (Y : Int64) (y : Int32) : CT l yX9_bankNow cX9_bankNow 3 ((Option.some FieldType.int)) ({ frames := 0, cells := 0, slots := 0, locals := 0 } : Room) [.ref (ad 0), .int (nI 12), .int y] D CL (TYS g) ([]) (WM ad g I L S Z Y) (S := Unit) (fun _ => some (.int (bkV I L S 12))) (fun _ => WM ad g I L S Z Y) (fun _ => True) 0 0 := by
  refine ct_of (by decide +kernel) (Nat.le_of_ble_eq_true rfl) ?_
  intro p e s m below meth c A X hr hnm hSB hRO hAf
  refine g_cs (ws' := WM ad g I L S Z Y ++ []) (lv' := [(0, .ref (ad 0)), (1, .int (nI 12)), (2, .int y)]) (List.append_nil _) rfl ?_
  refine g_run X KX9_bankNow_0_0 KX9_bankNow_0_0_d 1 [(0, .ref (ad 0)), (1, .int (nI 12)), (2, .int y)] [.int (nI 12)] rfl ?_
  refine g_swOut X 124 dX9_bankNow_1 (Or.inr (by decide +kernel)) (by decide) ?_
  refine g_run X KX9_bankNow_124_13 KX9_bankNow_124_13_d 125 [(0, .ref (ad 0)), (1, .int (nI 12)), (2, .int y)] [.ref (ad 0)] rfl ?_
  refine g_get X srcW (v := .int (I 8 9)) hinX9 rfl 17 (by decide) w_1197 rfl (wm_mem (k := 0) (by decide)) rfl dX9_bankNow_125 ?_
  exact g_iret X hr () (rfl) (trivial) (rfl) (Nat.le_of_ble_eq_true rfl) (Nat.le_of_ble_eq_true rfl) dX9_bankNow_128

