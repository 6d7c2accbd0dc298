def KX9_bank_0_0 : List (Nat × Instr × Nat) := [(0, .aload_n 0, 1), (1, .iconst 0, 1)]
theorem KX9_bank_0_0_d : ∀ z ∈ KX9_bank_0_0, decode cX9_bank z.1 = .ok z.2 := by decide +kernel
def KX9_bank_5_1 : List (Nat × Instr × Nat) := [(5, .iload_n 1, 1), (6, .iconst 0, 1), (7, .bipush 12, 2)]
theorem KX9_bank_5_1_d : ∀ z ∈ KX9_bank_5_1, decode cX9_bank z.1 = .ok z.2 := by decide +kernel
def KX9_bank_15_2 : List (Nat × Instr × Nat) := [(15, .aload_n 0, 1), (16, .iload_n 1, 1), (17, .iload_n 1, 1), (18, .bipush 10, 2)]
theorem KX9_bank_15_2_d : ∀ z ∈ KX9_bank_15_2, decode cX9_bank z.1 = .ok z.2 := by decide +kernel
def KX9_bank_30_3 : List (Nat × Instr × Nat) := [(30, .iconst 0, 1)]
theorem KX9_bank_30_3_d : ∀ z ∈ KX9_bank_30_3, decode cX9_bank z.1 = .ok z.2 := by decide +kernel
def KX9_bank_34_4 : List (Nat × Instr × Nat) := [(34, .goto 8, 3)]
theorem KX9_bank_34_4_d : ∀ z ∈ KX9_bank_34_4, decode cX9_bank z.1 = .ok z.2 := by decide +kernel
set_option maxHeartbeats 4000000 in
set_option maxRecDepth 100000 in
theorem c_X9_bank (l : Launch) (D : va_G) (g : Nat → ClassId) (ad : Nat → Nat) (I : Nat → Nat → Int32) (L : Nat → Nat → Int64) (S : Nat → Nat) (Z : Nat → Nat → Int32) (Y : Int64) (w : Nat) (R : Nat → Nat) (hR : R16 R) (hZ : Z 0 = fun j => nI (R j)) (hS18 : ∀ p, p < 15 → S p < 18) (hK : kOK I) (hsp : nI (spn I 18) = nI 18 - I 8 5) (hw : w < 12) (hne : w ≠ 10) : CT l yX9_bank cX9_bank 2 ((Option.some FieldType.int)) ({ frames := 5, cells := 16, slots := 240, locals := 108 } : Room) [.ref (ad 0), .int (nI w)] D CL (TYS g) ([]) (WM ad g I L S Z Y) (S := (Nat → Nat) × (Nat → Int32) × (Nat → Int32)) (fun _ => some (.int (bkV I L S w))) (fun u => WM ad g I L S (z4 (u2 Z 3 0 (nI 0)) u.1 u.2.1 u.2.2) Y) (fun u => R16 u.1) 16 240 := by
  refine ct_of (by decide +kernel) (Nat.le_of_ble_eq_true rfl) ?_
  intro p e s m below meth c A X hr hnm hSB hRO hAf
  refine g_cs (ws' := WM ad g I L S (z4 Z R (Z 1) (Z 2)) Y ++ []) (lv' := [(0, .ref (ad 0)), (1, .int (nI w))]) (by rw [z4_e hZ]; exact List.append_nil _) rfl ?_
  refine g_run X KX9_bank_0_0 KX9_bank_0_0_d 2 [(0, .ref (ad 0)), (1, .int (nI w))] [.int (nI 0), .ref (ad 0)] rfl ?_
  refine g_put X (ws' := WM ad g I L S (z4 (u2 Z 3 0 (nI 0)) R (Z 1) (Z 2)) Y ++ []) hinX9 tyX9 tyX9_ok nmX9 rfl 0 (by decide) w_1180 rfl rfl (ty := .int) rfl rfl rfl (0) (wm_get (k := 0) (by decide)) (Nat.le_of_ble_eq_true rfl) (wm_so0) dX9_bank_2 ?_
  refine g_run X KX9_bank_5_1 KX9_bank_5_1_d 9 [(0, .ref (ad 0)), (1, .int (nI w))] [.int (nI 12), .int (nI 0), .int (nI w)] rfl ?_
  refine g_callS X hSB hAf (As := [.int (nI w), .int (nI 0), .int (nI 12)]) (wr := WM ad g I L S (z4 (u2 Z 3 0 (nI 0)) R (Z 1) (Z 2)) Y ++ []) (n := 3) (c_X9_is_t l D g w 0 12 (by omega) (by omega) (by omega)) rfl srcN hrdN w_1260 w_1258 w_1259 w_6 (by decide +kernel) rfl ⟨Nat.le_of_ble_eq_true rfl, Nat.le_of_ble_eq_true rfl⟩ rfl rfl rfl (Nat.le_of_ble_eq_true rfl) ⟨Nat.le_of_ble_eq_true rfl, Nat.le_of_ble_eq_true rfl⟩ dX9_bank_9 (fun hu1 _ => ?_)
  refine g_af (ws' := WM ad g I L S (z4 (u2 Z 3 0 (nI 0)) R (Z 1) (Z 2)) Y ++ []) (st' := [.int (nI 1)]) (cells' := 0) (slots' := 0) (pc' := 12) rfl rfl rfl rfl rfl ?_
  refine g_if_eq X 37 dX9_bank_12 (by decide) (fun hc2 => ?_) (fun hc2 => ?_)
  · rw [nz_eq (by omega)] at hc2; first | omega | (simp at hc2)
  · refine g_run X KX9_bank_15_2 KX9_bank_15_2_d 20 [(0, .ref (ad 0)), (1, .int (nI w))] [.int (nI 10), .int (nI w), .int (nI w), .ref (ad 0)] rfl ?_
    refine g_icmp_ne X 30 dX9_bank_20 (by decide) (fun hc3 => ?_) (fun hc3 => ?_)
    · refine g_run X KX9_bank_30_3 KX9_bank_30_3_d 31 [(0, .ref (ad 0)), (1, .int (nI w))] [.int (nI 0), .int (nI w), .ref (ad 0)] rfl ?_
      refine g_callV X hSB hAf (srcW) (hrc1 := (rfl : CL[8]? = some _)) (wm_mem (k := 0) (by decide)) rfl (As := [.int (nI w), .int (nI 0)]) (wr := []) (n := 2) (c_X9_bankNow l D g ad I L S (z4 (u2 Z 3 0 (nI 0)) R (Z 1) (Z 2)) Y w (nI 0) (hS18) (hsp) (hw) (hne)) rfl srcN hrdN w_1500 w_1497 w_1499 w_s38 w_6 (by decide +kernel) rfl ⟨Nat.le_of_ble_eq_true rfl, Nat.le_of_ble_eq_true rfl⟩ rfl rfl rfl (Nat.le_of_ble_eq_true rfl) ⟨Nat.le_of_ble_eq_true rfl, Nat.le_of_ble_eq_true rfl⟩ dX9_bank_31 (fun hu4 _ => ?_)
      refine g_af (ws' := WM ad g I L S (z4 (u2 Z 3 0 (nI 0)) R (Z 1) (Z 2)) Y ++ []) (st' := [.int (bkV I L S w)]) (cells' := 0) (slots' := 0) (pc' := 34) rfl rfl rfl rfl rfl ?_
      refine g_run X KX9_bank_34_4 KX9_bank_34_4_d 42 [(0, .ref (ad 0)), (1, .int (nI w))] [.int (bkV I L S w)] rfl ?_
      exact g_iret X hr (R, (Z 1), (Z 2)) (rfl) (by assumption) (rfl) (Nat.le_of_ble_eq_true rfl) (Nat.le_of_ble_eq_true rfl) dX9_bank_42
    · rw [nI_eq (by omega) (by omega)] at hc3; first | omega | (simp at hc3)

def KX9_bank_23_5 : List (Nat × Instr × Nat) := [(23, .aload_n 0, 1)]
theorem KX9_bank_23_5_d : ∀ z ∈ KX9_bank_23_5, decode cX9_bank z.1 = .ok z.2 := by decide +kernel
def KX9_bank_27_6 : List (Nat × Instr × Nat) := [(27, .goto 4, 3)]
theorem KX9_bank_27_6_d : ∀ z ∈ KX9_bank_27_6, decode cX9_bank z.1 = .ok z.2 := by decide +kernel
set_option maxHeartbeats 4000000 in
set_option maxRecDepth 100000 in
theorem c_X9_bank_b (l : Launch) (D : va_G) (g : Nat → ClassId) (ad : Nat → Nat) (I : Nat → Nat → Int32) (L : Nat → Nat → Int64) (S : Nat → Nat) (Z : Nat → Nat → Int32) (Y : Int64) (R : Nat → Nat) (hR : R16 R) (hZ : Z 0 = fun j => nI (R j)) (hS18 : ∀ p, p < 15 → S p < 18) (hK : kOK I) : CT l yX9_bank cX9_bank 2 ((Option.some FieldType.int)) ({ frames := 5, cells := 16, slots := 240, locals := 123 } : Room) [.ref (ad 0), .int (nI 10)] D CL (TYS g) ([]) (WM ad g I L S Z Y) (S := (Nat → Nat) × (Nat → Int32) × (Nat → Int32)) (fun _ => some (.int (bkV I L S 10))) (fun u => WM ad g I L S (z4 (u2 Z 3 0 (nI 0)) u.1 u.2.1 u.2.2) Y) (fun u => R16 u.1) 16 240 := by
  refine ct_of (by decide +kernel) (Nat.le_of_ble_eq_true rfl) ?_
  intro p e s m below meth c A X hr hnm hSB hRO hAf
  refine g_cs (ws' := WM ad g I L S (z4 Z R (Z 1) (Z 2)) Y ++ []) (lv' := [(0, .ref (ad 0)), (1, .int (nI 10))]) (by rw [z4_e hZ]; exact List.append_nil _) rfl ?_
  refine g_run X KX9_bank_0_0 KX9_bank_0_0_d 2 [(0, .ref (ad 0)), (1, .int (nI 10))] [.int (nI 0), .ref (ad 0)] rfl ?_
  refine g_put X (ws' := WM ad g I L S (z4 (u2 Z 3 0 (nI 0)) R (Z 1) (Z 2)) Y ++ []) hinX9 tyX9 tyX9_ok nmX9 rfl 0 (by decide) w_1180 rfl rfl (ty := .int) rfl rfl rfl (0) (wm_get (k := 0) (by decide)) (Nat.le_of_ble_eq_true rfl) (wm_so0) dX9_bank_2 ?_
  refine g_run X KX9_bank_5_1 KX9_bank_5_1_d 9 [(0, .ref (ad 0)), (1, .int (nI 10))] [.int (nI 12), .int (nI 0), .int (nI 10)] rfl ?_
  refine g_callS X hSB hAf (As := [.int (nI 10), .int (nI 0), .int (nI 12)]) (wr := WM ad g I L S (z4 (u2 Z 3 0 (nI 0)) R (Z 1) (Z 2)) Y ++ []) (n := 3) (c_X9_is_t l D g 10 0 12 (by omega) (by omega) (by omega)) rfl srcN hrdN w_1260 w_1258 w_1259 w_6 (by decide +kernel) rfl ⟨Nat.le_of_ble_eq_true rfl, Nat.le_of_ble_eq_true rfl⟩ rfl rfl rfl (Nat.le_of_ble_eq_true rfl) ⟨Nat.le_of_ble_eq_true rfl, Nat.le_of_ble_eq_true rfl⟩ dX9_bank_9 (fun hu1 _ => ?_)
  refine g_af (ws' := WM ad g I L S (z4 (u2 Z 3 0 (nI 0)) R (Z 1) (Z 2)) Y ++ []) (st' := [.int (nI 1)]) (cells' := 0) (slots' := 0) (pc' := 12) rfl rfl rfl rfl rfl ?_
  refine g_if_eq X 37 dX9_bank_12 (by decide) (fun hc2 => ?_) (fun hc2 => ?_)
  · rw [nz_eq (by omega)] at hc2; first | omega | (simp at hc2)
  · refine g_run X KX9_bank_15_2 KX9_bank_15_2_d 20 [(0, .ref (ad 0)), (1, .int (nI 10))] [.int (nI 10), .int (nI 10), .int (nI 10), .ref (ad 0)] rfl ?_
    refine g_icmp_ne X 30 dX9_bank_20 (by decide) (fun hc3 => ?_) (fun hc3 => ?_)
    · rw [nI_eq (by omega) (by omega)] at hc3; first | omega | (simp at hc3)
    · refine g_run X KX9_bank_23_5 KX9_bank_23_5_d 24 [(0, .ref (ad 0)), (1, .int (nI 10))] [.ref (ad 0), .int (nI 10), .ref (ad 0)] rfl ?_
      refine g_callV X hSB hAf (srcW) (hrc1 := (rfl : CL[8]? = some _)) (wm_mem (k := 0) (by decide)) rfl (As := []) (wr := []) (n := 0) (c_X9_bad l D g ad I L S (z4 (u2 Z 3 0 (nI 0)) R (Z 1) (Z 2)) Y R (by assumption) (rfl) (hS18) (hK)) rfl srcN hrdN w_1496 w_1493 w_1495 w_s37 w_6 (by decide +kernel) rfl ⟨Nat.le_of_ble_eq_true rfl, Nat.le_of_ble_eq_true rfl⟩ rfl rfl rfl (Nat.le_of_ble_eq_true rfl) ⟨Nat.le_of_ble_eq_true rfl, Nat.le_of_ble_eq_true rfl⟩ dX9_bank_24 (fun hu4 hp_hu4 => ?_)
      refine g_af (ws' := WM ad g I L S (z4 (u2 Z 3 0 (nI 0)) hu4.1 hu4.2.1 hu4.2.2) Y ++ []) (st' := [.int (nI (bdl I L S 16)), .int (nI 10), .ref (ad 0)]) (cells' := 16) (slots' := 240) (pc' := 27) (congrArg (fun z => (WM ad g I L S z Y) ++ []) z4_z4.symm) rfl rfl rfl rfl ?_
      refine g_run X KX9_bank_27_6 KX9_bank_27_6_d 31 [(0, .ref (ad 0)), (1, .int (nI 10))] [.int (nI (bdl I L S 16)), .int (nI 10), .ref (ad 0)] rfl ?_
      refine g_callV X hSB hAf (srcW) (hrc1 := (rfl : CL[8]? = some _)) (wm_mem (k := 0) (by decide)) rfl (As := [.int (nI 10), .int (nI (bdl I L S 16))]) (wr := []) (n := 2) (c_X9_bankNow_b l D g ad I L S (z4 (u2 Z 3 0 (nI 0)) hu4.1 hu4.2.1 hu4.2.2) Y (nI (bdl I L S 16)) ) rfl srcN hrdN w_1500 w_1497 w_1499 w_s38 w_6 (by decide +kernel) rfl ⟨Nat.le_of_ble_eq_true rfl, Nat.le_of_ble_eq_true rfl⟩ rfl rfl rfl (Nat.le_of_ble_eq_true rfl) ⟨Nat.le_of_ble_eq_true rfl, Nat.le_of_ble_eq_true rfl⟩ dX9_bank_31 (fun hu5 _ => ?_)
      refine g_af (ws' := WM ad g I L S (z4 (u2 Z 3 0 (nI 0)) hu4.1 hu4.2.1 hu4.2.2) Y ++ []) (st' := [.int (nI (bdl I L S 16))]) (cells' := 16) (slots' := 240) (pc' := 34) rfl rfl rfl rfl rfl ?_
      refine g_run X KX9_bank_34_4 KX9_bank_34_4_d 42 [(0, .ref (ad 0)), (1, .int (nI 10))] [.int (nI (bdl I L S 16))] rfl ?_
      exact g_iret X hr (hu4.1, hu4.2.1, hu4.2.2) (rfl) (by assumption) (rfl) (Nat.le_of_ble_eq_true rfl) (Nat.le_of_ble_eq_true rfl) dX9_bank_42

set_option maxHeartbeats 4000000 in
set_option maxRecDepth 100000 in
theorem c_X9_bank_d (l : Launch) (D : va_G) (g : Nat → ClassId) (ad : Nat → Nat) (I : Nat → Nat → Int32) (L : Nat → Nat → Int64) (S : Nat → Nat) (Z : Nat → Nat → Int32) (Y : Int64) (R : Nat → Nat) (hR : R16 R) (hZ : Z 0 = fun j => nI (R j)) (hS18 : ∀ p, p < 15 → S p < 18) (hK : kOK I) : CT l yX9_bank cX9_bank 2 ((Option.some FieldType.int)) ({ frames := 1, cells := 16, slots := 240, locals := 22 } : Room) [.ref (ad 0), .int (nI 12)] D CL (TYS g) ([]) (WM ad g I L S Z Y) (S := (Nat → Nat) × (Nat → Int32) × (Nat → Int32)) (fun _ => some (.int (bkV I L S 12))) (fun u => WM ad g I L S (z4 (u2 Z 3 0 (nI 0)) u.1 u.2.1 u.2.2) Y) (fun u => R16 u.1) 16 240 := by
  refine ct_of (by decide +kernel) (Nat.le_of_ble_eq_true rfl) ?_
  intro p e s m below meth c A X hr hnm hSB hRO hAf
  refine g_cs (ws' := WM ad g I L S (z4 Z R (Z 1) (Z 2)) Y ++ []) (lv' := [(0, .ref (ad 0)), (1, .int (nI 12))]) (by rw [z4_e hZ]; exact List.append_nil _) rfl ?_
  refine g_run X KX9_bank_0_0 KX9_bank_0_0_d 2 [(0, .ref (ad 0)), (1, .int (nI 12))] [.int (nI 0), .ref (ad 0)] rfl ?_
  refine g_put X (ws' := WM ad g I L S (z4 (u2 Z 3 0 (nI 0)) R (Z 1) (Z 2)) Y ++ []) hinX9 tyX9 tyX9_ok nmX9 rfl 0 (by decide) w_1180 rfl rfl (ty := .int) rfl rfl rfl (0) (wm_get (k := 0) (by decide)) (Nat.le_of_ble_eq_true rfl) (wm_so0) dX9_bank_2 ?_
  refine g_run X KX9_bank_5_1 KX9_bank_5_1_d 9 [(0, .ref (ad 0)), (1, .int (nI 12))] [.int (nI 12), .int (nI 0), .int (nI 12)] rfl ?_
  refine g_callS X hSB hAf (As := [.int (nI 12), .int (nI 0), .int (nI 12)]) (wr := WM ad g I L S (z4 (u2 Z 3 0 (nI 0)) R (Z 1) (Z 2)) Y ++ []) (n := 3) (c_X9_is_t l D g 12 0 12 (by omega) (by omega) (by omega)) rfl srcN hrdN w_1260 w_1258 w_1259 w_6 (by decide +kernel) rfl ⟨Nat.le_of_ble_eq_true rfl, Nat.le_of_ble_eq_true rfl⟩ rfl rfl rfl (Nat.le_of_ble_eq_true rfl) ⟨Nat.le_of_ble_eq_true rfl, Nat.le_of_ble_eq_true rfl⟩ dX9_bank_9 (fun hu1 _ => ?_)
  refine g_af (ws' := WM ad g I L S (z4 (u2 Z 3 0 (nI 0)) R (Z 1) (Z 2)) Y ++ []) (st' := [.int (nI 1)]) (cells' := 0) (slots' := 0) (pc' := 12) rfl rfl rfl rfl rfl ?_
  refine g_if_eq X 37 dX9_bank_12 (by decide) (fun hc2 => ?_) (fun hc2 => ?_)
  · rw [nz_eq (by omega)] at hc2; first | omega | (simp at hc2)
  · refine g_run X KX9_bank_15_2 KX9_bank_15_2_d 20 [(0, .ref (ad 0)), (1, .int (nI 12))] [.int (nI 10), .int (nI 12), .int (nI 12), .ref (ad 0)] rfl ?_
    refine g_icmp_ne X 30 dX9_bank_20 (by decide) (fun hc3 => ?_) (fun hc3 => ?_)
    · refine g_run X KX9_bank_30_3 KX9_bank_30_3_d 31 [(0, .ref (ad 0)), (1, .int (nI 12))] [.int (nI 0), .int (nI 12), .ref (ad 0)] rfl ?_
      refine g_callV X hSB hAf (srcW) (hrc1 := (rfl : CL[8]? = some _)) (wm_mem (k := 0) (by decide)) rfl (As := [.int (nI 12), .int (nI 0)]) (wr := []) (n := 2) (c_X9_bankNow_d l D g ad I L S (z4 (u2 Z 3 0 (nI 0)) R (Z 1) (Z 2)) Y (nI 0) ) rfl srcN hrdN w_1500 w_1497 w_1499 w_s38 w_6 (by decide +kernel) rfl ⟨Nat.le_of_ble_eq_true rfl, Nat.le_of_ble_eq_true rfl⟩ rfl rfl rfl (Nat.le_of_ble_eq_true rfl) ⟨Nat.le_of_ble_eq_true rfl, Nat.le_of_ble_eq_true rfl⟩ dX9_bank_31 (fun hu4 _ => ?_)
      refine g_af (ws' := WM ad g I L S (z4 (u2 Z 3 0 (nI 0)) R (Z 1) (Z 2)) Y ++ []) (st' := [.int (bkV I L S 12)]) (cells' := 0) (slots' := 0) (pc' := 34) rfl rfl rfl rfl rfl ?_
      refine g_run X KX9_bank_34_4 KX9_bank_34_4_d 42 [(0, .ref (ad 0)), (1, .int (nI 12))] [.int (bkV I L S 12)] rfl ?_
      exact g_iret X hr (R, (Z 1), (Z 2)) (rfl) (by assumption) (rfl) (Nat.le_of_ble_eq_true rfl) (Nat.le_of_ble_eq_true rfl) dX9_bank_42
    · rw [nI_eq (by omega) (by omega)] at hc3; first | omega | (simp at hc3)

def KX9_bank_37_7 : List (Nat × Instr × Nat) := [(37, .aload_n 0, 1), (38, .iconst 1, 1)]
theorem KX9_bank_37_7_d : ∀ z ∈ KX9_bank_37_7, decode cX9_bank z.1 = .ok z.2 := by decide +kernel
set_option maxHeartbeats 4000000 in
set_option maxRecDepth 100000 in
theorem c_X9_bank_1 (l : Launch) (D : va_G) (g : Nat → ClassId) (ad : Nat → Nat) (I : Nat → Nat → Int32) (L : Nat → Nat → Int64) (S : Nat → Nat) (Z : Nat → Nat → Int32) (Y : Int64) (x : Int32) (hx : x < nI 0 ∨ ¬ x ≤ nI 12) : CT l yX9_bank cX9_bank 2 ((Option.some FieldType.int)) ({ frames := 1, cells := 0, slots := 0, locals := 22 } : Room) [.ref (ad 0), .int x] D CL (TYS g) ([]) (WM ad g I L S Z Y) (S := Unit) (fun _ => some (.int (nI 0))) (fun _ => WM ad g I L S (u2 (u2 Z 3 0 (nI 0)) 3 0 (nI 1)) Y) (fun _ => True) 0 0 := by
  refine ct_of (by decide +kernel) (Nat.le_of_ble_eq_true rfl) ?_
  intro p e s m below meth c A X hr hnm hSB hRO hAf
  refine g_cs (ws' := WM ad g I L S Z Y ++ []) (lv' := [(0, .ref (ad 0)), (1, .int x)]) (List.append_nil _) rfl ?_
  refine g_run X KX9_bank_0_0 KX9_bank_0_0_d 2 [(0, .ref (ad 0)), (1, .int x)] [.int (nI 0), .ref (ad 0)] rfl ?_
  refine g_put X (ws' := WM ad g I L S (u2 Z 3 0 (nI 0)) Y ++ []) hinX9 tyX9 tyX9_ok nmX9 rfl 0 (by decide) w_1180 rfl rfl (ty := .int) rfl rfl rfl (0) (wm_get (k := 0) (by decide)) (Nat.le_of_ble_eq_true rfl) (wm_mo0) dX9_bank_2 ?_
  refine g_run X KX9_bank_5_1 KX9_bank_5_1_d 9 [(0, .ref (ad 0)), (1, .int x)] [.int (nI 12), .int (nI 0), .int x] rfl ?_
  refine g_callS X hSB hAf (As := [.int x, .int (nI 0), .int (nI 12)]) (wr := WM ad g I L S (u2 Z 3 0 (nI 0)) Y ++ []) (n := 3) (c_X9_is_f l D g x (nI 0) (nI 12) (hx)) rfl srcN hrdN w_1260 w_1258 w_1259 w_6 (by decide +kernel) rfl ⟨Nat.le_of_ble_eq_true rfl, Nat.le_of_ble_eq_true rfl⟩ rfl rfl rfl (Nat.le_of_ble_eq_true rfl) ⟨Nat.le_of_ble_eq_true rfl, Nat.le_of_ble_eq_true rfl⟩ dX9_bank_9 (fun hu1 _ => ?_)
  refine g_af (ws' := WM ad g I L S (u2 Z 3 0 (nI 0)) Y ++ []) (st' := [.int (nI 0)]) (cells' := 0) (slots' := 0) (pc' := 12) rfl rfl rfl rfl rfl ?_
  refine g_if_eq X 37 dX9_bank_12 (by decide) (fun hc2 => ?_) (fun hc2 => ?_)
  · refine g_run X KX9_bank_37_7 KX9_bank_37_7_d 39 [(0, .ref (ad 0)), (1, .int x)] [.int (nI 1), .ref (ad 0)] rfl ?_
    refine g_callV X hSB hAf (srcW) (hrc1 := (rfl : CL[8]? = some _)) (wm_mem (k := 0) (by decide)) rfl (As := [.int (nI 1)]) (wr := []) (n := 1) (c_X9_refuse l D g ad I L S (u2 Z 3 0 (nI 0)) Y 1 ) rfl srcN hrdN w_1264 w_1261 w_1263 w_s12 w_6 (by decide +kernel) rfl ⟨Nat.le_of_ble_eq_true rfl, Nat.le_of_ble_eq_true rfl⟩ rfl rfl rfl (Nat.le_of_ble_eq_true rfl) ⟨Nat.le_of_ble_eq_true rfl, Nat.le_of_ble_eq_true rfl⟩ dX9_bank_39 (fun hu3 _ => ?_)
    refine g_af (ws' := WM ad g I L S (u2 (u2 Z 3 0 (nI 0)) 3 0 (nI 1)) Y ++ []) (st' := [.int (nI 0)]) (cells' := 0) (slots' := 0) (pc' := 42) rfl rfl rfl rfl rfl ?_
    exact g_iret X hr () (rfl) (trivial) (rfl) (Nat.le_of_ble_eq_true rfl) (Nat.le_of_ble_eq_true rfl) dX9_bank_42
  · rw [nz_eq (by omega)] at hc2; first | omega | (simp at hc2)

