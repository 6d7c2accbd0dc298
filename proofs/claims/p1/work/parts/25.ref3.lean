
theorem hinJx4a65c : ∀ w ∈ u_ws RJx4a65c TJx4a65c 3, w ∈ GW := by decide +kernel
theorem HSo {S : Nat → Nat} (h : ∀ p, p < 15 → S p < 18) {q : Nat} (hq : q < 15) : S q < 18 := h q hq

def KJ3_checkIndex_8e157_0_0 : List (Nat × Instr × Nat) := [(0, .iload_n 0, 1)]
theorem KJ3_checkIndex_8e157_0_0_d : ∀ z ∈ KJ3_checkIndex_8e157_0_0, decode cJ3_checkIndex_8e157 z.1 = .ok z.2 := by decide +kernel
def KJ3_checkIndex_8e157_4_1 : List (Nat × Instr × Nat) := [(4, .iload_n 0, 1), (5, .iload_n 1, 1)]
theorem KJ3_checkIndex_8e157_4_1_d : ∀ z ∈ KJ3_checkIndex_8e157_4_1, decode cJ3_checkIndex_8e157 z.1 = .ok z.2 := by decide +kernel
def KJ3_checkIndex_8e157_16_2 : List (Nat × Instr × Nat) := [(16, .iload_n 0, 1)]
theorem KJ3_checkIndex_8e157_16_2_d : ∀ z ∈ KJ3_checkIndex_8e157_16_2, decode cJ3_checkIndex_8e157 z.1 = .ok z.2 := by decide +kernel
set_option maxHeartbeats 4000000 in
set_option maxRecDepth 100000 in
theorem c_J3_checkIndex_8e157 (l : Launch) (D : va_G) (g : Nat → ClassId) (i : Nat) (n : Nat) (hi : i < n) (hn : n < 1000) : CT l yJ3_checkIndex_8e157 cJ3_checkIndex_8e157 3 ((Option.some FieldType.int)) ({ frames := 0, cells := 0, slots := 0, locals := 0 } : Room) [.int (nI i), .int (nI n), .null] D CL (TYS g) ([]) ([]) (S := Unit) (fun _ => some (.int (nI i))) (fun _ => []) (fun _ => True) 0 0 := by
  refine ct_of (by decide +kernel) (Nat.le_of_ble_eq_true rfl) ?_
  intro p e s m below meth c A X hr hnm hSB hRO hAf
  refine g_cs (ws' := []) (lv' := [(0, .int (nI i)), (1, .int (nI n)), (2, .null)]) rfl rfl ?_
  refine g_run X KJ3_checkIndex_8e157_0_0 KJ3_checkIndex_8e157_0_0_d 1 [(0, .int (nI i)), (1, .int (nI n)), (2, .null)] [.int (nI i)] rfl ?_
  refine g_if_lt X 9 dJ3_checkIndex_8e157_1 (by decide) (fun hc1 => ?_) (fun hc1 => ?_)
  · rw [nz_lt (by omega)] at hc1; first | omega | (simp at hc1)
  · refine g_run X KJ3_checkIndex_8e157_4_1 KJ3_checkIndex_8e157_4_1_d 6 [(0, .int (nI i)), (1, .int (nI n)), (2, .null)] [.int (nI n), .int (nI i)] rfl ?_
    refine g_icmp_lt X 16 dJ3_checkIndex_8e157_6 (by decide) (fun hc2 => ?_) (fun hc2 => ?_)
    · refine g_run X KJ3_checkIndex_8e157_16_2 KJ3_checkIndex_8e157_16_2_d 17 [(0, .int (nI i)), (1, .int (nI n)), (2, .null)] [.int (nI i)] rfl ?_
      exact g_iret X hr () (rfl) (trivial) ((List.append_nil _).symm) (Nat.le_of_ble_eq_true rfl) (Nat.le_of_ble_eq_true rfl) dJ3_checkIndex_8e157_17
    · rw [nI_ltI (by omega) (by omega)] at hc2; first | omega | (simp at hc2)

def KJ15_checkIndex_7cf53_0_0 : List (Nat × Instr × Nat) := [(0, .iload_n 0, 1), (1, .iload_n 1, 1), (2, .aconst_null, 1)]
theorem KJ15_checkIndex_7cf53_0_0_d : ∀ z ∈ KJ15_checkIndex_7cf53_0_0, decode cJ15_checkIndex_7cf53 z.1 = .ok z.2 := by decide +kernel
set_option maxHeartbeats 4000000 in
set_option maxRecDepth 100000 in
theorem c_J15_checkIndex_7cf53 (l : Launch) (D : va_G) (g : Nat → ClassId) (i : Nat) (n : Nat) (hi : i < n) (hn : n < 1000) : CT l yJ15_checkIndex_7cf53 cJ15_checkIndex_7cf53 2 ((Option.some FieldType.int)) ({ frames := 1, cells := 0, slots := 0, locals := 22 } : Room) [.int (nI i), .int (nI n)] D CL (TYS g) ([]) ([]) (S := Unit) (fun _ => some (.int (nI i))) (fun _ => []) (fun _ => True) 0 0 := by
  refine ct_of (by decide +kernel) (Nat.le_of_ble_eq_true rfl) ?_
  intro p e s m below meth c A X hr hnm hSB hRO hAf
  refine g_cs (ws' := []) (lv' := [(0, .int (nI i)), (1, .int (nI n))]) rfl rfl ?_
  refine g_run X KJ15_checkIndex_7cf53_0_0 KJ15_checkIndex_7cf53_0_0_d 3 [(0, .int (nI i)), (1, .int (nI n))] [.null, .int (nI n), .int (nI i)] rfl ?_
  refine g_callS X hSB hAf (As := [.int (nI i), .int (nI n), .null]) (wr := []) (n := 3) (c_J3_checkIndex_8e157 l D g i n (by omega) (by omega)) rfl srcN hrdN w_894 w_1388 w_893 w_27 (by decide +kernel) rfl ⟨Nat.le_of_ble_eq_true rfl, Nat.le_of_ble_eq_true rfl⟩ rfl rfl rfl (Nat.le_of_ble_eq_true rfl) ⟨Nat.le_of_ble_eq_true rfl, Nat.le_of_ble_eq_true rfl⟩ dJ15_checkIndex_7cf53_3 (fun hu1 _ => ?_)
  refine g_af (ws' := []) (st' := [.int (nI i)]) (cells' := 0) (slots' := 0) (pc' := 6) rfl rfl rfl rfl rfl ?_
  exact g_iret X hr () (rfl) (trivial) ((List.append_nil _).symm) (Nat.le_of_ble_eq_true rfl) (Nat.le_of_ble_eq_true rfl) dJ15_checkIndex_7cf53_6

def KJx4a65c_elementData_915e3_0_0 : List (Nat × Instr × Nat) := [(0, .aload_n 0, 1)]
theorem KJx4a65c_elementData_915e3_0_0_d : ∀ z ∈ KJx4a65c_elementData_915e3_0_0, decode cJx4a65c_elementData_915e3 z.1 = .ok z.2 := by decide +kernel
def KJx4a65c_elementData_915e3_4_1 : List (Nat × Instr × Nat) := [(4, .iload_n 1, 1)]
theorem KJx4a65c_elementData_915e3_4_1_d : ∀ z ∈ KJx4a65c_elementData_915e3_4_1, decode cJx4a65c_elementData_915e3 z.1 = .ok z.2 := by decide +kernel
set_option maxHeartbeats 4000000 in
set_option maxRecDepth 100000 in
theorem c_Jx4a65c_elementData_915e3 (l : Launch) (D : va_G) (g : Nat → ClassId) (ad : Nat → Nat) (I : Nat → Nat → Int32) (L : Nat → Nat → Int64) (S : Nat → Nat) (Z : Nat → Nat → Int32) (Y : Int64) (k : Nat) (hk : k < 4) : CT l yJx4a65c_elementData_915e3 cJx4a65c_elementData_915e3 2 ((Option.some (FieldType.object "java/lang/Object"))) ({ frames := 0, cells := 0, slots := 0, locals := 0 } : Room) [.ref (ad 8), .int (nI k)] D CL (TYS g) ([]) (WM ad g I L S Z Y) (S := Unit) (fun _ => some (.ref (ad (k + 13)))) (fun _ => WM ad g I L S Z Y) (fun _ => True) 0 0 := by
  refine ct_of (by decide +kernel) (Nat.le_of_ble_eq_true rfl) ?_
  intro p e s m below meth c A X hr hnm hSB hRO hAf
  refine g_cs (ws' := WM ad g I L S Z Y ++ []) (lv' := [(0, .ref (ad 8)), (1, .int (nI k))]) (List.append_nil _) rfl ?_
  refine g_run X KJx4a65c_elementData_915e3_0_0 KJx4a65c_elementData_915e3_0_0_d 1 [(0, .ref (ad 8)), (1, .int (nI k))] [.ref (ad 8)] rfl ?_
  refine g_get X srcW (v := .ref (ad 9)) hinJx4a65c rfl 1 (by decide) w_1075 rfl (wm_mem (k := 8) (by decide)) rfl dJx4a65c_elementData_915e3_1 ?_
  refine g_run X KJx4a65c_elementData_915e3_4_1 KJx4a65c_elementData_915e3_4_1_d 5 [(0, .ref (ad 8)), (1, .int (nI k))] [.int (nI k), .ref (ad 9)] rfl ?_
  refine g_aald X srcW (b := ad (k + 13)) 4 rfl (wm_mem (k := 9) (by decide)) k rfl (by omega) (by decide) (if_pos (by omega)) dJx4a65c_elementData_915e3_5 ?_
  exact g_aret X hr (Or.inl ⟨_, rfl⟩) (Or.inr ⟨_, rfl⟩) () (rfl) (trivial) (rfl) (Nat.le_of_ble_eq_true rfl) (Nat.le_of_ble_eq_true rfl) dJx4a65c_elementData_915e3_6

def KJx4a65c_get_915e3_0_0 : List (Nat × Instr × Nat) := [(0, .iload_n 1, 1), (1, .aload_n 0, 1)]
theorem KJx4a65c_get_915e3_0_0_d : ∀ z ∈ KJx4a65c_get_915e3_0_0, decode cJx4a65c_get_915e3 z.1 = .ok z.2 := by decide +kernel
def KJx4a65c_get_915e3_8_1 : List (Nat × Instr × Nat) := [(8, .pop, 1), (9, .aload_n 0, 1), (10, .iload_n 1, 1)]
theorem KJx4a65c_get_915e3_8_1_d : ∀ z ∈ KJx4a65c_get_915e3_8_1, decode cJx4a65c_get_915e3 z.1 = .ok z.2 := by decide +kernel
set_option maxHeartbeats 4000000 in
set_option maxRecDepth 100000 in
theorem c_Jx4a65c_get_915e3 (l : Launch) (D : va_G) (g : Nat → ClassId) (ad : Nat → Nat) (I : Nat → Nat → Int32) (L : Nat → Nat → Int64) (S : Nat → Nat) (Z : Nat → Nat → Int32) (Y : Int64) (k : Nat) (hk : k < 4) : CT l yJx4a65c_get_915e3 cJx4a65c_get_915e3 2 ((Option.some (FieldType.object "java/lang/Object"))) ({ frames := 2, cells := 0, slots := 0, locals := 43 } : Room) [.ref (ad 8), .int (nI k)] D CL (TYS g) ([]) (WM ad g I L S Z Y) (S := Unit) (fun _ => some (.ref (ad (k + 13)))) (fun _ => WM ad g I L S Z Y) (fun _ => True) 0 0 := by
  refine ct_of (by decide +kernel) (Nat.le_of_ble_eq_true rfl) ?_
  intro p e s m below meth c A X hr hnm hSB hRO hAf
  refine g_cs (ws' := WM ad g I L S Z Y ++ []) (lv' := [(0, .ref (ad 8)), (1, .int (nI k))]) (List.append_nil _) rfl ?_
  refine g_run X KJx4a65c_get_915e3_0_0 KJx4a65c_get_915e3_0_0_d 2 [(0, .ref (ad 8)), (1, .int (nI k))] [.ref (ad 8), .int (nI k)] rfl ?_
  refine g_get X srcW (v := .int (nI 4)) hinJx4a65c rfl 2 (by decide) w_1076 rfl (wm_mem (k := 8) (by decide)) rfl dJx4a65c_get_915e3_2 ?_
  refine g_callS X hSB hAf (As := [.int (nI k), .int (nI 4)]) (wr := WM ad g I L S Z Y ++ []) (n := 2) (c_J15_checkIndex_7cf53 l D g k 4 (by omega) (by omega)) rfl srcN hrdN w_1387 w_1385 w_1386 w_26 (by decide +kernel) rfl ⟨Nat.le_of_ble_eq_true rfl, Nat.le_of_ble_eq_true rfl⟩ rfl rfl rfl (Nat.le_of_ble_eq_true rfl) ⟨Nat.le_of_ble_eq_true rfl, Nat.le_of_ble_eq_true rfl⟩ dJx4a65c_get_915e3_5 (fun hu1 _ => ?_)
  refine g_af (ws' := WM ad g I L S Z Y ++ []) (st' := [.int (nI k)]) (cells' := 0) (slots' := 0) (pc' := 8) rfl rfl rfl rfl rfl ?_
  refine g_run X KJx4a65c_get_915e3_8_1 KJx4a65c_get_915e3_8_1_d 11 [(0, .ref (ad 8)), (1, .int (nI k))] [.int (nI k), .ref (ad 8)] rfl ?_
  refine g_callV X hSB hAf (srcW) (hrc1 := (rfl : CL[9]? = some _)) (wm_mem (k := 8) (by decide)) rfl (As := [.int (nI k)]) (wr := []) (n := 1) (c_Jx4a65c_elementData_915e3 l D g ad I L S Z Y k (by omega)) rfl srcN hrdN w_1392 w_1389 w_1390 w_1391 w_9 (by decide +kernel) rfl ⟨Nat.le_of_ble_eq_true rfl, Nat.le_of_ble_eq_true rfl⟩ rfl rfl rfl (Nat.le_of_ble_eq_true rfl) ⟨Nat.le_of_ble_eq_true rfl, Nat.le_of_ble_eq_true rfl⟩ dJx4a65c_get_915e3_11 (fun hu2 _ => ?_)
  refine g_af (ws' := WM ad g I L S Z Y ++ []) (st' := [.ref (ad (k + 13))]) (cells' := 0) (slots' := 0) (pc' := 14) rfl rfl rfl rfl rfl ?_
  exact g_aret X hr (Or.inl ⟨_, rfl⟩) (Or.inr ⟨_, rfl⟩) () (rfl) (trivial) (rfl) (Nat.le_of_ble_eq_true rfl) (Nat.le_of_ble_eq_true rfl) dJx4a65c_get_915e3_14

def KX9_dirty_0_0 : List (Nat × Instr × Nat) := [(0, .iconst 0, 1), (1, .istore_n 1, 1), (2, .iconst 0, 1), (3, .istore_n 2, 1)]
theorem KX9_dirty_0_0_d : ∀ z ∈ KX9_dirty_0_0, decode cX9_dirty z.1 = .ok z.2 := by decide +kernel
def KX9_dirty_4_1 : List (Nat × Instr × Nat) := [(4, .iload_n 2, 1), (5, .iconst 4, 1)]
theorem KX9_dirty_4_1_d : ∀ z ∈ KX9_dirty_4_1, decode cX9_dirty z.1 = .ok z.2 := by decide +kernel
def KX9_dirty_40_2 : List (Nat × Instr × Nat) := [(40, .iload_n 1, 1)]
theorem KX9_dirty_40_2_d : ∀ z ∈ KX9_dirty_40_2, decode cX9_dirty z.1 = .ok z.2 := by decide +kernel
def KX9_dirty_9_3 : List (Nat × Instr × Nat) := [(9, .iload_n 1, 1), (10, .aload_n 0, 1)]
theorem KX9_dirty_9_3_d : ∀ z ∈ KX9_dirty_9_3, decode cX9_dirty z.1 = .ok z.2 := by decide +kernel
def KX9_dirty_14_4 : List (Nat × Instr × Nat) := [(14, .iload_n 2, 1)]
theorem KX9_dirty_14_4_d : ∀ z ∈ KX9_dirty_14_4, decode cX9_dirty z.1 = .ok z.2 := by decide +kernel
def KX9_dirty_31_5 : List (Nat × Instr × Nat) := [(31, .iconst 0, 1), (32, .iadd, 1), (33, .istore_n 1, 1), (34, .iinc 2 1, 3), (37, .goto (-33), 3)]
theorem KX9_dirty_31_5_d : ∀ z ∈ KX9_dirty_31_5, decode cX9_dirty z.1 = .ok z.2 := by decide +kernel
def KX9_dirty_27_6 : List (Nat × Instr × Nat) := [(27, .iconst 1, 1), (28, .goto 4, 3), (32, .iadd, 1), (33, .istore_n 1, 1), (34, .iinc 2 1, 3), (37, .goto (-33), 3)]
theorem KX9_dirty_27_6_d : ∀ z ∈ KX9_dirty_27_6, decode cX9_dirty z.1 = .ok z.2 := by decide +kernel
set_option maxHeartbeats 4000000 in
set_option maxRecDepth 100000 in
theorem c_X9_dirty (l : Launch) (D : va_G) (g : Nat → ClassId) (ad : Nat → Nat) (I : Nat → Nat → Int32) (L : Nat → Nat → Int64) (S : Nat → Nat) (Z : Nat → Nat → Int32) (Y : Int64) : CT l yX9_dirty cX9_dirty 3 ((Option.some FieldType.int)) ({ frames := 3, cells := 0, slots := 0, locals := 64 } : Room) [.ref (ad 0)] D CL (TYS g) ([]) (WM ad g I L S Z Y) (S := Unit) (fun _ => some (.int (nI (dirt I 4)))) (fun _ => WM ad g I L S Z Y) (fun _ => True) 0 0 := by
  refine ct_of (by decide +kernel) (Nat.le_of_ble_eq_true rfl) ?_
  intro p e s m below meth c A X hr hnm hSB hRO hAf
  refine g_cs (ws' := WM ad g I L S Z Y ++ []) (lv' := [(0, .ref (ad 0))]) (List.append_nil _) rfl ?_
  refine g_run X KX9_dirty_0_0 KX9_dirty_0_0_d 4 [(2, .int (nI 0)), (1, .int (nI 0)), (0, .ref (ad 0))] [] rfl ?_
  refine g_lv (lv' := [(0, .ref (ad 0)), (1, .int (nI 0)), (2, .int (nI 0))]) (lsub_c 2 rfl (lsub_c 1 rfl (lsub_c 0 rfl (lsub_n)))) ?_
  refine g_for 4 (fun _ => WM ad g I L S Z Y ++ []) (fun i => [(0, .ref (ad 0)), (1, .int (nI (dirt I i))), (2, .int (nI i))]) (rfl) (rfl) ?_ ?_
  · refine g_run X KX9_dirty_4_1 KX9_dirty_4_1_d 6 [(0, .ref (ad 0)), (1, .int (nI (dirt I 4))), (2, .int (nI 4))] [.int (nI 4), .int (nI 4)] rfl ?_
    refine g_icmp_ge X 40 dX9_dirty_6 (by decide) (fun hc1 => ?_) (fun hc1 => ?_)
    · refine g_run X KX9_dirty_40_2 KX9_dirty_40_2_d 41 [(0, .ref (ad 0)), (1, .int (nI (dirt I 4))), (2, .int (nI 4))] [.int (nI (dirt I 4))] rfl ?_
      exact g_iret X hr () (rfl) (trivial) (rfl) (Nat.le_of_ble_eq_true rfl) (Nat.le_of_ble_eq_true rfl) dX9_dirty_41
    · rw [nI_leI (by omega) (by omega)] at hc1; first | omega | (simp at hc1)
  · intro i hi k4
    refine g_run X KX9_dirty_4_1 KX9_dirty_4_1_d 6 [(0, .ref (ad 0)), (1, .int (nI (dirt I i))), (2, .int (nI i))] [.int (nI 4), .int (nI i)] rfl ?_
    refine g_icmp_ge X 40 dX9_dirty_6 (by decide) (fun hc2 => ?_) (fun hc2 => ?_)
    · rw [nI_leI (by omega) (by omega)] at hc2; first | omega | (simp at hc2)
    · refine g_run X KX9_dirty_9_3 KX9_dirty_9_3_d 11 [(0, .ref (ad 0)), (1, .int (nI (dirt I i))), (2, .int (nI i))] [.ref (ad 0), .int (nI (dirt I i))] rfl ?_
      refine g_get X srcW (v := .ref (ad 8)) hinX9 rfl 8 (by decide) w_1188 rfl (wm_mem (k := 0) (by decide)) rfl dX9_dirty_11 ?_
      refine g_run X KX9_dirty_14_4 KX9_dirty_14_4_d 15 [(0, .ref (ad 0)), (1, .int (nI (dirt I i))), (2, .int (nI i))] [.int (nI i), .ref (ad 8), .int (nI (dirt I i))] rfl ?_
      refine g_callV X hSB hAf (srcW) (hrc1 := (rfl : CL[9]? = some _)) (wm_mem (k := 8) (by decide)) rfl (As := [.int (nI i)]) (wr := []) (n := 1) (c_Jx4a65c_get_915e3 l D g ad I L S Z Y i (by omega)) rfl srcN hrdN w_1384 w_1381 w_1382 w_1383 w_9 (by decide +kernel) rfl ⟨Nat.le_of_ble_eq_true rfl, Nat.le_of_ble_eq_true rfl⟩ rfl rfl rfl (Nat.le_of_ble_eq_true rfl) ⟨Nat.le_of_ble_eq_true rfl, Nat.le_of_ble_eq_true rfl⟩ dX9_dirty_15 (fun hu3 _ => ?_)
      refine g_af (ws' := WM ad g I L S Z Y ++ []) (st' := [.ref (ad (i + 13)), .int (nI (dirt I i))]) (cells' := 0) (slots' := 0) (pc' := 18) rfl rfl rfl rfl rfl ?_
      refine g_cast X srcW (hc := (rfl : CL[7]? = some _)) (wm_fr (by omega)) w_1113 dX9_dirty_18 ?_
      refine g_getN X srcW (host := "ChipfieldModel") (v := .int (I 6 i)) hinX8 rfl 2 (by decide) (nw_in n_1122 rfl) rfl (wm_fr (by omega)) rfl dX9_dirty_21 ?_
      refine g_if_eq X 31 dX9_dirty_24 (by decide) (fun hc4 => ?_) (fun hc4 => ?_)
      · refine g_run X KX9_dirty_31_5 KX9_dirty_31_5_d 4 [(2, .int ((nI i) + (nI 1))), (1, .int ((nI (dirt I i)) + (nI 0))), (0, .ref (ad 0))] [] rfl ?_
        refine g_nm (lv' := [(2, .int (nI (i + 1))), (1, .int (nI ((dirt I i) + 0))), (0, .ref (ad 0))]) (st' := []) (by simp only [nI_add]) (by simp only [nI_add]) ?_
        refine g_lv (lv' := [(0, .ref (ad 0)), (1, .int (nI ((dirt I i) + 0))), (2, .int (nI (i + 1)))]) (lsub_c 2 rfl (lsub_c 1 rfl (lsub_c 0 rfl (lsub_n)))) ?_
        refine g_cs (ws' := WM ad g I L S Z Y ++ []) (lv' := [(0, .ref (ad 0)), (1, .int (nI (dirt I (i + 1)))), (2, .int (nI (i + 1)))]) (rfl) (by simp [dirt, *]) ?_
        exact k4
      · refine g_run X KX9_dirty_27_6 KX9_dirty_27_6_d 4 [(2, .int ((nI i) + (nI 1))), (1, .int ((nI (dirt I i)) + (nI 1))), (0, .ref (ad 0))] [] rfl ?_
        refine g_nm (lv' := [(2, .int (nI (i + 1))), (1, .int (nI ((dirt I i) + 1))), (0, .ref (ad 0))]) (st' := []) (by simp only [nI_add]) (by simp only [nI_add]) ?_
        refine g_lv (lv' := [(0, .ref (ad 0)), (1, .int (nI ((dirt I i) + 1))), (2, .int (nI (i + 1)))]) (lsub_c 2 rfl (lsub_c 1 rfl (lsub_c 0 rfl (lsub_n)))) ?_
        refine g_cs (ws' := WM ad g I L S Z Y ++ []) (lv' := [(0, .ref (ad 0)), (1, .int (nI (dirt I (i + 1)))), (2, .int (nI (i + 1)))]) (rfl) (by simp [dirt, *]) ?_
        exact k4

def KX9_stored_0_0 : List (Nat × Instr × Nat) := [(0, .aload_n 0, 1), (1, .iconst 0, 1)]
theorem KX9_stored_0_0_d : ∀ z ∈ KX9_stored_0_0, decode cX9_stored z.1 = .ok z.2 := by decide +kernel
def KX9_stored_5_1 : List (Nat × Instr × Nat) := [(5, .iload_n 1, 1)]
theorem KX9_stored_5_1_d : ∀ z ∈ KX9_stored_5_1, decode cX9_stored z.1 = .ok z.2 := by decide +kernel
def KX9_stored_12_2 : List (Nat × Instr × Nat) := [(12, .iload_n 2, 1)]
theorem KX9_stored_12_2_d : ∀ z ∈ KX9_stored_12_2, decode cX9_stored z.1 = .ok z.2 := by decide +kernel
def KX9_stored_19_3 : List (Nat × Instr × Nat) := [(19, .aload_n 0, 1)]
theorem KX9_stored_19_3_d : ∀ z ∈ KX9_stored_19_3, decode cX9_stored z.1 = .ok z.2 := by decide +kernel
def KX9_stored_23_4 : List (Nat × Instr × Nat) := [(23, .iload_n 1, 1), (24, .bipush 16, 2), (26, .imul, 1), (27, .iload_n 2, 1), (28, .iadd, 1)]
theorem KX9_stored_23_4_d : ∀ z ∈ KX9_stored_23_4, decode cX9_stored z.1 = .ok z.2 := by decide +kernel
def KX9_stored_30_5 : List (Nat × Instr × Nat) := [(30, .goto 8, 3)]
theorem KX9_stored_30_5_d : ∀ z ∈ KX9_stored_30_5, decode cX9_stored z.1 = .ok z.2 := by decide +kernel
set_option maxHeartbeats 4000000 in
set_option maxRecDepth 100000 in
theorem c_X9_stored (l : Launch) (D : va_G) (g : Nat → ClassId) (ad : Nat → Nat) (I : Nat → Nat → Int32) (L : Nat → Nat → Int64) (S : Nat → Nat) (Z : Nat → Nat → Int32) (Y : Int64) (ch : Nat) (q : Nat) (hch : ch < 18) (hq : q < 16) : CT l yX9_stored cX9_stored 3 ((Option.some FieldType.int)) ({ frames := 2, cells := 0, slots := 0, locals := 42 } : Room) [.ref (ad 0), .int (nI ch), .int (nI q)] D CL (TYS g) ([]) (WM ad g I L S Z Y) (S := Unit) (fun _ => some (.int (nI (nib (L 0 ch) q)))) (fun _ => WM ad g I L S (u2 Z 3 0 (nI 0)) Y) (fun _ => True) 0 0 := by
  refine ct_of (by decide +kernel) (Nat.le_of_ble_eq_true rfl) ?_
  intro p e s m below meth c A X hr hnm hSB hRO hAf
  refine g_cs (ws' := WM ad g I L S Z Y ++ []) (lv' := [(0, .ref (ad 0)), (1, .int (nI ch)), (2, .int (nI q))]) (List.append_nil _) rfl ?_
  refine g_run X KX9_stored_0_0 KX9_stored_0_0_d 2 [(0, .ref (ad 0)), (1, .int (nI ch)), (2, .int (nI q))] [.int (nI 0), .ref (ad 0)] rfl ?_
  refine g_put X (ws' := WM ad g I L S (u2 Z 3 0 (nI 0)) Y ++ []) hinX9 tyX9 tyX9_ok nmX9 rfl 0 (by decide) w_1180 rfl rfl (ty := .int) rfl rfl rfl (0) (wm_get (k := 0) (by decide)) (Nat.le_of_ble_eq_true rfl) (wm_mo0) dX9_stored_2 ?_
  refine g_run X KX9_stored_5_1 KX9_stored_5_1_d 6 [(0, .ref (ad 0)), (1, .int (nI ch)), (2, .int (nI q))] [.int (nI ch)] rfl ?_
  refine g_callS X hSB hAf (As := [.int (nI ch)]) (wr := WM ad g I L S (u2 Z 3 0 (nI 0)) Y ++ []) (n := 1) (c_X9_isChip_t l D g ch (by omega)) rfl srcN hrdN w_1316 w_1314 w_1315 w_6 (by decide +kernel) rfl ⟨Nat.le_of_ble_eq_true rfl, Nat.le_of_ble_eq_true rfl⟩ rfl rfl rfl (Nat.le_of_ble_eq_true rfl) ⟨Nat.le_of_ble_eq_true rfl, Nat.le_of_ble_eq_true rfl⟩ dX9_stored_6 (fun hu1 _ => ?_)
  refine g_af (ws' := WM ad g I L S (u2 Z 3 0 (nI 0)) Y ++ []) (st' := [.int (nI 1)]) (cells' := 0) (slots' := 0) (pc' := 9) rfl rfl rfl rfl rfl ?_
  refine g_if_eq X 33 dX9_stored_9 (by decide) (fun hc2 => ?_) (fun hc2 => ?_)
  · rw [nz_eq (by omega)] at hc2; first | omega | (simp at hc2)
  · refine g_run X KX9_stored_12_2 KX9_stored_12_2_d 13 [(0, .ref (ad 0)), (1, .int (nI ch)), (2, .int (nI q))] [.int (nI q)] rfl ?_
    refine g_callS X hSB hAf (As := [.int (nI q)]) (wr := WM ad g I L S (u2 Z 3 0 (nI 0)) Y ++ []) (n := 1) (c_X9_isLine_t l D g q (by omega)) rfl srcN hrdN w_1257 w_1255 w_1256 w_6 (by decide +kernel) rfl ⟨Nat.le_of_ble_eq_true rfl, Nat.le_of_ble_eq_true rfl⟩ rfl rfl rfl (Nat.le_of_ble_eq_true rfl) ⟨Nat.le_of_ble_eq_true rfl, Nat.le_of_ble_eq_true rfl⟩ dX9_stored_13 (fun hu3 _ => ?_)
    refine g_af (ws' := WM ad g I L S (u2 Z 3 0 (nI 0)) Y ++ []) (st' := [.int (nI 1)]) (cells' := 0) (slots' := 0) (pc' := 16) rfl rfl rfl rfl rfl ?_
    refine g_if_eq X 33 dX9_stored_16 (by decide) (fun hc4 => ?_) (fun hc4 => ?_)
    · rw [nz_eq (by omega)] at hc4; first | omega | (simp at hc4)
    · refine g_run X KX9_stored_19_3 KX9_stored_19_3_d 20 [(0, .ref (ad 0)), (1, .int (nI ch)), (2, .int (nI q))] [.ref (ad 0)] rfl ?_
      refine g_get X srcW (v := .ref (ad 3)) hinX9 rfl 3 (by decide) w_1183 rfl (wm_mem (k := 0) (by decide)) rfl dX9_stored_20 ?_
      refine g_run X KX9_stored_23_4 KX9_stored_23_4_d 29 [(0, .ref (ad 0)), (1, .int (nI ch)), (2, .int (nI q))] [.int (((nI ch) * (nI 16)) + (nI q)), .ref (ad 3)] rfl ?_
      refine g_nm (lv' := [(0, .ref (ad 0)), (1, .int (nI ch)), (2, .int (nI q))]) (st' := [.int (nI ((ch * 16) + q)), .ref (ad 3)]) (by simp only [nI_add, pk_mul]) (by simp only [nI_add, pk_mul]) ?_
      refine g_iald X srcW (v := nI (nib (L 0 ch) q)) 0 rfl (wm_mem (k := 3) (by decide)) ((ch * 16) + q) rfl (by omega) (by decide) (ar_at (c := ch) (q := q) (by omega)) dX9_stored_29 ?_
      refine g_run X KX9_stored_30_5 KX9_stored_30_5_d 38 [(0, .ref (ad 0)), (1, .int (nI ch)), (2, .int (nI q))] [.int (nI (nib (L 0 ch) q))] rfl ?_
      exact g_iret X hr () (rfl) (trivial) (rfl) (Nat.le_of_ble_eq_true rfl) (Nat.le_of_ble_eq_true rfl) dX9_stored_38

def KX9_stored_33_6 : List (Nat × Instr × Nat) := [(33, .aload_n 0, 1), (34, .iconst 1, 1)]
theorem KX9_stored_33_6_d : ∀ z ∈ KX9_stored_33_6, decode cX9_stored z.1 = .ok z.2 := by decide +kernel
set_option maxHeartbeats 4000000 in
set_option maxRecDepth 100000 in
theorem c_X9_stored_1 (l : Launch) (D : va_G) (g : Nat → ClassId) (ad : Nat → Nat) (I : Nat → Nat → Int32) (L : Nat → Nat → Int64) (S : Nat → Nat) (Z : Nat → Nat → Int32) (Y : Int64) (x : Int32) (y1 : Int32) (hx : x < 0 ∨ ¬ x ≤ nI 17) : CT l yX9_stored cX9_stored 3 ((Option.some FieldType.int)) ({ frames := 2, cells := 0, slots := 0, locals := 42 } : Room) [.ref (ad 0), .int x, .int y1] D CL (TYS g) ([]) (WM ad g I L S Z Y) (S := Unit) (fun _ => some (.int (nI 0))) (fun _ => WM ad g I L S (u2 (u2 Z 3 0 (nI 0)) 3 0 (nI 1)) Y) (fun _ => True) 0 0 := by
  refine ct_of (by decide +kernel) (Nat.le_of_ble_eq_true rfl) ?_
  intro p e s m below meth c A X hr hnm hSB hRO hAf
  refine g_cs (ws' := WM ad g I L S Z Y ++ []) (lv' := [(0, .ref (ad 0)), (1, .int x), (2, .int y1)]) (List.append_nil _) rfl ?_
  refine g_run X KX9_stored_0_0 KX9_stored_0_0_d 2 [(0, .ref (ad 0)), (1, .int x), (2, .int y1)] [.int (nI 0), .ref (ad 0)] rfl ?_
  refine g_put X (ws' := WM ad g I L S (u2 Z 3 0 (nI 0)) Y ++ []) hinX9 tyX9 tyX9_ok nmX9 rfl 0 (by decide) w_1180 rfl rfl (ty := .int) rfl rfl rfl (0) (wm_get (k := 0) (by decide)) (Nat.le_of_ble_eq_true rfl) (wm_mo0) dX9_stored_2 ?_
  refine g_run X KX9_stored_5_1 KX9_stored_5_1_d 6 [(0, .ref (ad 0)), (1, .int x), (2, .int y1)] [.int x] rfl ?_
  refine g_callS X hSB hAf (As := [.int x]) (wr := WM ad g I L S (u2 Z 3 0 (nI 0)) Y ++ []) (n := 1) (c_X9_isChip_f l D g x (hx)) rfl srcN hrdN w_1316 w_1314 w_1315 w_6 (by decide +kernel) rfl ⟨Nat.le_of_ble_eq_true rfl, Nat.le_of_ble_eq_true rfl⟩ rfl rfl rfl (Nat.le_of_ble_eq_true rfl) ⟨Nat.le_of_ble_eq_true rfl, Nat.le_of_ble_eq_true rfl⟩ dX9_stored_6 (fun hu1 _ => ?_)
  refine g_af (ws' := WM ad g I L S (u2 Z 3 0 (nI 0)) Y ++ []) (st' := [.int (nI 0)]) (cells' := 0) (slots' := 0) (pc' := 9) rfl rfl rfl rfl rfl ?_
  refine g_if_eq X 33 dX9_stored_9 (by decide) (fun hc2 => ?_) (fun hc2 => ?_)
  · refine g_run X KX9_stored_33_6 KX9_stored_33_6_d 35 [(0, .ref (ad 0)), (1, .int x), (2, .int y1)] [.int (nI 1), .ref (ad 0)] rfl ?_
    refine g_callV X hSB hAf (srcW) (hrc1 := (rfl : CL[8]? = some _)) (wm_mem (k := 0) (by decide)) rfl (As := [.int (nI 1)]) (wr := []) (n := 1) (c_X9_refuse l D g ad I L S (u2 Z 3 0 (nI 0)) Y 1 ) rfl srcN hrdN w_1264 w_1261 w_1263 w_s12 w_6 (by decide +kernel) rfl ⟨Nat.le_of_ble_eq_true rfl, Nat.le_of_ble_eq_true rfl⟩ rfl rfl rfl (Nat.le_of_ble_eq_true rfl) ⟨Nat.le_of_ble_eq_true rfl, Nat.le_of_ble_eq_true rfl⟩ dX9_stored_35 (fun hu3 _ => ?_)
    refine g_af (ws' := WM ad g I L S (u2 (u2 Z 3 0 (nI 0)) 3 0 (nI 1)) Y ++ []) (st' := [.int (nI 0)]) (cells' := 0) (slots' := 0) (pc' := 38) rfl rfl rfl rfl rfl ?_
    exact g_iret X hr () (rfl) (trivial) (rfl) (Nat.le_of_ble_eq_true rfl) (Nat.le_of_ble_eq_true rfl) dX9_stored_38
  · rw [nz_eq (by omega)] at hc2; first | omega | (simp at hc2)

set_option maxHeartbeats 4000000 in
set_option maxRecDepth 100000 in
theorem c_X9_stored_2 (l : Launch) (D : va_G) (g : Nat → ClassId) (ad : Nat → Nat) (I : Nat → Nat → Int32) (L : Nat → Nat → Int64) (S : Nat → Nat) (Z : Nat → Nat → Int32) (Y : Int64) (ch : Nat) (x : Int32) (hch : ch < 18) (hx : x < 0 ∨ ¬ x ≤ nI 15) : CT l yX9_stored cX9_stored 3 ((Option.some FieldType.int)) ({ frames := 2, cells := 0, slots := 0, locals := 42 } : Room) [.ref (ad 0), .int (nI ch), .int x] D CL (TYS g) ([]) (WM ad g I L S Z Y) (S := Unit) (fun _ => some (.int (nI 0))) (fun _ => WM ad g I L S (u2 (u2 Z 3 0 (nI 0)) 3 0 (nI 1)) Y) (fun _ => True) 0 0 := by
  refine ct_of (by decide +kernel) (Nat.le_of_ble_eq_true rfl) ?_
  intro p e s m below meth c A X hr hnm hSB hRO hAf
  refine g_cs (ws' := WM ad g I L S Z Y ++ []) (lv' := [(0, .ref (ad 0)), (1, .int (nI ch)), (2, .int x)]) (List.append_nil _) rfl ?_
  refine g_run X KX9_stored_0_0 KX9_stored_0_0_d 2 [(0, .ref (ad 0)), (1, .int (nI ch)), (2, .int x)] [.int (nI 0), .ref (ad 0)] rfl ?_
  refine g_put X (ws' := WM ad g I L S (u2 Z 3 0 (nI 0)) Y ++ []) hinX9 tyX9 tyX9_ok nmX9 rfl 0 (by decide) w_1180 rfl rfl (ty := .int) rfl rfl rfl (0) (wm_get (k := 0) (by decide)) (Nat.le_of_ble_eq_true rfl) (wm_mo0) dX9_stored_2 ?_
  refine g_run X KX9_stored_5_1 KX9_stored_5_1_d 6 [(0, .ref (ad 0)), (1, .int (nI ch)), (2, .int x)] [.int (nI ch)] rfl ?_
  refine g_callS X hSB hAf (As := [.int (nI ch)]) (wr := WM ad g I L S (u2 Z 3 0 (nI 0)) Y ++ []) (n := 1) (c_X9_isChip_t l D g ch (by omega)) rfl srcN hrdN w_1316 w_1314 w_1315 w_6 (by decide +kernel) rfl ⟨Nat.le_of_ble_eq_true rfl, Nat.le_of_ble_eq_true rfl⟩ rfl rfl rfl (Nat.le_of_ble_eq_true rfl) ⟨Nat.le_of_ble_eq_true rfl, Nat.le_of_ble_eq_true rfl⟩ dX9_stored_6 (fun hu1 _ => ?_)
  refine g_af (ws' := WM ad g I L S (u2 Z 3 0 (nI 0)) Y ++ []) (st' := [.int (nI 1)]) (cells' := 0) (slots' := 0) (pc' := 9) rfl rfl rfl rfl rfl ?_
  refine g_if_eq X 33 dX9_stored_9 (by decide) (fun hc2 => ?_) (fun hc2 => ?_)
  · rw [nz_eq (by omega)] at hc2; first | omega | (simp at hc2)
  · refine g_run X KX9_stored_12_2 KX9_stored_12_2_d 13 [(0, .ref (ad 0)), (1, .int (nI ch)), (2, .int x)] [.int x] rfl ?_
    refine g_callS X hSB hAf (As := [.int x]) (wr := WM ad g I L S (u2 Z 3 0 (nI 0)) Y ++ []) (n := 1) (c_X9_isLine_f l D g x (hx)) rfl srcN hrdN w_1257 w_1255 w_1256 w_6 (by decide +kernel) rfl ⟨Nat.le_of_ble_eq_true rfl, Nat.le_of_ble_eq_true rfl⟩ rfl rfl rfl (Nat.le_of_ble_eq_true rfl) ⟨Nat.le_of_ble_eq_true rfl, Nat.le_of_ble_eq_true rfl⟩ dX9_stored_13 (fun hu3 _ => ?_)
    refine g_af (ws' := WM ad g I L S (u2 Z 3 0 (nI 0)) Y ++ []) (st' := [.int (nI 0)]) (cells' := 0) (slots' := 0) (pc' := 16) rfl rfl rfl rfl rfl ?_
    refine g_if_eq X 33 dX9_stored_16 (by decide) (fun hc4 => ?_) (fun hc4 => ?_)
    · refine g_run X KX9_stored_33_6 KX9_stored_33_6_d 35 [(0, .ref (ad 0)), (1, .int (nI ch)), (2, .int x)] [.int (nI 1), .ref (ad 0)] rfl ?_
      refine g_callV X hSB hAf (srcW) (hrc1 := (rfl : CL[8]? = some _)) (wm_mem (k := 0) (by decide)) rfl (As := [.int (nI 1)]) (wr := []) (n := 1) (c_X9_refuse l D g ad I L S (u2 Z 3 0 (nI 0)) Y 1 ) rfl srcN hrdN w_1264 w_1261 w_1263 w_s12 w_6 (by decide +kernel) rfl ⟨Nat.le_of_ble_eq_true rfl, Nat.le_of_ble_eq_true rfl⟩ rfl rfl rfl (Nat.le_of_ble_eq_true rfl) ⟨Nat.le_of_ble_eq_true rfl, Nat.le_of_ble_eq_true rfl⟩ dX9_stored_35 (fun hu5 _ => ?_)
      refine g_af (ws' := WM ad g I L S (u2 (u2 Z 3 0 (nI 0)) 3 0 (nI 1)) Y ++ []) (st' := [.int (nI 0)]) (cells' := 0) (slots' := 0) (pc' := 38) rfl rfl rfl rfl rfl ?_
      exact g_iret X hr () (rfl) (trivial) (rfl) (Nat.le_of_ble_eq_true rfl) (Nat.le_of_ble_eq_true rfl) dX9_stored_38
    · rw [nz_eq (by omega)] at hc4; first | omega | (simp at hc4)

def KX9_seen_0_0 : List (Nat × Instr × Nat) := [(0, .aload_n 0, 1), (1, .iconst 0, 1)]
theorem KX9_seen_0_0_d : ∀ z ∈ KX9_seen_0_0, decode cX9_seen z.1 = .ok z.2 := by decide +kernel
def KX9_seen_5_1 : List (Nat × Instr × Nat) := [(5, .iload_n 1, 1)]
theorem KX9_seen_5_1_d : ∀ z ∈ KX9_seen_5_1, decode cX9_seen z.1 = .ok z.2 := by decide +kernel
def KX9_seen_12_2 : List (Nat × Instr × Nat) := [(12, .iload_n 2, 1)]
theorem KX9_seen_12_2_d : ∀ z ∈ KX9_seen_12_2, decode cX9_seen z.1 = .ok z.2 := by decide +kernel
def KX9_seen_19_3 : List (Nat × Instr × Nat) := [(19, .aload_n 0, 1), (20, .aload_n 0, 1)]
theorem KX9_seen_19_3_d : ∀ z ∈ KX9_seen_19_3, decode cX9_seen z.1 = .ok z.2 := by decide +kernel
def KX9_seen_24_4 : List (Nat × Instr × Nat) := [(24, .iload_n 2, 1)]
theorem KX9_seen_24_4_d : ∀ z ∈ KX9_seen_24_4, decode cX9_seen z.1 = .ok z.2 := by decide +kernel
def KX9_seen_26_5 : List (Nat × Instr × Nat) := [(26, .iload_n 1, 1)]
theorem KX9_seen_26_5_d : ∀ z ∈ KX9_seen_26_5, decode cX9_seen z.1 = .ok z.2 := by decide +kernel
def KX9_seen_30_6 : List (Nat × Instr × Nat) := [(30, .goto 8, 3)]
theorem KX9_seen_30_6_d : ∀ z ∈ KX9_seen_30_6, decode cX9_seen z.1 = .ok z.2 := by decide +kernel
set_option maxHeartbeats 4000000 in
set_option maxRecDepth 100000 in
theorem c_X9_seen (l : Launch) (D : va_G) (g : Nat → ClassId) (ad : Nat → Nat) (I : Nat → Nat → Int32) (L : Nat → Nat → Int64) (S : Nat → Nat) (Z : Nat → Nat → Int32) (Y : Int64) (q : Nat) (r : Nat) (hS18 : ∀ p, p < 15 → S p < 18) (hK : kOK I) (hq : q < 16) (hr : r < 15) : CT l yX9_seen cX9_seen 3 ((Option.some FieldType.int)) ({ frames := 2, cells := 0, slots := 0, locals := 42 } : Room) [.ref (ad 0), .int (nI q), .int (nI r)] D CL (TYS g) ([]) (WM ad g I L S Z Y) (S := Unit) (fun _ => some (.int (nI (rd I L (S r) q)))) (fun _ => WM ad g I L S (u2 Z 3 0 (nI 0)) Y) (fun _ => True) 0 0 := by
  refine ct_of (by decide +kernel) (Nat.le_of_ble_eq_true rfl) ?_
  intro p e s m below meth c A X hr hnm hSB hRO hAf
  refine g_cs (ws' := WM ad g I L S Z Y ++ []) (lv' := [(0, .ref (ad 0)), (1, .int (nI q)), (2, .int (nI r))]) (List.append_nil _) rfl ?_
  refine g_run X KX9_seen_0_0 KX9_seen_0_0_d 2 [(0, .ref (ad 0)), (1, .int (nI q)), (2, .int (nI r))] [.int (nI 0), .ref (ad 0)] rfl ?_
  refine g_put X (ws' := WM ad g I L S (u2 Z 3 0 (nI 0)) Y ++ []) hinX9 tyX9 tyX9_ok nmX9 rfl 0 (by decide) w_1180 rfl rfl (ty := .int) rfl rfl rfl (0) (wm_get (k := 0) (by decide)) (Nat.le_of_ble_eq_true rfl) (wm_mo0) dX9_seen_2 ?_
  refine g_run X KX9_seen_5_1 KX9_seen_5_1_d 6 [(0, .ref (ad 0)), (1, .int (nI q)), (2, .int (nI r))] [.int (nI q)] rfl ?_
  refine g_callS X hSB hAf (As := [.int (nI q)]) (wr := WM ad g I L S (u2 Z 3 0 (nI 0)) Y ++ []) (n := 1) (c_X9_isLine_t l D g q (by omega)) rfl srcN hrdN w_1257 w_1255 w_1256 w_6 (by decide +kernel) rfl ⟨Nat.le_of_ble_eq_true rfl, Nat.le_of_ble_eq_true rfl⟩ rfl rfl rfl (Nat.le_of_ble_eq_true rfl) ⟨Nat.le_of_ble_eq_true rfl, Nat.le_of_ble_eq_true rfl⟩ dX9_seen_6 (fun hu1 _ => ?_)
  refine g_af (ws' := WM ad g I L S (u2 Z 3 0 (nI 0)) Y ++ []) (st' := [.int (nI 1)]) (cells' := 0) (slots' := 0) (pc' := 9) rfl rfl rfl rfl rfl ?_
  refine g_if_eq X 33 dX9_seen_9 (by decide) (fun hc2 => ?_) (fun hc2 => ?_)
  · rw [nz_eq (by omega)] at hc2; first | omega | (simp at hc2)
  · refine g_run X KX9_seen_12_2 KX9_seen_12_2_d 13 [(0, .ref (ad 0)), (1, .int (nI q)), (2, .int (nI r))] [.int (nI r)] rfl ?_
    refine g_callS X hSB hAf (As := [.int (nI r)]) (wr := WM ad g I L S (u2 Z 3 0 (nI 0)) Y ++ []) (n := 1) (c_X9_isPlace_t l D g r (by omega)) rfl srcN hrdN w_1335 w_1333 w_1334 w_6 (by decide +kernel) rfl ⟨Nat.le_of_ble_eq_true rfl, Nat.le_of_ble_eq_true rfl⟩ rfl rfl rfl (Nat.le_of_ble_eq_true rfl) ⟨Nat.le_of_ble_eq_true rfl, Nat.le_of_ble_eq_true rfl⟩ dX9_seen_13 (fun hu3 _ => ?_)
    refine g_af (ws' := WM ad g I L S (u2 Z 3 0 (nI 0)) Y ++ []) (st' := [.int (nI 1)]) (cells' := 0) (slots' := 0) (pc' := 16) rfl rfl rfl rfl rfl ?_
    refine g_if_eq X 33 dX9_seen_16 (by decide) (fun hc4 => ?_) (fun hc4 => ?_)
    · rw [nz_eq (by omega)] at hc4; first | omega | (simp at hc4)
    · refine g_run X KX9_seen_19_3 KX9_seen_19_3_d 21 [(0, .ref (ad 0)), (1, .int (nI q)), (2, .int (nI r))] [.ref (ad 0), .ref (ad 0)] rfl ?_
      refine g_get X srcW (v := .ref (ad 7)) hinX9 rfl 7 (by decide) w_1187 rfl (wm_mem (k := 0) (by decide)) rfl dX9_seen_21 ?_
      refine g_run X KX9_seen_24_4 KX9_seen_24_4_d 25 [(0, .ref (ad 0)), (1, .int (nI q)), (2, .int (nI r))] [.int (nI r), .ref (ad 7), .ref (ad 0)] rfl ?_
      refine g_iald X srcW (v := nI (S r)) 0 rfl (wm_mem (k := 7) (by decide)) r rfl (by omega) (by decide) (st_at (by omega)) dX9_seen_25 ?_
      refine g_run X KX9_seen_26_5 KX9_seen_26_5_d 27 [(0, .ref (ad 0)), (1, .int (nI q)), (2, .int (nI r))] [.int (nI q), .int (nI (S r)), .ref (ad 0)] rfl ?_
      refine g_callV X hSB hAf (srcW) (hrc1 := (rfl : CL[8]? = some _)) (wm_mem (k := 0) (by decide)) rfl (As := [.int (nI (S r)), .int (nI q)]) (wr := []) (n := 2) (c_X9_readOf l D g ad I L S (u2 Z 3 0 (nI 0)) Y (S r) q (hK) (hS18 _ (by omega)) (by omega)) rfl srcN hrdN w_1276 w_1273 w_1275 w_s14 w_6 (by decide +kernel) rfl ⟨Nat.le_of_ble_eq_true rfl, Nat.le_of_ble_eq_true rfl⟩ rfl rfl rfl (Nat.le_of_ble_eq_true rfl) ⟨Nat.le_of_ble_eq_true rfl, Nat.le_of_ble_eq_true rfl⟩ dX9_seen_27 (fun hu5 _ => ?_)
      refine g_af (ws' := WM ad g I L S (u2 Z 3 0 (nI 0)) Y ++ []) (st' := [.int (nI (rd I L (S r) q))]) (cells' := 0) (slots' := 0) (pc' := 30) rfl rfl rfl rfl rfl ?_
      refine g_run X KX9_seen_30_6 KX9_seen_30_6_d 38 [(0, .ref (ad 0)), (1, .int (nI q)), (2, .int (nI r))] [.int (nI (rd I L (S r) q))] rfl ?_
      exact g_iret X hr () (rfl) (trivial) (rfl) (Nat.le_of_ble_eq_true rfl) (Nat.le_of_ble_eq_true rfl) dX9_seen_38

def KX9_seen_33_7 : List (Nat × Instr × Nat) := [(33, .aload_n 0, 1), (34, .iconst 1, 1)]
theorem KX9_seen_33_7_d : ∀ z ∈ KX9_seen_33_7, decode cX9_seen z.1 = .ok z.2 := by decide +kernel
set_option maxHeartbeats 4000000 in
set_option maxRecDepth 100000 in
theorem c_X9_seen_1 (l : Launch) (D : va_G) (g : Nat → ClassId) (ad : Nat → Nat) (I : Nat → Nat → Int32) (L : Nat → Nat → Int64) (S : Nat → Nat) (Z : Nat → Nat → Int32) (Y : Int64) (x : Int32) (y1 : Int32) (hx : x < 0 ∨ ¬ x ≤ nI 15) : CT l yX9_seen cX9_seen 3 ((Option.some FieldType.int)) ({ frames := 2, cells := 0, slots := 0, locals := 42 } : Room) [.ref (ad 0), .int x, .int y1] D CL (TYS g) ([]) (WM ad g I L S Z Y) (S := Unit) (fun _ => some (.int (nI 0))) (fun _ => WM ad g I L S (u2 (u2 Z 3 0 (nI 0)) 3 0 (nI 1)) Y) (fun _ => True) 0 0 := by
  refine ct_of (by decide +kernel) (Nat.le_of_ble_eq_true rfl) ?_
  intro p e s m below meth c A X hr hnm hSB hRO hAf
  refine g_cs (ws' := WM ad g I L S Z Y ++ []) (lv' := [(0, .ref (ad 0)), (1, .int x), (2, .int y1)]) (List.append_nil _) rfl ?_
  refine g_run X KX9_seen_0_0 KX9_seen_0_0_d 2 [(0, .ref (ad 0)), (1, .int x), (2, .int y1)] [.int (nI 0), .ref (ad 0)] rfl ?_
  refine g_put X (ws' := WM ad g I L S (u2 Z 3 0 (nI 0)) Y ++ []) hinX9 tyX9 tyX9_ok nmX9 rfl 0 (by decide) w_1180 rfl rfl (ty := .int) rfl rfl rfl (0) (wm_get (k := 0) (by decide)) (Nat.le_of_ble_eq_true rfl) (wm_mo0) dX9_seen_2 ?_
  refine g_run X KX9_seen_5_1 KX9_seen_5_1_d 6 [(0, .ref (ad 0)), (1, .int x), (2, .int y1)] [.int x] rfl ?_
  refine g_callS X hSB hAf (As := [.int x]) (wr := WM ad g I L S (u2 Z 3 0 (nI 0)) Y ++ []) (n := 1) (c_X9_isLine_f l D g x (hx)) rfl srcN hrdN w_1257 w_1255 w_1256 w_6 (by decide +kernel) rfl ⟨Nat.le_of_ble_eq_true rfl, Nat.le_of_ble_eq_true rfl⟩ rfl rfl rfl (Nat.le_of_ble_eq_true rfl) ⟨Nat.le_of_ble_eq_true rfl, Nat.le_of_ble_eq_true rfl⟩ dX9_seen_6 (fun hu1 _ => ?_)
  refine g_af (ws' := WM ad g I L S (u2 Z 3 0 (nI 0)) Y ++ []) (st' := [.int (nI 0)]) (cells' := 0) (slots' := 0) (pc' := 9) rfl rfl rfl rfl rfl ?_
  refine g_if_eq X 33 dX9_seen_9 (by decide) (fun hc2 => ?_) (fun hc2 => ?_)
  · refine g_run X KX9_seen_33_7 KX9_seen_33_7_d 35 [(0, .ref (ad 0)), (1, .int x), (2, .int y1)] [.int (nI 1), .ref (ad 0)] rfl ?_
    refine g_callV X hSB hAf (srcW) (hrc1 := (rfl : CL[8]? = some _)) (wm_mem (k := 0) (by decide)) rfl (As := [.int (nI 1)]) (wr := []) (n := 1) (c_X9_refuse l D g ad I L S (u2 Z 3 0 (nI 0)) Y 1 ) rfl srcN hrdN w_1264 w_1261 w_1263 w_s12 w_6 (by decide +kernel) rfl ⟨Nat.le_of_ble_eq_true rfl, Nat.le_of_ble_eq_true rfl⟩ rfl rfl rfl (Nat.le_of_ble_eq_true rfl) ⟨Nat.le_of_ble_eq_true rfl, Nat.le_of_ble_eq_true rfl⟩ dX9_seen_35 (fun hu3 _ => ?_)
    refine g_af (ws' := WM ad g I L S (u2 (u2 Z 3 0 (nI 0)) 3 0 (nI 1)) Y ++ []) (st' := [.int (nI 0)]) (cells' := 0) (slots' := 0) (pc' := 38) rfl rfl rfl rfl rfl ?_
    exact g_iret X hr () (rfl) (trivial) (rfl) (Nat.le_of_ble_eq_true rfl) (Nat.le_of_ble_eq_true rfl) dX9_seen_38
  · rw [nz_eq (by omega)] at hc2; first | omega | (simp at hc2)

set_option maxHeartbeats 4000000 in
set_option maxRecDepth 100000 in
theorem c_X9_seen_2 (l : Launch) (D : va_G) (g : Nat → ClassId) (ad : Nat → Nat) (I : Nat → Nat → Int32) (L : Nat → Nat → Int64) (S : Nat → Nat) (Z : Nat → Nat → Int32) (Y : Int64) (q : Nat) (x : Int32) (hq : q < 16) (hx : x < 0 ∨ ¬ x ≤ nI 14) : CT l yX9_seen cX9_seen 3 ((Option.some FieldType.int)) ({ frames := 2, cells := 0, slots := 0, locals := 42 } : Room) [.ref (ad 0), .int (nI q), .int x] D CL (TYS g) ([]) (WM ad g I L S Z Y) (S := Unit) (fun _ => some (.int (nI 0))) (fun _ => WM ad g I L S (u2 (u2 Z 3 0 (nI 0)) 3 0 (nI 1)) Y) (fun _ => True) 0 0 := by
  refine ct_of (by decide +kernel) (Nat.le_of_ble_eq_true rfl) ?_
  intro p e s m below meth c A X hr hnm hSB hRO hAf
  refine g_cs (ws' := WM ad g I L S Z Y ++ []) (lv' := [(0, .ref (ad 0)), (1, .int (nI q)), (2, .int x)]) (List.append_nil _) rfl ?_
  refine g_run X KX9_seen_0_0 KX9_seen_0_0_d 2 [(0, .ref (ad 0)), (1, .int (nI q)), (2, .int x)] [.int (nI 0), .ref (ad 0)] rfl ?_
  refine g_put X (ws' := WM ad g I L S (u2 Z 3 0 (nI 0)) Y ++ []) hinX9 tyX9 tyX9_ok nmX9 rfl 0 (by decide) w_1180 rfl rfl (ty := .int) rfl rfl rfl (0) (wm_get (k := 0) (by decide)) (Nat.le_of_ble_eq_true rfl) (wm_mo0) dX9_seen_2 ?_
  refine g_run X KX9_seen_5_1 KX9_seen_5_1_d 6 [(0, .ref (ad 0)), (1, .int (nI q)), (2, .int x)] [.int (nI q)] rfl ?_
  refine g_callS X hSB hAf (As := [.int (nI q)]) (wr := WM ad g I L S (u2 Z 3 0 (nI 0)) Y ++ []) (n := 1) (c_X9_isLine_t l D g q (by omega)) rfl srcN hrdN w_1257 w_1255 w_1256 w_6 (by decide +kernel) rfl ⟨Nat.le_of_ble_eq_true rfl, Nat.le_of_ble_eq_true rfl⟩ rfl rfl rfl (Nat.le_of_ble_eq_true rfl) ⟨Nat.le_of_ble_eq_true rfl, Nat.le_of_ble_eq_true rfl⟩ dX9_seen_6 (fun hu1 _ => ?_)
  refine g_af (ws' := WM ad g I L S (u2 Z 3 0 (nI 0)) Y ++ []) (st' := [.int (nI 1)]) (cells' := 0) (slots' := 0) (pc' := 9) rfl rfl rfl rfl rfl ?_
  refine g_if_eq X 33 dX9_seen_9 (by decide) (fun hc2 => ?_) (fun hc2 => ?_)
  · rw [nz_eq (by omega)] at hc2; first | omega | (simp at hc2)
  · refine g_run X KX9_seen_12_2 KX9_seen_12_2_d 13 [(0, .ref (ad 0)), (1, .int (nI q)), (2, .int x)] [.int x] rfl ?_
    refine g_callS X hSB hAf (As := [.int x]) (wr := WM ad g I L S (u2 Z 3 0 (nI 0)) Y ++ []) (n := 1) (c_X9_isPlace_f l D g x (hx)) rfl srcN hrdN w_1335 w_1333 w_1334 w_6 (by decide +kernel) rfl ⟨Nat.le_of_ble_eq_true rfl, Nat.le_of_ble_eq_true rfl⟩ rfl rfl rfl (Nat.le_of_ble_eq_true rfl) ⟨Nat.le_of_ble_eq_true rfl, Nat.le_of_ble_eq_true rfl⟩ dX9_seen_13 (fun hu3 _ => ?_)
    refine g_af (ws' := WM ad g I L S (u2 Z 3 0 (nI 0)) Y ++ []) (st' := [.int (nI 0)]) (cells' := 0) (slots' := 0) (pc' := 16) rfl rfl rfl rfl rfl ?_
    refine g_if_eq X 33 dX9_seen_16 (by decide) (fun hc4 => ?_) (fun hc4 => ?_)
    · refine g_run X KX9_seen_33_7 KX9_seen_33_7_d 35 [(0, .ref (ad 0)), (1, .int (nI q)), (2, .int x)] [.int (nI 1), .ref (ad 0)] rfl ?_
      refine g_callV X hSB hAf (srcW) (hrc1 := (rfl : CL[8]? = some _)) (wm_mem (k := 0) (by decide)) rfl (As := [.int (nI 1)]) (wr := []) (n := 1) (c_X9_refuse l D g ad I L S (u2 Z 3 0 (nI 0)) Y 1 ) rfl srcN hrdN w_1264 w_1261 w_1263 w_s12 w_6 (by decide +kernel) rfl ⟨Nat.le_of_ble_eq_true rfl, Nat.le_of_ble_eq_true rfl⟩ rfl rfl rfl (Nat.le_of_ble_eq_true rfl) ⟨Nat.le_of_ble_eq_true rfl, Nat.le_of_ble_eq_true rfl⟩ dX9_seen_35 (fun hu5 _ => ?_)
      refine g_af (ws' := WM ad g I L S (u2 (u2 Z 3 0 (nI 0)) 3 0 (nI 1)) Y ++ []) (st' := [.int (nI 0)]) (cells' := 0) (slots' := 0) (pc' := 38) rfl rfl rfl rfl rfl ?_
      exact g_iret X hr () (rfl) (trivial) (rfl) (Nat.le_of_ble_eq_true rfl) (Nat.le_of_ble_eq_true rfl) dX9_seen_38
    · rw [nz_eq (by omega)] at hc4; first | omega | (simp at hc4)

def KX9_read_0_0 : List (Nat × Instr × Nat) := [(0, .bipush 15, 2)]
theorem KX9_read_0_0_d : ∀ z ∈ KX9_read_0_0, decode cX9_read z.1 = .ok z.2 := by decide +kernel
def KX9_read_4_1 : List (Nat × Instr × Nat) := [(4, .astore_n 2, 1), (5, .iconst 0, 1), (6, .istore_n 3, 1)]
theorem KX9_read_4_1_d : ∀ z ∈ KX9_read_4_1, decode cX9_read z.1 = .ok z.2 := by decide +kernel
def KX9_read_7_2 : List (Nat × Instr × Nat) := [(7, .iload_n 3, 1), (8, .bipush 15, 2)]
theorem KX9_read_7_2_d : ∀ z ∈ KX9_read_7_2, decode cX9_read z.1 = .ok z.2 := by decide +kernel
def KX9_read_33_3 : List (Nat × Instr × Nat) := [(33, .aload_n 2, 1)]
theorem KX9_read_33_3_d : ∀ z ∈ KX9_read_33_3, decode cX9_read z.1 = .ok z.2 := by decide +kernel
def KX9_read_13_4 : List (Nat × Instr × Nat) := [(13, .aload_n 2, 1), (14, .iload_n 3, 1), (15, .aload_n 0, 1), (16, .aload_n 0, 1)]
theorem KX9_read_13_4_d : ∀ z ∈ KX9_read_13_4, decode cX9_read z.1 = .ok z.2 := by decide +kernel
def KX9_read_20_5 : List (Nat × Instr × Nat) := [(20, .iload_n 3, 1)]
theorem KX9_read_20_5_d : ∀ z ∈ KX9_read_20_5, decode cX9_read z.1 = .ok z.2 := by decide +kernel
def KX9_read_22_6 : List (Nat × Instr × Nat) := [(22, .iload_n 1, 1)]
theorem KX9_read_22_6_d : ∀ z ∈ KX9_read_22_6, decode cX9_read z.1 = .ok z.2 := by decide +kernel
def KX9_read_27_7 : List (Nat × Instr × Nat) := [(27, .iinc 3 1, 3), (30, .goto (-23), 3)]
theorem KX9_read_27_7_d : ∀ z ∈ KX9_read_27_7, decode cX9_read z.1 = .ok z.2 := by decide +kernel
set_option maxHeartbeats 4000000 in
set_option maxRecDepth 100000 in
theorem c_X9_read (l : Launch) (D : va_G) (g : Nat → ClassId) (ad : Nat → Nat) (I : Nat → Nat → Int32) (L : Nat → Nat → Int64) (S : Nat → Nat) (Z : Nat → Nat → Int32) (Y : Int64) (q : Nat) (hS18 : ∀ p, p < 15 → S p < 18) (hK : kOK I) (hq : q < 16) : CT l yX9_read cX9_read 4 ((Option.some (FieldType.array FieldType.int))) ({ frames := 1, cells := 1, slots := 15, locals := 23 } : Room) [.ref (ad 0), .int (nI q)] D CL (TYS g) ([]) (WM ad g I L S Z Y) (S := Nat) (fun u => some (.ref u)) (fun u => WM ad g I L S Z Y ++ [(u, Sum.inl (g 0, 15, .inl (wA (rwd I L S q 15))))]) (fun _ => True) 1 15 := by
  refine ct_of (by decide +kernel) (Nat.le_of_ble_eq_true rfl) ?_
  intro p e s m below meth c A X hr hnm hSB hRO hAf
  refine g_cs (ws' := WM ad g I L S Z Y ++ []) (lv' := [(0, .ref (ad 0)), (1, .int (nI q))]) (List.append_nil _) rfl ?_
  refine g_run X KX9_read_0_0 KX9_read_0_0_d 2 [(0, .ref (ad 0)), (1, .int (nI q))] [.int (nI 15)] rfl ?_
  refine g_newI X hAf 0 rfl w_1087 15 rfl (by decide) (Nat.le_of_ble_eq_true rfl) (Nat.le_of_ble_eq_true rfl) dX9_read_2 (fun qa1 => ?_)
  refine g_af (ws' := WM ad g I L S Z Y ++ [(qa1, Sum.inl (g 0, 15, .inl (fun _ => 0)))]) (st' := [.ref qa1]) (cells' := 1) (slots' := 15) (pc' := 4) (by rw [List.append_nil]) rfl rfl rfl rfl ?_
  refine g_run X KX9_read_4_1 KX9_read_4_1_d 7 [(3, .int (nI 0)), (2, .ref qa1), (0, .ref (ad 0)), (1, .int (nI q))] [] rfl ?_
  refine g_lv (lv' := [(0, .ref (ad 0)), (1, .int (nI q)), (2, .ref qa1), (3, .int (nI 0))]) (lsub_c 2 rfl (lsub_c 3 rfl (lsub_c 1 rfl (lsub_c 0 rfl (lsub_n))))) ?_
  refine g_for 15 (fun i => WM ad g I L S Z Y ++ [(qa1, Sum.inl (g 0, 15, .inl (wA (rwd I L S q i))))]) (fun i => [(0, .ref (ad 0)), (1, .int (nI q)), (2, .ref qa1), (3, .int (nI i))]) (by rw [rwd, wA_0]) (rfl) ?_ ?_
  · refine g_run X KX9_read_7_2 KX9_read_7_2_d 10 [(0, .ref (ad 0)), (1, .int (nI q)), (2, .ref qa1), (3, .int (nI 15))] [.int (nI 15), .int (nI 15)] rfl ?_
    refine g_icmp_ge X 33 dX9_read_10 (by decide) (fun hc2 => ?_) (fun hc2 => ?_)
    · refine g_run X KX9_read_33_3 KX9_read_33_3_d 34 [(0, .ref (ad 0)), (1, .int (nI q)), (2, .ref qa1), (3, .int (nI 15))] [.ref qa1] rfl ?_
      exact g_aret X hr (Or.inr ⟨_, rfl⟩) (Or.inr ⟨_, rfl⟩) qa1 (rfl) (trivial) ((List.append_nil _).symm) (Nat.le_of_ble_eq_true rfl) (Nat.le_of_ble_eq_true rfl) dX9_read_34
    · rw [nI_leI (by omega) (by omega)] at hc2; first | omega | (simp at hc2)
  · intro i hi k7
    refine g_run X KX9_read_7_2 KX9_read_7_2_d 10 [(0, .ref (ad 0)), (1, .int (nI q)), (2, .ref qa1), (3, .int (nI i))] [.int (nI 15), .int (nI i)] rfl ?_
    refine g_icmp_ge X 33 dX9_read_10 (by decide) (fun hc3 => ?_) (fun hc3 => ?_)
    · rw [nI_leI (by omega) (by omega)] at hc3; first | omega | (simp at hc3)
    · refine g_run X KX9_read_13_4 KX9_read_13_4_d 17 [(0, .ref (ad 0)), (1, .int (nI q)), (2, .ref qa1), (3, .int (nI i))] [.ref (ad 0), .ref (ad 0), .int (nI i), .ref qa1] rfl ?_
      refine g_get X srcW (v := .ref (ad 7)) hinX9 rfl 7 (by decide) w_1187 rfl (wm_mem (k := 0) (by decide)) rfl dX9_read_17 ?_
      refine g_run X KX9_read_20_5 KX9_read_20_5_d 21 [(0, .ref (ad 0)), (1, .int (nI q)), (2, .ref qa1), (3, .int (nI i))] [.int (nI i), .ref (ad 7), .ref (ad 0), .int (nI i), .ref qa1] rfl ?_
      refine g_iald X srcW (v := nI (S i)) 0 rfl (wm_mem (k := 7) (by decide)) i rfl (by omega) (by decide) (st_at (by omega)) dX9_read_21 ?_
      refine g_run X KX9_read_22_6 KX9_read_22_6_d 23 [(0, .ref (ad 0)), (1, .int (nI q)), (2, .ref qa1), (3, .int (nI i))] [.int (nI q), .int (nI (S i)), .ref (ad 0), .int (nI i), .ref qa1] rfl ?_
      refine g_callV X hSB hAf (srcW) (hrc1 := (rfl : CL[8]? = some _)) (wm_mem (k := 0) (by decide)) rfl (As := [.int (nI (S i)), .int (nI q)]) (wr := [(qa1, Sum.inl (g 0, 15, .inl (wA (rwd I L S q i))))]) (n := 2) (c_X9_readOf l D g ad I L S Z Y (S i) q (hK) (hS18 _ (by omega)) (by omega)) rfl srcN hrdN w_1276 w_1273 w_1275 w_s14 w_6 (by decide +kernel) rfl ⟨Nat.le_of_ble_eq_true rfl, Nat.le_of_ble_eq_true rfl⟩ rfl rfl rfl (Nat.le_of_ble_eq_true rfl) ⟨Nat.le_of_ble_eq_true rfl, Nat.le_of_ble_eq_true rfl⟩ dX9_read_23 (fun hu4 _ => ?_)
      refine g_af (ws' := WM ad g I L S Z Y ++ [(qa1, Sum.inl (g 0, 15, .inl (wA (rwd I L S q i))))]) (st' := [.int (nI (rd I L (S i) q)), .int (nI i), .ref qa1]) (cells' := 1) (slots' := 15) (pc' := 26) rfl rfl rfl rfl rfl ?_
      refine g_iast X (ws' := WM ad g I L S Z Y ++ [(qa1, Sum.inl (g 0, 15, .inl (wA (rwd I L S q (i + 1)))))]) 0 rfl 35 (wt_get0) i rfl (by omega) (by decide) (by rw [wA_up (by omega) (rd_lt _ _ _ _)]; exact wt_set0) dX9_read_26 ?_
      refine g_run X KX9_read_27_7 KX9_read_27_7_d 7 [(3, .int ((nI i) + (nI 1))), (0, .ref (ad 0)), (1, .int (nI q)), (2, .ref qa1)] [] rfl ?_
      refine g_nm (lv' := [(3, .int (nI (i + 1))), (0, .ref (ad 0)), (1, .int (nI q)), (2, .ref qa1)]) (st' := []) (by simp only [nI_add]) (by simp only [nI_add]) ?_
      refine g_lv (lv' := [(0, .ref (ad 0)), (1, .int (nI q)), (2, .ref qa1), (3, .int (nI (i + 1)))]) (lsub_c 1 rfl (lsub_c 2 rfl (lsub_c 3 rfl (lsub_c 0 rfl (lsub_n))))) ?_
      refine g_cs (ws' := WM ad g I L S Z Y ++ [(qa1, Sum.inl (g 0, 15, .inl (wA (rwd I L S q (i + 1)))))]) (lv' := [(0, .ref (ad 0)), (1, .int (nI q)), (2, .ref qa1), (3, .int (nI (i + 1)))]) (rfl) (rfl) ?_
      exact k7

def KX9_write_0_0 : List (Nat × Instr × Nat) := [(0, .iconst 0, 1), (1, .istore_n 3, 1)]
theorem KX9_write_0_0_d : ∀ z ∈ KX9_write_0_0, decode cX9_write z.1 = .ok z.2 := by decide +kernel
def KX9_write_2_1 : List (Nat × Instr × Nat) := [(2, .iload_n 3, 1), (3, .bipush 15, 2)]
theorem KX9_write_2_1_d : ∀ z ∈ KX9_write_2_1, decode cX9_write z.1 = .ok z.2 := by decide +kernel
def KX9_write_8_2 : List (Nat × Instr × Nat) := [(8, .aload_n 0, 1)]
theorem KX9_write_8_2_d : ∀ z ∈ KX9_write_8_2, decode cX9_write z.1 = .ok z.2 := by decide +kernel
def KX9_write_12_3 : List (Nat × Instr × Nat) := [(12, .aload_n 0, 1)]
theorem KX9_write_12_3_d : ∀ z ∈ KX9_write_12_3, decode cX9_write z.1 = .ok z.2 := by decide +kernel
def KX9_write_16_4 : List (Nat × Instr × Nat) := [(16, .iload_n 3, 1)]
theorem KX9_write_16_4_d : ∀ z ∈ KX9_write_16_4, decode cX9_write z.1 = .ok z.2 := by decide +kernel
def KX9_write_18_5 : List (Nat × Instr × Nat) := [(18, .bipush 16, 2), (20, .imul, 1), (21, .iload_n 1, 1), (22, .iadd, 1), (23, .aload_n 2, 1), (24, .iload_n 3, 1)]
theorem KX9_write_18_5_d : ∀ z ∈ KX9_write_18_5, decode cX9_write z.1 = .ok z.2 := by decide +kernel
def KX9_write_27_6 : List (Nat × Instr × Nat) := [(27, .iinc 3 1, 3), (30, .goto (-28), 3)]
theorem KX9_write_27_6_d : ∀ z ∈ KX9_write_27_6, decode cX9_write z.1 = .ok z.2 := by decide +kernel
set_option maxHeartbeats 4000000 in
set_option maxRecDepth 100000 in
theorem c_X9_write (l : Launch) (D : va_G) (g : Nat → ClassId) (ad : Nat → Nat) (I : Nat → Nat → Int32) (L : Nat → Nat → Int64) (S : Nat → Nat) (Z : Nat → Nat → Int32) (Y : Int64) (q : Nat) (wa : Nat) (x : Int64) (hS18 : ∀ p, p < 15 → S p < 18) (hq : q < 16) : CT l yX9_write cX9_write 4 ((Option.none : Option Jvm.ClassFile.FieldType)) ({ frames := 0, cells := 0, slots := 0, locals := 0 } : Room) [.ref (ad 0), .int (nI q), .ref wa] D CL (TYS g) ([(wa, Sum.inl (g 0, 15, .inl (wA x)))]) (WM ad g I L S Z Y) (S := Unit) (fun _ => none) (fun _ => WM ad g I (wrw S L q x 15) S Z Y) (fun _ => True) 0 0 := by
  refine ct_of (by decide +kernel) (Nat.le_of_ble_eq_true rfl) ?_
  intro p e s m below meth c A X hr hnm hSB hRO hAf
  refine g_cs (ws' := WM ad g I L S Z Y ++ []) (lv' := [(0, .ref (ad 0)), (1, .int (nI q)), (2, .ref wa)]) (List.append_nil _) rfl ?_
  refine g_run X KX9_write_0_0 KX9_write_0_0_d 2 [(3, .int (nI 0)), (0, .ref (ad 0)), (1, .int (nI q)), (2, .ref wa)] [] rfl ?_
  refine g_lv (lv' := [(0, .ref (ad 0)), (1, .int (nI q)), (2, .ref wa), (3, .int (nI 0))]) (lsub_c 1 rfl (lsub_c 2 rfl (lsub_c 3 rfl (lsub_c 0 rfl (lsub_n))))) ?_
  refine g_for 15 (fun i => WM ad g I (wrw S L q x i) S Z Y ++ []) (fun i => [(0, .ref (ad 0)), (1, .int (nI q)), (2, .ref wa), (3, .int (nI i))]) (rfl) (rfl) ?_ ?_
  · refine g_run X KX9_write_2_1 KX9_write_2_1_d 5 [(0, .ref (ad 0)), (1, .int (nI q)), (2, .ref wa), (3, .int (nI 15))] [.int (nI 15), .int (nI 15)] rfl ?_
    refine g_icmp_ge X 33 dX9_write_5 (by decide) (fun hc1 => ?_) (fun hc1 => ?_)
    · exact g_vret X hr () rfl (trivial) (rfl) (Nat.le_of_ble_eq_true rfl) (Nat.le_of_ble_eq_true rfl) dX9_write_33
    · rw [nI_leI (by omega) (by omega)] at hc1; first | omega | (simp at hc1)
  · intro i hi k2
    refine g_run X KX9_write_2_1 KX9_write_2_1_d 5 [(0, .ref (ad 0)), (1, .int (nI q)), (2, .ref wa), (3, .int (nI i))] [.int (nI 15), .int (nI i)] rfl ?_
    refine g_icmp_ge X 33 dX9_write_5 (by decide) (fun hc2 => ?_) (fun hc2 => ?_)
    · rw [nI_leI (by omega) (by omega)] at hc2; first | omega | (simp at hc2)
    · refine g_run X KX9_write_8_2 KX9_write_8_2_d 9 [(0, .ref (ad 0)), (1, .int (nI q)), (2, .ref wa), (3, .int (nI i))] [.ref (ad 0)] rfl ?_
      refine g_get X srcW (v := .ref (ad 3)) hinX9 rfl 3 (by decide) w_1183 rfl (wm_mem (k := 0) (by decide)) rfl dX9_write_9 ?_
      refine g_run X KX9_write_12_3 KX9_write_12_3_d 13 [(0, .ref (ad 0)), (1, .int (nI q)), (2, .ref wa), (3, .int (nI i))] [.ref (ad 0), .ref (ad 3)] rfl ?_
      refine g_get X srcW (v := .ref (ad 7)) hinX9 rfl 7 (by decide) w_1187 rfl (wm_mem (k := 0) (by decide)) rfl dX9_write_13 ?_
      refine g_run X KX9_write_16_4 KX9_write_16_4_d 17 [(0, .ref (ad 0)), (1, .int (nI q)), (2, .ref wa), (3, .int (nI i))] [.int (nI i), .ref (ad 7), .ref (ad 3)] rfl ?_
      refine g_iald X srcW (v := nI (S i)) 0 rfl (wm_mem (k := 7) (by decide)) i rfl (by omega) (by decide) (st_at (by omega)) dX9_write_17 ?_
      refine g_run X KX9_write_18_5 KX9_write_18_5_d 25 [(0, .ref (ad 0)), (1, .int (nI q)), (2, .ref wa), (3, .int (nI i))] [.int (nI i), .ref wa, .int (((nI (S i)) * (nI 16)) + (nI q)), .ref (ad 3)] rfl ?_
      refine g_nm (lv' := [(0, .ref (ad 0)), (1, .int (nI q)), (2, .ref wa), (3, .int (nI i))]) (st' := [.int (nI i), .ref wa, .int (nI (((S i) * 16) + q)), .ref (ad 3)]) (by simp only [nI_add, pk_mul]) (by simp only [nI_add, pk_mul]) ?_
      refine g_iald X (srcR hRO) (v := nI (nib x i)) 0 rfl (List.mem_cons_self ..) i rfl (by omega) (by decide) (rfl) dX9_write_25 ?_
      refine g_iast X (ws' := WM ad g I (u2 (wrw S L q x i) 0 (S i) (wn ((wrw S L q x i) 0 (S i)) q (nib x i))) S Z Y ++ []) 0 rfl 3 (wm_get (k := 3) (by decide)) (((S i) * 16) + q) rfl (by have := hS18 _ (show i < 15 by omega); omega) (by decide) (wm_ar0 (c := S i) (q := q) (by omega) (nib_lt _ _)) dX9_write_26 ?_
      refine g_run X KX9_write_27_6 KX9_write_27_6_d 2 [(3, .int ((nI i) + (nI 1))), (0, .ref (ad 0)), (1, .int (nI q)), (2, .ref wa)] [] rfl ?_
      refine g_nm (lv' := [(3, .int (nI (i + 1))), (0, .ref (ad 0)), (1, .int (nI q)), (2, .ref wa)]) (st' := []) (by simp only [nI_add]) (by simp only [nI_add]) ?_
      refine g_lv (lv' := [(0, .ref (ad 0)), (1, .int (nI q)), (2, .ref wa), (3, .int (nI (i + 1)))]) (lsub_c 1 rfl (lsub_c 2 rfl (lsub_c 3 rfl (lsub_c 0 rfl (lsub_n))))) ?_
      refine g_cs (ws' := WM ad g I (wrw S L q x (i + 1)) S Z Y ++ []) (lv' := [(0, .ref (ad 0)), (1, .int (nI q)), (2, .ref wa), (3, .int (nI (i + 1)))]) (rfl) (rfl) ?_
      exact k2

set_option maxHeartbeats 4000000 in
set_option maxRecDepth 100000 in
theorem c_X9_write_m (l : Launch) (D : va_G) (g : Nat → ClassId) (ad : Nat → Nat) (I : Nat → Nat → Int32) (L : Nat → Nat → Int64) (S : Nat → Nat) (Z : Nat → Nat → Int32) (Y : Int64) (q : Nat) (x : Int64) (hS18 : ∀ p, p < 15 → S p < 18) (hz : Z 2 = wA x) (hq : q < 16) : CT l yX9_write cX9_write 4 ((Option.none : Option Jvm.ClassFile.FieldType)) ({ frames := 0, cells := 0, slots := 0, locals := 0 } : Room) [.ref (ad 0), .int (nI q), .ref (ad 10)] D CL (TYS g) ([]) (WM ad g I L S Z Y) (S := Unit) (fun _ => none) (fun _ => WM ad g I (wrw S L q x 15) S Z Y) (fun _ => True) 0 0 := by
  refine ct_of (by decide +kernel) (Nat.le_of_ble_eq_true rfl) ?_
  intro p e s m below meth c A X hr hnm hSB hRO hAf
  refine g_cs (ws' := WM ad g I L S Z Y ++ []) (lv' := [(0, .ref (ad 0)), (1, .int (nI q)), (2, .ref (ad 10))]) (List.append_nil _) rfl ?_
  refine g_run X KX9_write_0_0 KX9_write_0_0_d 2 [(3, .int (nI 0)), (0, .ref (ad 0)), (1, .int (nI q)), (2, .ref (ad 10))] [] rfl ?_
  refine g_lv (lv' := [(0, .ref (ad 0)), (1, .int (nI q)), (2, .ref (ad 10)), (3, .int (nI 0))]) (lsub_c 1 rfl (lsub_c 2 rfl (lsub_c 3 rfl (lsub_c 0 rfl (lsub_n))))) ?_
  refine g_for 15 (fun i => WM ad g I (wrw S L q x i) S Z Y ++ []) (fun i => [(0, .ref (ad 0)), (1, .int (nI q)), (2, .ref (ad 10)), (3, .int (nI i))]) (rfl) (rfl) ?_ ?_
  · refine g_run X KX9_write_2_1 KX9_write_2_1_d 5 [(0, .ref (ad 0)), (1, .int (nI q)), (2, .ref (ad 10)), (3, .int (nI 15))] [.int (nI 15), .int (nI 15)] rfl ?_
    refine g_icmp_ge X 33 dX9_write_5 (by decide) (fun hc1 => ?_) (fun hc1 => ?_)
    · exact g_vret X hr () rfl (trivial) (rfl) (Nat.le_of_ble_eq_true rfl) (Nat.le_of_ble_eq_true rfl) dX9_write_33
    · rw [nI_leI (by omega) (by omega)] at hc1; first | omega | (simp at hc1)
  · intro i hi k2
    refine g_run X KX9_write_2_1 KX9_write_2_1_d 5 [(0, .ref (ad 0)), (1, .int (nI q)), (2, .ref (ad 10)), (3, .int (nI i))] [.int (nI 15), .int (nI i)] rfl ?_
    refine g_icmp_ge X 33 dX9_write_5 (by decide) (fun hc2 => ?_) (fun hc2 => ?_)
    · rw [nI_leI (by omega) (by omega)] at hc2; first | omega | (simp at hc2)
    · refine g_run X KX9_write_8_2 KX9_write_8_2_d 9 [(0, .ref (ad 0)), (1, .int (nI q)), (2, .ref (ad 10)), (3, .int (nI i))] [.ref (ad 0)] rfl ?_
      refine g_get X srcW (v := .ref (ad 3)) hinX9 rfl 3 (by decide) w_1183 rfl (wm_mem (k := 0) (by decide)) rfl dX9_write_9 ?_
      refine g_run X KX9_write_12_3 KX9_write_12_3_d 13 [(0, .ref (ad 0)), (1, .int (nI q)), (2, .ref (ad 10)), (3, .int (nI i))] [.ref (ad 0), .ref (ad 3)] rfl ?_
      refine g_get X srcW (v := .ref (ad 7)) hinX9 rfl 7 (by decide) w_1187 rfl (wm_mem (k := 0) (by decide)) rfl dX9_write_13 ?_
      refine g_run X KX9_write_16_4 KX9_write_16_4_d 17 [(0, .ref (ad 0)), (1, .int (nI q)), (2, .ref (ad 10)), (3, .int (nI i))] [.int (nI i), .ref (ad 7), .ref (ad 3)] rfl ?_
      refine g_iald X srcW (v := nI (S i)) 0 rfl (wm_mem (k := 7) (by decide)) i rfl (by omega) (by decide) (st_at (by omega)) dX9_write_17 ?_
      refine g_run X KX9_write_18_5 KX9_write_18_5_d 25 [(0, .ref (ad 0)), (1, .int (nI q)), (2, .ref (ad 10)), (3, .int (nI i))] [.int (nI i), .ref (ad 10), .int (((nI (S i)) * (nI 16)) + (nI q)), .ref (ad 3)] rfl ?_
      refine g_nm (lv' := [(0, .ref (ad 0)), (1, .int (nI q)), (2, .ref (ad 10)), (3, .int (nI i))]) (st' := [.int (nI i), .ref (ad 10), .int (nI (((S i) * 16) + q)), .ref (ad 3)]) (by simp only [nI_add, pk_mul]) (by simp only [nI_add, pk_mul]) ?_
      refine g_iald X srcW (v := nI (nib x i)) 0 rfl (wm_mem (k := 10) (by decide)) i rfl (by omega) (by decide) (by rw [hz]; rfl) dX9_write_25 ?_
      refine g_iast X (ws' := WM ad g I (u2 (wrw S L q x i) 0 (S i) (wn ((wrw S L q x i) 0 (S i)) q (nib x i))) S Z Y ++ []) 0 rfl 3 (wm_get (k := 3) (by decide)) (((S i) * 16) + q) rfl (by have := hS18 _ (show i < 15 by omega); omega) (by decide) (wm_ar0 (c := S i) (q := q) (by omega) (nib_lt _ _)) dX9_write_26 ?_
      refine g_run X KX9_write_27_6 KX9_write_27_6_d 2 [(3, .int ((nI i) + (nI 1))), (0, .ref (ad 0)), (1, .int (nI q)), (2, .ref (ad 10))] [] rfl ?_
      refine g_nm (lv' := [(3, .int (nI (i + 1))), (0, .ref (ad 0)), (1, .int (nI q)), (2, .ref (ad 10))]) (st' := []) (by simp only [nI_add]) (by simp only [nI_add]) ?_
      refine g_lv (lv' := [(0, .ref (ad 0)), (1, .int (nI q)), (2, .ref (ad 10)), (3, .int (nI (i + 1)))]) (lsub_c 1 rfl (lsub_c 2 rfl (lsub_c 3 rfl (lsub_c 0 rfl (lsub_n))))) ?_
      refine g_cs (ws' := WM ad g I (wrw S L q x (i + 1)) S Z Y ++ []) (lv' := [(0, .ref (ad 0)), (1, .int (nI q)), (2, .ref (ad 10)), (3, .int (nI (i + 1)))]) (rfl) (rfl) ?_
      exact k2

def KX9_sumOf_0_0 : List (Nat × Instr × Nat) := [(0, .iconst 0, 1), (1, .istore_n 3, 1), (2, .iconst 0, 1), (3, .istore 4, 2)]
theorem KX9_sumOf_0_0_d : ∀ z ∈ KX9_sumOf_0_0, decode cX9_sumOf z.1 = .ok z.2 := by decide +kernel
def KX9_sumOf_5_1 : List (Nat × Instr × Nat) := [(5, .iload 4, 2), (7, .bipush 15, 2)]
theorem KX9_sumOf_5_1_d : ∀ z ∈ KX9_sumOf_5_1, decode cX9_sumOf z.1 = .ok z.2 := by decide +kernel
def KX9_sumOf_37_2 : List (Nat × Instr × Nat) := [(37, .iload_n 3, 1)]
theorem KX9_sumOf_37_2_d : ∀ z ∈ KX9_sumOf_37_2, decode cX9_sumOf z.1 = .ok z.2 := by decide +kernel
def KX9_sumOf_12_3 : List (Nat × Instr × Nat) := [(12, .iload_n 3, 1), (13, .aload_n 0, 1), (14, .aload_n 1, 1), (15, .iload 4, 2)]
theorem KX9_sumOf_12_3_d : ∀ z ∈ KX9_sumOf_12_3, decode cX9_sumOf z.1 = .ok z.2 := by decide +kernel
def KX9_sumOf_18_4 : List (Nat × Instr × Nat) := [(18, .aload_n 0, 1), (19, .iload 4, 2), (21, .iload_n 2, 1), (22, .imul, 1)]
theorem KX9_sumOf_18_4_d : ∀ z ∈ KX9_sumOf_18_4, decode cX9_sumOf z.1 = .ok z.2 := by decide +kernel
def KX9_sumOf_29_5 : List (Nat × Instr × Nat) := [(29, .ixor, 1), (30, .istore_n 3, 1), (31, .iinc 4 1, 3), (34, .goto (-29), 3)]
theorem KX9_sumOf_29_5_d : ∀ z ∈ KX9_sumOf_29_5, decode cX9_sumOf z.1 = .ok z.2 := by decide +kernel
set_option maxHeartbeats 4000000 in
set_option maxRecDepth 100000 in
theorem c_X9_sumOf (l : Launch) (D : va_G) (g : Nat → ClassId) (ad : Nat → Nat) (I : Nat → Nat → Int32) (L : Nat → Nat → Int64) (S : Nat → Nat) (Z : Nat → Nat → Int32) (Y : Int64) (wa : Nat) (x : Int64) (j : Nat) (hj : j < 5) : CT l yX9_sumOf cX9_sumOf 5 ((Option.some FieldType.int)) ({ frames := 1, cells := 0, slots := 0, locals := 22 } : Room) [.ref (ad 0), .ref wa, .int (nI j)] D CL (TYS g) ([(wa, Sum.inl (g 0, 15, .inl (wA x)))]) (WM ad g I L S Z Y) (S := Unit) (fun _ => some (.int (nI (sm x j 15)))) (fun _ => WM ad g I L S Z Y) (fun _ => True) 0 0 := by
  refine ct_of (by decide +kernel) (Nat.le_of_ble_eq_true rfl) ?_
  intro p e s m below meth c A X hr hnm hSB hRO hAf
  refine g_cs (ws' := WM ad g I L S Z Y ++ []) (lv' := [(0, .ref (ad 0)), (1, .ref wa), (2, .int (nI j))]) (List.append_nil _) rfl ?_
  refine g_run X KX9_sumOf_0_0 KX9_sumOf_0_0_d 5 [(4, .int (nI 0)), (3, .int (nI 0)), (0, .ref (ad 0)), (1, .ref wa), (2, .int (nI j))] [] rfl ?_
  refine g_lv (lv' := [(0, .ref (ad 0)), (1, .ref wa), (2, .int (nI j)), (3, .int (nI 0)), (4, .int (nI 0))]) (lsub_c 2 rfl (lsub_c 3 rfl (lsub_c 4 rfl (lsub_c 1 rfl (lsub_c 0 rfl (lsub_n)))))) ?_
  refine g_for 15 (fun _ => WM ad g I L S Z Y ++ []) (fun i => [(0, .ref (ad 0)), (1, .ref wa), (2, .int (nI j)), (3, .int (nI (sm x j i))), (4, .int (nI i))]) (rfl) (rfl) ?_ ?_
  · refine g_run X KX9_sumOf_5_1 KX9_sumOf_5_1_d 9 [(0, .ref (ad 0)), (1, .ref wa), (2, .int (nI j)), (3, .int (nI (sm x j 15))), (4, .int (nI 15))] [.int (nI 15), .int (nI 15)] rfl ?_
    refine g_icmp_ge X 37 dX9_sumOf_9 (by decide) (fun hc1 => ?_) (fun hc1 => ?_)
    · refine g_run X KX9_sumOf_37_2 KX9_sumOf_37_2_d 38 [(0, .ref (ad 0)), (1, .ref wa), (2, .int (nI j)), (3, .int (nI (sm x j 15))), (4, .int (nI 15))] [.int (nI (sm x j 15))] rfl ?_
      exact g_iret X hr () (rfl) (trivial) (rfl) (Nat.le_of_ble_eq_true rfl) (Nat.le_of_ble_eq_true rfl) dX9_sumOf_38
    · rw [nI_leI (by omega) (by omega)] at hc1; first | omega | (simp at hc1)
  · intro i hi k5
    refine g_run X KX9_sumOf_5_1 KX9_sumOf_5_1_d 9 [(0, .ref (ad 0)), (1, .ref wa), (2, .int (nI j)), (3, .int (nI (sm x j i))), (4, .int (nI i))] [.int (nI 15), .int (nI i)] rfl ?_
    refine g_icmp_ge X 37 dX9_sumOf_9 (by decide) (fun hc2 => ?_) (fun hc2 => ?_)
    · rw [nI_leI (by omega) (by omega)] at hc2; first | omega | (simp at hc2)
    · refine g_run X KX9_sumOf_12_3 KX9_sumOf_12_3_d 17 [(0, .ref (ad 0)), (1, .ref wa), (2, .int (nI j)), (3, .int (nI (sm x j i))), (4, .int (nI i))] [.int (nI i), .ref wa, .ref (ad 0), .int (nI (sm x j i))] rfl ?_
      refine g_iald X (srcR hRO) (v := nI (nib x i)) 0 rfl (List.mem_cons_self ..) i rfl (by omega) (by decide) (rfl) dX9_sumOf_17 ?_
      refine g_run X KX9_sumOf_18_4 KX9_sumOf_18_4_d 23 [(0, .ref (ad 0)), (1, .ref wa), (2, .int (nI j)), (3, .int (nI (sm x j i))), (4, .int (nI i))] [.int ((nI i) * (nI j)), .ref (ad 0), .int (nI (nib x i)), .ref (ad 0), .int (nI (sm x j i))] rfl ?_
      refine g_nm (lv' := [(0, .ref (ad 0)), (1, .ref wa), (2, .int (nI j)), (3, .int (nI (sm x j i))), (4, .int (nI i))]) (st' := [.int (nI (i * j)), .ref (ad 0), .int (nI (nib x i)), .ref (ad 0), .int (nI (sm x j i))]) (by simp only [pk_mul]) (by simp only [pk_mul]) ?_
      refine g_callV X hSB hAf (srcW) (hrc1 := (rfl : CL[8]? = some _)) (wm_mem (k := 0) (by decide)) rfl (As := [.int (nI (i * j))]) (wr := []) (n := 1) (c_X9_powerOf l D g ad I L S Z Y (i * j) (Nat.lt_trans (Nat.mul_lt_mul'' (show i < 15 by omega) hj) (by decide))) rfl srcN hrdN w_1292 w_1289 w_1291 w_s17 w_6 (by decide +kernel) rfl ⟨Nat.le_of_ble_eq_true rfl, Nat.le_of_ble_eq_true rfl⟩ rfl rfl rfl (Nat.le_of_ble_eq_true rfl) ⟨Nat.le_of_ble_eq_true rfl, Nat.le_of_ble_eq_true rfl⟩ dX9_sumOf_23 (fun hu3 _ => ?_)
      refine g_af (ws' := WM ad g I L S Z Y ++ []) (st' := [.int (nI (pw ((i * j) % 15))), .int (nI (nib x i)), .ref (ad 0), .int (nI (sm x j i))]) (cells' := 0) (slots' := 0) (pc' := 26) rfl rfl rfl rfl rfl ?_
      refine g_callV X hSB hAf (srcW) (hrc1 := (rfl : CL[8]? = some _)) (wm_mem (k := 0) (by decide)) rfl (As := [.int (nI (nib x i)), .int (nI (pw ((i * j) % 15)))]) (wr := []) (n := 2) (c_X9_by l D g ad I L S Z Y (nib x i) (pw ((i * j) % 15)) (nib_lt _ _) (pw_lt _ (Nat.mod_lt _ (by decide)))) rfl srcN hrdN w_1300 w_1297 w_1299 w_s19 w_6 (by decide +kernel) rfl ⟨Nat.le_of_ble_eq_true rfl, Nat.le_of_ble_eq_true rfl⟩ rfl rfl rfl (Nat.le_of_ble_eq_true rfl) ⟨Nat.le_of_ble_eq_true rfl, Nat.le_of_ble_eq_true rfl⟩ dX9_sumOf_26 (fun hu4 _ => ?_)
      refine g_af (ws' := WM ad g I L S Z Y ++ []) (st' := [.int (nI (gm (nib x i) (pw ((i * j) % 15)))), .int (nI (sm x j i))]) (cells' := 0) (slots' := 0) (pc' := 29) rfl rfl rfl rfl rfl ?_
      refine g_run X KX9_sumOf_29_5 KX9_sumOf_29_5_d 5 [(4, .int ((nI i) + (nI 1))), (3, .int ((nI (sm x j i)) ^^^ (nI (gm (nib x i) (pw ((i * j) % 15)))))), (0, .ref (ad 0)), (1, .ref wa), (2, .int (nI j))] [] rfl ?_
      refine g_nm (lv' := [(4, .int (nI (i + 1))), (3, .int (nI ((sm x j i) ^^^ (gm (nib x i) (pw ((i * j) % 15)))))), (0, .ref (ad 0)), (1, .ref wa), (2, .int (nI j))]) (st' := []) (by simp only [nI_add, nx_xor]) (by simp only [nI_add, nx_xor]) ?_
      refine g_lv (lv' := [(0, .ref (ad 0)), (1, .ref wa), (2, .int (nI j)), (3, .int (nI ((sm x j i) ^^^ (gm (nib x i) (pw ((i * j) % 15)))))), (4, .int (nI (i + 1)))]) (lsub_c 2 rfl (lsub_c 3 rfl (lsub_c 4 rfl (lsub_c 1 rfl (lsub_c 0 rfl (lsub_n)))))) ?_
      refine g_cs (ws' := WM ad g I L S Z Y ++ []) (lv' := [(0, .ref (ad 0)), (1, .ref wa), (2, .int (nI j)), (3, .int (nI (sm x j (i + 1)))), (4, .int (nI (i + 1)))]) (rfl) (by rw [sm, gmp _ (nib_lt _ _)]) ?_
      exact k5

def KX9_differing_0_0 : List (Nat × Instr × Nat) := [(0, .iconst 0, 1), (1, .istore_n 2, 1), (2, .iconst 0, 1), (3, .istore_n 3, 1)]
theorem KX9_differing_0_0_d : ∀ z ∈ KX9_differing_0_0, decode cX9_differing z.1 = .ok z.2 := by decide +kernel
def KX9_differing_4_1 : List (Nat × Instr × Nat) := [(4, .iload_n 3, 1), (5, .bipush 15, 2)]
theorem KX9_differing_4_1_d : ∀ z ∈ KX9_differing_4_1, decode cX9_differing z.1 = .ok z.2 := by decide +kernel
def KX9_differing_38_2 : List (Nat × Instr × Nat) := [(38, .iload_n 2, 1)]
theorem KX9_differing_38_2_d : ∀ z ∈ KX9_differing_38_2, decode cX9_differing z.1 = .ok z.2 := by decide +kernel
def KX9_differing_10_3 : List (Nat × Instr × Nat) := [(10, .iload_n 2, 1), (11, .aload_n 1, 1), (12, .iload_n 3, 1)]
theorem KX9_differing_10_3_d : ∀ z ∈ KX9_differing_10_3, decode cX9_differing z.1 = .ok z.2 := by decide +kernel
def KX9_differing_14_4 : List (Nat × Instr × Nat) := [(14, .aload_n 0, 1)]
theorem KX9_differing_14_4_d : ∀ z ∈ KX9_differing_14_4, decode cX9_differing z.1 = .ok z.2 := by decide +kernel
def KX9_differing_18_5 : List (Nat × Instr × Nat) := [(18, .iload_n 3, 1)]
theorem KX9_differing_18_5_d : ∀ z ∈ KX9_differing_18_5, decode cX9_differing z.1 = .ok z.2 := by decide +kernel
def KX9_differing_27_6 : List (Nat × Instr × Nat) := [(27, .iconst 1, 1), (28, .iload_n 3, 1), (29, .ishl, 1), (30, .ior, 1), (31, .istore_n 2, 1), (32, .iinc 3 1, 3), (35, .goto (-31), 3)]
theorem KX9_differing_27_6_d : ∀ z ∈ KX9_differing_27_6, decode cX9_differing z.1 = .ok z.2 := by decide +kernel
def KX9_differing_23_7 : List (Nat × Instr × Nat) := [(23, .iconst 0, 1), (24, .goto 6, 3), (30, .ior, 1), (31, .istore_n 2, 1), (32, .iinc 3 1, 3), (35, .goto (-31), 3)]
theorem KX9_differing_23_7_d : ∀ z ∈ KX9_differing_23_7, decode cX9_differing z.1 = .ok z.2 := by decide +kernel
set_option maxHeartbeats 4000000 in
set_option maxRecDepth 100000 in
theorem c_X9_differing (l : Launch) (D : va_G) (g : Nat → ClassId) (ad : Nat → Nat) (I : Nat → Nat → Int32) (L : Nat → Nat → Int64) (S : Nat → Nat) (Z : Nat → Nat → Int32) (Y : Int64) (wa : Nat) (x : Int64) (y : Int64) (hz : Z 2 = wA y) : CT l yX9_differing cX9_differing 4 ((Option.some FieldType.int)) ({ frames := 0, cells := 0, slots := 0, locals := 0 } : Room) [.ref (ad 0), .ref wa] D CL (TYS g) ([(wa, Sum.inl (g 0, 15, .inl (wA x)))]) (WM ad g I L S Z Y) (S := Unit) (fun _ => some (.int (nI (pl (x ^^^ y) 15)))) (fun _ => WM ad g I L S Z Y) (fun _ => True) 0 0 := by
  refine ct_of (by decide +kernel) (Nat.le_of_ble_eq_true rfl) ?_
  intro p e s m below meth c A X hr hnm hSB hRO hAf
  refine g_cs (ws' := WM ad g I L S Z Y ++ []) (lv' := [(0, .ref (ad 0)), (1, .ref wa)]) (List.append_nil _) rfl ?_
  refine g_run X KX9_differing_0_0 KX9_differing_0_0_d 4 [(3, .int (nI 0)), (2, .int (nI 0)), (0, .ref (ad 0)), (1, .ref wa)] [] rfl ?_
  refine g_lv (lv' := [(0, .ref (ad 0)), (1, .ref wa), (2, .int (nI 0)), (3, .int (nI 0))]) (lsub_c 2 rfl (lsub_c 3 rfl (lsub_c 1 rfl (lsub_c 0 rfl (lsub_n))))) ?_
  refine g_for 15 (fun _ => WM ad g I L S Z Y ++ []) (fun i => [(0, .ref (ad 0)), (1, .ref wa), (2, .int (nI (pl (x ^^^ y) i))), (3, .int (nI i))]) (rfl) (rfl) ?_ ?_
  · refine g_run X KX9_differing_4_1 KX9_differing_4_1_d 7 [(0, .ref (ad 0)), (1, .ref wa), (2, .int (nI (pl (x ^^^ y) 15))), (3, .int (nI 15))] [.int (nI 15), .int (nI 15)] rfl ?_
    refine g_icmp_ge X 38 dX9_differing_7 (by decide) (fun hc1 => ?_) (fun hc1 => ?_)
    · refine g_run X KX9_differing_38_2 KX9_differing_38_2_d 39 [(0, .ref (ad 0)), (1, .ref wa), (2, .int (nI (pl (x ^^^ y) 15))), (3, .int (nI 15))] [.int (nI (pl (x ^^^ y) 15))] rfl ?_
      exact g_iret X hr () (rfl) (trivial) (rfl) (Nat.le_of_ble_eq_true rfl) (Nat.le_of_ble_eq_true rfl) dX9_differing_39
    · rw [nI_leI (by omega) (by omega)] at hc1; first | omega | (simp at hc1)
  · intro i hi k4
    refine g_run X KX9_differing_4_1 KX9_differing_4_1_d 7 [(0, .ref (ad 0)), (1, .ref wa), (2, .int (nI (pl (x ^^^ y) i))), (3, .int (nI i))] [.int (nI 15), .int (nI i)] rfl ?_
    refine g_icmp_ge X 38 dX9_differing_7 (by decide) (fun hc2 => ?_) (fun hc2 => ?_)
    · rw [nI_leI (by omega) (by omega)] at hc2; first | omega | (simp at hc2)
    · refine g_run X KX9_differing_10_3 KX9_differing_10_3_d 13 [(0, .ref (ad 0)), (1, .ref wa), (2, .int (nI (pl (x ^^^ y) i))), (3, .int (nI i))] [.int (nI i), .ref wa, .int (nI (pl (x ^^^ y) i))] rfl ?_
      refine g_iald X (srcR hRO) (v := nI (nib x i)) 0 rfl (List.mem_cons_self ..) i rfl (by omega) (by decide) (rfl) dX9_differing_13 ?_
      refine g_run X KX9_differing_14_4 KX9_differing_14_4_d 15 [(0, .ref (ad 0)), (1, .ref wa), (2, .int (nI (pl (x ^^^ y) i))), (3, .int (nI i))] [.ref (ad 0), .int (nI (nib x i)), .int (nI (pl (x ^^^ y) i))] rfl ?_
      refine g_get X srcW (v := .ref (ad 10)) hinX9 rfl 18 (by decide) w_1198 rfl (wm_mem (k := 0) (by decide)) rfl dX9_differing_15 ?_
      refine g_run X KX9_differing_18_5 KX9_differing_18_5_d 19 [(0, .ref (ad 0)), (1, .ref wa), (2, .int (nI (pl (x ^^^ y) i))), (3, .int (nI i))] [.int (nI i), .ref (ad 10), .int (nI (nib x i)), .int (nI (pl (x ^^^ y) i))] rfl ?_
      refine g_iald X srcW (v := nI (nib y i)) 0 rfl (wm_mem (k := 10) (by decide)) i rfl (by omega) (by decide) (by rw [hz]; rfl) dX9_differing_19 ?_
      refine g_icmp_ne X 27 dX9_differing_20 (by decide) (fun hc3 => ?_) (fun hc3 => ?_)
      · rw [nI_eq (by have := nib_lt x i; omega) (by have := nib_lt y i; omega)] at hc3; have hpd : ¬ nib (x ^^^ y) i = 0 := by rw [nib_xor]; exact fun z => hc3 (xx0 z)
        refine g_run X KX9_differing_27_6 KX9_differing_27_6_d 4 [(3, .int ((nI i) + (nI 1))), (2, .int ((nI (pl (x ^^^ y) i)) ||| ((nI 1) <<< ((nI i) &&& 31)))), (0, .ref (ad 0)), (1, .ref wa)] [] rfl ?_
        refine g_nm (lv' := [(3, .int (nI (i + 1))), (2, .int (nI ((pl (x ^^^ y) i) ||| (2 ^ i)))), (0, .ref (ad 0)), (1, .ref wa)]) (st' := []) (by simp only [nI_add, nx_or, sh1 (show i < 31 by omega)]) (by simp only [nI_add, nx_or, sh1 (show i < 31 by omega)]) ?_
        refine g_lv (lv' := [(0, .ref (ad 0)), (1, .ref wa), (2, .int (nI ((pl (x ^^^ y) i) ||| (2 ^ i)))), (3, .int (nI (i + 1)))]) (lsub_c 2 rfl (lsub_c 3 rfl (lsub_c 1 rfl (lsub_c 0 rfl (lsub_n))))) ?_
        refine g_cs (ws' := WM ad g I L S Z Y ++ []) (lv' := [(0, .ref (ad 0)), (1, .ref wa), (2, .int (nI (pl (x ^^^ y) (i + 1)))), (3, .int (nI (i + 1)))]) (rfl) (by first | rw [pl, if_pos (by assumption), Nat.or_zero] | rw [pl, if_neg (by assumption)]) ?_
        exact k4
      · rw [nI_eq (by have := nib_lt x i; omega) (by have := nib_lt y i; omega)] at hc3; have hpd : nib (x ^^^ y) i = 0 := by rw [nib_xor, hc3, Nat.xor_self]
        refine g_run X KX9_differing_23_7 KX9_differing_23_7_d 4 [(3, .int ((nI i) + (nI 1))), (2, .int ((nI (pl (x ^^^ y) i)) ||| (nI 0))), (0, .ref (ad 0)), (1, .ref wa)] [] rfl ?_
        refine g_nm (lv' := [(3, .int (nI (i + 1))), (2, .int (nI ((pl (x ^^^ y) i) ||| 0))), (0, .ref (ad 0)), (1, .ref wa)]) (st' := []) (by simp only [nI_add, nx_or]) (by simp only [nI_add, nx_or]) ?_
        refine g_lv (lv' := [(0, .ref (ad 0)), (1, .ref wa), (2, .int (nI ((pl (x ^^^ y) i) ||| 0))), (3, .int (nI (i + 1)))]) (lsub_c 2 rfl (lsub_c 3 rfl (lsub_c 1 rfl (lsub_c 0 rfl (lsub_n))))) ?_
        refine g_cs (ws' := WM ad g I L S Z Y ++ []) (lv' := [(0, .ref (ad 0)), (1, .ref wa), (2, .int (nI (pl (x ^^^ y) (i + 1)))), (3, .int (nI (i + 1)))]) (rfl) (by first | rw [pl, if_pos (by assumption), Nat.or_zero] | rw [pl, if_neg (by assumption)]) ?_
        exact k4

def KX9_sum_0_0 : List (Nat × Instr × Nat) := [(0, .aload_n 0, 1), (1, .iconst 0, 1)]
theorem KX9_sum_0_0_d : ∀ z ∈ KX9_sum_0_0, decode cX9_sum z.1 = .ok z.2 := by decide +kernel
def KX9_sum_5_1 : List (Nat × Instr × Nat) := [(5, .iload_n 1, 1)]
theorem KX9_sum_5_1_d : ∀ z ∈ KX9_sum_5_1, decode cX9_sum z.1 = .ok z.2 := by decide +kernel
def KX9_sum_18_2 : List (Nat × Instr × Nat) := [(18, .iload_n 2, 1), (19, .iconst 1, 1), (20, .iconst 4, 1)]
theorem KX9_sum_18_2_d : ∀ z ∈ KX9_sum_18_2, decode cX9_sum z.1 = .ok z.2 := by decide +kernel
def KX9_sum_27_3 : List (Nat × Instr × Nat) := [(27, .aload_n 0, 1), (28, .aload_n 0, 1), (29, .iload_n 1, 1)]
theorem KX9_sum_27_3_d : ∀ z ∈ KX9_sum_27_3, decode cX9_sum z.1 = .ok z.2 := by decide +kernel
def KX9_sum_33_4 : List (Nat × Instr × Nat) := [(33, .iload_n 2, 1)]
theorem KX9_sum_33_4_d : ∀ z ∈ KX9_sum_33_4, decode cX9_sum z.1 = .ok z.2 := by decide +kernel
def KX9_sum_37_5 : List (Nat × Instr × Nat) := [(37, .goto 8, 3)]
theorem KX9_sum_37_5_d : ∀ z ∈ KX9_sum_37_5, decode cX9_sum z.1 = .ok z.2 := by decide +kernel
set_option maxHeartbeats 4000000 in
set_option maxRecDepth 100000 in
theorem c_X9_sum (l : Launch) (D : va_G) (g : Nat → ClassId) (ad : Nat → Nat) (I : Nat → Nat → Int32) (L : Nat → Nat → Int64) (S : Nat → Nat) (Z : Nat → Nat → Int32) (Y : Int64) (q : Nat) (j : Nat) (hS18 : ∀ p, p < 15 → S p < 18) (hK : kOK I) (hq : q < 16) (h1 : 1 ≤ j) (hj : j < 5) : CT l yX9_sum cX9_sum 3 ((Option.some FieldType.int)) ({ frames := 2, cells := 1, slots := 15, locals := 46 } : Room) [.ref (ad 0), .int (nI q), .int (nI j)] D CL (TYS g) ([]) (WM ad g I L S Z Y) (S := Unit) (fun _ => some (.int (nI (sm (rwd I L S q 15) j 15)))) (fun _ => WM ad g I L S (u2 Z 3 0 (nI 0)) Y) (fun _ => True) 1 15 := by
  refine ct_of (by decide +kernel) (Nat.le_of_ble_eq_true rfl) ?_
  intro p e s m below meth c A X hr hnm hSB hRO hAf
  refine g_cs (ws' := WM ad g I L S Z Y ++ []) (lv' := [(0, .ref (ad 0)), (1, .int (nI q)), (2, .int (nI j))]) (List.append_nil _) rfl ?_
  refine g_run X KX9_sum_0_0 KX9_sum_0_0_d 2 [(0, .ref (ad 0)), (1, .int (nI q)), (2, .int (nI j))] [.int (nI 0), .ref (ad 0)] rfl ?_
  refine g_put X (ws' := WM ad g I L S (u2 Z 3 0 (nI 0)) Y ++ []) hinX9 tyX9 tyX9_ok nmX9 rfl 0 (by decide) w_1180 rfl rfl (ty := .int) rfl rfl rfl (0) (wm_get (k := 0) (by decide)) (Nat.le_of_ble_eq_true rfl) (wm_mo0) dX9_sum_2 ?_
  refine g_run X KX9_sum_5_1 KX9_sum_5_1_d 6 [(0, .ref (ad 0)), (1, .int (nI q)), (2, .int (nI j))] [.int (nI q)] rfl ?_
  refine g_callS X hSB hAf (As := [.int (nI q)]) (wr := WM ad g I L S (u2 Z 3 0 (nI 0)) Y ++ []) (n := 1) (c_X9_isLine_t l D g q (by omega)) rfl srcN hrdN w_1257 w_1255 w_1256 w_6 (by decide +kernel) rfl ⟨Nat.le_of_ble_eq_true rfl, Nat.le_of_ble_eq_true rfl⟩ rfl rfl rfl (Nat.le_of_ble_eq_true rfl) ⟨Nat.le_of_ble_eq_true rfl, Nat.le_of_ble_eq_true rfl⟩ dX9_sum_6 (fun hu1 _ => ?_)
  refine g_af (ws' := WM ad g I L S (u2 Z 3 0 (nI 0)) Y ++ []) (st' := [.int (nI 1)]) (cells' := 0) (slots' := 0) (pc' := 9) rfl rfl rfl rfl rfl ?_
  refine g_if_ne X 18 dX9_sum_9 (by decide) (fun hc2 => ?_) (fun hc2 => ?_)
  · refine g_run X KX9_sum_18_2 KX9_sum_18_2_d 21 [(0, .ref (ad 0)), (1, .int (nI q)), (2, .int (nI j))] [.int (nI 4), .int (nI 1), .int (nI j)] rfl ?_
    refine g_callS X hSB hAf (As := [.int (nI j), .int (nI 1), .int (nI 4)]) (wr := WM ad g I L S (u2 Z 3 0 (nI 0)) Y ++ []) (n := 3) (c_X9_is_t l D g j 1 4 (by omega) (by omega) (by omega)) rfl srcN hrdN w_1260 w_1258 w_1259 w_6 (by decide +kernel) rfl ⟨Nat.le_of_ble_eq_true rfl, Nat.le_of_ble_eq_true rfl⟩ rfl rfl rfl (Nat.le_of_ble_eq_true rfl) ⟨Nat.le_of_ble_eq_true rfl, Nat.le_of_ble_eq_true rfl⟩ dX9_sum_21 (fun hu3 _ => ?_)
    refine g_af (ws' := WM ad g I L S (u2 Z 3 0 (nI 0)) Y ++ []) (st' := [.int (nI 1)]) (cells' := 0) (slots' := 0) (pc' := 24) rfl rfl rfl rfl rfl ?_
    refine g_if_eq X 40 dX9_sum_24 (by decide) (fun hc4 => ?_) (fun hc4 => ?_)
    · rw [nz_eq (by omega)] at hc4; first | omega | (simp at hc4)
    · refine g_run X KX9_sum_27_3 KX9_sum_27_3_d 30 [(0, .ref (ad 0)), (1, .int (nI q)), (2, .int (nI j))] [.int (nI q), .ref (ad 0), .ref (ad 0)] rfl ?_
      refine g_callV X hSB hAf (srcW) (hrc1 := (rfl : CL[8]? = some _)) (wm_mem (k := 0) (by decide)) rfl (As := [.int (nI q)]) (wr := []) (n := 1) (c_X9_read l D g ad I L S (u2 Z 3 0 (nI 0)) Y q (hS18) (hK) (by omega)) rfl srcN hrdN w_1272 w_1269 w_1271 w_s13 w_6 (by decide +kernel) rfl ⟨Nat.le_of_ble_eq_true rfl, Nat.le_of_ble_eq_true rfl⟩ rfl rfl rfl (Nat.le_of_ble_eq_true rfl) ⟨Nat.le_of_ble_eq_true rfl, Nat.le_of_ble_eq_true rfl⟩ dX9_sum_30 (fun hu5 _ => ?_)
      refine g_af (ws' := WM ad g I L S (u2 Z 3 0 (nI 0)) Y ++ [(hu5, Sum.inl (g 0, 15, .inl (wA (rwd I L S q 15))))]) (st' := [.ref hu5, .ref (ad 0)]) (cells' := 1) (slots' := 15) (pc' := 33) (by rw [List.append_assoc]; rfl) rfl rfl rfl rfl ?_
      refine g_run X KX9_sum_33_4 KX9_sum_33_4_d 34 [(0, .ref (ad 0)), (1, .int (nI q)), (2, .int (nI j))] [.int (nI j), .ref hu5, .ref (ad 0)] rfl ?_
      refine g_callV X hSB hAf (srcW) (hrc1 := (rfl : CL[8]? = some _)) (wm_mem (k := 0) (by decide)) rfl (As := [.ref hu5, .int (nI j)]) (wr := [(hu5, Sum.inl (g 0, 15, .inl (wA (rwd I L S q 15))))]) (n := 2) (c_X9_sumOf l D g ad I L S (u2 Z 3 0 (nI 0)) Y hu5 (rwd I L S q 15) j (by omega)) rfl (src_sub (wt_mem (by simp))) (hrdT rfl (by simp)) w_1296 w_1293 w_1295 w_s18 w_6 (by decide +kernel) rfl ⟨Nat.le_of_ble_eq_true rfl, Nat.le_of_ble_eq_true rfl⟩ rfl rfl rfl (Nat.le_of_ble_eq_true rfl) ⟨Nat.le_of_ble_eq_true rfl, Nat.le_of_ble_eq_true rfl⟩ dX9_sum_34 (fun hu6 _ => ?_)
      refine g_af (ws' := WM ad g I L S (u2 Z 3 0 (nI 0)) Y ++ [(hu5, Sum.inl (g 0, 15, .inl (wA (rwd I L S q 15))))]) (st' := [.int (nI (sm (rwd I L S q 15) j 15))]) (cells' := 1) (slots' := 15) (pc' := 37) rfl rfl rfl rfl rfl ?_
      refine g_run X KX9_sum_37_5 KX9_sum_37_5_d 45 [(0, .ref (ad 0)), (1, .int (nI q)), (2, .int (nI j))] [.int (nI (sm (rwd I L S q 15) j 15))] rfl ?_
      exact g_iret X hr () (rfl) (trivial) (rfl) (Nat.le_of_ble_eq_true rfl) (Nat.le_of_ble_eq_true rfl) dX9_sum_45
  · rw [nz_eq (by omega)] at hc2; first | omega | (simp at hc2)

def KX9_sum_12_6 : List (Nat × Instr × Nat) := [(12, .aload_n 0, 1), (13, .iconst 1, 1)]
theorem KX9_sum_12_6_d : ∀ z ∈ KX9_sum_12_6, decode cX9_sum z.1 = .ok z.2 := by decide +kernel
set_option maxHeartbeats 4000000 in
set_option maxRecDepth 100000 in
theorem c_X9_sum_1 (l : Launch) (D : va_G) (g : Nat → ClassId) (ad : Nat → Nat) (I : Nat → Nat → Int32) (L : Nat → Nat → Int64) (S : Nat → Nat) (Z : Nat → Nat → Int32) (Y : Int64) (x : Int32) (y1 : Int32) (hx : x < 0 ∨ ¬ x ≤ nI 15) : CT l yX9_sum cX9_sum 3 ((Option.some FieldType.int)) ({ frames := 2, cells := 0, slots := 0, locals := 42 } : Room) [.ref (ad 0), .int x, .int y1] D CL (TYS g) ([]) (WM ad g I L S Z Y) (S := Unit) (fun _ => some (.int (nI 0))) (fun _ => WM ad g I L S (u2 (u2 Z 3 0 (nI 0)) 3 0 (nI 1)) Y) (fun _ => True) 0 0 := by
  refine ct_of (by decide +kernel) (Nat.le_of_ble_eq_true rfl) ?_
  intro p e s m below meth c A X hr hnm hSB hRO hAf
  refine g_cs (ws' := WM ad g I L S Z Y ++ []) (lv' := [(0, .ref (ad 0)), (1, .int x), (2, .int y1)]) (List.append_nil _) rfl ?_
  refine g_run X KX9_sum_0_0 KX9_sum_0_0_d 2 [(0, .ref (ad 0)), (1, .int x), (2, .int y1)] [.int (nI 0), .ref (ad 0)] rfl ?_
  refine g_put X (ws' := WM ad g I L S (u2 Z 3 0 (nI 0)) Y ++ []) hinX9 tyX9 tyX9_ok nmX9 rfl 0 (by decide) w_1180 rfl rfl (ty := .int) rfl rfl rfl (0) (wm_get (k := 0) (by decide)) (Nat.le_of_ble_eq_true rfl) (wm_mo0) dX9_sum_2 ?_
  refine g_run X KX9_sum_5_1 KX9_sum_5_1_d 6 [(0, .ref (ad 0)), (1, .int x), (2, .int y1)] [.int x] rfl ?_
  refine g_callS X hSB hAf (As := [.int x]) (wr := WM ad g I L S (u2 Z 3 0 (nI 0)) Y ++ []) (n := 1) (c_X9_isLine_f l D g x (hx)) rfl srcN hrdN w_1257 w_1255 w_1256 w_6 (by decide +kernel) rfl ⟨Nat.le_of_ble_eq_true rfl, Nat.le_of_ble_eq_true rfl⟩ rfl rfl rfl (Nat.le_of_ble_eq_true rfl) ⟨Nat.le_of_ble_eq_true rfl, Nat.le_of_ble_eq_true rfl⟩ dX9_sum_6 (fun hu1 _ => ?_)
  refine g_af (ws' := WM ad g I L S (u2 Z 3 0 (nI 0)) Y ++ []) (st' := [.int (nI 0)]) (cells' := 0) (slots' := 0) (pc' := 9) rfl rfl rfl rfl rfl ?_
  refine g_if_ne X 18 dX9_sum_9 (by decide) (fun hc2 => ?_) (fun hc2 => ?_)
  · rw [nz_eq (by omega)] at hc2; first | omega | (simp at hc2)
  · refine g_run X KX9_sum_12_6 KX9_sum_12_6_d 14 [(0, .ref (ad 0)), (1, .int x), (2, .int y1)] [.int (nI 1), .ref (ad 0)] rfl ?_
    refine g_callV X hSB hAf (srcW) (hrc1 := (rfl : CL[8]? = some _)) (wm_mem (k := 0) (by decide)) rfl (As := [.int (nI 1)]) (wr := []) (n := 1) (c_X9_refuse l D g ad I L S (u2 Z 3 0 (nI 0)) Y 1 ) rfl srcN hrdN w_1264 w_1261 w_1263 w_s12 w_6 (by decide +kernel) rfl ⟨Nat.le_of_ble_eq_true rfl, Nat.le_of_ble_eq_true rfl⟩ rfl rfl rfl (Nat.le_of_ble_eq_true rfl) ⟨Nat.le_of_ble_eq_true rfl, Nat.le_of_ble_eq_true rfl⟩ dX9_sum_14 (fun hu3 _ => ?_)
    refine g_af (ws' := WM ad g I L S (u2 (u2 Z 3 0 (nI 0)) 3 0 (nI 1)) Y ++ []) (st' := [.int (nI 0)]) (cells' := 0) (slots' := 0) (pc' := 17) rfl rfl rfl rfl rfl ?_
    exact g_iret X hr () (rfl) (trivial) (rfl) (Nat.le_of_ble_eq_true rfl) (Nat.le_of_ble_eq_true rfl) dX9_sum_17

def KX9_sum_40_7 : List (Nat × Instr × Nat) := [(40, .aload_n 0, 1), (41, .iconst 2, 1)]
theorem KX9_sum_40_7_d : ∀ z ∈ KX9_sum_40_7, decode cX9_sum z.1 = .ok z.2 := by decide +kernel
set_option maxHeartbeats 4000000 in
set_option maxRecDepth 100000 in
theorem c_X9_sum_2 (l : Launch) (D : va_G) (g : Nat → ClassId) (ad : Nat → Nat) (I : Nat → Nat → Int32) (L : Nat → Nat → Int64) (S : Nat → Nat) (Z : Nat → Nat → Int32) (Y : Int64) (q : Nat) (x : Int32) (hq : q < 16) (hx : x < nI 1 ∨ ¬ x ≤ nI 4) : CT l yX9_sum cX9_sum 3 ((Option.some FieldType.int)) ({ frames := 2, cells := 0, slots := 0, locals := 42 } : Room) [.ref (ad 0), .int (nI q), .int x] D CL (TYS g) ([]) (WM ad g I L S Z Y) (S := Unit) (fun _ => some (.int (nI 0))) (fun _ => WM ad g I L S (u2 (u2 Z 3 0 (nI 0)) 3 0 (nI 2)) Y) (fun _ => True) 0 0 := by
  refine ct_of (by decide +kernel) (Nat.le_of_ble_eq_true rfl) ?_
  intro p e s m below meth c A X hr hnm hSB hRO hAf
  refine g_cs (ws' := WM ad g I L S Z Y ++ []) (lv' := [(0, .ref (ad 0)), (1, .int (nI q)), (2, .int x)]) (List.append_nil _) rfl ?_
  refine g_run X KX9_sum_0_0 KX9_sum_0_0_d 2 [(0, .ref (ad 0)), (1, .int (nI q)), (2, .int x)] [.int (nI 0), .ref (ad 0)] rfl ?_
  refine g_put X (ws' := WM ad g I L S (u2 Z 3 0 (nI 0)) Y ++ []) hinX9 tyX9 tyX9_ok nmX9 rfl 0 (by decide) w_1180 rfl rfl (ty := .int) rfl rfl rfl (0) (wm_get (k := 0) (by decide)) (Nat.le_of_ble_eq_true rfl) (wm_mo0) dX9_sum_2 ?_
  refine g_run X KX9_sum_5_1 KX9_sum_5_1_d 6 [(0, .ref (ad 0)), (1, .int (nI q)), (2, .int x)] [.int (nI q)] rfl ?_
  refine g_callS X hSB hAf (As := [.int (nI q)]) (wr := WM ad g I L S (u2 Z 3 0 (nI 0)) Y ++ []) (n := 1) (c_X9_isLine_t l D g q (by omega)) rfl srcN hrdN w_1257 w_1255 w_1256 w_6 (by decide +kernel) rfl ⟨Nat.le_of_ble_eq_true rfl, Nat.le_of_ble_eq_true rfl⟩ rfl rfl rfl (Nat.le_of_ble_eq_true rfl) ⟨Nat.le_of_ble_eq_true rfl, Nat.le_of_ble_eq_true rfl⟩ dX9_sum_6 (fun hu1 _ => ?_)
  refine g_af (ws' := WM ad g I L S (u2 Z 3 0 (nI 0)) Y ++ []) (st' := [.int (nI 1)]) (cells' := 0) (slots' := 0) (pc' := 9) rfl rfl rfl rfl rfl ?_
  refine g_if_ne X 18 dX9_sum_9 (by decide) (fun hc2 => ?_) (fun hc2 => ?_)
  · refine g_run X KX9_sum_18_2 KX9_sum_18_2_d 21 [(0, .ref (ad 0)), (1, .int (nI q)), (2, .int x)] [.int (nI 4), .int (nI 1), .int x] rfl ?_
    refine g_callS X hSB hAf (As := [.int x, .int (nI 1), .int (nI 4)]) (wr := WM ad g I L S (u2 Z 3 0 (nI 0)) Y ++ []) (n := 3) (c_X9_is_f l D g x (nI 1) (nI 4) (hx)) rfl srcN hrdN w_1260 w_1258 w_1259 w_6 (by decide +kernel) rfl ⟨Nat.le_of_ble_eq_true rfl, Nat.le_of_ble_eq_true rfl⟩ rfl rfl rfl (Nat.le_of_ble_eq_true rfl) ⟨Nat.le_of_ble_eq_true rfl, Nat.le_of_ble_eq_true rfl⟩ dX9_sum_21 (fun hu3 _ => ?_)
    refine g_af (ws' := WM ad g I L S (u2 Z 3 0 (nI 0)) Y ++ []) (st' := [.int (nI 0)]) (cells' := 0) (slots' := 0) (pc' := 24) rfl rfl rfl rfl rfl ?_
    refine g_if_eq X 40 dX9_sum_24 (by decide) (fun hc4 => ?_) (fun hc4 => ?_)
    · refine g_run X KX9_sum_40_7 KX9_sum_40_7_d 42 [(0, .ref (ad 0)), (1, .int (nI q)), (2, .int x)] [.int (nI 2), .ref (ad 0)] rfl ?_
      refine g_callV X hSB hAf (srcW) (hrc1 := (rfl : CL[8]? = some _)) (wm_mem (k := 0) (by decide)) rfl (As := [.int (nI 2)]) (wr := []) (n := 1) (c_X9_refuse l D g ad I L S (u2 Z 3 0 (nI 0)) Y 2 ) rfl srcN hrdN w_1264 w_1261 w_1263 w_s12 w_6 (by decide +kernel) rfl ⟨Nat.le_of_ble_eq_true rfl, Nat.le_of_ble_eq_true rfl⟩ rfl rfl rfl (Nat.le_of_ble_eq_true rfl) ⟨Nat.le_of_ble_eq_true rfl, Nat.le_of_ble_eq_true rfl⟩ dX9_sum_42 (fun hu5 _ => ?_)
      refine g_af (ws' := WM ad g I L S (u2 (u2 Z 3 0 (nI 0)) 3 0 (nI 2)) Y ++ []) (st' := [.int (nI 0)]) (cells' := 0) (slots' := 0) (pc' := 45) rfl rfl rfl rfl rfl ?_
      exact g_iret X hr () (rfl) (trivial) (rfl) (Nat.le_of_ble_eq_true rfl) (Nat.le_of_ble_eq_true rfl) dX9_sum_45
    · rw [nz_eq (by omega)] at hc4; first | omega | (simp at hc4)
  · rw [nz_eq (by omega)] at hc2; first | omega | (simp at hc2)

