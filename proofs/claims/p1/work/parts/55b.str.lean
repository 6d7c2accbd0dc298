def KJ7_checkLength_df160_0_0 : List (Nat × Instr × Nat) := [(0, .iload_n 1, 1), (1, .iload_n 0, 1)]
theorem KJ7_checkLength_df160_0_0_d : ∀ z ∈ KJ7_checkLength_df160_0_0, decode cJ7_checkLength_df160 z.1 = .ok z.2 := by decide +kernel
set_option maxHeartbeats 4000000 in
set_option maxRecDepth 100000 in
theorem c_J7_checkLength_df160 (l : Launch) (D : va_G) (g : Nat → ClassId) : CT l yJ7_checkLength_df160 cJ7_checkLength_df160 2 ((Option.none : Option Jvm.ClassFile.FieldType)) ({ frames := 0, cells := 0, slots := 0, locals := 0 } : Room) [.int (nI 0), .int (nI 15)] D CL (TYS g) ([]) ([]) (S := Unit) (fun _ => none) (fun _ => []) (fun _ => True) 0 0 := by
  refine ct_of (by decide +kernel) (Nat.le_of_ble_eq_true rfl) ?_
  intro p e s m below meth c A X hr hnm hSB hRO hAf
  refine g_cs (ws' := []) (lv' := [(0, .int (nI 0)), (1, .int (nI 15))]) rfl rfl ?_
  refine g_run X KJ7_checkLength_df160_0_0 KJ7_checkLength_df160_0_0_d 2 [(0, .int (nI 0)), (1, .int (nI 15))] [.int (nI 0), .int (nI 15)] rfl ?_
  refine g_icmp_ge X 37 dJ7_checkLength_df160_2 (by decide) (fun hc1 => ?_) (fun hc1 => ?_)
  · exact g_vret X hr () rfl (trivial) ((List.append_nil _).symm) (Nat.le_of_ble_eq_true rfl) (Nat.le_of_ble_eq_true rfl) dJ7_checkLength_df160_37
  · rw [nI_leI (by omega) (by omega)] at hc1; first | omega | (simp at hc1)

def KJ7_copyOfRangeByte_39247_0_0 : List (Nat × Instr × Nat) := [(0, .iload_n 1, 1), (1, .iload_n 2, 1)]
theorem KJ7_copyOfRangeByte_39247_0_0_d : ∀ z ∈ KJ7_copyOfRangeByte_39247_0_0, decode cJ7_copyOfRangeByte_39247 z.1 = .ok z.2 := by decide +kernel
def KJ7_copyOfRangeByte_39247_5_1 : List (Nat × Instr × Nat) := [(5, .iload_n 2, 1), (6, .iload_n 1, 1), (7, .isub, 1)]
theorem KJ7_copyOfRangeByte_39247_5_1_d : ∀ z ∈ KJ7_copyOfRangeByte_39247_5_1, decode cJ7_copyOfRangeByte_39247 z.1 = .ok z.2 := by decide +kernel
def KJ7_copyOfRangeByte_39247_8_2 : List (Nat × Instr × Nat) := [(8, .istore_n 3, 1), (9, .iload_n 3, 1)]
theorem KJ7_copyOfRangeByte_39247_8_2_d : ∀ z ∈ KJ7_copyOfRangeByte_39247_8_2, decode cJ7_copyOfRangeByte_39247 z.1 = .ok z.2 := by decide +kernel
def KJ7_copyOfRangeByte_39247_12_3 : List (Nat × Instr × Nat) := [(12, .astore 4, 2), (14, .aload_n 0, 1), (15, .iload_n 1, 1), (16, .aload 4, 2), (18, .iconst 0, 1), (19, .aload_n 0, 1)]
theorem KJ7_copyOfRangeByte_39247_12_3_d : ∀ z ∈ KJ7_copyOfRangeByte_39247_12_3, decode cJ7_copyOfRangeByte_39247 z.1 = .ok z.2 := by decide +kernel
def KJ7_copyOfRangeByte_39247_21_4 : List (Nat × Instr × Nat) := [(21, .iload_n 1, 1), (22, .isub, 1)]
theorem KJ7_copyOfRangeByte_39247_21_4_d : ∀ z ∈ KJ7_copyOfRangeByte_39247_21_4, decode cJ7_copyOfRangeByte_39247 z.1 = .ok z.2 := by decide +kernel
def KJ7_copyOfRangeByte_39247_23_5 : List (Nat × Instr × Nat) := [(23, .iload_n 3, 1)]
theorem KJ7_copyOfRangeByte_39247_23_5_d : ∀ z ∈ KJ7_copyOfRangeByte_39247_23_5, decode cJ7_copyOfRangeByte_39247 z.1 = .ok z.2 := by decide +kernel
def KJ7_copyOfRangeByte_39247_30_6 : List (Nat × Instr × Nat) := [(30, .aload 4, 2)]
theorem KJ7_copyOfRangeByte_39247_30_6_d : ∀ z ∈ KJ7_copyOfRangeByte_39247_30_6, decode cJ7_copyOfRangeByte_39247 z.1 = .ok z.2 := by decide +kernel
set_option maxHeartbeats 4000000 in
set_option maxRecDepth 100000 in
theorem c_J7_copyOfRangeByte_39247 (l : Launch) (D : va_G) (g : Nat → ClassId) (v : Nat) (f : Nat → Int32) (hF : sb_Fit f) : CT l yJ7_copyOfRangeByte_39247 cJ7_copyOfRangeByte_39247 5 ((Option.some (FieldType.array FieldType.byte))) ({ frames := 1, cells := 1, slots := 15, locals := 30 } : Room) [.ref v, .int (nI 0), .int (nI 15)] D CL (TYS g) ([]) ([(v, Sum.inl (g 6, 16, .inl f))]) (S := Nat) (fun u => some (.ref u)) (fun u => [(u, Sum.inl (g 6, 15, .inl (va_cpy f (fun _ => 0) 0 0 15))), (v, Sum.inl (g 6, 16, .inl f))]) (fun _ => True) 1 15 := by
  refine ct_of (by decide +kernel) (Nat.le_of_ble_eq_true rfl) ?_
  intro p e s m below meth c A X hr hnm hSB hRO hAf
  refine g_cs (ws' := ([(v, Sum.inl (g 6, 16, .inl f))] : va_W)) (lv' := [(0, .ref v), (1, .int (nI 0)), (2, .int (nI 15))]) (rfl) rfl ?_
  refine g_run X KJ7_copyOfRangeByte_39247_0_0 KJ7_copyOfRangeByte_39247_0_0_d 2 [(0, .ref v), (1, .int (nI 0)), (2, .int (nI 15))] [.int (nI 15), .int (nI 0)] rfl ?_
  refine g_callS X hSB hAf (As := [.int (nI 0), .int (nI 15)]) (wr := ([(v, Sum.inl (g 6, 16, .inl f))] : va_W)) (n := 2) (c_J7_checkLength_df160 l D g  ) rfl srcN hrdN w_930 w_928 w_929 w_14 (by decide +kernel) rfl ⟨Nat.le_of_ble_eq_true rfl, Nat.le_of_ble_eq_true rfl⟩ rfl rfl rfl (Nat.le_of_ble_eq_true rfl) ⟨Nat.le_of_ble_eq_true rfl, Nat.le_of_ble_eq_true rfl⟩ dJ7_copyOfRangeByte_39247_2 (fun hu1 _ => ?_)
  refine g_af (ws' := ([(v, Sum.inl (g 6, 16, .inl f))] : va_W)) (st' := []) (cells' := 0) (slots' := 0) (pc' := 5) rfl rfl rfl rfl rfl ?_
  refine g_run X KJ7_copyOfRangeByte_39247_5_1 KJ7_copyOfRangeByte_39247_5_1_d 8 [(0, .ref v), (1, .int (nI 0)), (2, .int (nI 15))] [.int ((nI 15) - (nI 0))] rfl ?_
  refine g_st (st' := [.int (nI 15)]) (rfl) ?_
  refine g_run X KJ7_copyOfRangeByte_39247_8_2 KJ7_copyOfRangeByte_39247_8_2_d 10 [(3, .int (nI 15)), (0, .ref v), (1, .int (nI 0)), (2, .int (nI 15))] [.int (nI 15)] rfl ?_
  refine g_newB X hAf 6 rfl w_400 15 rfl (by decide) (Nat.le_of_ble_eq_true rfl) (Nat.le_of_ble_eq_true rfl) dJ7_copyOfRangeByte_39247_10 (fun qa2 => ?_)
  refine g_af (ws' := (([(v, Sum.inl (g 6, 16, .inl f))] : va_W)) ++ [(qa2, Sum.inl (g 6, 15, .inl (fun _ => 0)))]) (st' := [.ref qa2]) (cells' := 1) (slots' := 15) (pc' := 12) rfl rfl rfl rfl rfl ?_
  refine g_perm (ws' := ([(qa2, Sum.inl (g 6, 15, .inl (fun _ => 0))), (v, Sum.inl (g 6, 16, .inl f))] : va_W)) (List.perm_append_comm (l₁ := ([(qa2, Sum.inl (g 6, 15, .inl (fun _ => 0)))] : va_W))) ?_
  refine g_run X KJ7_copyOfRangeByte_39247_12_3 KJ7_copyOfRangeByte_39247_12_3_d 20 [(4, .ref qa2), (3, .int (nI 15)), (0, .ref v), (1, .int (nI 0)), (2, .int (nI 15))] [.ref v, .int (nI 0), .ref qa2, .int (nI 0), .ref v] rfl ?_
  refine g_alen X srcW (v := nI 16) 6 rfl (List.mem_of_getElem? (i := 1) rfl) rfl dJ7_copyOfRangeByte_39247_20 ?_
  refine g_run X KJ7_copyOfRangeByte_39247_21_4 KJ7_copyOfRangeByte_39247_21_4_d 23 [(4, .ref qa2), (3, .int (nI 15)), (0, .ref v), (1, .int (nI 0)), (2, .int (nI 15))] [.int ((nI 16) - (nI 0)), .int (nI 0), .ref qa2, .int (nI 0), .ref v] rfl ?_
  refine g_st (st' := [.int (nI 16), .int (nI 0), .ref qa2, .int (nI 0), .ref v]) (rfl) ?_
  refine g_run X KJ7_copyOfRangeByte_39247_23_5 KJ7_copyOfRangeByte_39247_23_5_d 24 [(4, .ref qa2), (3, .int (nI 15)), (0, .ref v), (1, .int (nI 0)), (2, .int (nI 15))] [.int (nI 15), .int (nI 16), .int (nI 0), .ref qa2, .int (nI 0), .ref v] rfl ?_
  refine g_mmin X w_836 w_837 w_13 w_838 (Nat.le_of_ble_eq_true rfl) (Nat.le_of_ble_eq_true rfl) (Nat.le_of_ble_eq_true rfl) (Nat.le_of_ble_eq_true rfl) (Nat.le_of_ble_eq_true rfl) (v := nI 15) (if_pos (by decide)) dJ7_copyOfRangeByte_39247_24 ?_
  refine g_copyB X (ws' := ([(qa2, Sum.inl (g 6, 15, .inl (va_cpy f (fun _ => 0) 0 0 15))), (v, Sum.inl (g 6, 16, .inl f))] : va_W)) 15 6 rfl 1 0 rfl rfl (by decide) (by decide) (by decide) hF w_839 w_841 w_840 w_15 rfl (Nat.le_of_ble_eq_true rfl) (Nat.le_of_ble_eq_true rfl) (Nat.le_of_ble_eq_true rfl) dJ7_copyOfRangeByte_39247_27 ?_
  refine g_run X KJ7_copyOfRangeByte_39247_30_6 KJ7_copyOfRangeByte_39247_30_6_d 32 [(4, .ref qa2), (3, .int (nI 15)), (0, .ref v), (1, .int (nI 0)), (2, .int (nI 15))] [.ref qa2] rfl ?_
  exact g_aret X hr (Or.inr ⟨_, rfl⟩) (Or.inr ⟨_, rfl⟩) qa2 (rfl) (trivial) (rfl) (Nat.le_of_ble_eq_true rfl) (Nat.le_of_ble_eq_true rfl) dJ7_copyOfRangeByte_39247_32

def KJ7_copyOfRange_39247_0_0 : List (Nat × Instr × Nat) := [(0, .iload_n 1, 1)]
theorem KJ7_copyOfRange_39247_0_0_d : ∀ z ∈ KJ7_copyOfRange_39247_0_0, decode cJ7_copyOfRange_39247 z.1 = .ok z.2 := by decide +kernel
def KJ7_copyOfRange_39247_4_1 : List (Nat × Instr × Nat) := [(4, .iload_n 2, 1), (5, .aload_n 0, 1)]
theorem KJ7_copyOfRange_39247_4_1_d : ∀ z ∈ KJ7_copyOfRange_39247_4_1, decode cJ7_copyOfRange_39247 z.1 = .ok z.2 := by decide +kernel
def KJ7_copyOfRange_39247_10_2 : List (Nat × Instr × Nat) := [(10, .aload_n 0, 1), (11, .iload_n 1, 1), (12, .iload_n 2, 1)]
theorem KJ7_copyOfRange_39247_10_2_d : ∀ z ∈ KJ7_copyOfRange_39247_10_2, decode cJ7_copyOfRange_39247 z.1 = .ok z.2 := by decide +kernel
set_option maxHeartbeats 4000000 in
set_option maxRecDepth 100000 in
theorem c_J7_copyOfRange_39247 (l : Launch) (D : va_G) (g : Nat → ClassId) (v : Nat) (f : Nat → Int32) (hF : sb_Fit f) : CT l yJ7_copyOfRange_39247 cJ7_copyOfRange_39247 3 ((Option.some (FieldType.array FieldType.byte))) ({ frames := 2, cells := 1, slots := 15, locals := 54 } : Room) [.ref v, .int (nI 0), .int (nI 15)] D CL (TYS g) ([]) ([(v, Sum.inl (g 6, 16, .inl f))]) (S := Nat) (fun u => some (.ref u)) (fun u => [(u, Sum.inl (g 6, 15, .inl (va_cpy f (fun _ => 0) 0 0 15))), (v, Sum.inl (g 6, 16, .inl f))]) (fun _ => True) 1 15 := by
  refine ct_of (by decide +kernel) (Nat.le_of_ble_eq_true rfl) ?_
  intro p e s m below meth c A X hr hnm hSB hRO hAf
  refine g_cs (ws' := ([(v, Sum.inl (g 6, 16, .inl f))] : va_W)) (lv' := [(0, .ref v), (1, .int (nI 0)), (2, .int (nI 15))]) (rfl) rfl ?_
  refine g_run X KJ7_copyOfRange_39247_0_0 KJ7_copyOfRange_39247_0_0_d 1 [(0, .ref v), (1, .int (nI 0)), (2, .int (nI 15))] [.int (nI 0)] rfl ?_
  refine g_if_ne X 10 dJ7_copyOfRange_39247_1 (by decide) (fun hc1 => ?_) (fun hc1 => ?_)
  · rw [nz_eq (by omega)] at hc1; first | omega | (simp at hc1)
  · refine g_run X KJ7_copyOfRange_39247_4_1 KJ7_copyOfRange_39247_4_1_d 6 [(0, .ref v), (1, .int (nI 0)), (2, .int (nI 15))] [.ref v, .int (nI 15)] rfl ?_
    refine g_alen X srcW (v := nI 16) 6 rfl (List.mem_of_getElem? (i := 0) rfl) rfl dJ7_copyOfRange_39247_6 ?_
    refine g_icmp_eq X 17 dJ7_copyOfRange_39247_7 (by decide) (fun hc2 => ?_) (fun hc2 => ?_)
    · rw [nI_eq (by omega) (by omega)] at hc2; first | omega | (simp at hc2)
    · refine g_run X KJ7_copyOfRange_39247_10_2 KJ7_copyOfRange_39247_10_2_d 13 [(0, .ref v), (1, .int (nI 0)), (2, .int (nI 15))] [.int (nI 15), .int (nI 0), .ref v] rfl ?_
      refine g_callS X hSB hAf (As := [.ref v, .int (nI 0), .int (nI 15)]) (wr := ([] : va_W)) (n := 3) (c_J7_copyOfRangeByte_39247 l D g v f (hF)) rfl srcN hrdN w_927 w_925 w_926 w_14 (by decide +kernel) rfl ⟨Nat.le_of_ble_eq_true rfl, Nat.le_of_ble_eq_true rfl⟩ rfl rfl rfl (Nat.le_of_ble_eq_true rfl) ⟨Nat.le_of_ble_eq_true rfl, Nat.le_of_ble_eq_true rfl⟩ dJ7_copyOfRange_39247_13 (fun hu3 _ => ?_)
      refine g_af (ws' := ([(hu3, Sum.inl (g 6, 15, .inl (va_cpy f (fun _ => 0) 0 0 15))), (v, Sum.inl (g 6, 16, .inl f))] : va_W)) (st' := [.ref hu3]) (cells' := 1) (slots' := 15) (pc' := 16) rfl rfl rfl rfl rfl ?_
      exact g_aret X hr (Or.inr ⟨_, rfl⟩) (Or.inr ⟨_, rfl⟩) hu3 (rfl) (trivial) (rfl) (Nat.le_of_ble_eq_true rfl) (Nat.le_of_ble_eq_true rfl) dJ7_copyOfRange_39247_16

def KJ0_init_db425_0_0 : List (Nat × Instr × Nat) := [(0, .aload_n 0, 1)]
theorem KJ0_init_db425_0_0_d : ∀ z ∈ KJ0_init_db425_0_0, decode cJ0_init_db425 z.1 = .ok z.2 := by decide +kernel
def KJ0_init_db425_4_1 : List (Nat × Instr × Nat) := [(4, .aload_n 1, 1)]
theorem KJ0_init_db425_4_1_d : ∀ z ∈ KJ0_init_db425_4_1, decode cJ0_init_db425 z.1 = .ok z.2 := by decide +kernel
def KJ0_init_db425_8_2 : List (Nat × Instr × Nat) := [(8, .astore_n 3, 1), (9, .aload_n 1, 1)]
theorem KJ0_init_db425_8_2_d : ∀ z ∈ KJ0_init_db425_8_2, decode cJ0_init_db425 z.1 = .ok z.2 := by decide +kernel
def KJ0_init_db425_13_3 : List (Nat × Instr × Nat) := [(13, .istore 4, 2), (15, .aload_n 1, 1)]
theorem KJ0_init_db425_13_3_d : ∀ z ∈ KJ0_init_db425_13_3, decode cJ0_init_db425 z.1 = .ok z.2 := by decide +kernel
def KJ0_init_db425_22_4 : List (Nat × Instr × Nat) := [(22, .aload_n 0, 1), (23, .iconst 0, 1)]
theorem KJ0_init_db425_22_4_d : ∀ z ∈ KJ0_init_db425_22_4, decode cJ0_init_db425 z.1 = .ok z.2 := by decide +kernel
def KJ0_init_db425_27_5 : List (Nat × Instr × Nat) := [(27, .aload_n 0, 1), (28, .aload_n 3, 1), (29, .iconst 0, 1), (30, .iload 4, 2)]
theorem KJ0_init_db425_27_5_d : ∀ z ∈ KJ0_init_db425_27_5, decode cJ0_init_db425 z.1 = .ok z.2 := by decide +kernel
def KJ0_init_db425_38_6 : List (Nat × Instr × Nat) := [(38, .goto 59, 3)]
theorem KJ0_init_db425_38_6_d : ∀ z ∈ KJ0_init_db425_38_6, decode cJ0_init_db425 z.1 = .ok z.2 := by decide +kernel
set_option maxHeartbeats 4000000 in
set_option maxRecDepth 100000 in
theorem c_J0_init_db425 (l : Launch) (D : va_G) (g : Nat → ClassId) (sa : Nat) (b : Nat) (v : Nat) (f : Nat → Int32) (hF : sb_Fit f) : CT l yJ0_init_db425 cJ0_init_db425 5 ((Option.none : Option Jvm.ClassFile.FieldType)) ({ frames := 3, cells := 1, slots := 15, locals := 76 } : Room) [.ref sa, .ref b, .null] D CL (TYS g) ([]) ([(sa, Sum.inr (11, [.null, .int 0, .int 0, .int 0])), (b, Sum.inr (10, [.ref v, .int (nI 0), .int 0, .int (nI 15)])), (v, Sum.inl (g 6, 16, .inl f))]) (S := Nat) (fun _ => none) (fun u => [(sa, Sum.inr (11, [.ref u, .int (nI 0), .int 0, .int 0])), (u, Sum.inl (g 6, 15, .inl (va_cpy f (fun _ => 0) 0 0 15))), (b, Sum.inr (10, [.ref v, .int (nI 0), .int 0, .int (nI 15)])), (v, Sum.inl (g 6, 16, .inl f))]) (fun _ => True) 1 15 := by
  refine ct_of (by decide +kernel) (Nat.le_of_ble_eq_true rfl) ?_
  intro p e s m below meth c A X hr hnm hSB hRO hAf
  refine g_cs (ws' := ([(sa, Sum.inr (11, [.null, .int 0, .int 0, .int 0])), (b, Sum.inr (10, [.ref v, .int (nI 0), .int 0, .int (nI 15)])), (v, Sum.inl (g 6, 16, .inl f))] : va_W)) (lv' := [(0, .ref sa), (1, .ref b), (2, .null)]) (rfl) rfl ?_
  obtain ⟨t, hJ⟩ := hSB.2.2.2.2.1
  refine g_run X KJ0_init_db425_0_0 KJ0_init_db425_0_0_d 1 [(0, .ref sa), (1, .ref b), (2, .null)] [.ref sa] rfl ?_
  refine g_objInit X w_907 w_39 w_40 (Nat.le_of_ble_eq_true rfl) (Nat.le_of_ble_eq_true rfl) (Nat.le_of_ble_eq_true rfl) dJ0_init_db425_1 ?_
  refine g_run X KJ0_init_db425_4_1 KJ0_init_db425_4_1_d 5 [(0, .ref sa), (1, .ref b), (2, .null)] [.ref b] rfl ?_
  refine g_perm (ws' := ([(b, Sum.inr (10, [.ref v, .int (nI 0), .int 0, .int (nI 15)])), (sa, Sum.inr (11, [.null, .int 0, .int 0, .int 0])), (v, Sum.inl (g 6, 16, .inl f))] : va_W)) (perm_of (l := ([(sa, Sum.inr (11, [.null, .int 0, .int 0, .int 0])), (b, Sum.inr (10, [.ref v, .int (nI 0), .int 0, .int (nI 15)])), (v, Sum.inl (g 6, 16, .inl f))] : va_W)) [1, 0, 2] (by decide) rfl) ?_
  refine g_callU X hSB hAf srcW (hrc1 := (rfl : CL[10]? = some _)) (List.mem_of_getElem? (i := 0) rfl) (As := []) (wr := ([(sa, Sum.inr (11, [.null, .int 0, .int 0, .int 0])), (v, Sum.inl (g 6, 16, .inl f))] : va_W)) (n := 0) (c_J5_getValue_6d5f1 l D g b v 15 ) rfl srcN hrdN w_912 w_908 w_909 w_911 w_910 w_28 (by decide +kernel) rfl ⟨Nat.le_of_ble_eq_true rfl, Nat.le_of_ble_eq_true rfl⟩ rfl rfl rfl (Nat.le_of_ble_eq_true rfl) ⟨Nat.le_of_ble_eq_true rfl, Nat.le_of_ble_eq_true rfl⟩ dJ0_init_db425_5 (fun hu1 _ => ?_)
  refine g_af (ws' := ([(b, Sum.inr (10, [.ref v, .int (nI 0), .int 0, .int (nI 15)])), (sa, Sum.inr (11, [.null, .int 0, .int 0, .int 0])), (v, Sum.inl (g 6, 16, .inl f))] : va_W)) (st' := [.ref v]) (cells' := 0) (slots' := 0) (pc' := 8) rfl rfl rfl rfl rfl ?_
  refine g_run X KJ0_init_db425_8_2 KJ0_init_db425_8_2_d 10 [(3, .ref v), (0, .ref sa), (1, .ref b), (2, .null)] [.ref b] rfl ?_
  refine g_callO X hSB hAf srcW (hrc1 := (rfl : CL[10]? = some _)) (List.mem_of_getElem? (i := 0) rfl) (As := []) (wr := ([(sa, Sum.inr (11, [.null, .int 0, .int 0, .int 0])), (v, Sum.inl (g 6, 16, .inl f))] : va_W)) (n := 0) (c_J4_length_8abf5 l D g b v 15 ) rfl srcN hrdN w_918 w_913 w_917 w_916 w_915 w_914 w_920 w_29 (by decide +kernel) rfl ⟨Nat.le_of_ble_eq_true rfl, Nat.le_of_ble_eq_true rfl⟩ rfl rfl rfl (Nat.le_of_ble_eq_true rfl) ⟨Nat.le_of_ble_eq_true rfl, Nat.le_of_ble_eq_true rfl⟩ dJ0_init_db425_10 (fun hu2 _ => ?_)
  refine g_af (ws' := ([(b, Sum.inr (10, [.ref v, .int (nI 0), .int 0, .int (nI 15)])), (sa, Sum.inr (11, [.null, .int 0, .int 0, .int 0])), (v, Sum.inl (g 6, 16, .inl f))] : va_W)) (st' := [.int (nI 15)]) (cells' := 0) (slots' := 0) (pc' := 13) rfl rfl rfl rfl rfl ?_
  refine g_run X KJ0_init_db425_13_3 KJ0_init_db425_13_3_d 16 [(4, .int (nI 15)), (3, .ref v), (0, .ref sa), (1, .ref b), (2, .null)] [.ref b] rfl ?_
  refine g_callU X hSB hAf srcW (hrc1 := (rfl : CL[10]? = some _)) (List.mem_of_getElem? (i := 0) rfl) (As := []) (wr := ([(sa, Sum.inr (11, [.null, .int 0, .int 0, .int 0])), (v, Sum.inl (g 6, 16, .inl f))] : va_W)) (n := 0) (c_J5_isLatin1_aae02 l D g b v 15 ) rfl srcN hrdN w_846 w_921 w_843 w_845 w_844 w_28 (by decide +kernel) rfl ⟨Nat.le_of_ble_eq_true rfl, Nat.le_of_ble_eq_true rfl⟩ rfl rfl rfl (Nat.le_of_ble_eq_true rfl) ⟨Nat.le_of_ble_eq_true rfl, Nat.le_of_ble_eq_true rfl⟩ dJ0_init_db425_16 (fun hu3 _ => ?_)
  refine g_af (ws' := ([(b, Sum.inr (10, [.ref v, .int (nI 0), .int 0, .int (nI 15)])), (sa, Sum.inr (11, [.null, .int 0, .int 0, .int 0])), (v, Sum.inl (g 6, 16, .inl f))] : va_W)) (st' := [.int (nI 1)]) (cells' := 0) (slots' := 0) (pc' := 19) rfl rfl rfl rfl rfl ?_
  refine g_if_eq X 41 dJ0_init_db425_19 (by decide) (fun hc4 => ?_) (fun hc4 => ?_)
  · rw [nz_eq (by omega)] at hc4; first | omega | (simp at hc4)
  · refine g_perm (ws' := ([(sa, Sum.inr (11, [.null, .int 0, .int 0, .int 0])), (b, Sum.inr (10, [.ref v, .int (nI 0), .int 0, .int (nI 15)])), (v, Sum.inl (g 6, 16, .inl f))] : va_W)) (perm_of (l := ([(b, Sum.inr (10, [.ref v, .int (nI 0), .int 0, .int (nI 15)])), (sa, Sum.inr (11, [.null, .int 0, .int 0, .int 0])), (v, Sum.inl (g 6, 16, .inl f))] : va_W)) [1, 0, 2] (by decide) rfl) ?_
    refine g_run X KJ0_init_db425_22_4 KJ0_init_db425_22_4_d 24 [(4, .int (nI 15)), (3, .ref v), (0, .ref sa), (1, .ref b), (2, .null)] [.int (nI 0), .ref sa] rfl ?_
    refine g_putF X (ws' := ([(sa, Sum.inr (11, [.null, .int (nI 0), .int 0, .int 0])), (b, Sum.inr (10, [.ref v, .int (nI 0), .int 0, .int (nI 15)])), (v, Sum.inl (g 6, 16, .inl f))] : va_W)) hinJ0 tyJ0 tyJ0_ok nmJ0 rfl 1 (by decide) w_1023 rfl rfl hnm rfl (ty := .byte) rfl (by decide +kernel) rfl (0) (rfl) (Nat.le_of_ble_eq_true rfl) (rfl) dJ0_init_db425_24 ?_
    refine g_perm (ws' := ([(v, Sum.inl (g 6, 16, .inl f)), (sa, Sum.inr (11, [.null, .int (nI 0), .int 0, .int 0])), (b, Sum.inr (10, [.ref v, .int (nI 0), .int 0, .int (nI 15)]))] : va_W)) (perm_of (l := ([(sa, Sum.inr (11, [.null, .int (nI 0), .int 0, .int 0])), (b, Sum.inr (10, [.ref v, .int (nI 0), .int 0, .int (nI 15)])), (v, Sum.inl (g 6, 16, .inl f))] : va_W)) [2, 0, 1] (by decide) rfl) ?_
    refine g_run X KJ0_init_db425_27_5 KJ0_init_db425_27_5_d 32 [(4, .int (nI 15)), (3, .ref v), (0, .ref sa), (1, .ref b), (2, .null)] [.int (nI 15), .int (nI 0), .ref v, .ref sa] rfl ?_
    refine g_callS X hSB hAf (As := [.ref v, .int (nI 0), .int (nI 15)]) (wr := ([(sa, Sum.inr (11, [.null, .int (nI 0), .int 0, .int 0])), (b, Sum.inr (10, [.ref v, .int (nI 0), .int 0, .int (nI 15)]))] : va_W)) (n := 3) (c_J7_copyOfRange_39247 l D g v f (hF)) rfl srcN hrdN w_924 w_922 w_923 w_14 (by decide +kernel) rfl ⟨Nat.le_of_ble_eq_true rfl, Nat.le_of_ble_eq_true rfl⟩ rfl rfl rfl (Nat.le_of_ble_eq_true rfl) ⟨Nat.le_of_ble_eq_true rfl, Nat.le_of_ble_eq_true rfl⟩ dJ0_init_db425_32 (fun hu5 _ => ?_)
    refine g_af (ws' := ([(hu5, Sum.inl (g 6, 15, .inl (va_cpy f (fun _ => 0) 0 0 15))), (v, Sum.inl (g 6, 16, .inl f)), (sa, Sum.inr (11, [.null, .int (nI 0), .int 0, .int 0])), (b, Sum.inr (10, [.ref v, .int (nI 0), .int 0, .int (nI 15)]))] : va_W)) (st' := [.ref hu5, .ref sa]) (cells' := 1) (slots' := 15) (pc' := 35) rfl rfl rfl rfl rfl ?_
    refine g_perm (ws' := ([(sa, Sum.inr (11, [.null, .int (nI 0), .int 0, .int 0])), (hu5, Sum.inl (g 6, 15, .inl (va_cpy f (fun _ => 0) 0 0 15))), (b, Sum.inr (10, [.ref v, .int (nI 0), .int 0, .int (nI 15)])), (v, Sum.inl (g 6, 16, .inl f))] : va_W)) (perm_of (l := ([(hu5, Sum.inl (g 6, 15, .inl (va_cpy f (fun _ => 0) 0 0 15))), (v, Sum.inl (g 6, 16, .inl f)), (sa, Sum.inr (11, [.null, .int (nI 0), .int 0, .int 0])), (b, Sum.inr (10, [.ref v, .int (nI 0), .int 0, .int (nI 15)]))] : va_W)) [2, 0, 3, 1] (by decide) rfl) ?_
    refine g_putF X (ws' := ([(sa, Sum.inr (11, [.ref hu5, .int (nI 0), .int 0, .int 0])), (hu5, Sum.inl (g 6, 15, .inl (va_cpy f (fun _ => 0) 0 0 15))), (b, Sum.inr (10, [.ref v, .int (nI 0), .int 0, .int (nI 15)])), (v, Sum.inl (g 6, 16, .inl f))] : va_W)) hinJ0 tyJ0 tyJ0_ok nmJ0 rfl 0 (by decide) w_1022 rfl rfl hnm rfl (ty := tyJ0 0) (tyJ0_ok 0 (by decide)) rfl rfl (0) (rfl) (Nat.le_of_ble_eq_true rfl) (rfl) dJ0_init_db425_35 ?_
    refine g_run X KJ0_init_db425_38_6 KJ0_init_db425_38_6_d 97 [(4, .int (nI 15)), (3, .ref v), (0, .ref sa), (1, .ref b), (2, .null)] [] rfl ?_
    exact g_vret X hr hu5 rfl (trivial) (rfl) (Nat.le_of_ble_eq_true rfl) (Nat.le_of_ble_eq_true rfl) dJ0_init_db425_97

def KJ0_init_81219_0_0 : List (Nat × Instr × Nat) := [(0, .aload_n 0, 1), (1, .aload_n 1, 1), (2, .aconst_null, 1)]
theorem KJ0_init_81219_0_0_d : ∀ z ∈ KJ0_init_81219_0_0, decode cJ0_init_81219 z.1 = .ok z.2 := by decide +kernel
set_option maxHeartbeats 4000000 in
set_option maxRecDepth 100000 in
theorem c_J0_init_81219 (l : Launch) (D : va_G) (g : Nat → ClassId) (sa : Nat) (b : Nat) (v : Nat) (f : Nat → Int32) (hF : sb_Fit f) : CT l yJ0_init_81219 cJ0_init_81219 2 ((Option.none : Option Jvm.ClassFile.FieldType)) ({ frames := 4, cells := 1, slots := 15, locals := 100 } : Room) [.ref sa, .ref b] D CL (TYS g) ([]) ([(sa, Sum.inr (11, [.null, .int 0, .int 0, .int 0])), (b, Sum.inr (10, [.ref v, .int (nI 0), .int 0, .int (nI 15)])), (v, Sum.inl (g 6, 16, .inl f))]) (S := Nat) (fun _ => none) (fun u => [(sa, Sum.inr (11, [.ref u, .int (nI 0), .int 0, .int 0])), (u, Sum.inl (g 6, 15, .inl (va_cpy f (fun _ => 0) 0 0 15))), (b, Sum.inr (10, [.ref v, .int (nI 0), .int 0, .int (nI 15)])), (v, Sum.inl (g 6, 16, .inl f))]) (fun _ => True) 1 15 := by
  refine ct_of (by decide +kernel) (Nat.le_of_ble_eq_true rfl) ?_
  intro p e s m below meth c A X hr hnm hSB hRO hAf
  refine g_cs (ws' := ([(sa, Sum.inr (11, [.null, .int 0, .int 0, .int 0])), (b, Sum.inr (10, [.ref v, .int (nI 0), .int 0, .int (nI 15)])), (v, Sum.inl (g 6, 16, .inl f))] : va_W)) (lv' := [(0, .ref sa), (1, .ref b)]) (rfl) rfl ?_
  refine g_run X KJ0_init_81219_0_0 KJ0_init_81219_0_0_d 3 [(0, .ref sa), (1, .ref b)] [.null, .ref b, .ref sa] rfl ?_
  refine g_callI X hSB hAf (As := [.ref b, .null]) (wr := ([] : va_W)) (n := 2) (c_J0_init_db425 l D g sa b v f (hF)) rfl srcN hrdN w_906 w_904 w_905 rfl w_30 (by decide +kernel) rfl ⟨Nat.le_of_ble_eq_true rfl, Nat.le_of_ble_eq_true rfl⟩ rfl rfl rfl (Nat.le_of_ble_eq_true rfl) ⟨Nat.le_of_ble_eq_true rfl, Nat.le_of_ble_eq_true rfl⟩ dJ0_init_81219_3 (fun hu1 _ => ?_)
  refine g_af (ws' := ([(sa, Sum.inr (11, [.ref hu1, .int (nI 0), .int 0, .int 0])), (hu1, Sum.inl (g 6, 15, .inl (va_cpy f (fun _ => 0) 0 0 15))), (b, Sum.inr (10, [.ref v, .int (nI 0), .int 0, .int (nI 15)])), (v, Sum.inl (g 6, 16, .inl f))] : va_W)) (st' := []) (cells' := 1) (slots' := 15) (pc' := 6) rfl rfl rfl rfl rfl ?_
  exact g_vret X hr hu1 rfl (trivial) (rfl) (Nat.le_of_ble_eq_true rfl) (Nat.le_of_ble_eq_true rfl) dJ0_init_81219_6

def KJ4_toString_0e30d_3_0 : List (Nat × Instr × Nat) := [(3, .dup, 1), (4, .aload_n 0, 1)]
theorem KJ4_toString_0e30d_3_0_d : ∀ z ∈ KJ4_toString_0e30d_3_0, decode cJ4_toString_0e30d z.1 = .ok z.2 := by decide +kernel
set_option maxHeartbeats 4000000 in
set_option maxRecDepth 100000 in
theorem c_J4_toString_0e30d (l : Launch) (D : va_G) (g : Nat → ClassId) (b : Nat) (v : Nat) (f : Nat → Int32) (hF : sb_Fit f) : CT l yJ4_toString_0e30d cJ4_toString_0e30d 1 ((Option.some (FieldType.object "java/lang/String"))) ({ frames := 5, cells := 2, slots := 19, locals := 121 } : Room) [.ref b] D CL (TYS g) ([]) ([(b, Sum.inr (10, [.ref v, .int (nI 0), .int 0, .int (nI 15)])), (v, Sum.inl (g 6, 16, .inl f))]) (S := Nat) (fun u => some (.ref u)) (fun u => [(b, Sum.inr (10, [.ref v, .int (nI 0), .int 0, .int (nI 15)])), (v, Sum.inl (g 6, 16, .inl f))]) (fun _ => True) 2 19 := by
  refine ct_of (by decide +kernel) (Nat.le_of_ble_eq_true rfl) ?_
  intro p e s m below meth c A X hr hnm hSB hRO hAf
  refine g_cs (ws' := ([(b, Sum.inr (10, [.ref v, .int (nI 0), .int 0, .int (nI 15)])), (v, Sum.inl (g 6, 16, .inl f))] : va_W)) (lv' := [(0, .ref b)]) (rfl) rfl ?_
  refine g_new X hAf (ci := 11) hinJ0 tyJ0 tyJ0_ok w_899 w_900 w_30 rfl (fs := [.null, .int 0, .int 0, .int 0]) (by decide) (Nat.le_of_ble_eq_true rfl) (Nat.le_of_ble_eq_true rfl) dJ4_toString_0e30d_0 (fun qn1 => ?_)
  refine g_af (ws' := (([(b, Sum.inr (10, [.ref v, .int (nI 0), .int 0, .int (nI 15)])), (v, Sum.inl (g 6, 16, .inl f))] : va_W)) ++ [(qn1, Sum.inr (11, [.null, .int 0, .int 0, .int 0]))]) (st' := [.ref qn1]) (cells' := 1) (slots' := 4) (pc' := 3) rfl rfl rfl rfl rfl ?_
  refine g_perm (ws' := ([(qn1, Sum.inr (11, [.null, .int 0, .int 0, .int 0])), (b, Sum.inr (10, [.ref v, .int (nI 0), .int 0, .int (nI 15)])), (v, Sum.inl (g 6, 16, .inl f))] : va_W)) (List.perm_append_comm (l₁ := ([(qn1, Sum.inr (11, [.null, .int 0, .int 0, .int 0]))] : va_W))) ?_
  refine g_run X KJ4_toString_0e30d_3_0 KJ4_toString_0e30d_3_0_d 5 [(0, .ref b)] [.ref b, .ref qn1, .ref qn1] rfl ?_
  refine g_callI X hSB hAf (As := [.ref b]) (wr := ([] : va_W)) (n := 1) (c_J0_init_81219 l D g qn1 b v f (hF)) rfl srcN hrdN w_903 w_901 w_902 rfl w_30 (by decide +kernel) rfl ⟨Nat.le_of_ble_eq_true rfl, Nat.le_of_ble_eq_true rfl⟩ rfl rfl rfl (Nat.le_of_ble_eq_true rfl) ⟨Nat.le_of_ble_eq_true rfl, Nat.le_of_ble_eq_true rfl⟩ dJ4_toString_0e30d_5 (fun hu2 _ => ?_)
  refine g_af (ws' := ([(qn1, Sum.inr (11, [.ref hu2, .int (nI 0), .int 0, .int 0])), (hu2, Sum.inl (g 6, 15, .inl (va_cpy f (fun _ => 0) 0 0 15))), (b, Sum.inr (10, [.ref v, .int (nI 0), .int 0, .int (nI 15)])), (v, Sum.inl (g 6, 16, .inl f))] : va_W)) (st' := [.ref qn1]) (cells' := 2) (slots' := 19) (pc' := 8) rfl rfl rfl rfl rfl ?_
  refine g_perm (ws' := ([(b, Sum.inr (10, [.ref v, .int (nI 0), .int 0, .int (nI 15)])), (v, Sum.inl (g 6, 16, .inl f)), (qn1, Sum.inr (11, [.ref hu2, .int (nI 0), .int 0, .int 0])), (hu2, Sum.inl (g 6, 15, .inl (va_cpy f (fun _ => 0) 0 0 15)))] : va_W)) (perm_of (l := ([(qn1, Sum.inr (11, [.ref hu2, .int (nI 0), .int 0, .int 0])), (hu2, Sum.inl (g 6, 15, .inl (va_cpy f (fun _ => 0) 0 0 15))), (b, Sum.inr (10, [.ref v, .int (nI 0), .int 0, .int (nI 15)])), (v, Sum.inl (g 6, 16, .inl f))] : va_W)) [2, 3, 0, 1] (by decide) rfl) ?_
  exact g_aret X hr (Or.inl ⟨_, rfl⟩) (Or.inr ⟨_, rfl⟩) qn1 (rfl) (trivial) (rfl) (Nat.le_of_ble_eq_true rfl) (Nat.le_of_ble_eq_true rfl) dJ4_toString_0e30d_8

