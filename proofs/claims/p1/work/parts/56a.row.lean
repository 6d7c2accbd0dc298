def KX5_signOf_0_0 : List (Nat × Instr × Nat) := [(0, .iload_n 0, 1), (1, .bipush 10, 2)]
theorem KX5_signOf_0_0_d : ∀ z ∈ KX5_signOf_0_0, decode cX5_signOf z.1 = .ok z.2 := by decide +kernel
def KX5_signOf_13_1 : List (Nat × Instr × Nat) := [(13, .bipush 97, 2), (15, .iload_n 0, 1), (16, .iadd, 1), (17, .bipush 10, 2), (19, .isub, 1)]
theorem KX5_signOf_13_1_d : ∀ z ∈ KX5_signOf_13_1, decode cX5_signOf z.1 = .ok z.2 := by decide +kernel
def KX5_signOf_20_2 : List (Nat × Instr × Nat) := [(20, .i2c, 1)]
theorem KX5_signOf_20_2_d : ∀ z ∈ KX5_signOf_20_2, decode cX5_signOf z.1 = .ok z.2 := by decide +kernel
def KX5_signOf_6_3 : List (Nat × Instr × Nat) := [(6, .bipush 48, 2), (8, .iload_n 0, 1), (9, .iadd, 1), (10, .goto 10, 3)]
theorem KX5_signOf_6_3_d : ∀ z ∈ KX5_signOf_6_3, decode cX5_signOf z.1 = .ok z.2 := by decide +kernel
set_option maxHeartbeats 4000000 in
set_option maxRecDepth 100000 in
theorem c_X5_signOf (l : Launch) (D : va_G) (g : Nat → ClassId) (q : Nat) (hq : q < 16) : CT l yX5_signOf cX5_signOf 1 ((Option.some FieldType.char)) ({ frames := 0, cells := 0, slots := 0, locals := 0 } : Room) [.int (nI q)] D CL (TYS g) ([]) ([]) (S := Unit) (fun _ => some (.int (nI (sgn q)))) (fun _ => []) (fun _ => True) 0 0 := by
  refine ct_of (by decide +kernel) (Nat.le_of_ble_eq_true rfl) ?_
  intro p e s m below meth c A X hr hnm hSB hRO hAf
  refine g_cs (ws' := []) (lv' := [(0, .int (nI q))]) rfl rfl ?_
  refine g_run X KX5_signOf_0_0 KX5_signOf_0_0_d 3 [(0, .int (nI q))] [.int (nI 10), .int (nI q)] rfl ?_
  refine g_icmp_ge X 13 dX5_signOf_3 (by decide) (fun hc1 => ?_) (fun hc1 => ?_)
  · rw [nI_leI (by omega) (by omega)] at hc1; have hlt : ¬ q < 10 := by omega
    refine g_run X KX5_signOf_13_1 KX5_signOf_13_1_d 20 [(0, .int (nI q))] [.int (((nI 97) + (nI q)) - (nI 10))] rfl ?_
    refine g_st (st' := [.int (nI (sgn q))]) (by rw [sgn, if_neg hlt, nI_add, pk_sub (by omega), show 97 + q - 10 = 87 + q by omega]) ?_
    refine g_run X KX5_signOf_20_2 KX5_signOf_20_2_d 21 [(0, .int (nI q))] [.int (((nI (sgn q)).toUInt32 % 65536).toInt32)] rfl ?_
    refine g_st (st' := [.int (nI (sgn q))]) (by rw [chr_n (by have := sgn_lt hq; omega)]) ?_
    exact g_zret X hr (nar_chr (by have := sgn_lt hq; omega)) () (rfl) (trivial) ((List.append_nil _).symm) (Nat.le_of_ble_eq_true rfl) (Nat.le_of_ble_eq_true rfl) dX5_signOf_21
  · rw [nI_leI (by omega) (by omega)] at hc1; have hlt : q < 10 := by omega
    refine g_run X KX5_signOf_6_3 KX5_signOf_6_3_d 20 [(0, .int (nI q))] [.int ((nI 48) + (nI q))] rfl ?_
    refine g_nm (lv' := [(0, .int (nI q))]) (st' := [.int (nI (48 + q))]) (by simp only [nI_add]) (by simp only [nI_add]) ?_
    refine g_st (st' := [.int (nI (sgn q))]) (by rw [sgn, if_pos hlt]) ?_
    refine g_run X KX5_signOf_20_2 KX5_signOf_20_2_d 21 [(0, .int (nI q))] [.int (((nI (sgn q)).toUInt32 % 65536).toInt32)] rfl ?_
    refine g_st (st' := [.int (nI (sgn q))]) (by rw [chr_n (by have := sgn_lt hq; omega)]) ?_
    exact g_zret X hr (nar_chr (by have := sgn_lt hq; omega)) () (rfl) (trivial) ((List.append_nil _).symm) (Nat.le_of_ble_eq_true rfl) (Nat.le_of_ble_eq_true rfl) dX5_signOf_21

def KX5_row_0_0 : List (Nat × Instr × Nat) := [(0, .iload_n 1, 1)]
theorem KX5_row_0_0_d : ∀ z ∈ KX5_row_0_0, decode cX5_row z.1 = .ok z.2 := by decide +kernel
def KX5_row_7_1 : List (Nat × Instr × Nat) := [(7, .dup, 1)]
theorem KX5_row_7_1_d : ∀ z ∈ KX5_row_7_1, decode cX5_row z.1 = .ok z.2 := by decide +kernel
def KX5_row_11_2 : List (Nat × Instr × Nat) := [(11, .astore_n 2, 1), (12, .iconst 0, 1), (13, .istore_n 3, 1)]
theorem KX5_row_11_2_d : ∀ z ∈ KX5_row_11_2, decode cX5_row z.1 = .ok z.2 := by decide +kernel
def KX5_row_14_3 : List (Nat × Instr × Nat) := [(14, .iload_n 3, 1), (15, .bipush 15, 2)]
theorem KX5_row_14_3_d : ∀ z ∈ KX5_row_14_3, decode cX5_row z.1 = .ok z.2 := by decide +kernel
def KX5_row_64_4 : List (Nat × Instr × Nat) := [(64, .aload_n 2, 1)]
theorem KX5_row_64_4_d : ∀ z ∈ KX5_row_64_4, decode cX5_row z.1 = .ok z.2 := by decide +kernel
def KX5_row_20_5 : List (Nat × Instr × Nat) := [(20, .aload_n 0, 1)]
theorem KX5_row_20_5_d : ∀ z ∈ KX5_row_20_5, decode cX5_row z.1 = .ok z.2 := by decide +kernel
def KX5_row_27_6 : List (Nat × Instr × Nat) := [(27, .iload_n 3, 1)]
theorem KX5_row_27_6_d : ∀ z ∈ KX5_row_27_6, decode cX5_row z.1 = .ok z.2 := by decide +kernel
def KX5_row_29_7 : List (Nat × Instr × Nat) := [(29, .astore 4, 2), (31, .aload_n 2, 1), (32, .aload 4, 2)]
theorem KX5_row_29_7_d : ∀ z ∈ KX5_row_29_7, decode cX5_row z.1 = .ok z.2 := by decide +kernel
def KX5_row_45_8 : List (Nat × Instr × Nat) := [(45, .aload 4, 2), (47, .iload_n 1, 1)]
theorem KX5_row_45_8_d : ∀ z ∈ KX5_row_45_8, decode cX5_row z.1 = .ok z.2 := by decide +kernel
def KX5_row_57_9 : List (Nat × Instr × Nat) := [(57, .pop, 1), (58, .iinc 3 1, 3), (61, .goto (-47), 3)]
theorem KX5_row_57_9_d : ∀ z ∈ KX5_row_57_9, decode cX5_row z.1 = .ok z.2 := by decide +kernel
def KX5_row_40_10 : List (Nat × Instr × Nat) := [(40, .bipush 63, 2), (42, .goto 12, 3)]
theorem KX5_row_40_10_d : ∀ z ∈ KX5_row_40_10, decode cX5_row z.1 = .ok z.2 := by decide +kernel
set_option maxHeartbeats 4000000 in
set_option maxRecDepth 100000 in
theorem c_X5_row (l : Launch) (D : va_G) (g : Nat → ClassId) (ad : Nat → Nat) (I : Nat → Nat → Int32) (L : Nat → Nat → Int64) (S : Nat → Nat) (q : Nat) (hS18 : ∀ p, p < 15 → S p < 18) (hq : q < 16) : CT l yX5_row cX5_row 5 ((Option.some (FieldType.object "java/lang/String"))) ({ frames := 6, cells := 4, slots := 39, locals := 141 } : Room) [.ref (ad 0), .int (nI q)] D CL (TYS g) (WC ad g I L S) ([]) (S := Nat) (fun u => some (.ref u)) (fun u => []) (fun _ => True) 4 39 := by
  refine ct_of (by decide +kernel) (Nat.le_of_ble_eq_true rfl) ?_
  intro p e s m below meth c A X hr hnm hSB hRO hAf
  refine g_cs (ws' := ([] : va_W)) (lv' := [(0, .ref (ad 0)), (1, .int (nI q))]) (rfl) rfl ?_
  refine g_run X KX5_row_0_0 KX5_row_0_0_d 1 [(0, .ref (ad 0)), (1, .int (nI q))] [.int (nI q)] rfl ?_
  refine g_callS X hSB hAf (As := [.int (nI q)]) (wr := ([] : va_W)) (n := 1) (c_X5_checkLine l D g q (by omega)) rfl srcN hrdN w_435 w_433 w_434 w_1 (by decide +kernel) rfl ⟨Nat.le_of_ble_eq_true rfl, Nat.le_of_ble_eq_true rfl⟩ rfl rfl rfl (Nat.le_of_ble_eq_true rfl) ⟨Nat.le_of_ble_eq_true rfl, Nat.le_of_ble_eq_true rfl⟩ dX5_row_1 (fun hu1 _ => ?_)
  refine g_af (ws' := ([] : va_W)) (st' := []) (cells' := 0) (slots' := 0) (pc' := 4) rfl rfl rfl rfl rfl ?_
  refine g_new X hAf (ci := 10) hinJ4 tyJ4 tyJ4_ok w_766 w_767 w_29 rfl (fs := [.null, .int 0, .int 0, .int 0]) (by decide) (Nat.le_of_ble_eq_true rfl) (Nat.le_of_ble_eq_true rfl) dX5_row_4 (fun qn2 => ?_)
  refine g_af (ws' := (([] : va_W)) ++ [(qn2, Sum.inr (10, [.null, .int 0, .int 0, .int 0]))]) (st' := [.ref qn2]) (cells' := 1) (slots' := 4) (pc' := 7) rfl rfl rfl rfl rfl ?_
  refine g_perm (ws' := ([(qn2, Sum.inr (10, [.null, .int 0, .int 0, .int 0]))] : va_W)) (List.perm_append_comm (l₁ := ([(qn2, Sum.inr (10, [.null, .int 0, .int 0, .int 0]))] : va_W))) ?_
  refine g_run X KX5_row_7_1 KX5_row_7_1_d 8 [(0, .ref (ad 0)), (1, .int (nI q))] [.ref qn2, .ref qn2] rfl ?_
  refine g_callI X hSB hAf (As := []) (wr := ([] : va_W)) (n := 0) (c_J4_init_da8c8 l D g qn2 ) rfl srcN hrdN w_770 w_768 w_769 rfl w_29 (by decide +kernel) rfl ⟨Nat.le_of_ble_eq_true rfl, Nat.le_of_ble_eq_true rfl⟩ rfl rfl rfl (Nat.le_of_ble_eq_true rfl) ⟨Nat.le_of_ble_eq_true rfl, Nat.le_of_ble_eq_true rfl⟩ dX5_row_8 (fun hu3 _ => ?_)
  refine g_af (ws' := ([(qn2, Sum.inr (10, [.ref hu3, .int (nI 0), .int 0, .int 0])), (hu3, Sum.inl (g 6, 16, .inl (fun _ => 0)))] : va_W)) (st' := [.ref qn2]) (cells' := 2) (slots' := 20) (pc' := 11) rfl rfl rfl rfl rfl ?_
  refine g_run X KX5_row_11_2 KX5_row_11_2_d 14 [(3, .int (nI 0)), (2, .ref qn2), (0, .ref (ad 0)), (1, .int (nI q))] [] rfl ?_
  refine g_lv (lv' := [(0, .ref (ad 0)), (1, .int (nI q)), (2, .ref qn2), (3, .int (nI 0))]) (lsub_c 2 rfl (lsub_c 3 rfl (lsub_c 1 rfl (lsub_c 0 rfl (lsub_n))))) ?_
  refine g_forX (σ := Nat → Int32) 15 (fun uX14 i => ([(qn2, Sum.inr (10, [.ref hu3, .int (nI 0), .int 0, .int (nI i)])), (hu3, Sum.inl (g 6, 16, .inl uX14))] : va_W)) (fun i => [(0, .ref (ad 0)), (1, .int (nI q)), (2, .ref qn2), (3, .int (nI i))]) (fun uX14 i => sb_Fit uX14) 0 0 (fun _ => 0) (sb_fit0) (rfl) (rfl) ?_ ?_
  · intro uX14 hP14
    refine g_widen (k := 2) (n := 20) (Nat.le_of_ble_eq_true rfl) (Nat.le_of_ble_eq_true rfl) ?_
    refine g_run X KX5_row_14_3 KX5_row_14_3_d 17 [(0, .ref (ad 0)), (1, .int (nI q)), (2, .ref qn2), (3, .int (nI 15))] [.int (nI 15), .int (nI 15)] rfl ?_
    refine g_icmp_ge X 64 dX5_row_17 (by decide) (fun hc4 => ?_) (fun hc4 => ?_)
    · refine g_run X KX5_row_64_4 KX5_row_64_4_d 65 [(0, .ref (ad 0)), (1, .int (nI q)), (2, .ref qn2), (3, .int (nI 15))] [.ref qn2] rfl ?_
      refine g_callV X hSB hAf srcW (hrc1 := (rfl : CL[10]? = some _)) (List.mem_of_getElem? (i := 0) rfl) rfl (As := []) (wr := ([] : va_W)) (n := 0) (c_J4_toString_0e30d l D g qn2 hu3 uX14 (by assumption)) rfl srcN hrdN w_898 w_895 w_896 w_897 w_29 (by decide +kernel) rfl ⟨Nat.le_of_ble_eq_true rfl, Nat.le_of_ble_eq_true rfl⟩ rfl rfl rfl (Nat.le_of_ble_eq_true rfl) ⟨Nat.le_of_ble_eq_true rfl, Nat.le_of_ble_eq_true rfl⟩ dX5_row_65 (fun hu5 _ => ?_)
      refine g_af (ws' := ([(qn2, Sum.inr (10, [.ref hu3, .int (nI 0), .int 0, .int (nI 15)])), (hu3, Sum.inl (g 6, 16, .inl uX14))] : va_W)) (st' := [.ref hu5]) (cells' := 4) (slots' := 39) (pc' := 68) rfl rfl rfl rfl rfl ?_
      exact g_aret X hr (Or.inl ⟨_, rfl⟩) (Or.inr ⟨_, rfl⟩) hu5 (rfl) (trivial) (rfl) (Nat.le_of_ble_eq_true rfl) (Nat.le_of_ble_eq_true rfl) dX5_row_68
    · rw [nI_leI (by omega) (by omega)] at hc4; first | omega | (simp at hc4)
  · intro i hi uX14 hP14 k14
    refine g_run X KX5_row_14_3 KX5_row_14_3_d 17 [(0, .ref (ad 0)), (1, .int (nI q)), (2, .ref qn2), (3, .int (nI i))] [.int (nI 15), .int (nI i)] rfl ?_
    refine g_icmp_ge X 64 dX5_row_17 (by decide) (fun hc6 => ?_) (fun hc6 => ?_)
    · rw [nI_leI (by omega) (by omega)] at hc6; first | omega | (simp at hc6)
    · refine g_run X KX5_row_20_5 KX5_row_20_5_d 21 [(0, .ref (ad 0)), (1, .int (nI q)), (2, .ref qn2), (3, .int (nI i))] [.ref (ad 0)] rfl ?_
      refine g_get X (srcR hRO) (v := .ref (ad 1)) hinX5 rfl 0 (by decide) w_183 rfl (wc_mem (k := 0) (by decide)) rfl dX5_row_21 ?_
      refine g_get X (srcR hRO) (v := .ref (ad 3)) hinX4 rfl 1 (by decide) w_96 rfl (wc_mem (k := 1) (by decide)) rfl dX5_row_24 ?_
      refine g_run X KX5_row_27_6 KX5_row_27_6_d 28 [(0, .ref (ad 0)), (1, .int (nI q)), (2, .ref qn2), (3, .int (nI i))] [.int (nI i), .ref (ad 3)] rfl ?_
      refine g_aald X (srcR hRO) (b := ad ((S i) + 10)) 1 rfl (wc_mem (k := 3) (by decide)) i rfl (by omega) (by decide) (rfl) dX5_row_28 ?_
      refine g_run X KX5_row_29_7 KX5_row_29_7_d 34 [(4, .ref (ad ((S i) + 10))), (0, .ref (ad 0)), (1, .int (nI q)), (2, .ref qn2), (3, .int (nI i))] [.ref (ad ((S i) + 10)), .ref qn2] rfl ?_
      refine g_get X (srcR hRO) (v := .int (I 3 (S i))) hinX1 rfl 4 (by decide) w_67 rfl (wc_chip (hS18 _ (by omega))) rfl dX5_row_34 ?_
      refine g_if_eq X 45 dX5_row_37 (by decide) (fun hc7 => ?_) (fun hc7 => ?_)
      · refine g_run X KX5_row_45_8 KX5_row_45_8_d 48 [(4, .ref (ad ((S i) + 10))), (0, .ref (ad 0)), (1, .int (nI q)), (2, .ref qn2), (3, .int (nI i))] [.int (nI q), .ref (ad ((S i) + 10)), .ref qn2] rfl ?_
        refine g_callV X hSB hAf ((srcR hRO)) (hrc1 := (rfl : CL[1]? = some _)) (wc_chip (hS18 _ (by omega))) rfl (As := [.int (nI q)]) (wr := ([(qn2, Sum.inr (10, [.ref hu3, .int (nI 0), .int 0, .int (nI i)])), (hu3, Sum.inl (g 6, 16, .inl uX14))] : va_W)) (n := 1) (c_X1_readAt l D g ad I L S (S i) q (hS18 _ (by omega)) (by omega)) rfl (srcR hRO) hrdC w_248 w_721 w_246 w_247 w_3 (by decide +kernel) rfl ⟨Nat.le_of_ble_eq_true rfl, Nat.le_of_ble_eq_true rfl⟩ rfl rfl rfl (Nat.le_of_ble_eq_true rfl) ⟨by show (2 + i * 0) + 0 ≤ 4; omega, by show (20 + i * 0) + 0 ≤ 39; omega⟩ dX5_row_48 (fun hu8 _ => ?_)
        refine g_af (ws' := ([(qn2, Sum.inr (10, [.ref hu3, .int (nI 0), .int 0, .int (nI i)])), (hu3, Sum.inl (g 6, 16, .inl uX14))] : va_W)) (st' := [.int (nI (rd I L (S i) q)), .ref qn2]) (cells' := 2 + i * 0) (slots' := 20 + i * 0) (pc' := 51) rfl rfl rfl rfl rfl ?_
        refine g_callS X hSB hAf (As := [.int (nI (rd I L (S i) q))]) (wr := ([(qn2, Sum.inr (10, [.ref hu3, .int (nI 0), .int 0, .int (nI i)])), (hu3, Sum.inl (g 6, 16, .inl uX14))] : va_W)) (n := 1) (c_X5_signOf l D g (rd I L (S i) q) (rd_lt _ _ _ _)) rfl srcN hrdN w_799 w_797 w_798 w_1 (by decide +kernel) rfl ⟨Nat.le_of_ble_eq_true rfl, Nat.le_of_ble_eq_true rfl⟩ rfl rfl rfl (Nat.le_of_ble_eq_true rfl) ⟨by show (2 + i * 0) + 0 ≤ 4; omega, by show (20 + i * 0) + 0 ≤ 39; omega⟩ dX5_row_51 (fun hu9 _ => ?_)
        refine g_af (ws' := ([(qn2, Sum.inr (10, [.ref hu3, .int (nI 0), .int 0, .int (nI i)])), (hu3, Sum.inl (g 6, 16, .inl uX14))] : va_W)) (st' := [.int (nI (sgn (rd I L (S i) q))), .ref qn2]) (cells' := 2 + i * 0) (slots' := 20 + i * 0) (pc' := 54) rfl rfl rfl rfl rfl ?_
        refine g_callV X hSB hAf srcW (hrc1 := (rfl : CL[10]? = some _)) (List.mem_of_getElem? (i := 0) rfl) rfl (As := [.int (nI (sgn (rd I L (S i) q)))]) (wr := ([] : va_W)) (n := 1) (c_J4_append_cf468 l D g qn2 hu3 i uX14 (sgn (rd I L (S i) q)) (by omega) (by first | decide | exact sgn_lt (rd_lt _ _ _ _))) rfl srcN hrdN w_803 w_800 w_801 w_802 w_29 (by decide +kernel) rfl ⟨Nat.le_of_ble_eq_true rfl, Nat.le_of_ble_eq_true rfl⟩ rfl rfl rfl (Nat.le_of_ble_eq_true rfl) ⟨by show (2 + i * 0) + 0 ≤ 4; omega, by show (20 + i * 0) + 0 ≤ 39; omega⟩ dX5_row_54 (fun hu10 _ => ?_)
        refine g_af (ws' := ([(qn2, Sum.inr (10, [.ref hu3, .int (nI 0), .int 0, .int (nI (i + 1))])), (hu3, Sum.inl (g 6, 16, .inl (upd uX14 i (vp_nar .byte ((nI (sgn (rd I L (S i) q))).toInt8.toInt32)))))] : va_W)) (st' := [.ref qn2]) (cells' := 2 + i * 0 + 0) (slots' := 20 + i * 0 + 0) (pc' := 57) rfl rfl rfl rfl rfl ?_
        refine g_run X KX5_row_57_9 KX5_row_57_9_d 14 [(3, .int ((nI i) + (nI 1))), (4, .ref (ad ((S i) + 10))), (0, .ref (ad 0)), (1, .int (nI q)), (2, .ref qn2)] [] rfl ?_
        refine g_nm (lv' := [(3, .int (nI (i + 1))), (4, .ref (ad ((S i) + 10))), (0, .ref (ad 0)), (1, .int (nI q)), (2, .ref qn2)]) (st' := []) (by simp only [nI_add]) (by simp only [nI_add]) ?_
        refine g_lv (lv' := [(0, .ref (ad 0)), (1, .int (nI q)), (2, .ref qn2), (3, .int (nI (i + 1)))]) (lsub_c 2 rfl (lsub_c 3 rfl (lsub_c 4 rfl (lsub_c 0 rfl (lsub_n))))) ?_
        refine g_cs (ws' := ([(qn2, Sum.inr (10, [.ref hu3, .int (nI 0), .int 0, .int (nI (i + 1))])), (hu3, Sum.inl (g 6, 16, .inl (upd uX14 i (vp_nar .byte ((nI (sgn (rd I L (S i) q))).toInt8.toInt32)))))] : va_W)) (lv' := [(0, .ref (ad 0)), (1, .int (nI q)), (2, .ref qn2), (3, .int (nI (i + 1)))]) (rfl) (rfl) ?_
        exact k14 (upd uX14 i (vp_nar .byte ((nI (sgn (rd I L (S i) q))).toInt8.toInt32))) (fit_u (by assumption))
      · refine g_run X KX5_row_40_10 KX5_row_40_10_d 54 [(4, .ref (ad ((S i) + 10))), (0, .ref (ad 0)), (1, .int (nI q)), (2, .ref qn2), (3, .int (nI i))] [.int (nI 63), .ref qn2] rfl ?_
        refine g_callV X hSB hAf srcW (hrc1 := (rfl : CL[10]? = some _)) (List.mem_of_getElem? (i := 0) rfl) rfl (As := [.int (nI 63)]) (wr := ([] : va_W)) (n := 1) (c_J4_append_cf468 l D g qn2 hu3 i uX14 63 (by omega) (by first | decide | exact sgn_lt (rd_lt _ _ _ _))) rfl srcN hrdN w_803 w_800 w_801 w_802 w_29 (by decide +kernel) rfl ⟨Nat.le_of_ble_eq_true rfl, Nat.le_of_ble_eq_true rfl⟩ rfl rfl rfl (Nat.le_of_ble_eq_true rfl) ⟨by show (2 + i * 0) + 0 ≤ 4; omega, by show (20 + i * 0) + 0 ≤ 39; omega⟩ dX5_row_54 (fun hu11 _ => ?_)
        refine g_af (ws' := ([(qn2, Sum.inr (10, [.ref hu3, .int (nI 0), .int 0, .int (nI (i + 1))])), (hu3, Sum.inl (g 6, 16, .inl (upd uX14 i (vp_nar .byte ((nI 63).toInt8.toInt32)))))] : va_W)) (st' := [.ref qn2]) (cells' := 2 + i * 0 + 0) (slots' := 20 + i * 0 + 0) (pc' := 57) rfl rfl rfl rfl rfl ?_
        refine g_run X KX5_row_57_9 KX5_row_57_9_d 14 [(3, .int ((nI i) + (nI 1))), (4, .ref (ad ((S i) + 10))), (0, .ref (ad 0)), (1, .int (nI q)), (2, .ref qn2)] [] rfl ?_
        refine g_nm (lv' := [(3, .int (nI (i + 1))), (4, .ref (ad ((S i) + 10))), (0, .ref (ad 0)), (1, .int (nI q)), (2, .ref qn2)]) (st' := []) (by simp only [nI_add]) (by simp only [nI_add]) ?_
        refine g_lv (lv' := [(0, .ref (ad 0)), (1, .int (nI q)), (2, .ref qn2), (3, .int (nI (i + 1)))]) (lsub_c 2 rfl (lsub_c 3 rfl (lsub_c 4 rfl (lsub_c 0 rfl (lsub_n))))) ?_
        refine g_cs (ws' := ([(qn2, Sum.inr (10, [.ref hu3, .int (nI 0), .int 0, .int (nI (i + 1))])), (hu3, Sum.inl (g 6, 16, .inl (upd uX14 i (vp_nar .byte ((nI 63).toInt8.toInt32)))))] : va_W)) (lv' := [(0, .ref (ad 0)), (1, .int (nI q)), (2, .ref qn2), (3, .int (nI (i + 1)))]) (rfl) (rfl) ?_
        exact k14 (upd uX14 i (vp_nar .byte ((nI 63).toInt8.toInt32))) (fit_u (by assumption))

set_option maxHeartbeats 4000000 in
set_option maxRecDepth 100000 in
theorem x_X5_row_1 (l : Launch) (hfl : l.stackTraces = false) (D : va_G) (g : Nat → ClassId) (ad : Nat → Nat) (I : Nat → Nat → Int32) (L : Nat → Nat → Int64) (S : Nat → Nat) (x : Int32) (hx : x < 0 ∨ ¬ x < nI 16) : CX l yX5_row cX5_row 5 ((Option.some (FieldType.object "java/lang/String"))) ({ frames := 7, cells := 1, slots := 6, locals := 120 } : Room) [.ref (ad 0), .int x] D CL (TYS g) (WC ad g I L S) xIO 1 6 := by
  refine cx_of (by decide +kernel) (Nat.le_of_ble_eq_true rfl) ?_
  intro p e s m below meth c A X hnt hSB hRO hAf
  refine g_cs (ws' := []) (lv' := [(0, .ref (ad 0)), (1, .int x)]) rfl rfl ?_
  refine g_run X KX5_row_0_0 KX5_row_0_0_d 1 [(0, .ref (ad 0)), (1, .int x)] [.int x] rfl ?_
  exact gx_callS X hSB hAf hnt (As := [.int x]) (n := 1) (x_X5_checkLine l hfl D g x (hx)) srcN w_435 w_433 w_434 w_1 (by decide +kernel) rfl ⟨Nat.le_of_ble_eq_true rfl, Nat.le_of_ble_eq_true rfl⟩ rfl rfl rfl (Nat.le_of_ble_eq_true rfl) ⟨Nat.le_of_ble_eq_true rfl, Nat.le_of_ble_eq_true rfl⟩ (Nat.le_of_ble_eq_true rfl) (Nat.le_of_ble_eq_true rfl) dX5_row_1

