def KX9_room_0_0 : List (Nat × Instr × Nat) := [(0, .iconst 0, 1), (1, .istore_n 1, 1), (2, .iconst 1, 1), (3, .istore_n 2, 1)]
theorem KX9_room_0_0_d : ∀ z ∈ KX9_room_0_0, decode cX9_room z.1 = .ok z.2 := by decide +kernel
def KX9_room_4_1 : List (Nat × Instr × Nat) := [(4, .iload_n 2, 1), (5, .iconst 4, 1)]
theorem KX9_room_4_1_d : ∀ z ∈ KX9_room_4_1, decode cX9_room z.1 = .ok z.2 := by decide +kernel
def KX9_room_48_2 : List (Nat × Instr × Nat) := [(48, .aload_n 0, 1)]
theorem KX9_room_48_2_d : ∀ z ∈ KX9_room_48_2, decode cX9_room z.1 = .ok z.2 := by decide +kernel
def KX9_room_52_3 : List (Nat × Instr × Nat) := [(52, .iload_n 1, 1)]
theorem KX9_room_52_3_d : ∀ z ∈ KX9_room_52_3, decode cX9_room z.1 = .ok z.2 := by decide +kernel
def KX9_room_59_4 : List (Nat × Instr × Nat) := [(59, .astore_n 2, 1), (60, .aload_n 2, 1)]
theorem KX9_room_59_4_d : ∀ z ∈ KX9_room_59_4, decode cX9_room z.1 = .ok z.2 := by decide +kernel
def KX9_room_83_5 : List (Nat × Instr × Nat) := [(83, .iload_n 1, 1)]
theorem KX9_room_83_5_d : ∀ z ∈ KX9_room_83_5, decode cX9_room z.1 = .ok z.2 := by decide +kernel
def KX9_room_67_6 : List (Nat × Instr × Nat) := [(67, .aload_n 0, 1), (68, .aload_n 2, 1)]
theorem KX9_room_67_6_d : ∀ z ∈ KX9_room_67_6, decode cX9_room z.1 = .ok z.2 := by decide +kernel
def KX9_room_72_7 : List (Nat × Instr × Nat) := [(72, .aload_n 0, 1), (73, .aload_n 2, 1)]
theorem KX9_room_72_7_d : ∀ z ∈ KX9_room_72_7, decode cX9_room z.1 = .ok z.2 := by decide +kernel
def KX9_room_9_8 : List (Nat × Instr × Nat) := [(9, .aload_n 0, 1)]
theorem KX9_room_9_8_d : ∀ z ∈ KX9_room_9_8, decode cX9_room z.1 = .ok z.2 := by decide +kernel
def KX9_room_13_9 : List (Nat × Instr × Nat) := [(13, .iload_n 2, 1)]
theorem KX9_room_13_9_d : ∀ z ∈ KX9_room_13_9, decode cX9_room z.1 = .ok z.2 := by decide +kernel
def KX9_room_23_10 : List (Nat × Instr × Nat) := [(23, .aload_n 0, 1)]
theorem KX9_room_23_10_d : ∀ z ∈ KX9_room_23_10, decode cX9_room z.1 = .ok z.2 := by decide +kernel
def KX9_room_27_11 : List (Nat × Instr × Nat) := [(27, .iload_n 1, 1)]
theorem KX9_room_27_11_d : ∀ z ∈ KX9_room_27_11, decode cX9_room z.1 = .ok z.2 := by decide +kernel
def KX9_room_42_12 : List (Nat × Instr × Nat) := [(42, .iinc 2 1, 3), (45, .goto (-41), 3)]
theorem KX9_room_42_12_d : ∀ z ∈ KX9_room_42_12, decode cX9_room z.1 = .ok z.2 := by decide +kernel
def KX9_room_40_13 : List (Nat × Instr × Nat) := [(40, .iload_n 2, 1), (41, .istore_n 1, 1), (42, .iinc 2 1, 3), (45, .goto (-41), 3)]
theorem KX9_room_40_13_d : ∀ z ∈ KX9_room_40_13, decode cX9_room z.1 = .ok z.2 := by decide +kernel
set_option maxHeartbeats 4000000 in
set_option maxRecDepth 100000 in
theorem c_X9_room (l : Launch) (D : va_G) (g : Nat → ClassId) (ad : Nat → Nat) (I : Nat → Nat → Int32) (L : Nat → Nat → Int64) (S : Nat → Nat) (Z : Nat → Nat → Int32) (Y : Int64) (R : Nat → Nat) (hR : R16 R) (hZ : Z 0 = fun j => nI (R j)) (hS18 : ∀ p, p < 15 → S p < 18) (hFr : FrI I) (hFw : FwI I L) : CT l yX9_room cX9_room 3 ((Option.some FieldType.int)) ({ frames := 4, cells := 1, slots := 15, locals := 102 } : Room) [.ref (ad 0)] D CL (TYS g) ([]) (WM ad g I L S Z Y) (S := (Nat → Nat) × (Nat → Int32) × (Nat → Int32)) (fun _ => some (.int (nI (old I 3)))) (fun u => WM ad g I (wbL I L S (old I 3)) S (z4 Z u.1 u.2.1 u.2.2) Y) (fun u => R16 u.1) 1 15 := by
  refine ct_of (by decide +kernel) (Nat.le_of_ble_eq_true rfl) ?_
  intro p e s m below meth c A X hr hnm hSB hRO hAf
  refine g_cs (ws' := WM ad g I L S (z4 Z R (Z 1) (Z 2)) Y ++ []) (lv' := [(0, .ref (ad 0))]) (by rw [z4_e hZ]; exact List.append_nil _) rfl ?_
  refine g_run X KX9_room_0_0 KX9_room_0_0_d 4 [(2, .int (nI 1)), (1, .int (nI 0)), (0, .ref (ad 0))] [] rfl ?_
  refine g_lv (lv' := [(0, .ref (ad 0)), (1, .int (nI 0)), (2, .int (nI 1))]) (lsub_c 2 rfl (lsub_c 1 rfl (lsub_c 0 rfl (lsub_n)))) ?_
  refine g_for 3 (fun _ => WM ad g I L S (z4 Z R (Z 1) (Z 2)) Y ++ []) (fun i => [(0, .ref (ad 0)), (1, .int (nI (old I i))), (2, .int (nI (i + 1)))]) (rfl) (rfl) ?_ ?_
  · refine g_run X KX9_room_4_1 KX9_room_4_1_d 6 [(0, .ref (ad 0)), (1, .int (nI (old I 3))), (2, .int (nI (3 + 1)))] [.int (nI 4), .int (nI (3 + 1))] rfl ?_
    refine g_icmp_ge X 48 dX9_room_6 (by decide) (fun hc1 => ?_) (fun hc1 => ?_)
    · have hol := old_lt (I := I) (show 3 < 4 by decide)
      refine g_run X KX9_room_48_2 KX9_room_48_2_d 49 [(0, .ref (ad 0)), (1, .int (nI (old I 3))), (2, .int (nI (3 + 1)))] [.ref (ad 0)] rfl ?_
      refine g_get X srcW (v := .ref (ad 8)) hinX9 rfl 8 (by decide) w_1188 rfl (wm_mem (k := 0) (by decide)) rfl dX9_room_49 ?_
      refine g_run X KX9_room_52_3 KX9_room_52_3_d 53 [(0, .ref (ad 0)), (1, .int (nI (old I 3))), (2, .int (nI (3 + 1)))] [.int (nI (old I 3)), .ref (ad 8)] rfl ?_
      refine g_callV X hSB hAf (srcW) (hrc1 := (rfl : CL[9]? = some _)) (wm_mem (k := 8) (by decide)) rfl (As := [.int (nI (old I 3))]) (wr := []) (n := 1) (c_Jx4a65c_get_915e3 l D g ad I L S (z4 Z R (Z 1) (Z 2)) Y (old I 3) (by omega)) rfl srcN hrdN w_1384 w_1381 w_1382 w_1383 w_9 (by decide +kernel) rfl ⟨Nat.le_of_ble_eq_true rfl, Nat.le_of_ble_eq_true rfl⟩ rfl rfl rfl (Nat.le_of_ble_eq_true rfl) ⟨Nat.le_of_ble_eq_true rfl, Nat.le_of_ble_eq_true rfl⟩ dX9_room_53 (fun hu2 _ => ?_)
      refine g_af (ws' := WM ad g I L S (z4 Z R (Z 1) (Z 2)) Y ++ []) (st' := [.ref (ad ((old I 3) + 13))]) (cells' := 0) (slots' := 0) (pc' := 56) rfl rfl rfl rfl rfl ?_
      refine g_cast X srcW (hc := (rfl : CL[7]? = some _)) (wm_fr (by first | omega | exact old_lt (by omega))) w_1113 dX9_room_56 ?_
      refine g_run X KX9_room_59_4 KX9_room_59_4_d 61 [(2, .ref (ad ((old I 3) + 13))), (0, .ref (ad 0)), (1, .int (nI (old I 3)))] [.ref (ad ((old I 3) + 13))] rfl ?_
      refine g_getN X srcW (host := "ChipfieldModel") (v := .int (I 6 (old I 3))) hinX8 rfl 2 (by decide) (nw_in n_1122 rfl) rfl (wm_fr (by first | omega | exact old_lt (by omega))) rfl dX9_room_61 ?_
      refine g_if_eq X 83 dX9_room_64 (by decide) (fun hc3 => ?_) (fun hc3 => ?_)
      · have hd0 := hc3
        refine g_run X KX9_room_83_5 KX9_room_83_5_d 84 [(2, .ref (ad ((old I 3) + 13))), (0, .ref (ad 0)), (1, .int (nI (old I 3)))] [.int (nI (old I 3))] rfl ?_
        exact g_iret X hr (R, (Z 1), (Z 2)) (rfl) (by assumption) (by first | (rw [wbL, if_pos hd0]; done) | (rw [wbL, if_pos hd0]; rfl)) (Nat.le_of_ble_eq_true rfl) (Nat.le_of_ble_eq_true rfl) dX9_room_84
      · have hnd := hc3
        have hl2 := hFr _ hol hnd; have hw2 := hFw _ hol hnd
        refine g_run X KX9_room_67_6 KX9_room_67_6_d 69 [(2, .ref (ad ((old I 3) + 13))), (0, .ref (ad 0)), (1, .int (nI (old I 3)))] [.ref (ad ((old I 3) + 13)), .ref (ad 0)] rfl ?_
        refine g_getN X srcW (host := "ChipfieldModel") (v := .int (I 5 (old I 3))) hinX8 rfl 0 (by decide) (nw_in n_1120 rfl) rfl (wm_fr (by first | omega | exact old_lt (by omega))) rfl dX9_room_69 ?_
        refine g_st (st' := [.int (nI (lnN I (old I 3))), .ref (ad 0)]) (by rw [← hl2.2]) ?_
        refine g_run X KX9_room_72_7 KX9_room_72_7_d 74 [(2, .ref (ad ((old I 3) + 13))), (0, .ref (ad 0)), (1, .int (nI (old I 3)))] [.ref (ad ((old I 3) + 13)), .ref (ad 0), .int (nI (lnN I (old I 3))), .ref (ad 0)] rfl ?_
        refine g_getN X srcW (host := "ChipfieldModel") (v := .long (mdt (L 3 (old I 3)))) hinX8 rfl 1 (by decide) (nw_in n_1121 rfl) rfl (wm_fr (by first | omega | exact old_lt (by omega))) rfl dX9_room_74 ?_
        refine g_st (st' := [.long (lN ((L 3 (old I 3)).toBitVec.toNat / 65536)), .ref (ad 0), .int (nI (lnN I (old I 3))), .ref (ad 0)]) (by rw [← mdt_n hw2.2]) ?_
        refine g_callV X hSB hAf (srcW) (hrc1 := (rfl : CL[8]? = some _)) (wm_mem (k := 0) (by decide)) rfl (As := [.long (lN ((L 3 (old I 3)).toBitVec.toNat / 65536))]) (wr := []) (n := 1) (c_X9_wordOf l D g ad I L S (z4 Z R (Z 1) (Z 2)) Y ((L 3 (old I 3)).toBitVec.toNat / 65536) R (by assumption) (rfl) ((wd_back hw2.1 hw2.2).2)) rfl srcN hrdN w_1280 w_1277 w_1279 w_s15 w_6 (by decide +kernel) rfl ⟨Nat.le_of_ble_eq_true rfl, Nat.le_of_ble_eq_true rfl⟩ rfl rfl rfl (Nat.le_of_ble_eq_true rfl) ⟨Nat.le_of_ble_eq_true rfl, Nat.le_of_ble_eq_true rfl⟩ dX9_room_77 (fun hu4 hp_hu4 => ?_)
        refine g_af (ws' := WM ad g I L S (z4 Z hu4.1 hu4.2.1 (wA (wdO (lN ((L 3 (old I 3)).toBitVec.toNat / 65536))))) Y ++ [(hu4.2.2, Sum.inl (g 0, 15, .inl (wA (wdO (lN ((L 3 (old I 3)).toBitVec.toNat / 65536))))))]) (st' := [.ref hu4.2.2, .int (nI (lnN I (old I 3))), .ref (ad 0)]) (cells' := 1) (slots' := 15) (pc' := 80) ((List.append_assoc _ ([(hu4.2.2, Sum.inl (g 0, 15, .inl (wA (wdO (lN ((L 3 (old I 3)).toBitVec.toNat / 65536))))))] : va_W) []).symm.trans (congrArg (fun z => (WM ad g I L S z Y ++ ([(hu4.2.2, Sum.inl (g 0, 15, .inl (wA (wdO (lN ((L 3 (old I 3)).toBitVec.toNat / 65536))))))] : va_W)) ++ []) z4_z4.symm)) rfl rfl rfl rfl ?_
        refine g_ws (ws' := WM ad g I L S (z4 Z hu4.1 hu4.2.1 (wA (wdO (lN ((L 3 (old I 3)).toBitVec.toNat / 65536))))) Y ++ [(hu4.2.2, Sum.inl (g 0, 15, .inl (wA (L 3 (old I 3)))))]) (by rw [(wd_back hw2.1 hw2.2).1]) ?_
        refine g_callV X hSB hAf (srcW) (hrc1 := (rfl : CL[8]? = some _)) (wm_mem (k := 0) (by decide)) rfl (As := [.int (nI (lnN I (old I 3))), .ref hu4.2.2]) (wr := [(hu4.2.2, Sum.inl (g 0, 15, .inl (wA (L 3 (old I 3)))))]) (n := 2) (c_X9_write l D g ad I L S (z4 Z hu4.1 hu4.2.1 (wA (wdO (lN ((L 3 (old I 3)).toBitVec.toNat / 65536))))) Y (lnN I (old I 3)) hu4.2.2 (L 3 (old I 3)) (hS18) (hl2.1)) rfl (src_sub (wt_mem (by simp))) (hrdT rfl (by simp)) w_1309 w_1306 w_1308 w_s21 w_6 (by decide +kernel) rfl ⟨Nat.le_of_ble_eq_true rfl, Nat.le_of_ble_eq_true rfl⟩ rfl rfl rfl (Nat.le_of_ble_eq_true rfl) ⟨Nat.le_of_ble_eq_true rfl, Nat.le_of_ble_eq_true rfl⟩ dX9_room_80 (fun hu5 _ => ?_)
        refine g_af (ws' := WM ad g I (wrw S L (lnN I (old I 3)) (L 3 (old I 3)) 15) S (z4 Z hu4.1 hu4.2.1 (wA (wdO (lN ((L 3 (old I 3)).toBitVec.toNat / 65536))))) Y ++ [(hu4.2.2, Sum.inl (g 0, 15, .inl (wA (L 3 (old I 3)))))]) (st' := []) (cells' := 1) (slots' := 15) (pc' := 83) rfl rfl rfl rfl rfl ?_
        refine g_run X KX9_room_83_5 KX9_room_83_5_d 84 [(2, .ref (ad ((old I 3) + 13))), (0, .ref (ad 0)), (1, .int (nI (old I 3)))] [.int (nI (old I 3))] rfl ?_
        exact g_iret X hr (hu4.1, hu4.2.1, (wA (wdO (lN ((L 3 (old I 3)).toBitVec.toNat / 65536))))) (rfl) (by assumption) (by first | (rw [wbL, if_neg hnd]; done) | (rw [wbL, if_neg hnd]; rfl)) (Nat.le_of_ble_eq_true rfl) (Nat.le_of_ble_eq_true rfl) dX9_room_84
    · rw [nI_leI (by omega) (by omega)] at hc1; first | omega | (simp at hc1)
  · intro i hi k4
    have hol := old_lt (I := I) (show i < 4 by omega)
    refine g_run X KX9_room_4_1 KX9_room_4_1_d 6 [(0, .ref (ad 0)), (1, .int (nI (old I i))), (2, .int (nI (i + 1)))] [.int (nI 4), .int (nI (i + 1))] rfl ?_
    refine g_icmp_ge X 48 dX9_room_6 (by decide) (fun hc6 => ?_) (fun hc6 => ?_)
    · rw [nI_leI (by omega) (by omega)] at hc6; first | omega | (simp at hc6)
    · refine g_run X KX9_room_9_8 KX9_room_9_8_d 10 [(0, .ref (ad 0)), (1, .int (nI (old I i))), (2, .int (nI (i + 1)))] [.ref (ad 0)] rfl ?_
      refine g_get X srcW (v := .ref (ad 8)) hinX9 rfl 8 (by decide) w_1188 rfl (wm_mem (k := 0) (by decide)) rfl dX9_room_10 ?_
      refine g_run X KX9_room_13_9 KX9_room_13_9_d 14 [(0, .ref (ad 0)), (1, .int (nI (old I i))), (2, .int (nI (i + 1)))] [.int (nI (i + 1)), .ref (ad 8)] rfl ?_
      refine g_callV X hSB hAf (srcW) (hrc1 := (rfl : CL[9]? = some _)) (wm_mem (k := 8) (by decide)) rfl (As := [.int (nI (i + 1))]) (wr := []) (n := 1) (c_Jx4a65c_get_915e3 l D g ad I L S (z4 Z R (Z 1) (Z 2)) Y (i + 1) (by omega)) rfl srcN hrdN w_1384 w_1381 w_1382 w_1383 w_9 (by decide +kernel) rfl ⟨Nat.le_of_ble_eq_true rfl, Nat.le_of_ble_eq_true rfl⟩ rfl rfl rfl (Nat.le_of_ble_eq_true rfl) ⟨Nat.le_of_ble_eq_true rfl, Nat.le_of_ble_eq_true rfl⟩ dX9_room_14 (fun hu7 _ => ?_)
      refine g_af (ws' := WM ad g I L S (z4 Z R (Z 1) (Z 2)) Y ++ []) (st' := [.ref (ad ((i + 1) + 13))]) (cells' := 0) (slots' := 0) (pc' := 17) rfl rfl rfl rfl rfl ?_
      refine g_cast X srcW (hc := (rfl : CL[7]? = some _)) (wm_fr (by omega)) w_1113 dX9_room_17 ?_
      refine g_getN X srcW (host := "ChipfieldModel") (v := .int (I 7 (i + 1))) hinX8 rfl 3 (by decide) (nw_in n_1123 rfl) rfl (wm_fr (by omega)) rfl dX9_room_20 ?_
      refine g_run X KX9_room_23_10 KX9_room_23_10_d 24 [(0, .ref (ad 0)), (1, .int (nI (old I i))), (2, .int (nI (i + 1)))] [.ref (ad 0), .int (I 7 (i + 1))] rfl ?_
      refine g_get X srcW (v := .ref (ad 8)) hinX9 rfl 8 (by decide) w_1188 rfl (wm_mem (k := 0) (by decide)) rfl dX9_room_24 ?_
      refine g_run X KX9_room_27_11 KX9_room_27_11_d 28 [(0, .ref (ad 0)), (1, .int (nI (old I i))), (2, .int (nI (i + 1)))] [.int (nI (old I i)), .ref (ad 8), .int (I 7 (i + 1))] rfl ?_
      refine g_callV X hSB hAf (srcW) (hrc1 := (rfl : CL[9]? = some _)) (wm_mem (k := 8) (by decide)) rfl (As := [.int (nI (old I i))]) (wr := []) (n := 1) (c_Jx4a65c_get_915e3 l D g ad I L S (z4 Z R (Z 1) (Z 2)) Y (old I i) (by omega)) rfl srcN hrdN w_1384 w_1381 w_1382 w_1383 w_9 (by decide +kernel) rfl ⟨Nat.le_of_ble_eq_true rfl, Nat.le_of_ble_eq_true rfl⟩ rfl rfl rfl (Nat.le_of_ble_eq_true rfl) ⟨Nat.le_of_ble_eq_true rfl, Nat.le_of_ble_eq_true rfl⟩ dX9_room_28 (fun hu8 _ => ?_)
      refine g_af (ws' := WM ad g I L S (z4 Z R (Z 1) (Z 2)) Y ++ []) (st' := [.ref (ad ((old I i) + 13)), .int (I 7 (i + 1))]) (cells' := 0) (slots' := 0) (pc' := 31) rfl rfl rfl rfl rfl ?_
      refine g_cast X srcW (hc := (rfl : CL[7]? = some _)) (wm_fr (by first | omega | exact old_lt (by omega))) w_1113 dX9_room_31 ?_
      refine g_getN X srcW (host := "ChipfieldModel") (v := .int (I 7 (old I i))) hinX8 rfl 3 (by decide) (nw_in n_1123 rfl) rfl (wm_fr (by first | omega | exact old_lt (by omega))) rfl dX9_room_34 ?_
      refine g_icmp_ge X 42 dX9_room_37 (by decide) (fun hc9 => ?_) (fun hc9 => ?_)
      · have hnl : ¬ I 7 (i + 1) < I 7 (old I i) := Int32.not_lt.mpr hc9
        refine g_run X KX9_room_42_12 KX9_room_42_12_d 4 [(2, .int ((nI (i + 1)) + (nI 1))), (0, .ref (ad 0)), (1, .int (nI (old I i)))] [] rfl ?_
        refine g_nm (lv' := [(2, .int (nI ((i + 1) + 1))), (0, .ref (ad 0)), (1, .int (nI (old I i)))]) (st' := []) (by simp only [nI_add]) (by simp only [nI_add]) ?_
        refine g_lv (lv' := [(0, .ref (ad 0)), (1, .int (nI (old I i))), (2, .int (nI ((i + 1) + 1)))]) (lsub_c 1 rfl (lsub_c 2 rfl (lsub_c 0 rfl (lsub_n)))) ?_
        refine g_cs (ws' := WM ad g I L S (z4 Z R (Z 1) (Z 2)) Y ++ []) (lv' := [(0, .ref (ad 0)), (1, .int (nI (old I (i + 1)))), (2, .int (nI ((i + 1) + 1)))]) (rfl) (by simp [old, *]) ?_
        exact k4
      · have hll : I 7 (i + 1) < I 7 (old I i) := Int32.not_le.mp hc9
        refine g_run X KX9_room_40_13 KX9_room_40_13_d 4 [(2, .int ((nI (i + 1)) + (nI 1))), (1, .int (nI (i + 1))), (0, .ref (ad 0))] [] rfl ?_
        refine g_nm (lv' := [(2, .int (nI ((i + 1) + 1))), (1, .int (nI (i + 1))), (0, .ref (ad 0))]) (st' := []) (by simp only [nI_add]) (by simp only [nI_add]) ?_
        refine g_lv (lv' := [(0, .ref (ad 0)), (1, .int (nI (i + 1))), (2, .int (nI ((i + 1) + 1)))]) (lsub_c 2 rfl (lsub_c 1 rfl (lsub_c 0 rfl (lsub_n)))) ?_
        refine g_cs (ws' := WM ad g I L S (z4 Z R (Z 1) (Z 2)) Y ++ []) (lv' := [(0, .ref (ad 0)), (1, .int (nI (old I (i + 1)))), (2, .int (nI ((i + 1) + 1)))]) (rfl) (by simp [old, *]) ?_
        exact k4

