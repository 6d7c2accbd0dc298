def KX9_store_0_0 : List (Nat × Instr × Nat) := [(0, .aload_n 0, 1), (1, .iconst 0, 1)]
theorem KX9_store_0_0_d : ∀ z ∈ KX9_store_0_0, decode cX9_store z.1 = .ok z.2 := by decide +kernel
def KX9_store_5_1 : List (Nat × Instr × Nat) := [(5, .iload_n 1, 1)]
theorem KX9_store_5_1_d : ∀ z ∈ KX9_store_5_1, decode cX9_store z.1 = .ok z.2 := by decide +kernel
def KX9_store_18_2 : List (Nat × Instr × Nat) := [(18, .lload_n 2, 1)]
theorem KX9_store_18_2_d : ∀ z ∈ KX9_store_18_2, decode cX9_store z.1 = .ok z.2 := by decide +kernel
def KX9_store_31_3 : List (Nat × Instr × Nat) := [(31, .aload_n 0, 1), (32, .iload_n 1, 1)]
theorem KX9_store_31_3_d : ∀ z ∈ KX9_store_31_3, decode cX9_store z.1 = .ok z.2 := by decide +kernel
def KX9_store_36_4 : List (Nat × Instr × Nat) := [(36, .istore 4, 2), (38, .iload 4, 2), (40, .iconst (-1), 1)]
theorem KX9_store_36_4_d : ∀ z ∈ KX9_store_36_4, decode cX9_store z.1 = .ok z.2 := by decide +kernel
def KX9_store_44_5 : List (Nat × Instr × Nat) := [(44, .aload_n 0, 1), (45, .dup, 1)]
theorem KX9_store_44_5_d : ∀ z ∈ KX9_store_44_5, decode cX9_store z.1 = .ok z.2 := by decide +kernel
def KX9_store_49_6 : List (Nat × Instr × Nat) := [(49, .iconst 1, 1), (50, .iadd, 1)]
theorem KX9_store_49_6_d : ∀ z ∈ KX9_store_49_6, decode cX9_store z.1 = .ok z.2 := by decide +kernel
def KX9_store_54_7 : List (Nat × Instr × Nat) := [(54, .aload_n 0, 1), (55, .iload_n 1, 1), (56, .lload_n 2, 1), (57, .iconst 1, 1)]
theorem KX9_store_54_7_d : ∀ z ∈ KX9_store_54_7, decode cX9_store z.1 = .ok z.2 := by decide +kernel
def KX9_store_62_8 : List (Nat × Instr × Nat) := [(62, .aload_n 0, 1), (63, .dup, 1)]
theorem KX9_store_62_8_d : ∀ z ∈ KX9_store_62_8, decode cX9_store z.1 = .ok z.2 := by decide +kernel
def KX9_store_67_9 : List (Nat × Instr × Nat) := [(67, .iconst 1, 1), (68, .iadd, 1)]
theorem KX9_store_67_9_d : ∀ z ∈ KX9_store_67_9, decode cX9_store z.1 = .ok z.2 := by decide +kernel
def KX9_store_72_10 : List (Nat × Instr × Nat) := [(72, .aload_n 0, 1)]
theorem KX9_store_72_10_d : ∀ z ∈ KX9_store_72_10, decode cX9_store z.1 = .ok z.2 := by decide +kernel
def KX9_store_76_11 : List (Nat × Instr × Nat) := [(76, .iload 4, 2)]
theorem KX9_store_76_11_d : ∀ z ∈ KX9_store_76_11, decode cX9_store z.1 = .ok z.2 := by decide +kernel
def KX9_store_84_12 : List (Nat × Instr × Nat) := [(84, .lload_n 2, 1)]
theorem KX9_store_84_12_d : ∀ z ∈ KX9_store_84_12, decode cX9_store z.1 = .ok z.2 := by decide +kernel
def KX9_store_88_13 : List (Nat × Instr × Nat) := [(88, .aload_n 0, 1)]
theorem KX9_store_88_13_d : ∀ z ∈ KX9_store_88_13, decode cX9_store z.1 = .ok z.2 := by decide +kernel
def KX9_store_92_14 : List (Nat × Instr × Nat) := [(92, .iload 4, 2)]
theorem KX9_store_92_14_d : ∀ z ∈ KX9_store_92_14, decode cX9_store z.1 = .ok z.2 := by decide +kernel
def KX9_store_100_15 : List (Nat × Instr × Nat) := [(100, .iconst 1, 1)]
theorem KX9_store_100_15_d : ∀ z ∈ KX9_store_100_15, decode cX9_store z.1 = .ok z.2 := by decide +kernel
def KX9_store_104_16 : List (Nat × Instr × Nat) := [(104, .aload_n 0, 1), (105, .aload_n 0, 1)]
theorem KX9_store_104_16_d : ∀ z ∈ KX9_store_104_16, decode cX9_store z.1 = .ok z.2 := by decide +kernel
def KX9_store_109_17 : List (Nat × Instr × Nat) := [(109, .iload 4, 2)]
theorem KX9_store_109_17_d : ∀ z ∈ KX9_store_109_17, decode cX9_store z.1 = .ok z.2 := by decide +kernel
def KX9_store_120_18 : List (Nat × Instr × Nat) := [(120, .iload 4, 2)]
theorem KX9_store_120_18_d : ∀ z ∈ KX9_store_120_18, decode cX9_store z.1 = .ok z.2 := by decide +kernel
set_option maxHeartbeats 4000000 in
set_option maxRecDepth 100000 in
theorem c_X9_store (l : Launch) (D : va_G) (g : Nat → ClassId) (ad : Nat → Nat) (I : Nat → Nat → Int32) (L : Nat → Nat → Int64) (S : Nat → Nat) (Z : Nat → Nat → Int32) (Y : Int64) (q : Nat) (dd : Nat) (R : Nat → Nat) (hR : R16 R) (hZ : Z 0 = fun j => nI (R j)) (hS18 : ∀ p, p < 15 → S p < 18) (hFr : FrI I) (hFw : FwI I L) (hq : q < 16) (hX : dd < 2 ^ 44) : CT l yX9_store cX9_store 5 ((Option.some FieldType.int)) ({ frames := 6, cells := 1, slots := 15, locals := 150 } : Room) [.ref (ad 0), .int (nI q), .long (lN dd)] D CL (TYS g) ([]) (WM ad g I L S Z Y) (S := (Nat → Nat) × (Nat → Int32) × (Nat → Int32)) (fun _ => some (.int (nI (stK I q)))) (fun u => WM ad g (stI I q) (stL I L S q (wdO (lN dd))) S (z4 (u2 Z 3 0 (nI 0)) u.1 u.2.1 u.2.2) Y) (fun u => R16 u.1) 1 15 := by
  refine ct_of (by decide +kernel) (Nat.le_of_ble_eq_true rfl) ?_
  intro p e s m below meth c A X hr hnm hSB hRO hAf
  refine g_cs (ws' := WM ad g I L S (z4 Z R (Z 1) (Z 2)) Y ++ []) (lv' := [(0, .ref (ad 0)), (1, .int (nI q)), (2, .long (lN dd))]) (by rw [z4_e hZ]; exact List.append_nil _) rfl ?_
  refine g_run X KX9_store_0_0 KX9_store_0_0_d 2 [(0, .ref (ad 0)), (1, .int (nI q)), (2, .long (lN dd))] [.int (nI 0), .ref (ad 0)] rfl ?_
  refine g_put X (ws' := WM ad g I L S (z4 (u2 Z 3 0 (nI 0)) R (Z 1) (Z 2)) Y ++ []) hinX9 tyX9 tyX9_ok nmX9 rfl 0 (by decide) w_1180 rfl rfl (ty := .int) rfl rfl rfl (0) (wm_get (k := 0) (by decide)) (Nat.le_of_ble_eq_true rfl) (wm_so0) dX9_store_2 ?_
  refine g_run X KX9_store_5_1 KX9_store_5_1_d 6 [(0, .ref (ad 0)), (1, .int (nI q)), (2, .long (lN dd))] [.int (nI q)] rfl ?_
  refine g_callS X hSB hAf (As := [.int (nI q)]) (wr := WM ad g I L S (z4 (u2 Z 3 0 (nI 0)) R (Z 1) (Z 2)) Y ++ []) (n := 1) (c_X9_isLine_t l D g q (by omega)) rfl srcN hrdN w_1257 w_1255 w_1256 w_6 (by decide +kernel) rfl ⟨Nat.le_of_ble_eq_true rfl, Nat.le_of_ble_eq_true rfl⟩ rfl rfl rfl (Nat.le_of_ble_eq_true rfl) ⟨Nat.le_of_ble_eq_true rfl, Nat.le_of_ble_eq_true rfl⟩ dX9_store_6 (fun hu1 _ => ?_)
  refine g_af (ws' := WM ad g I L S (z4 (u2 Z 3 0 (nI 0)) R (Z 1) (Z 2)) Y ++ []) (st' := [.int (nI 1)]) (cells' := 0) (slots' := 0) (pc' := 9) rfl rfl rfl rfl rfl ?_
  refine g_if_ne X 18 dX9_store_9 (by decide) (fun hc2 => ?_) (fun hc2 => ?_)
  · refine g_run X KX9_store_18_2 KX9_store_18_2_d 19 [(0, .ref (ad 0)), (1, .int (nI q)), (2, .long (lN dd))] [.long (lN dd)] rfl ?_
    refine g_callS X hSB hAf (As := [.long (lN dd)]) (wr := WM ad g I L S (z4 (u2 Z 3 0 (nI 0)) R (Z 1) (Z 2)) Y ++ []) (n := 1) (c_X9_isData_t l D g (lN dd) (dOK_l hX)) rfl srcN hrdN w_1267 w_1265 w_1266 w_6 (by decide +kernel) rfl ⟨Nat.le_of_ble_eq_true rfl, Nat.le_of_ble_eq_true rfl⟩ rfl rfl rfl (Nat.le_of_ble_eq_true rfl) ⟨Nat.le_of_ble_eq_true rfl, Nat.le_of_ble_eq_true rfl⟩ dX9_store_19 (fun hu3 _ => ?_)
    refine g_af (ws' := WM ad g I L S (z4 (u2 Z 3 0 (nI 0)) R (Z 1) (Z 2)) Y ++ []) (st' := [.int (nI 1)]) (cells' := 0) (slots' := 0) (pc' := 22) rfl rfl rfl rfl rfl ?_
    refine g_if_ne X 31 dX9_store_22 (by decide) (fun hc4 => ?_) (fun hc4 => ?_)
    · refine g_run X KX9_store_31_3 KX9_store_31_3_d 33 [(0, .ref (ad 0)), (1, .int (nI q)), (2, .long (lN dd))] [.int (nI q), .ref (ad 0)] rfl ?_
      refine g_callV X hSB hAf (srcW) (hrc1 := (rfl : CL[8]? = some _)) (wm_mem (k := 0) (by decide)) rfl (As := [.int (nI q)]) (wr := []) (n := 1) (c_X9_frameOf l D g ad I L S (z4 (u2 Z 3 0 (nI 0)) R (Z 1) (Z 2)) Y q ) rfl srcN hrdN w_1380 w_1377 w_1379 w_s28 w_6 (by decide +kernel) rfl ⟨Nat.le_of_ble_eq_true rfl, Nat.le_of_ble_eq_true rfl⟩ rfl rfl rfl (Nat.le_of_ble_eq_true rfl) ⟨Nat.le_of_ble_eq_true rfl, Nat.le_of_ble_eq_true rfl⟩ dX9_store_33 (fun hu5 _ => ?_)
      refine g_af (ws' := WM ad g I L S (z4 (u2 Z 3 0 (nI 0)) R (Z 1) (Z 2)) Y ++ []) (st' := [.int (oI (fof I q))]) (cells' := 0) (slots' := 0) (pc' := 36) rfl rfl rfl rfl rfl ?_
      rcases hfo : fof I q with _ | k
      · refine g_st (st' := [.int (-nI 1)]) rfl ?_
        refine g_run X KX9_store_36_4 KX9_store_36_4_d 41 [(4, .int (-nI 1)), (0, .ref (ad 0)), (1, .int (nI q)), (2, .long (lN dd))] [.int (-nI 1), .int (-nI 1)] rfl ?_
        refine g_icmp_ne X 62 dX9_store_41 (by decide) (fun hc6 => ?_) (fun hc6 => ?_)
        · exact absurd rfl hc6
        · refine g_run X KX9_store_44_5 KX9_store_44_5_d 46 [(4, .int (-nI 1)), (0, .ref (ad 0)), (1, .int (nI q)), (2, .long (lN dd))] [.ref (ad 0), .ref (ad 0)] rfl ?_
          refine g_get X srcW (v := .int (I 8 7)) hinX9 rfl 16 (by decide) w_1196 rfl (wm_mem (k := 0) (by decide)) rfl dX9_store_46 ?_
          refine g_run X KX9_store_49_6 KX9_store_49_6_d 51 [(4, .int (-nI 1)), (0, .ref (ad 0)), (1, .int (nI q)), (2, .long (lN dd))] [.int ((I 8 7) + (nI 1)), .ref (ad 0)] rfl ?_
          refine g_put X (ws' := WM ad g (u2 I 8 7 ((I 8 7) + (nI 1))) L S (z4 (u2 Z 3 0 (nI 0)) R (Z 1) (Z 2)) Y ++ []) hinX9 tyX9 tyX9_ok nmX9 rfl 16 (by decide) w_1196 rfl rfl (ty := .int) rfl rfl rfl (0) (wm_get (k := 0) (by decide)) (Nat.le_of_ble_eq_true rfl) (wm_mo16) dX9_store_51 ?_
          refine g_ws (ws' := WM ad g (mis I) L S (z4 (u2 Z 3 0 (nI 0)) R (Z 1) (Z 2)) Y ++ []) (rfl) ?_
          refine g_run X KX9_store_54_7 KX9_store_54_7_d 58 [(4, .int (-nI 1)), (0, .ref (ad 0)), (1, .int (nI q)), (2, .long (lN dd))] [.int (nI 1), .long (lN dd), .int (nI q), .ref (ad 0)] rfl ?_
          refine g_callV X hSB hAf (srcW) (hrc1 := (rfl : CL[8]? = some _)) (wm_mem (k := 0) (by decide)) rfl (As := [.int (nI q), .long (lN dd), .int (nI 1)]) (wr := []) (n := 3) (c_X9_keep_1 l D g ad (mis I) L S (z4 (u2 Z 3 0 (nI 0)) R (Z 1) (Z 2)) Y q (lN dd) (wdO (lN dd)) R (by assumption) (rfl) (hS18) (hFr.u8) (hFw.u8) (mdt_wd hX)) rfl srcN hrdN w_1404 w_1401 w_1403 w_s30 w_6 (by decide +kernel) rfl ⟨Nat.le_of_ble_eq_true rfl, Nat.le_of_ble_eq_true rfl⟩ rfl rfl rfl (Nat.le_of_ble_eq_true rfl) ⟨Nat.le_of_ble_eq_true rfl, Nat.le_of_ble_eq_true rfl⟩ dX9_store_58 (fun hu7 hp_hu7 => ?_)
          refine g_af (ws' := WM ad g (u2 (rmI (mis I) q) 6 (old (mis I) 3) (nI 1)) (rmL (mis I) L S (wdO (lN dd))) S (z4 (u2 Z 3 0 (nI 0)) hu7.1 hu7.2.1 hu7.2.2) Y ++ []) (st' := [.int (nI (old (mis I) 3))]) (cells' := 1) (slots' := 15) (pc' := 61) (congrArg (fun z => (WM ad g (u2 (rmI (mis I) q) 6 (old (mis I) 3) (nI 1)) (rmL (mis I) L S (wdO (lN dd))) S z Y) ++ []) z4_z4.symm) rfl rfl rfl rfl ?_
          exact g_iret X hr (hu7.1, hu7.2.1, hu7.2.2) (by show some (Value.int _) = some (Value.int _); rw [(st_n (L := L) (S := S) (x := wdO (lN dd)) hfo).2.2]) (by assumption) (by first | (rw [(st_n (L := L) (S := S) (x := wdO (lN dd)) hfo).1, (st_n (L := L) (S := S) (x := wdO (lN dd)) hfo).2.1]; done) | (rw [(st_n (L := L) (S := S) (x := wdO (lN dd)) hfo).1, (st_n (L := L) (S := S) (x := wdO (lN dd)) hfo).2.1]; rfl)) (Nat.le_of_ble_eq_true rfl) (Nat.le_of_ble_eq_true rfl) dX9_store_61
      · have hk4 := (fof_lt hfo).1
        refine g_st (st' := [.int (nI k)]) rfl ?_
        refine g_run X KX9_store_36_4 KX9_store_36_4_d 41 [(4, .int (nI k)), (0, .ref (ad 0)), (1, .int (nI q)), (2, .long (lN dd))] [.int (-nI 1), .int (nI k)] rfl ?_
        refine g_icmp_ne X 62 dX9_store_41 (by decide) (fun hc8 => ?_) (fun hc8 => ?_)
        · refine g_run X KX9_store_62_8 KX9_store_62_8_d 64 [(4, .int (nI k)), (0, .ref (ad 0)), (1, .int (nI q)), (2, .long (lN dd))] [.ref (ad 0), .ref (ad 0)] rfl ?_
          refine g_get X srcW (v := .int (I 8 6)) hinX9 rfl 15 (by decide) w_1195 rfl (wm_mem (k := 0) (by decide)) rfl dX9_store_64 ?_
          refine g_run X KX9_store_67_9 KX9_store_67_9_d 69 [(4, .int (nI k)), (0, .ref (ad 0)), (1, .int (nI q)), (2, .long (lN dd))] [.int ((I 8 6) + (nI 1)), .ref (ad 0)] rfl ?_
          refine g_put X (ws' := WM ad g (u2 I 8 6 ((I 8 6) + (nI 1))) L S (z4 (u2 Z 3 0 (nI 0)) R (Z 1) (Z 2)) Y ++ []) hinX9 tyX9 tyX9_ok nmX9 rfl 15 (by decide) w_1195 rfl rfl (ty := .int) rfl rfl rfl (0) (wm_get (k := 0) (by decide)) (Nat.le_of_ble_eq_true rfl) (wm_mo15) dX9_store_69 ?_
          refine g_ws (ws' := WM ad g (hit I) L S (z4 (u2 Z 3 0 (nI 0)) R (Z 1) (Z 2)) Y ++ []) (rfl) ?_
          refine g_run X KX9_store_72_10 KX9_store_72_10_d 73 [(4, .int (nI k)), (0, .ref (ad 0)), (1, .int (nI q)), (2, .long (lN dd))] [.ref (ad 0)] rfl ?_
          refine g_get X srcW (v := .ref (ad 8)) hinX9 rfl 8 (by decide) w_1188 rfl (wm_mem (k := 0) (by decide)) rfl dX9_store_73 ?_
          refine g_run X KX9_store_76_11 KX9_store_76_11_d 78 [(4, .int (nI k)), (0, .ref (ad 0)), (1, .int (nI q)), (2, .long (lN dd))] [.int (nI k), .ref (ad 8)] rfl ?_
          refine g_callV X hSB hAf (srcW) (hrc1 := (rfl : CL[9]? = some _)) (wm_mem (k := 8) (by decide)) rfl (As := [.int (nI k)]) (wr := []) (n := 1) (c_Jx4a65c_get_915e3 l D g ad (hit I) L S (z4 (u2 Z 3 0 (nI 0)) R (Z 1) (Z 2)) Y k (by omega)) rfl srcN hrdN w_1384 w_1381 w_1382 w_1383 w_9 (by decide +kernel) rfl ⟨Nat.le_of_ble_eq_true rfl, Nat.le_of_ble_eq_true rfl⟩ rfl rfl rfl (Nat.le_of_ble_eq_true rfl) ⟨Nat.le_of_ble_eq_true rfl, Nat.le_of_ble_eq_true rfl⟩ dX9_store_78 (fun hu9 _ => ?_)
          refine g_af (ws' := WM ad g (hit I) L S (z4 (u2 Z 3 0 (nI 0)) R (Z 1) (Z 2)) Y ++ []) (st' := [.ref (ad (k + 13))]) (cells' := 0) (slots' := 0) (pc' := 81) rfl rfl rfl rfl rfl ?_
          refine g_cast X srcW (hc := (rfl : CL[7]? = some _)) (wm_fr (by omega)) w_1113 dX9_store_81 ?_
          refine g_run X KX9_store_84_12 KX9_store_84_12_d 85 [(4, .int (nI k)), (0, .ref (ad 0)), (1, .int (nI q)), (2, .long (lN dd))] [.long (lN dd), .ref (ad (k + 13))] rfl ?_
          refine g_putN X (ws' := WM ad g (hit I) (u2 L 3 k (wdO (lN dd))) S (z4 (u2 Z 3 0 (nI 0)) R (Z 1) (Z 2)) Y ++ []) hinX8 tyX8 tyX8_ok nmX8 rfl 1 (by decide) (nw_in n_1121 rfl) rfl rfl (ty := .long) rfl rfl rfl (k + 13) (wm_frG (by omega)) (Nat.le_of_ble_eq_true rfl) (wm_fr1 (by omega) (wdO (lN dd)) (mdt_wd hX)) dX9_store_85 ?_
          refine g_run X KX9_store_88_13 KX9_store_88_13_d 89 [(4, .int (nI k)), (0, .ref (ad 0)), (1, .int (nI q)), (2, .long (lN dd))] [.ref (ad 0)] rfl ?_
          refine g_get X srcW (v := .ref (ad 8)) hinX9 rfl 8 (by decide) w_1188 rfl (wm_mem (k := 0) (by decide)) rfl dX9_store_89 ?_
          refine g_run X KX9_store_92_14 KX9_store_92_14_d 94 [(4, .int (nI k)), (0, .ref (ad 0)), (1, .int (nI q)), (2, .long (lN dd))] [.int (nI k), .ref (ad 8)] rfl ?_
          refine g_callV X hSB hAf (srcW) (hrc1 := (rfl : CL[9]? = some _)) (wm_mem (k := 8) (by decide)) rfl (As := [.int (nI k)]) (wr := []) (n := 1) (c_Jx4a65c_get_915e3 l D g ad (hit I) (u2 L 3 k (wdO (lN dd))) S (z4 (u2 Z 3 0 (nI 0)) R (Z 1) (Z 2)) Y k (by omega)) rfl srcN hrdN w_1384 w_1381 w_1382 w_1383 w_9 (by decide +kernel) rfl ⟨Nat.le_of_ble_eq_true rfl, Nat.le_of_ble_eq_true rfl⟩ rfl rfl rfl (Nat.le_of_ble_eq_true rfl) ⟨Nat.le_of_ble_eq_true rfl, Nat.le_of_ble_eq_true rfl⟩ dX9_store_94 (fun hu10 _ => ?_)
          refine g_af (ws' := WM ad g (hit I) (u2 L 3 k (wdO (lN dd))) S (z4 (u2 Z 3 0 (nI 0)) R (Z 1) (Z 2)) Y ++ []) (st' := [.ref (ad (k + 13))]) (cells' := 0) (slots' := 0) (pc' := 97) rfl rfl rfl rfl rfl ?_
          refine g_cast X srcW (hc := (rfl : CL[7]? = some _)) (wm_fr (by omega)) w_1113 dX9_store_97 ?_
          refine g_run X KX9_store_100_15 KX9_store_100_15_d 101 [(4, .int (nI k)), (0, .ref (ad 0)), (1, .int (nI q)), (2, .long (lN dd))] [.int (nI 1), .ref (ad (k + 13))] rfl ?_
          refine g_putN X (ws' := WM ad g (u2 (hit I) 6 k (nI 1)) (u2 L 3 k (wdO (lN dd))) S (z4 (u2 Z 3 0 (nI 0)) R (Z 1) (Z 2)) Y ++ []) hinX8 tyX8 tyX8_ok nmX8 rfl 2 (by decide) (nw_in n_1122 rfl) rfl rfl (ty := .boolean) rfl (by decide +kernel) rfl (k + 13) (wm_frG (by omega)) (Nat.le_of_ble_eq_true rfl) (wm_fr2 (by omega)) dX9_store_101 ?_
          refine g_run X KX9_store_104_16 KX9_store_104_16_d 106 [(4, .int (nI k)), (0, .ref (ad 0)), (1, .int (nI q)), (2, .long (lN dd))] [.ref (ad 0), .ref (ad 0)] rfl ?_
          refine g_get X srcW (v := .ref (ad 8)) hinX9 rfl 8 (by decide) w_1188 rfl (wm_mem (k := 0) (by decide)) rfl dX9_store_106 ?_
          refine g_run X KX9_store_109_17 KX9_store_109_17_d 111 [(4, .int (nI k)), (0, .ref (ad 0)), (1, .int (nI q)), (2, .long (lN dd))] [.int (nI k), .ref (ad 8), .ref (ad 0)] rfl ?_
          refine g_callV X hSB hAf (srcW) (hrc1 := (rfl : CL[9]? = some _)) (wm_mem (k := 8) (by decide)) rfl (As := [.int (nI k)]) (wr := []) (n := 1) (c_Jx4a65c_get_915e3 l D g ad (u2 (hit I) 6 k (nI 1)) (u2 L 3 k (wdO (lN dd))) S (z4 (u2 Z 3 0 (nI 0)) R (Z 1) (Z 2)) Y k (by omega)) rfl srcN hrdN w_1384 w_1381 w_1382 w_1383 w_9 (by decide +kernel) rfl ⟨Nat.le_of_ble_eq_true rfl, Nat.le_of_ble_eq_true rfl⟩ rfl rfl rfl (Nat.le_of_ble_eq_true rfl) ⟨Nat.le_of_ble_eq_true rfl, Nat.le_of_ble_eq_true rfl⟩ dX9_store_111 (fun hu11 _ => ?_)
          refine g_af (ws' := WM ad g (u2 (hit I) 6 k (nI 1)) (u2 L 3 k (wdO (lN dd))) S (z4 (u2 Z 3 0 (nI 0)) R (Z 1) (Z 2)) Y ++ []) (st' := [.ref (ad (k + 13)), .ref (ad 0)]) (cells' := 0) (slots' := 0) (pc' := 114) rfl rfl rfl rfl rfl ?_
          refine g_cast X srcW (hc := (rfl : CL[7]? = some _)) (wm_fr (by omega)) w_1113 dX9_store_114 ?_
          refine g_callV X hSB hAf (srcW) (hrc1 := (rfl : CL[8]? = some _)) (wm_mem (k := 0) (by decide)) rfl (As := [.ref (ad (k + 13))]) (wr := []) (n := 1) (c_X9_use l D g ad (u2 (hit I) 6 k (nI 1)) (u2 L 3 k (wdO (lN dd))) S (z4 (u2 Z 3 0 (nI 0)) R (Z 1) (Z 2)) Y k (by omega)) rfl srcN hrdN w_1396 w_1393 w_1395 w_s29 w_6 (by decide +kernel) rfl ⟨Nat.le_of_ble_eq_true rfl, Nat.le_of_ble_eq_true rfl⟩ rfl rfl rfl (Nat.le_of_ble_eq_true rfl) ⟨Nat.le_of_ble_eq_true rfl, Nat.le_of_ble_eq_true rfl⟩ dX9_store_117 (fun hu12 _ => ?_)
          refine g_af (ws' := WM ad g (useI (u2 (hit I) 6 k (nI 1)) k) (u2 L 3 k (wdO (lN dd))) S (z4 (u2 Z 3 0 (nI 0)) R (Z 1) (Z 2)) Y ++ []) (st' := []) (cells' := 0) (slots' := 0) (pc' := 120) rfl rfl rfl rfl rfl ?_
          refine g_run X KX9_store_120_18 KX9_store_120_18_d 122 [(4, .int (nI k)), (0, .ref (ad 0)), (1, .int (nI q)), (2, .long (lN dd))] [.int (nI k)] rfl ?_
          exact g_iret X hr (R, (Z 1), (Z 2)) (by show some (Value.int _) = some (Value.int _); rw [(st_s (L := L) (S := S) (x := wdO (lN dd)) hfo).2.2]) (by assumption) (by first | (rw [(st_s (L := L) (S := S) (x := wdO (lN dd)) hfo).1, (st_s (L := L) (S := S) (x := wdO (lN dd)) hfo).2.1, st_h (fof_lt hfo).2]; done) | (rw [(st_s (L := L) (S := S) (x := wdO (lN dd)) hfo).1, (st_s (L := L) (S := S) (x := wdO (lN dd)) hfo).2.1, st_h (fof_lt hfo).2]; rfl)) (Nat.le_of_ble_eq_true rfl) (Nat.le_of_ble_eq_true rfl) dX9_store_122
        · exact absurd hc8 (m1_ne (by omega))
    · rw [nz_eq (by omega)] at hc4; first | omega | (simp at hc4)
  · rw [nz_eq (by omega)] at hc2; first | omega | (simp at hc2)

def KX9_store_12_19 : List (Nat × Instr × Nat) := [(12, .aload_n 0, 1), (13, .iconst 1, 1)]
theorem KX9_store_12_19_d : ∀ z ∈ KX9_store_12_19, decode cX9_store z.1 = .ok z.2 := by decide +kernel
set_option maxHeartbeats 4000000 in
set_option maxRecDepth 100000 in
theorem c_X9_store_1 (l : Launch) (D : va_G) (g : Nat → ClassId) (ad : Nat → Nat) (I : Nat → Nat → Int32) (L : Nat → Nat → Int64) (S : Nat → Nat) (Z : Nat → Nat → Int32) (Y : Int64) (x : Int32) (y : Int64) (hx : x < 0 ∨ ¬ x ≤ nI 15) : CT l yX9_store cX9_store 5 ((Option.some FieldType.int)) ({ frames := 2, cells := 0, slots := 0, locals := 42 } : Room) [.ref (ad 0), .int x, .long y] D CL (TYS g) ([]) (WM ad g I L S Z Y) (S := Unit) (fun _ => some (.int (nI 0))) (fun _ => WM ad g I L S (u2 (u2 Z 3 0 (nI 0)) 3 0 (nI 1)) Y) (fun _ => True) 0 0 := by
  refine ct_of (by decide +kernel) (Nat.le_of_ble_eq_true rfl) ?_
  intro p e s m below meth c A X hr hnm hSB hRO hAf
  refine g_cs (ws' := WM ad g I L S Z Y ++ []) (lv' := [(0, .ref (ad 0)), (1, .int x), (2, .long y)]) (List.append_nil _) rfl ?_
  refine g_run X KX9_store_0_0 KX9_store_0_0_d 2 [(0, .ref (ad 0)), (1, .int x), (2, .long y)] [.int (nI 0), .ref (ad 0)] rfl ?_
  refine g_put X (ws' := WM ad g I L S (u2 Z 3 0 (nI 0)) Y ++ []) hinX9 tyX9 tyX9_ok nmX9 rfl 0 (by decide) w_1180 rfl rfl (ty := .int) rfl rfl rfl (0) (wm_get (k := 0) (by decide)) (Nat.le_of_ble_eq_true rfl) (wm_mo0) dX9_store_2 ?_
  refine g_run X KX9_store_5_1 KX9_store_5_1_d 6 [(0, .ref (ad 0)), (1, .int x), (2, .long y)] [.int x] rfl ?_
  refine g_callS X hSB hAf (As := [.int x]) (wr := WM ad g I L S (u2 Z 3 0 (nI 0)) Y ++ []) (n := 1) (c_X9_isLine_f l D g x (hx)) rfl srcN hrdN w_1257 w_1255 w_1256 w_6 (by decide +kernel) rfl ⟨Nat.le_of_ble_eq_true rfl, Nat.le_of_ble_eq_true rfl⟩ rfl rfl rfl (Nat.le_of_ble_eq_true rfl) ⟨Nat.le_of_ble_eq_true rfl, Nat.le_of_ble_eq_true rfl⟩ dX9_store_6 (fun hu1 _ => ?_)
  refine g_af (ws' := WM ad g I L S (u2 Z 3 0 (nI 0)) Y ++ []) (st' := [.int (nI 0)]) (cells' := 0) (slots' := 0) (pc' := 9) rfl rfl rfl rfl rfl ?_
  refine g_if_ne X 18 dX9_store_9 (by decide) (fun hc2 => ?_) (fun hc2 => ?_)
  · rw [nz_eq (by omega)] at hc2; first | omega | (simp at hc2)
  · refine g_run X KX9_store_12_19 KX9_store_12_19_d 14 [(0, .ref (ad 0)), (1, .int x), (2, .long y)] [.int (nI 1), .ref (ad 0)] rfl ?_
    refine g_callV X hSB hAf (srcW) (hrc1 := (rfl : CL[8]? = some _)) (wm_mem (k := 0) (by decide)) rfl (As := [.int (nI 1)]) (wr := []) (n := 1) (c_X9_refuse l D g ad I L S (u2 Z 3 0 (nI 0)) Y 1 ) rfl srcN hrdN w_1264 w_1261 w_1263 w_s12 w_6 (by decide +kernel) rfl ⟨Nat.le_of_ble_eq_true rfl, Nat.le_of_ble_eq_true rfl⟩ rfl rfl rfl (Nat.le_of_ble_eq_true rfl) ⟨Nat.le_of_ble_eq_true rfl, Nat.le_of_ble_eq_true rfl⟩ dX9_store_14 (fun hu3 _ => ?_)
    refine g_af (ws' := WM ad g I L S (u2 (u2 Z 3 0 (nI 0)) 3 0 (nI 1)) Y ++ []) (st' := [.int (nI 0)]) (cells' := 0) (slots' := 0) (pc' := 17) rfl rfl rfl rfl rfl ?_
    exact g_iret X hr () (rfl) (trivial) (rfl) (Nat.le_of_ble_eq_true rfl) (Nat.le_of_ble_eq_true rfl) dX9_store_17

def KX9_store_25_20 : List (Nat × Instr × Nat) := [(25, .aload_n 0, 1), (26, .iconst 2, 1)]
theorem KX9_store_25_20_d : ∀ z ∈ KX9_store_25_20, decode cX9_store z.1 = .ok z.2 := by decide +kernel
set_option maxHeartbeats 4000000 in
set_option maxRecDepth 100000 in
theorem c_X9_store_2 (l : Launch) (D : va_G) (g : Nat → ClassId) (ad : Nat → Nat) (I : Nat → Nat → Int32) (L : Nat → Nat → Int64) (S : Nat → Nat) (Z : Nat → Nat → Int32) (Y : Int64) (q : Nat) (x : Int64) (hq : q < 16) (hx : ¬ dOK x) : CT l yX9_store cX9_store 5 ((Option.some FieldType.int)) ({ frames := 2, cells := 0, slots := 0, locals := 42 } : Room) [.ref (ad 0), .int (nI q), .long x] D CL (TYS g) ([]) (WM ad g I L S Z Y) (S := Unit) (fun _ => some (.int (nI 0))) (fun _ => WM ad g I L S (u2 (u2 Z 3 0 (nI 0)) 3 0 (nI 2)) Y) (fun _ => True) 0 0 := by
  refine ct_of (by decide +kernel) (Nat.le_of_ble_eq_true rfl) ?_
  intro p e s m below meth c A X hr hnm hSB hRO hAf
  refine g_cs (ws' := WM ad g I L S Z Y ++ []) (lv' := [(0, .ref (ad 0)), (1, .int (nI q)), (2, .long x)]) (List.append_nil _) rfl ?_
  refine g_run X KX9_store_0_0 KX9_store_0_0_d 2 [(0, .ref (ad 0)), (1, .int (nI q)), (2, .long x)] [.int (nI 0), .ref (ad 0)] rfl ?_
  refine g_put X (ws' := WM ad g I L S (u2 Z 3 0 (nI 0)) Y ++ []) hinX9 tyX9 tyX9_ok nmX9 rfl 0 (by decide) w_1180 rfl rfl (ty := .int) rfl rfl rfl (0) (wm_get (k := 0) (by decide)) (Nat.le_of_ble_eq_true rfl) (wm_mo0) dX9_store_2 ?_
  refine g_run X KX9_store_5_1 KX9_store_5_1_d 6 [(0, .ref (ad 0)), (1, .int (nI q)), (2, .long x)] [.int (nI q)] rfl ?_
  refine g_callS X hSB hAf (As := [.int (nI q)]) (wr := WM ad g I L S (u2 Z 3 0 (nI 0)) Y ++ []) (n := 1) (c_X9_isLine_t l D g q (by omega)) rfl srcN hrdN w_1257 w_1255 w_1256 w_6 (by decide +kernel) rfl ⟨Nat.le_of_ble_eq_true rfl, Nat.le_of_ble_eq_true rfl⟩ rfl rfl rfl (Nat.le_of_ble_eq_true rfl) ⟨Nat.le_of_ble_eq_true rfl, Nat.le_of_ble_eq_true rfl⟩ dX9_store_6 (fun hu1 _ => ?_)
  refine g_af (ws' := WM ad g I L S (u2 Z 3 0 (nI 0)) Y ++ []) (st' := [.int (nI 1)]) (cells' := 0) (slots' := 0) (pc' := 9) rfl rfl rfl rfl rfl ?_
  refine g_if_ne X 18 dX9_store_9 (by decide) (fun hc2 => ?_) (fun hc2 => ?_)
  · refine g_run X KX9_store_18_2 KX9_store_18_2_d 19 [(0, .ref (ad 0)), (1, .int (nI q)), (2, .long x)] [.long x] rfl ?_
    refine g_callS X hSB hAf (As := [.long x]) (wr := WM ad g I L S (u2 Z 3 0 (nI 0)) Y ++ []) (n := 1) (c_X9_isData_f l D g x (hx)) rfl srcN hrdN w_1267 w_1265 w_1266 w_6 (by decide +kernel) rfl ⟨Nat.le_of_ble_eq_true rfl, Nat.le_of_ble_eq_true rfl⟩ rfl rfl rfl (Nat.le_of_ble_eq_true rfl) ⟨Nat.le_of_ble_eq_true rfl, Nat.le_of_ble_eq_true rfl⟩ dX9_store_19 (fun hu3 _ => ?_)
    refine g_af (ws' := WM ad g I L S (u2 Z 3 0 (nI 0)) Y ++ []) (st' := [.int (nI 0)]) (cells' := 0) (slots' := 0) (pc' := 22) rfl rfl rfl rfl rfl ?_
    refine g_if_ne X 31 dX9_store_22 (by decide) (fun hc4 => ?_) (fun hc4 => ?_)
    · rw [nz_eq (by omega)] at hc4; first | omega | (simp at hc4)
    · refine g_run X KX9_store_25_20 KX9_store_25_20_d 27 [(0, .ref (ad 0)), (1, .int (nI q)), (2, .long x)] [.int (nI 2), .ref (ad 0)] rfl ?_
      refine g_callV X hSB hAf (srcW) (hrc1 := (rfl : CL[8]? = some _)) (wm_mem (k := 0) (by decide)) rfl (As := [.int (nI 2)]) (wr := []) (n := 1) (c_X9_refuse l D g ad I L S (u2 Z 3 0 (nI 0)) Y 2 ) rfl srcN hrdN w_1264 w_1261 w_1263 w_s12 w_6 (by decide +kernel) rfl ⟨Nat.le_of_ble_eq_true rfl, Nat.le_of_ble_eq_true rfl⟩ rfl rfl rfl (Nat.le_of_ble_eq_true rfl) ⟨Nat.le_of_ble_eq_true rfl, Nat.le_of_ble_eq_true rfl⟩ dX9_store_27 (fun hu5 _ => ?_)
      refine g_af (ws' := WM ad g I L S (u2 (u2 Z 3 0 (nI 0)) 3 0 (nI 2)) Y ++ []) (st' := [.int (nI 0)]) (cells' := 0) (slots' := 0) (pc' := 30) rfl rfl rfl rfl rfl ?_
      exact g_iret X hr () (rfl) (trivial) (rfl) (Nat.le_of_ble_eq_true rfl) (Nat.le_of_ble_eq_true rfl) dX9_store_30
  · rw [nz_eq (by omega)] at hc2; first | omega | (simp at hc2)

