def KX9_fetchNow_0_0 : List (Nat × Instr × Nat) := [(0, .aload_n 0, 1), (1, .dup, 1)]
theorem KX9_fetchNow_0_0_d : ∀ z ∈ KX9_fetchNow_0_0, decode cX9_fetchNow z.1 = .ok z.2 := by decide +kernel
def KX9_fetchNow_5_1 : List (Nat × Instr × Nat) := [(5, .iconst 1, 1), (6, .iadd, 1)]
theorem KX9_fetchNow_5_1_d : ∀ z ∈ KX9_fetchNow_5_1, decode cX9_fetchNow z.1 = .ok z.2 := by decide +kernel
def KX9_fetchNow_10_2 : List (Nat × Instr × Nat) := [(10, .aload_n 0, 1), (11, .iload_n 1, 1)]
theorem KX9_fetchNow_10_2_d : ∀ z ∈ KX9_fetchNow_10_2, decode cX9_fetchNow z.1 = .ok z.2 := by decide +kernel
def KX9_fetchNow_15_3 : List (Nat × Instr × Nat) := [(15, .astore_n 2, 1), (16, .aload_n 0, 1)]
theorem KX9_fetchNow_15_3_d : ∀ z ∈ KX9_fetchNow_15_3, decode cX9_fetchNow z.1 = .ok z.2 := by decide +kernel
def KX9_fetchNow_20_4 : List (Nat × Instr × Nat) := [(20, .istore_n 3, 1), (21, .iconst (-1), 1), (22, .istore 4, 2), (24, .aload_n 0, 1), (25, .aload_n 2, 1), (26, .iload_n 3, 1)]
theorem KX9_fetchNow_20_4_d : ∀ z ∈ KX9_fetchNow_20_4, decode cX9_fetchNow z.1 = .ok z.2 := by decide +kernel
def KX9_fetchNow_130_5 : List (Nat × Instr × Nat) := [(130, .aload_n 0, 1), (131, .dup, 1)]
theorem KX9_fetchNow_130_5_d : ∀ z ∈ KX9_fetchNow_130_5, decode cX9_fetchNow z.1 = .ok z.2 := by decide +kernel
def KX9_fetchNow_135_6 : List (Nat × Instr × Nat) := [(135, .iconst 1, 1), (136, .iadd, 1)]
theorem KX9_fetchNow_135_6_d : ∀ z ∈ KX9_fetchNow_135_6, decode cX9_fetchNow z.1 = .ok z.2 := by decide +kernel
def KX9_fetchNow_140_7 : List (Nat × Instr × Nat) := [(140, .iconst 0, 1), (141, .istore 5, 2)]
theorem KX9_fetchNow_140_7_d : ∀ z ∈ KX9_fetchNow_140_7, decode cX9_fetchNow z.1 = .ok z.2 := by decide +kernel
def KX9_fetchNow_143_8 : List (Nat × Instr × Nat) := [(143, .iload 5, 2), (145, .bipush 15, 2)]
theorem KX9_fetchNow_143_8_d : ∀ z ∈ KX9_fetchNow_143_8, decode cX9_fetchNow z.1 = .ok z.2 := by decide +kernel
def KX9_fetchNow_199_9 : List (Nat × Instr × Nat) := [(199, .iload 4, 2)]
theorem KX9_fetchNow_199_9_d : ∀ z ∈ KX9_fetchNow_199_9, decode cX9_fetchNow z.1 = .ok z.2 := by decide +kernel
def KX9_fetchNow_150_10 : List (Nat × Instr × Nat) := [(150, .aload_n 0, 1)]
theorem KX9_fetchNow_150_10_d : ∀ z ∈ KX9_fetchNow_150_10, decode cX9_fetchNow z.1 = .ok z.2 := by decide +kernel
def KX9_fetchNow_154_11 : List (Nat × Instr × Nat) := [(154, .aload_n 0, 1)]
theorem KX9_fetchNow_154_11_d : ∀ z ∈ KX9_fetchNow_154_11, decode cX9_fetchNow z.1 = .ok z.2 := by decide +kernel
def KX9_fetchNow_158_12 : List (Nat × Instr × Nat) := [(158, .iload 5, 2)]
theorem KX9_fetchNow_158_12_d : ∀ z ∈ KX9_fetchNow_158_12, decode cX9_fetchNow z.1 = .ok z.2 := by decide +kernel
def KX9_fetchNow_162_13 : List (Nat × Instr × Nat) := [(162, .astore 6, 2), (164, .aload 6, 2)]
theorem KX9_fetchNow_162_13_d : ∀ z ∈ KX9_fetchNow_162_13, decode cX9_fetchNow z.1 = .ok z.2 := by decide +kernel
def KX9_fetchNow_169_14 : List (Nat × Instr × Nat) := [(169, .aload_n 0, 1)]
theorem KX9_fetchNow_169_14_d : ∀ z ∈ KX9_fetchNow_169_14, decode cX9_fetchNow z.1 = .ok z.2 := by decide +kernel
def KX9_fetchNow_193_15 : List (Nat × Instr × Nat) := [(193, .iinc 5 1, 3), (196, .goto (-53), 3)]
theorem KX9_fetchNow_193_15_d : ∀ z ∈ KX9_fetchNow_193_15, decode cX9_fetchNow z.1 = .ok z.2 := by decide +kernel
def KX9_fetchNow_176_16 : List (Nat × Instr × Nat) := [(176, .aload_n 0, 1)]
theorem KX9_fetchNow_176_16_d : ∀ z ∈ KX9_fetchNow_176_16, decode cX9_fetchNow z.1 = .ok z.2 := by decide +kernel
def KX9_fetchNow_183_17 : List (Nat × Instr × Nat) := [(183, .iconst 4, 1)]
theorem KX9_fetchNow_183_17_d : ∀ z ∈ KX9_fetchNow_183_17, decode cX9_fetchNow z.1 = .ok z.2 := by decide +kernel
def KX9_fetchNow_187_18 : List (Nat × Instr × Nat) := [(187, .aload 6, 2), (189, .iconst 1, 1)]
theorem KX9_fetchNow_187_18_d : ∀ z ∈ KX9_fetchNow_187_18, decode cX9_fetchNow z.1 = .ok z.2 := by decide +kernel
def KX9_fetchNow_33_19 : List (Nat × Instr × Nat) := [(33, .aload_n 0, 1), (34, .aload_n 2, 1)]
theorem KX9_fetchNow_33_19_d : ∀ z ∈ KX9_fetchNow_33_19, decode cX9_fetchNow z.1 = .ok z.2 := by decide +kernel
def KX9_fetchNow_38_20 : List (Nat × Instr × Nat) := [(38, .istore 5, 2), (40, .iconst 0, 1), (41, .istore 6, 2)]
theorem KX9_fetchNow_38_20_d : ∀ z ∈ KX9_fetchNow_38_20, decode cX9_fetchNow z.1 = .ok z.2 := by decide +kernel
def KX9_fetchNow_43_21 : List (Nat × Instr × Nat) := [(43, .iload 6, 2), (45, .bipush 15, 2)]
theorem KX9_fetchNow_43_21_d : ∀ z ∈ KX9_fetchNow_43_21, decode cX9_fetchNow z.1 = .ok z.2 := by decide +kernel
def KX9_fetchNow_95_22 : List (Nat × Instr × Nat) := [(95, .iload 5, 2)]
theorem KX9_fetchNow_95_22_d : ∀ z ∈ KX9_fetchNow_95_22, decode cX9_fetchNow z.1 = .ok z.2 := by decide +kernel
def KX9_fetchNow_109_23 : List (Nat × Instr × Nat) := [(109, .iload 5, 2)]
theorem KX9_fetchNow_109_23_d : ∀ z ∈ KX9_fetchNow_109_23, decode cX9_fetchNow z.1 = .ok z.2 := by decide +kernel
def KX9_fetchNow_114_24 : List (Nat × Instr × Nat) := [(114, .istore 4, 2), (116, .aload_n 0, 1), (117, .dup, 1)]
theorem KX9_fetchNow_114_24_d : ∀ z ∈ KX9_fetchNow_114_24, decode cX9_fetchNow z.1 = .ok z.2 := by decide +kernel
def KX9_fetchNow_121_25 : List (Nat × Instr × Nat) := [(121, .iload 4, 2), (123, .iadd, 1)]
theorem KX9_fetchNow_121_25_d : ∀ z ∈ KX9_fetchNow_121_25, decode cX9_fetchNow z.1 = .ok z.2 := by decide +kernel
def KX9_fetchNow_127_26 : List (Nat × Instr × Nat) := [(127, .goto 13, 3)]
theorem KX9_fetchNow_127_26_d : ∀ z ∈ KX9_fetchNow_127_26, decode cX9_fetchNow z.1 = .ok z.2 := by decide +kernel
def KX9_fetchNow_100_27 : List (Nat × Instr × Nat) := [(100, .aload_n 0, 1), (101, .iload_n 1, 1), (102, .aload_n 0, 1)]
theorem KX9_fetchNow_100_27_d : ∀ z ∈ KX9_fetchNow_100_27, decode cX9_fetchNow z.1 = .ok z.2 := by decide +kernel
def KX9_fetchNow_50_28 : List (Nat × Instr × Nat) := [(50, .aload_n 0, 1)]
theorem KX9_fetchNow_50_28_d : ∀ z ∈ KX9_fetchNow_50_28, decode cX9_fetchNow z.1 = .ok z.2 := by decide +kernel
def KX9_fetchNow_54_29 : List (Nat × Instr × Nat) := [(54, .aload_n 0, 1)]
theorem KX9_fetchNow_54_29_d : ∀ z ∈ KX9_fetchNow_54_29, decode cX9_fetchNow z.1 = .ok z.2 := by decide +kernel
def KX9_fetchNow_58_30 : List (Nat × Instr × Nat) := [(58, .iload 6, 2)]
theorem KX9_fetchNow_58_30_d : ∀ z ∈ KX9_fetchNow_58_30, decode cX9_fetchNow z.1 = .ok z.2 := by decide +kernel
def KX9_fetchNow_62_31 : List (Nat × Instr × Nat) := [(62, .dup, 1)]
theorem KX9_fetchNow_62_31_d : ∀ z ∈ KX9_fetchNow_62_31, decode cX9_fetchNow z.1 = .ok z.2 := by decide +kernel
def KX9_fetchNow_66_32 : List (Nat × Instr × Nat) := [(66, .iload 5, 2), (68, .iload_n 3, 1), (69, .iconst (-1), 1), (70, .ixor, 1), (71, .iand, 1)]
theorem KX9_fetchNow_66_32_d : ∀ z ∈ KX9_fetchNow_66_32, decode cX9_fetchNow z.1 = .ok z.2 := by decide +kernel
def KX9_fetchNow_72_33 : List (Nat × Instr × Nat) := [(72, .iload 6, 2)]
theorem KX9_fetchNow_72_33_d : ∀ z ∈ KX9_fetchNow_72_33, decode cX9_fetchNow z.1 = .ok z.2 := by decide +kernel
def KX9_fetchNow_84_34 : List (Nat × Instr × Nat) := [(84, .iconst 0, 1), (85, .iadd, 1)]
theorem KX9_fetchNow_84_34_d : ∀ z ∈ KX9_fetchNow_84_34, decode cX9_fetchNow z.1 = .ok z.2 := by decide +kernel
def KX9_fetchNow_89_35 : List (Nat × Instr × Nat) := [(89, .iinc 6 1, 3), (92, .goto (-49), 3)]
theorem KX9_fetchNow_89_35_d : ∀ z ∈ KX9_fetchNow_89_35, decode cX9_fetchNow z.1 = .ok z.2 := by decide +kernel
def KX9_fetchNow_80_36 : List (Nat × Instr × Nat) := [(80, .iconst 1, 1), (81, .goto 4, 3), (85, .iadd, 1)]
theorem KX9_fetchNow_80_36_d : ∀ z ∈ KX9_fetchNow_80_36, decode cX9_fetchNow z.1 = .ok z.2 := by decide +kernel
set_option maxHeartbeats 4000000 in
set_option maxRecDepth 100000 in
theorem c_X9_fetchNow (l : Launch) (D : va_G) (g : Nat → ClassId) (ad : Nat → Nat) (I : Nat → Nat → Int32) (L : Nat → Nat → Int64) (S : Nat → Nat) (Z : Nat → Nat → Int32) (Y : Int64) (q : Nat) (R : Nat → Nat) (hR : R16 R) (hZ : Z 0 = fun j => nI (R j)) (hS18 : ∀ p, p < 15 → S p < 18) (hSI : ∀ p q, p < 15 → q < 15 → S p = S q → p = q) (hK : kOK I) (hB : bOK I) (hq : q < 16) : CT l yX9_fetchNow cX9_fetchNow 7 ((Option.some FieldType.int)) ({ frames := 4, cells := 1, slots := 15, locals := 101 } : Room) [.ref (ad 0), .int (nI q)] D CL (TYS g) ([]) (WM ad g I L S Z Y) (S := (Nat → Nat) × (Nat → Int32)) (fun _ => some (.int (wrO (rwd I L S q 15) (oL (mwd I L S q))))) (fun u => WM ad g (ftA I L S q) (ftL I L S q) S (z4 Z u.1 u.2 (mdA (Z 2) (mwd I L S q))) Y) (fun u => R16 u.1) 1 15 := by
  refine ct_of (by decide +kernel) (Nat.le_of_ble_eq_true rfl) ?_
  intro p e s m below meth c A X hr hnm hSB hRO hAf
  refine g_cs (ws' := WM ad g I L S (z4 Z R (Z 1) (Z 2)) Y ++ []) (lv' := [(0, .ref (ad 0)), (1, .int (nI q))]) (by rw [z4_e hZ]; exact List.append_nil _) rfl ?_
  refine g_run X KX9_fetchNow_0_0 KX9_fetchNow_0_0_d 2 [(0, .ref (ad 0)), (1, .int (nI q))] [.ref (ad 0), .ref (ad 0)] rfl ?_
  refine g_get X srcW (v := .int (I 8 2)) hinX9 rfl 12 (by decide) w_1192 rfl (wm_mem (k := 0) (by decide)) rfl dX9_fetchNow_2 ?_
  refine g_run X KX9_fetchNow_5_1 KX9_fetchNow_5_1_d 7 [(0, .ref (ad 0)), (1, .int (nI q))] [.int ((I 8 2) + (nI 1)), .ref (ad 0)] rfl ?_
  refine g_put X (ws' := WM ad g (u2 I 8 2 ((I 8 2) + (nI 1))) L S (z4 Z R (Z 1) (Z 2)) Y ++ []) hinX9 tyX9 tyX9_ok nmX9 rfl 12 (by decide) w_1192 rfl rfl (ty := .int) rfl rfl rfl (0) (wm_get (k := 0) (by decide)) (Nat.le_of_ble_eq_true rfl) (wm_mo12) dX9_fetchNow_7 ?_
  refine g_run X KX9_fetchNow_10_2 KX9_fetchNow_10_2_d 12 [(0, .ref (ad 0)), (1, .int (nI q))] [.int (nI q), .ref (ad 0)] rfl ?_
  refine g_callV X hSB hAf (srcW) (hrc1 := (rfl : CL[8]? = some _)) (wm_mem (k := 0) (by decide)) rfl (As := [.int (nI q)]) (wr := []) (n := 1) (c_X9_read l D g ad (u2 I 8 2 ((I 8 2) + (nI 1))) L S (z4 Z R (Z 1) (Z 2)) Y q (hS18) (hK.of (fun _ => u2_n (by decide))) (by omega)) rfl srcN hrdN w_1272 w_1269 w_1271 w_s13 w_6 (by decide +kernel) rfl ⟨Nat.le_of_ble_eq_true rfl, Nat.le_of_ble_eq_true rfl⟩ rfl rfl rfl (Nat.le_of_ble_eq_true rfl) ⟨Nat.le_of_ble_eq_true rfl, Nat.le_of_ble_eq_true rfl⟩ dX9_fetchNow_12 (fun hu1 _ => ?_)
  refine g_af (ws' := WM ad g (u2 I 8 2 ((I 8 2) + (nI 1))) L S (z4 Z R (Z 1) (Z 2)) Y ++ [(hu1, Sum.inl (g 0, 15, .inl (wA (rwd (u2 I 8 2 ((I 8 2) + (nI 1))) L S q 15))))]) (st' := [.ref hu1]) (cells' := 1) (slots' := 15) (pc' := 15) ((List.append_assoc _ ([(hu1, Sum.inl (g 0, 15, .inl (wA (rwd (u2 I 8 2 ((I 8 2) + (nI 1))) L S q 15))))] : va_W) []).symm) rfl rfl rfl rfl ?_
  refine g_ws (ws' := WM ad g (u2 I 8 2 ((I 8 2) + (nI 1))) L S (z4 Z R (Z 1) (Z 2)) Y ++ [(hu1, Sum.inl (g 0, 15, .inl (wA (rwd I L S q 15))))]) (by rw [rwd_8]) ?_
  refine g_run X KX9_fetchNow_15_3 KX9_fetchNow_15_3_d 17 [(2, .ref hu1), (0, .ref (ad 0)), (1, .int (nI q))] [.ref (ad 0)] rfl ?_
  refine g_callV X hSB hAf (srcW) (hrc1 := (rfl : CL[8]? = some _)) (wm_mem (k := 0) (by decide)) rfl (As := []) (wr := [(hu1, Sum.inl (g 0, 15, .inl (wA (rwd I L S q 15))))]) (n := 0) (c_X9_erased l D g ad (u2 I 8 2 ((I 8 2) + (nI 1))) L S (z4 Z R (Z 1) (Z 2)) Y (hS18)) rfl srcN hrdN w_1339 w_1336 w_1338 w_s23 w_6 (by decide +kernel) rfl ⟨Nat.le_of_ble_eq_true rfl, Nat.le_of_ble_eq_true rfl⟩ rfl rfl rfl (Nat.le_of_ble_eq_true rfl) ⟨Nat.le_of_ble_eq_true rfl, Nat.le_of_ble_eq_true rfl⟩ dX9_fetchNow_17 (fun hu2 _ => ?_)
  refine g_af (ws' := WM ad g (u2 I 8 2 ((I 8 2) + (nI 1))) L S (z4 Z R (Z 1) (Z 2)) Y ++ [(hu1, Sum.inl (g 0, 15, .inl (wA (rwd I L S q 15))))]) (st' := [.int (nI (ers (u2 I 8 2 ((I 8 2) + (nI 1))) S 15))]) (cells' := 1) (slots' := 15) (pc' := 20) rfl rfl rfl rfl rfl ?_
  refine g_st (st' := [.int (nI (ers I S 15))]) (by rw [ers_8]) ?_
  refine g_run X KX9_fetchNow_20_4 KX9_fetchNow_20_4_d 27 [(4, .int (-nI 1)), (3, .int (nI (ers I S 15))), (2, .ref hu1), (0, .ref (ad 0)), (1, .int (nI q))] [.int (nI (ers I S 15)), .ref hu1, .ref (ad 0)] rfl ?_
  refine g_callV X hSB hAf (srcW) (hrc1 := (rfl : CL[8]? = some _)) (wm_mem (k := 0) (by decide)) rfl (As := [.ref hu1, .int (nI (ers I S 15))]) (wr := [(hu1, Sum.inl (g 0, 15, .inl (wA (rwd I L S q 15))))]) (n := 2) (c_X9_mend l D g ad (u2 I 8 2 ((I 8 2) + (nI 1))) L S (z4 Z R (Z 1) (Z 2)) Y hu1 (rwd I L S q 15) (ers I S 15) R (by assumption) (rfl) (ers_lt _ _ _)) rfl (src_sub (wt_mem (by simp))) (hrdT rfl (by simp)) w_1352 w_1349 w_1351 w_s25 w_6 (by decide +kernel) rfl ⟨Nat.le_of_ble_eq_true rfl, Nat.le_of_ble_eq_true rfl⟩ rfl rfl rfl (Nat.le_of_ble_eq_true rfl) ⟨Nat.le_of_ble_eq_true rfl, Nat.le_of_ble_eq_true rfl⟩ dX9_fetchNow_27 (fun hu3 hp_hu3 => ?_)
  refine g_af (ws' := WM ad g (u2 I 8 2 ((I 8 2) + (nI 1))) L S (z4 Z hu3.1 hu3.2 (mdA (Z 2) (mw (ers I S 15) (rwd I L S q 15)))) Y ++ [(hu1, Sum.inl (g 0, 15, .inl (wA (rwd I L S q 15))))]) (st' := [.int (nI (sB (mw (ers I S 15) (rwd I L S q 15))))]) (cells' := 1) (slots' := 15) (pc' := 30) (congrArg (fun z => (WM ad g (u2 I 8 2 ((I 8 2) + (nI 1))) L S z Y) ++ [(hu1, Sum.inl (g 0, 15, .inl (wA (rwd I L S q 15))))]) z4_z4.symm) rfl rfl rfl rfl ?_
  refine g_if_eq X 130 dX9_fetchNow_30 (by decide) (fun hc4 => ?_) (fun hc4 => ?_)
  · rw [sB_0] at hc4; have hm : mwd I L S q = none := hc4
    refine g_run X KX9_fetchNow_130_5 KX9_fetchNow_130_5_d 132 [(4, .int (-nI 1)), (3, .int (nI (ers I S 15))), (2, .ref hu1), (0, .ref (ad 0)), (1, .int (nI q))] [.ref (ad 0), .ref (ad 0)] rfl ?_
    refine g_get X srcW (v := .int ((u2 I 8 2 ((I 8 2) + (nI 1))) 8 3)) hinX9 rfl 13 (by decide) w_1193 rfl (wm_mem (k := 0) (by decide)) rfl dX9_fetchNow_132 ?_
    refine g_run X KX9_fetchNow_135_6 KX9_fetchNow_135_6_d 137 [(4, .int (-nI 1)), (3, .int (nI (ers I S 15))), (2, .ref hu1), (0, .ref (ad 0)), (1, .int (nI q))] [.int (((u2 I 8 2 ((I 8 2) + (nI 1))) 8 3) + (nI 1)), .ref (ad 0)] rfl ?_
    refine g_put X (ws' := WM ad g (u2 (u2 I 8 2 ((I 8 2) + (nI 1))) 8 3 (((u2 I 8 2 ((I 8 2) + (nI 1))) 8 3) + (nI 1))) L S (z4 Z hu3.1 hu3.2 (mdA (Z 2) (mw (ers I S 15) (rwd I L S q 15)))) Y ++ [(hu1, Sum.inl (g 0, 15, .inl (wA (rwd I L S q 15))))]) hinX9 tyX9 tyX9_ok nmX9 rfl 13 (by decide) w_1193 rfl rfl (ty := .int) rfl rfl rfl (0) (wm_get (k := 0) (by decide)) (Nat.le_of_ble_eq_true rfl) (wm_mo13) dX9_fetchNow_137 ?_
    refine g_ws (ws' := WM ad g (ftI I L S q) (ftL I L S q) S (z4 Z hu3.1 hu3.2 (mdA (Z 2) (mw (ers I S 15) (rwd I L S q 15)))) Y ++ [(hu1, Sum.inl (g 0, 15, .inl (wA (rwd I L S q 15))))]) (by rw [(fn_a hm).1, (fn_a hm).2]) ?_
    have hB2 : bOK (ftI I L S q) := hB.ftI
    refine g_run X KX9_fetchNow_140_7 KX9_fetchNow_140_7_d 143 [(5, .int (nI 0)), (4, .int (-nI 1)), (3, .int (nI (ers I S 15))), (2, .ref hu1), (0, .ref (ad 0)), (1, .int (nI q))] [] rfl ?_
    refine g_lv (lv' := [(0, .ref (ad 0)), (4, .int (-nI 1)), (5, .int (nI 0))]) (lsub_c 4 rfl (lsub_c 1 rfl (lsub_c 0 rfl (lsub_n)))) ?_
    refine g_for 15 (fun i => WM ad g ((erb (ftI I L S q) S i).1) (ftL I L S q) S (z4 Z hu3.1 hu3.2 (mdA (Z 2) (mw (ers I S 15) (rwd I L S q 15)))) Y ++ [(hu1, Sum.inl (g 0, 15, .inl (wA (rwd I L S q 15))))]) (fun i => [(0, .ref (ad 0)), (4, .int (-nI 1)), (5, .int (nI i))]) (by rw [erb]) (rfl) ?_ ?_
    · refine g_run X KX9_fetchNow_143_8 KX9_fetchNow_143_8_d 147 [(0, .ref (ad 0)), (4, .int (-nI 1)), (5, .int (nI 15))] [.int (nI 15), .int (nI 15)] rfl ?_
      refine g_icmp_ge X 199 dX9_fetchNow_147 (by decide) (fun hc5 => ?_) (fun hc5 => ?_)
      · refine g_run X KX9_fetchNow_199_9 KX9_fetchNow_199_9_d 201 [(0, .ref (ad 0)), (4, .int (-nI 1)), (5, .int (nI 15))] [.int (-nI 1)] rfl ?_
        exact g_iret X hr (hu3.1, hu3.2) (by show some (Value.int _) = some (Value.int _); rw [wr_n hm]) (by assumption) (by first | (rw [ftA, erA]; done) | (rw [ftA, erA]; rfl)) (Nat.le_of_ble_eq_true rfl) (Nat.le_of_ble_eq_true rfl) dX9_fetchNow_201
      · rw [nI_leI (by omega) (by omega)] at hc5; first | omega | (simp at hc5)
    · intro i hi k143
      have hEB := erb_b (S := S) hB2 i
      have hEC := erb_cnt (I := ftI I L S q) hSI i (by omega)
      have hp15 := pcn_15 (ers (erb (ftI I L S q) S i).1 S 15)
      refine g_run X KX9_fetchNow_143_8 KX9_fetchNow_143_8_d 147 [(0, .ref (ad 0)), (4, .int (-nI 1)), (5, .int (nI i))] [.int (nI 15), .int (nI i)] rfl ?_
      refine g_icmp_ge X 199 dX9_fetchNow_147 (by decide) (fun hc6 => ?_) (fun hc6 => ?_)
      · rw [nI_leI (by omega) (by omega)] at hc6; first | omega | (simp at hc6)
      · refine g_run X KX9_fetchNow_150_10 KX9_fetchNow_150_10_d 151 [(0, .ref (ad 0)), (4, .int (-nI 1)), (5, .int (nI i))] [.ref (ad 0)] rfl ?_
        refine g_get X srcW (v := .ref (ad 6)) hinX9 rfl 6 (by decide) w_1186 rfl (wm_mem (k := 0) (by decide)) rfl dX9_fetchNow_151 ?_
        refine g_run X KX9_fetchNow_154_11 KX9_fetchNow_154_11_d 155 [(0, .ref (ad 0)), (4, .int (-nI 1)), (5, .int (nI i))] [.ref (ad 0), .ref (ad 6)] rfl ?_
        refine g_get X srcW (v := .ref (ad 7)) hinX9 rfl 7 (by decide) w_1187 rfl (wm_mem (k := 0) (by decide)) rfl dX9_fetchNow_155 ?_
        refine g_run X KX9_fetchNow_158_12 KX9_fetchNow_158_12_d 160 [(0, .ref (ad 0)), (4, .int (-nI 1)), (5, .int (nI i))] [.int (nI i), .ref (ad 7), .ref (ad 6)] rfl ?_
        refine g_iald X srcW (v := nI (S i)) 0 rfl (wm_mem (k := 7) (by decide)) i rfl (by omega) (by decide) (st_at (by omega)) dX9_fetchNow_160 ?_
        refine g_aald X srcW (b := ad ((S i) + 17)) 3 rfl (wm_mem (k := 6) (by decide)) (S i) rfl (hS18 _ (by omega)) (by decide) (rfl) dX9_fetchNow_161 ?_
        refine g_run X KX9_fetchNow_162_13 KX9_fetchNow_162_13_d 166 [(6, .ref (ad ((S i) + 17))), (0, .ref (ad 0)), (4, .int (-nI 1)), (5, .int (nI i))] [.ref (ad ((S i) + 17))] rfl ?_
        refine g_getN X srcW (host := "ChipfieldModel") (v := .int (((erb (ftI I L S q) S i).1) 2 (S i))) hinX7 rfl 2 (by decide) (nw_in n_1099 rfl) rfl (wm_ch (hS18 _ (by omega))) rfl dX9_fetchNow_166 ?_
        refine g_run X KX9_fetchNow_169_14 KX9_fetchNow_169_14_d 170 [(6, .ref (ad ((S i) + 17))), (0, .ref (ad 0)), (4, .int (-nI 1)), (5, .int (nI i))] [.ref (ad 0), .int (((erb (ftI I L S q) S i).1) 2 (S i))] rfl ?_
        refine g_get X srcW (v := .int (((erb (ftI I L S q) S i).1) 8 0)) hinX9 rfl 9 (by decide) w_1189 rfl (wm_mem (k := 0) (by decide)) rfl dX9_fetchNow_170 ?_
        refine g_icmp_lt X 193 dX9_fetchNow_173 (by decide) (fun hc7 => ?_) (fun hc7 => ?_)
        · have hlt := hc7
          refine g_run X KX9_fetchNow_193_15 KX9_fetchNow_193_15_d 143 [(5, .int ((nI i) + (nI 1))), (6, .ref (ad ((S i) + 17))), (0, .ref (ad 0)), (4, .int (-nI 1))] [] rfl ?_
          refine g_nm (lv' := [(5, .int (nI (i + 1))), (6, .ref (ad ((S i) + 17))), (0, .ref (ad 0)), (4, .int (-nI 1))]) (st' := []) (by simp only [nI_add]) (by simp only [nI_add]) ?_
          refine g_lv (lv' := [(0, .ref (ad 0)), (4, .int (-nI 1)), (5, .int (nI (i + 1)))]) (lsub_c 2 rfl (lsub_c 3 rfl (lsub_c 0 rfl (lsub_n)))) ?_
          refine g_cs (ws' := WM ad g ((erb (ftI I L S q) S (i + 1)).1) (ftL I L S q) S (z4 Z hu3.1 hu3.2 (mdA (Z 2) (mw (ers I S 15) (rwd I L S q 15)))) Y ++ [(hu1, Sum.inl (g 0, 15, .inl (wA (rwd I L S q 15))))]) (lv' := [(0, .ref (ad 0)), (4, .int (-nI 1)), (5, .int (nI (i + 1)))]) (by first | rw [erb_s1 hlt] | rw [erb_s2 (by rw [hEC]; exact h4)] | rw [erb_s3 (by rw [hEC]; exact h4) hlt (hEB _ (hS18 i (by omega)))]) (rfl) ?_
          exact k143
        · have hlt := hc7
          refine g_run X KX9_fetchNow_176_16 KX9_fetchNow_176_16_d 177 [(6, .ref (ad ((S i) + 17))), (0, .ref (ad 0)), (4, .int (-nI 1)), (5, .int (nI i))] [.ref (ad 0)] rfl ?_
          refine g_callV X hSB hAf (srcW) (hrc1 := (rfl : CL[8]? = some _)) (wm_mem (k := 0) (by decide)) rfl (As := []) (wr := [(hu1, Sum.inl (g 0, 15, .inl (wA (rwd I L S q 15))))]) (n := 0) (c_X9_erased l D g ad ((erb (ftI I L S q) S i).1) (ftL I L S q) S (z4 Z hu3.1 hu3.2 (mdA (Z 2) (mw (ers I S 15) (rwd I L S q 15)))) Y (hS18)) rfl srcN hrdN w_1339 w_1336 w_1338 w_s23 w_6 (by decide +kernel) rfl ⟨Nat.le_of_ble_eq_true rfl, Nat.le_of_ble_eq_true rfl⟩ rfl rfl rfl (Nat.le_of_ble_eq_true rfl) ⟨Nat.le_of_ble_eq_true rfl, Nat.le_of_ble_eq_true rfl⟩ dX9_fetchNow_177 (fun hu8 _ => ?_)
          refine g_af (ws' := WM ad g ((erb (ftI I L S q) S i).1) (ftL I L S q) S (z4 Z hu3.1 hu3.2 (mdA (Z 2) (mw (ers I S 15) (rwd I L S q 15)))) Y ++ [(hu1, Sum.inl (g 0, 15, .inl (wA (rwd I L S q 15))))]) (st' := [.int (nI (ers ((erb (ftI I L S q) S i).1) S 15))]) (cells' := 1) (slots' := 15) (pc' := 180) rfl rfl rfl rfl rfl ?_
          refine g_callS X hSB hAf (As := [.int (nI (ers ((erb (ftI I L S q) S i).1) S 15))]) (wr := WM ad g ((erb (ftI I L S q) S i).1) (ftL I L S q) S (z4 Z hu3.1 hu3.2 (mdA (Z 2) (mw (ers I S 15) (rwd I L S q 15)))) Y ++ [(hu1, Sum.inl (g 0, 15, .inl (wA (rwd I L S q 15))))]) (n := 1) (c_J6_bitCount_0f7a4 l D g (ers ((erb (ftI I L S q) S i).1) S 15) (ers_lt _ _ _)) rfl srcN hrdN w_259 w_1340 w_258 w_24 (by decide +kernel) rfl ⟨Nat.le_of_ble_eq_true rfl, Nat.le_of_ble_eq_true rfl⟩ rfl rfl rfl (Nat.le_of_ble_eq_true rfl) ⟨Nat.le_of_ble_eq_true rfl, Nat.le_of_ble_eq_true rfl⟩ dX9_fetchNow_180 (fun hu9 _ => ?_)
          refine g_af (ws' := WM ad g ((erb (ftI I L S q) S i).1) (ftL I L S q) S (z4 Z hu3.1 hu3.2 (mdA (Z 2) (mw (ers I S 15) (rwd I L S q 15)))) Y ++ [(hu1, Sum.inl (g 0, 15, .inl (wA (rwd I L S q 15))))]) (st' := [.int (nI (pcn (ers ((erb (ftI I L S q) S i).1) S 15) 15))]) (cells' := 1) (slots' := 15) (pc' := 183) rfl rfl rfl rfl rfl ?_
          refine g_run X KX9_fetchNow_183_17 KX9_fetchNow_183_17_d 184 [(6, .ref (ad ((S i) + 17))), (0, .ref (ad 0)), (4, .int (-nI 1)), (5, .int (nI i))] [.int (nI 4), .int (nI (pcn (ers ((erb (ftI I L S q) S i).1) S 15) 15))] rfl ?_
          refine g_icmp_ge X 193 dX9_fetchNow_184 (by decide) (fun hc10 => ?_) (fun hc10 => ?_)
          · rw [nI_leI (by omega) (by omega)] at hc10; have h4 := hc10
            refine g_run X KX9_fetchNow_193_15 KX9_fetchNow_193_15_d 143 [(5, .int ((nI i) + (nI 1))), (6, .ref (ad ((S i) + 17))), (0, .ref (ad 0)), (4, .int (-nI 1))] [] rfl ?_
            refine g_nm (lv' := [(5, .int (nI (i + 1))), (6, .ref (ad ((S i) + 17))), (0, .ref (ad 0)), (4, .int (-nI 1))]) (st' := []) (by simp only [nI_add]) (by simp only [nI_add]) ?_
            refine g_lv (lv' := [(0, .ref (ad 0)), (4, .int (-nI 1)), (5, .int (nI (i + 1)))]) (lsub_c 2 rfl (lsub_c 3 rfl (lsub_c 0 rfl (lsub_n)))) ?_
            refine g_cs (ws' := WM ad g ((erb (ftI I L S q) S (i + 1)).1) (ftL I L S q) S (z4 Z hu3.1 hu3.2 (mdA (Z 2) (mw (ers I S 15) (rwd I L S q 15)))) Y ++ [(hu1, Sum.inl (g 0, 15, .inl (wA (rwd I L S q 15))))]) (lv' := [(0, .ref (ad 0)), (4, .int (-nI 1)), (5, .int (nI (i + 1)))]) (by first | rw [erb_s1 hlt] | rw [erb_s2 (by rw [hEC]; exact h4)] | rw [erb_s3 (by rw [hEC]; exact h4) hlt (hEB _ (hS18 i (by omega)))]) (rfl) ?_
            exact k143
          · rw [nI_leI (by omega) (by omega)] at hc10; have h4 := hc10
            refine g_run X KX9_fetchNow_187_18 KX9_fetchNow_187_18_d 190 [(6, .ref (ad ((S i) + 17))), (0, .ref (ad 0)), (4, .int (-nI 1)), (5, .int (nI i))] [.int (nI 1), .ref (ad ((S i) + 17))] rfl ?_
            refine g_putN X (ws' := WM ad g (u2 ((erb (ftI I L S q) S i).1) 3 (S i) (nI 1)) (ftL I L S q) S (z4 Z hu3.1 hu3.2 (mdA (Z 2) (mw (ers I S 15) (rwd I L S q 15)))) Y ++ [(hu1, Sum.inl (g 0, 15, .inl (wA (rwd I L S q 15))))]) hinX7 tyX7 tyX7_ok nmX7 rfl 3 (by decide) (nw_in n_1100 rfl) rfl rfl (ty := .boolean) rfl (by decide +kernel) rfl ((S i) + 17) (wm_chG (hS18 _ (by omega))) (Nat.le_of_ble_eq_true rfl) (wm_ch3 (hS18 _ (by omega))) dX9_fetchNow_190 ?_
            refine g_run X KX9_fetchNow_193_15 KX9_fetchNow_193_15_d 143 [(5, .int ((nI i) + (nI 1))), (6, .ref (ad ((S i) + 17))), (0, .ref (ad 0)), (4, .int (-nI 1))] [] rfl ?_
            refine g_nm (lv' := [(5, .int (nI (i + 1))), (6, .ref (ad ((S i) + 17))), (0, .ref (ad 0)), (4, .int (-nI 1))]) (st' := []) (by simp only [nI_add]) (by simp only [nI_add]) ?_
            refine g_lv (lv' := [(0, .ref (ad 0)), (4, .int (-nI 1)), (5, .int (nI (i + 1)))]) (lsub_c 2 rfl (lsub_c 3 rfl (lsub_c 0 rfl (lsub_n)))) ?_
            refine g_cs (ws' := WM ad g ((erb (ftI I L S q) S (i + 1)).1) (ftL I L S q) S (z4 Z hu3.1 hu3.2 (mdA (Z 2) (mw (ers I S 15) (rwd I L S q 15)))) Y ++ [(hu1, Sum.inl (g 0, 15, .inl (wA (rwd I L S q 15))))]) (lv' := [(0, .ref (ad 0)), (4, .int (-nI 1)), (5, .int (nI (i + 1)))]) (by first | rw [erb_s1 hlt] | rw [erb_s2 (by rw [hEC]; exact h4)] | rw [erb_s3 (by rw [hEC]; exact h4) hlt (hEB _ (hS18 i (by omega)))]) (rfl) ?_
            exact k143
  · rw [sB_0] at hc4; obtain ⟨y, hy⟩ := sB_1 hc4; have hm : mwd I L S q = some y := hy
    refine g_ws (ws' := WM ad g (u2 I 8 2 ((I 8 2) + (nI 1))) L S (z4 Z hu3.1 hu3.2 (wA y)) Y ++ [(hu1, Sum.inl (g 0, 15, .inl (wA (rwd I L S q 15))))]) (by first | (rw [hy]; done) | (rw [hy]; rfl)) ?_
    refine g_run X KX9_fetchNow_33_19 KX9_fetchNow_33_19_d 35 [(4, .int (-nI 1)), (3, .int (nI (ers I S 15))), (2, .ref hu1), (0, .ref (ad 0)), (1, .int (nI q))] [.ref hu1, .ref (ad 0)] rfl ?_
    refine g_callV X hSB hAf (srcW) (hrc1 := (rfl : CL[8]? = some _)) (wm_mem (k := 0) (by decide)) rfl (As := [.ref hu1]) (wr := [(hu1, Sum.inl (g 0, 15, .inl (wA (rwd I L S q 15))))]) (n := 1) (c_X9_differing l D g ad (u2 I 8 2 ((I 8 2) + (nI 1))) L S (z4 Z hu3.1 hu3.2 (wA y)) Y hu1 (rwd I L S q 15) y (rfl)) rfl (src_sub (wt_mem (by simp))) (hrdT rfl (by simp)) w_1368 w_1365 w_1367 w_s27 w_6 (by decide +kernel) rfl ⟨Nat.le_of_ble_eq_true rfl, Nat.le_of_ble_eq_true rfl⟩ rfl rfl rfl (Nat.le_of_ble_eq_true rfl) ⟨Nat.le_of_ble_eq_true rfl, Nat.le_of_ble_eq_true rfl⟩ dX9_fetchNow_35 (fun hu11 _ => ?_)
    refine g_af (ws' := WM ad g (u2 I 8 2 ((I 8 2) + (nI 1))) L S (z4 Z hu3.1 hu3.2 (wA y)) Y ++ [(hu1, Sum.inl (g 0, 15, .inl (wA (rwd I L S q 15))))]) (st' := [.int (nI (pl ((rwd I L S q 15) ^^^ y) 15))]) (cells' := 1) (slots' := 15) (pc' := 38) rfl rfl rfl rfl rfl ?_
    refine g_run X KX9_fetchNow_38_20 KX9_fetchNow_38_20_d 43 [(6, .int (nI 0)), (5, .int (nI (pl ((rwd I L S q 15) ^^^ y) 15))), (4, .int (-nI 1)), (3, .int (nI (ers I S 15))), (2, .ref hu1), (0, .ref (ad 0)), (1, .int (nI q))] [] rfl ?_
    refine g_lv (lv' := [(0, .ref (ad 0)), (1, .int (nI q)), (2, .ref hu1), (3, .int (nI (ers I S 15))), (4, .int (-nI 1)), (5, .int (nI (pl ((rwd I L S q 15) ^^^ y) 15))), (6, .int (nI 0))]) (lsub_c 5 rfl (lsub_c 6 rfl (lsub_c 4 rfl (lsub_c 3 rfl (lsub_c 2 rfl (lsub_c 1 rfl (lsub_c 0 rfl (lsub_n)))))))) ?_
    refine g_for 15 (fun i => WM ad g (bm (u2 I 8 2 (I 8 2 + nI 1)) S (pl (rwd I L S q 15 ^^^ y) 15 &&& (32767 ^^^ ers I S 15)) i) L S (z4 Z hu3.1 hu3.2 (wA y)) Y ++ [(hu1, Sum.inl (g 0, 15, .inl (wA (rwd I L S q 15))))]) (fun i => [(0, .ref (ad 0)), (1, .int (nI q)), (2, .ref hu1), (3, .int (nI (ers I S 15))), (4, .int (-nI 1)), (5, .int (nI (pl ((rwd I L S q 15) ^^^ y) 15))), (6, .int (nI i))]) (by rw [bm]) (rfl) ?_ ?_
    · refine g_run X KX9_fetchNow_43_21 KX9_fetchNow_43_21_d 47 [(0, .ref (ad 0)), (1, .int (nI q)), (2, .ref hu1), (3, .int (nI (ers I S 15))), (4, .int (-nI 1)), (5, .int (nI (pl ((rwd I L S q 15) ^^^ y) 15))), (6, .int (nI 15))] [.int (nI 15), .int (nI 15)] rfl ?_
      refine g_icmp_ge X 95 dX9_fetchNow_47 (by decide) (fun hc12 => ?_) (fun hc12 => ?_)
      · refine g_run X KX9_fetchNow_95_22 KX9_fetchNow_95_22_d 97 [(0, .ref (ad 0)), (1, .int (nI q)), (2, .ref hu1), (3, .int (nI (ers I S 15))), (4, .int (-nI 1)), (5, .int (nI (pl ((rwd I L S q 15) ^^^ y) 15))), (6, .int (nI 15))] [.int (nI (pl ((rwd I L S q 15) ^^^ y) 15))] rfl ?_
        have hpl := pl_lt (rwd I L S q 15 ^^^ y) 15
        refine g_if_eq X 109 dX9_fetchNow_97 (by decide) (fun hc13 => ?_) (fun hc13 => ?_)
        · rw [nz_eq (by omega)] at hc13; have hb0 := hc13
          refine g_run X KX9_fetchNow_109_23 KX9_fetchNow_109_23_d 111 [(0, .ref (ad 0)), (1, .int (nI q)), (2, .ref hu1), (3, .int (nI (ers I S 15))), (4, .int (-nI 1)), (5, .int (nI (pl ((rwd I L S q 15) ^^^ y) 15))), (6, .int (nI 15))] [.int (nI (pl ((rwd I L S q 15) ^^^ y) 15))] rfl ?_
          refine g_callS X hSB hAf (As := [.int (nI (pl ((rwd I L S q 15) ^^^ y) 15))]) (wr := WM ad g (bm (u2 I 8 2 (I 8 2 + nI 1)) S (pl (rwd I L S q 15 ^^^ y) 15 &&& (32767 ^^^ ers I S 15)) 15) L S (z4 Z hu3.1 hu3.2 (wA y)) Y ++ [(hu1, Sum.inl (g 0, 15, .inl (wA (rwd I L S q 15))))]) (n := 1) (c_J6_bitCount_0f7a4 l D g (pl ((rwd I L S q 15) ^^^ y) 15) (pl_lt _ _)) rfl srcN hrdN w_259 w_1340 w_258 w_24 (by decide +kernel) rfl ⟨Nat.le_of_ble_eq_true rfl, Nat.le_of_ble_eq_true rfl⟩ rfl rfl rfl (Nat.le_of_ble_eq_true rfl) ⟨Nat.le_of_ble_eq_true rfl, Nat.le_of_ble_eq_true rfl⟩ dX9_fetchNow_111 (fun hu14 _ => ?_)
          refine g_af (ws' := WM ad g (bm (u2 I 8 2 (I 8 2 + nI 1)) S (pl (rwd I L S q 15 ^^^ y) 15 &&& (32767 ^^^ ers I S 15)) 15) L S (z4 Z hu3.1 hu3.2 (wA y)) Y ++ [(hu1, Sum.inl (g 0, 15, .inl (wA (rwd I L S q 15))))]) (st' := [.int (nI (pcn (pl ((rwd I L S q 15) ^^^ y) 15) 15))]) (cells' := 1) (slots' := 15) (pc' := 114) rfl rfl rfl rfl rfl ?_
          refine g_run X KX9_fetchNow_114_24 KX9_fetchNow_114_24_d 118 [(4, .int (nI (pcn (pl ((rwd I L S q 15) ^^^ y) 15) 15))), (0, .ref (ad 0)), (1, .int (nI q)), (2, .ref hu1), (3, .int (nI (ers I S 15))), (5, .int (nI (pl ((rwd I L S q 15) ^^^ y) 15))), (6, .int (nI 15))] [.ref (ad 0), .ref (ad 0)] rfl ?_
          refine g_get X srcW (v := .int ((bm (u2 I 8 2 (I 8 2 + nI 1)) S (pl (rwd I L S q 15 ^^^ y) 15 &&& (32767 ^^^ ers I S 15)) 15) 8 4)) hinX9 rfl 14 (by decide) w_1194 rfl (wm_mem (k := 0) (by decide)) rfl dX9_fetchNow_118 ?_
          refine g_run X KX9_fetchNow_121_25 KX9_fetchNow_121_25_d 124 [(4, .int (nI (pcn (pl ((rwd I L S q 15) ^^^ y) 15) 15))), (0, .ref (ad 0)), (1, .int (nI q)), (2, .ref hu1), (3, .int (nI (ers I S 15))), (5, .int (nI (pl ((rwd I L S q 15) ^^^ y) 15))), (6, .int (nI 15))] [.int (((bm (u2 I 8 2 (I 8 2 + nI 1)) S (pl (rwd I L S q 15 ^^^ y) 15 &&& (32767 ^^^ ers I S 15)) 15) 8 4) + (nI (pcn (pl ((rwd I L S q 15) ^^^ y) 15) 15))), .ref (ad 0)] rfl ?_
          refine g_put X (ws' := WM ad g (u2 (bm (u2 I 8 2 (I 8 2 + nI 1)) S (pl (rwd I L S q 15 ^^^ y) 15 &&& (32767 ^^^ ers I S 15)) 15) 8 4 (((bm (u2 I 8 2 (I 8 2 + nI 1)) S (pl (rwd I L S q 15 ^^^ y) 15 &&& (32767 ^^^ ers I S 15)) 15) 8 4) + (nI (pcn (pl ((rwd I L S q 15) ^^^ y) 15) 15)))) L S (z4 Z hu3.1 hu3.2 (wA y)) Y ++ [(hu1, Sum.inl (g 0, 15, .inl (wA (rwd I L S q 15))))]) hinX9 tyX9 tyX9_ok nmX9 rfl 14 (by decide) w_1194 rfl rfl (ty := .int) rfl rfl rfl (0) (wm_get (k := 0) (by decide)) (Nat.le_of_ble_eq_true rfl) (wm_mo14) dX9_fetchNow_124 ?_
          refine g_run X KX9_fetchNow_127_26 KX9_fetchNow_127_26_d 140 [(4, .int (nI (pcn (pl ((rwd I L S q 15) ^^^ y) 15) 15))), (0, .ref (ad 0)), (1, .int (nI q)), (2, .ref hu1), (3, .int (nI (ers I S 15))), (5, .int (nI (pl ((rwd I L S q 15) ^^^ y) 15))), (6, .int (nI 15))] [] rfl ?_
          refine g_ws (ws' := WM ad g (ftI I L S q) (ftL I L S q) S (z4 Z hu3.1 hu3.2 (wA y)) Y ++ [(hu1, Sum.inl (g 0, 15, .inl (wA (rwd I L S q 15))))]) (by rw [(fn_s hm).1, (fn_s hm).2.1 hb0]) ?_
          have hB2 : bOK (ftI I L S q) := hB.ftI
          refine g_run X KX9_fetchNow_140_7 KX9_fetchNow_140_7_d 143 [(5, .int (nI 0)), (4, .int (nI (pcn (pl ((rwd I L S q 15) ^^^ y) 15) 15))), (0, .ref (ad 0)), (1, .int (nI q)), (2, .ref hu1), (3, .int (nI (ers I S 15))), (6, .int (nI 15))] [] rfl ?_
          refine g_lv (lv' := [(0, .ref (ad 0)), (4, .int (nI (pcn (pl ((rwd I L S q 15) ^^^ y) 15) 15))), (5, .int (nI 0))]) (lsub_c 2 rfl (lsub_c 1 rfl (lsub_c 0 rfl (lsub_n)))) ?_
          refine g_for 15 (fun i => WM ad g ((erb (ftI I L S q) S i).1) (ftL I L S q) S (z4 Z hu3.1 hu3.2 (wA y)) Y ++ [(hu1, Sum.inl (g 0, 15, .inl (wA (rwd I L S q 15))))]) (fun i => [(0, .ref (ad 0)), (4, .int (nI (pcn (pl ((rwd I L S q 15) ^^^ y) 15) 15))), (5, .int (nI i))]) (by rw [erb]) (rfl) ?_ ?_
          · refine g_run X KX9_fetchNow_143_8 KX9_fetchNow_143_8_d 147 [(0, .ref (ad 0)), (4, .int (nI (pcn (pl ((rwd I L S q 15) ^^^ y) 15) 15))), (5, .int (nI 15))] [.int (nI 15), .int (nI 15)] rfl ?_
            refine g_icmp_ge X 199 dX9_fetchNow_147 (by decide) (fun hc15 => ?_) (fun hc15 => ?_)
            · refine g_run X KX9_fetchNow_199_9 KX9_fetchNow_199_9_d 201 [(0, .ref (ad 0)), (4, .int (nI (pcn (pl ((rwd I L S q 15) ^^^ y) 15) 15))), (5, .int (nI 15))] [.int (nI (pcn (pl ((rwd I L S q 15) ^^^ y) 15) 15))] rfl ?_
              exact g_iret X hr (hu3.1, hu3.2) (by show some (Value.int _) = some (Value.int _); rw [wr_s hm]) (by assumption) (by first | (rw [hm, ftA, erA]; done) | (rw [hm, ftA, erA]; rfl)) (Nat.le_of_ble_eq_true rfl) (Nat.le_of_ble_eq_true rfl) dX9_fetchNow_201
            · rw [nI_leI (by omega) (by omega)] at hc15; first | omega | (simp at hc15)
          · intro i hi k143
            have hEB := erb_b (S := S) hB2 i
            have hEC := erb_cnt (I := ftI I L S q) hSI i (by omega)
            have hp15 := pcn_15 (ers (erb (ftI I L S q) S i).1 S 15)
            refine g_run X KX9_fetchNow_143_8 KX9_fetchNow_143_8_d 147 [(0, .ref (ad 0)), (4, .int (nI (pcn (pl ((rwd I L S q 15) ^^^ y) 15) 15))), (5, .int (nI i))] [.int (nI 15), .int (nI i)] rfl ?_
            refine g_icmp_ge X 199 dX9_fetchNow_147 (by decide) (fun hc16 => ?_) (fun hc16 => ?_)
            · rw [nI_leI (by omega) (by omega)] at hc16; first | omega | (simp at hc16)
            · refine g_run X KX9_fetchNow_150_10 KX9_fetchNow_150_10_d 151 [(0, .ref (ad 0)), (4, .int (nI (pcn (pl ((rwd I L S q 15) ^^^ y) 15) 15))), (5, .int (nI i))] [.ref (ad 0)] rfl ?_
              refine g_get X srcW (v := .ref (ad 6)) hinX9 rfl 6 (by decide) w_1186 rfl (wm_mem (k := 0) (by decide)) rfl dX9_fetchNow_151 ?_
              refine g_run X KX9_fetchNow_154_11 KX9_fetchNow_154_11_d 155 [(0, .ref (ad 0)), (4, .int (nI (pcn (pl ((rwd I L S q 15) ^^^ y) 15) 15))), (5, .int (nI i))] [.ref (ad 0), .ref (ad 6)] rfl ?_
              refine g_get X srcW (v := .ref (ad 7)) hinX9 rfl 7 (by decide) w_1187 rfl (wm_mem (k := 0) (by decide)) rfl dX9_fetchNow_155 ?_
              refine g_run X KX9_fetchNow_158_12 KX9_fetchNow_158_12_d 160 [(0, .ref (ad 0)), (4, .int (nI (pcn (pl ((rwd I L S q 15) ^^^ y) 15) 15))), (5, .int (nI i))] [.int (nI i), .ref (ad 7), .ref (ad 6)] rfl ?_
              refine g_iald X srcW (v := nI (S i)) 0 rfl (wm_mem (k := 7) (by decide)) i rfl (by omega) (by decide) (st_at (by omega)) dX9_fetchNow_160 ?_
              refine g_aald X srcW (b := ad ((S i) + 17)) 3 rfl (wm_mem (k := 6) (by decide)) (S i) rfl (hS18 _ (by omega)) (by decide) (rfl) dX9_fetchNow_161 ?_
              refine g_run X KX9_fetchNow_162_13 KX9_fetchNow_162_13_d 166 [(6, .ref (ad ((S i) + 17))), (0, .ref (ad 0)), (4, .int (nI (pcn (pl ((rwd I L S q 15) ^^^ y) 15) 15))), (5, .int (nI i))] [.ref (ad ((S i) + 17))] rfl ?_
              refine g_getN X srcW (host := "ChipfieldModel") (v := .int (((erb (ftI I L S q) S i).1) 2 (S i))) hinX7 rfl 2 (by decide) (nw_in n_1099 rfl) rfl (wm_ch (hS18 _ (by omega))) rfl dX9_fetchNow_166 ?_
              refine g_run X KX9_fetchNow_169_14 KX9_fetchNow_169_14_d 170 [(6, .ref (ad ((S i) + 17))), (0, .ref (ad 0)), (4, .int (nI (pcn (pl ((rwd I L S q 15) ^^^ y) 15) 15))), (5, .int (nI i))] [.ref (ad 0), .int (((erb (ftI I L S q) S i).1) 2 (S i))] rfl ?_
              refine g_get X srcW (v := .int (((erb (ftI I L S q) S i).1) 8 0)) hinX9 rfl 9 (by decide) w_1189 rfl (wm_mem (k := 0) (by decide)) rfl dX9_fetchNow_170 ?_
              refine g_icmp_lt X 193 dX9_fetchNow_173 (by decide) (fun hc17 => ?_) (fun hc17 => ?_)
              · have hlt := hc17
                refine g_run X KX9_fetchNow_193_15 KX9_fetchNow_193_15_d 143 [(5, .int ((nI i) + (nI 1))), (6, .ref (ad ((S i) + 17))), (0, .ref (ad 0)), (4, .int (nI (pcn (pl ((rwd I L S q 15) ^^^ y) 15) 15)))] [] rfl ?_
                refine g_nm (lv' := [(5, .int (nI (i + 1))), (6, .ref (ad ((S i) + 17))), (0, .ref (ad 0)), (4, .int (nI (pcn (pl ((rwd I L S q 15) ^^^ y) 15) 15)))]) (st' := []) (by simp only [nI_add]) (by simp only [nI_add]) ?_
                refine g_lv (lv' := [(0, .ref (ad 0)), (4, .int (nI (pcn (pl ((rwd I L S q 15) ^^^ y) 15) 15))), (5, .int (nI (i + 1)))]) (lsub_c 2 rfl (lsub_c 3 rfl (lsub_c 0 rfl (lsub_n)))) ?_
                refine g_cs (ws' := WM ad g ((erb (ftI I L S q) S (i + 1)).1) (ftL I L S q) S (z4 Z hu3.1 hu3.2 (wA y)) Y ++ [(hu1, Sum.inl (g 0, 15, .inl (wA (rwd I L S q 15))))]) (lv' := [(0, .ref (ad 0)), (4, .int (nI (pcn (pl ((rwd I L S q 15) ^^^ y) 15) 15))), (5, .int (nI (i + 1)))]) (by first | rw [erb_s1 hlt] | rw [erb_s2 (by rw [hEC]; exact h4)] | rw [erb_s3 (by rw [hEC]; exact h4) hlt (hEB _ (hS18 i (by omega)))]) (rfl) ?_
                exact k143
              · have hlt := hc17
                refine g_run X KX9_fetchNow_176_16 KX9_fetchNow_176_16_d 177 [(6, .ref (ad ((S i) + 17))), (0, .ref (ad 0)), (4, .int (nI (pcn (pl ((rwd I L S q 15) ^^^ y) 15) 15))), (5, .int (nI i))] [.ref (ad 0)] rfl ?_
                refine g_callV X hSB hAf (srcW) (hrc1 := (rfl : CL[8]? = some _)) (wm_mem (k := 0) (by decide)) rfl (As := []) (wr := [(hu1, Sum.inl (g 0, 15, .inl (wA (rwd I L S q 15))))]) (n := 0) (c_X9_erased l D g ad ((erb (ftI I L S q) S i).1) (ftL I L S q) S (z4 Z hu3.1 hu3.2 (wA y)) Y (hS18)) rfl srcN hrdN w_1339 w_1336 w_1338 w_s23 w_6 (by decide +kernel) rfl ⟨Nat.le_of_ble_eq_true rfl, Nat.le_of_ble_eq_true rfl⟩ rfl rfl rfl (Nat.le_of_ble_eq_true rfl) ⟨Nat.le_of_ble_eq_true rfl, Nat.le_of_ble_eq_true rfl⟩ dX9_fetchNow_177 (fun hu18 _ => ?_)
                refine g_af (ws' := WM ad g ((erb (ftI I L S q) S i).1) (ftL I L S q) S (z4 Z hu3.1 hu3.2 (wA y)) Y ++ [(hu1, Sum.inl (g 0, 15, .inl (wA (rwd I L S q 15))))]) (st' := [.int (nI (ers ((erb (ftI I L S q) S i).1) S 15))]) (cells' := 1) (slots' := 15) (pc' := 180) rfl rfl rfl rfl rfl ?_
                refine g_callS X hSB hAf (As := [.int (nI (ers ((erb (ftI I L S q) S i).1) S 15))]) (wr := WM ad g ((erb (ftI I L S q) S i).1) (ftL I L S q) S (z4 Z hu3.1 hu3.2 (wA y)) Y ++ [(hu1, Sum.inl (g 0, 15, .inl (wA (rwd I L S q 15))))]) (n := 1) (c_J6_bitCount_0f7a4 l D g (ers ((erb (ftI I L S q) S i).1) S 15) (ers_lt _ _ _)) rfl srcN hrdN w_259 w_1340 w_258 w_24 (by decide +kernel) rfl ⟨Nat.le_of_ble_eq_true rfl, Nat.le_of_ble_eq_true rfl⟩ rfl rfl rfl (Nat.le_of_ble_eq_true rfl) ⟨Nat.le_of_ble_eq_true rfl, Nat.le_of_ble_eq_true rfl⟩ dX9_fetchNow_180 (fun hu19 _ => ?_)
                refine g_af (ws' := WM ad g ((erb (ftI I L S q) S i).1) (ftL I L S q) S (z4 Z hu3.1 hu3.2 (wA y)) Y ++ [(hu1, Sum.inl (g 0, 15, .inl (wA (rwd I L S q 15))))]) (st' := [.int (nI (pcn (ers ((erb (ftI I L S q) S i).1) S 15) 15))]) (cells' := 1) (slots' := 15) (pc' := 183) rfl rfl rfl rfl rfl ?_
                refine g_run X KX9_fetchNow_183_17 KX9_fetchNow_183_17_d 184 [(6, .ref (ad ((S i) + 17))), (0, .ref (ad 0)), (4, .int (nI (pcn (pl ((rwd I L S q 15) ^^^ y) 15) 15))), (5, .int (nI i))] [.int (nI 4), .int (nI (pcn (ers ((erb (ftI I L S q) S i).1) S 15) 15))] rfl ?_
                refine g_icmp_ge X 193 dX9_fetchNow_184 (by decide) (fun hc20 => ?_) (fun hc20 => ?_)
                · rw [nI_leI (by omega) (by omega)] at hc20; have h4 := hc20
                  refine g_run X KX9_fetchNow_193_15 KX9_fetchNow_193_15_d 143 [(5, .int ((nI i) + (nI 1))), (6, .ref (ad ((S i) + 17))), (0, .ref (ad 0)), (4, .int (nI (pcn (pl ((rwd I L S q 15) ^^^ y) 15) 15)))] [] rfl ?_
                  refine g_nm (lv' := [(5, .int (nI (i + 1))), (6, .ref (ad ((S i) + 17))), (0, .ref (ad 0)), (4, .int (nI (pcn (pl ((rwd I L S q 15) ^^^ y) 15) 15)))]) (st' := []) (by simp only [nI_add]) (by simp only [nI_add]) ?_
                  refine g_lv (lv' := [(0, .ref (ad 0)), (4, .int (nI (pcn (pl ((rwd I L S q 15) ^^^ y) 15) 15))), (5, .int (nI (i + 1)))]) (lsub_c 2 rfl (lsub_c 3 rfl (lsub_c 0 rfl (lsub_n)))) ?_
                  refine g_cs (ws' := WM ad g ((erb (ftI I L S q) S (i + 1)).1) (ftL I L S q) S (z4 Z hu3.1 hu3.2 (wA y)) Y ++ [(hu1, Sum.inl (g 0, 15, .inl (wA (rwd I L S q 15))))]) (lv' := [(0, .ref (ad 0)), (4, .int (nI (pcn (pl ((rwd I L S q 15) ^^^ y) 15) 15))), (5, .int (nI (i + 1)))]) (by first | rw [erb_s1 hlt] | rw [erb_s2 (by rw [hEC]; exact h4)] | rw [erb_s3 (by rw [hEC]; exact h4) hlt (hEB _ (hS18 i (by omega)))]) (rfl) ?_
                  exact k143
                · rw [nI_leI (by omega) (by omega)] at hc20; have h4 := hc20
                  refine g_run X KX9_fetchNow_187_18 KX9_fetchNow_187_18_d 190 [(6, .ref (ad ((S i) + 17))), (0, .ref (ad 0)), (4, .int (nI (pcn (pl ((rwd I L S q 15) ^^^ y) 15) 15))), (5, .int (nI i))] [.int (nI 1), .ref (ad ((S i) + 17))] rfl ?_
                  refine g_putN X (ws' := WM ad g (u2 ((erb (ftI I L S q) S i).1) 3 (S i) (nI 1)) (ftL I L S q) S (z4 Z hu3.1 hu3.2 (wA y)) Y ++ [(hu1, Sum.inl (g 0, 15, .inl (wA (rwd I L S q 15))))]) hinX7 tyX7 tyX7_ok nmX7 rfl 3 (by decide) (nw_in n_1100 rfl) rfl rfl (ty := .boolean) rfl (by decide +kernel) rfl ((S i) + 17) (wm_chG (hS18 _ (by omega))) (Nat.le_of_ble_eq_true rfl) (wm_ch3 (hS18 _ (by omega))) dX9_fetchNow_190 ?_
                  refine g_run X KX9_fetchNow_193_15 KX9_fetchNow_193_15_d 143 [(5, .int ((nI i) + (nI 1))), (6, .ref (ad ((S i) + 17))), (0, .ref (ad 0)), (4, .int (nI (pcn (pl ((rwd I L S q 15) ^^^ y) 15) 15)))] [] rfl ?_
                  refine g_nm (lv' := [(5, .int (nI (i + 1))), (6, .ref (ad ((S i) + 17))), (0, .ref (ad 0)), (4, .int (nI (pcn (pl ((rwd I L S q 15) ^^^ y) 15) 15)))]) (st' := []) (by simp only [nI_add]) (by simp only [nI_add]) ?_
                  refine g_lv (lv' := [(0, .ref (ad 0)), (4, .int (nI (pcn (pl ((rwd I L S q 15) ^^^ y) 15) 15))), (5, .int (nI (i + 1)))]) (lsub_c 2 rfl (lsub_c 3 rfl (lsub_c 0 rfl (lsub_n)))) ?_
                  refine g_cs (ws' := WM ad g ((erb (ftI I L S q) S (i + 1)).1) (ftL I L S q) S (z4 Z hu3.1 hu3.2 (wA y)) Y ++ [(hu1, Sum.inl (g 0, 15, .inl (wA (rwd I L S q 15))))]) (lv' := [(0, .ref (ad 0)), (4, .int (nI (pcn (pl ((rwd I L S q 15) ^^^ y) 15) 15))), (5, .int (nI (i + 1)))]) (by first | rw [erb_s1 hlt] | rw [erb_s2 (by rw [hEC]; exact h4)] | rw [erb_s3 (by rw [hEC]; exact h4) hlt (hEB _ (hS18 i (by omega)))]) (rfl) ?_
                  exact k143
        · rw [nz_eq (by omega)] at hc13; have hb0 := hc13
          refine g_run X KX9_fetchNow_100_27 KX9_fetchNow_100_27_d 103 [(0, .ref (ad 0)), (1, .int (nI q)), (2, .ref hu1), (3, .int (nI (ers I S 15))), (4, .int (-nI 1)), (5, .int (nI (pl ((rwd I L S q 15) ^^^ y) 15))), (6, .int (nI 15))] [.ref (ad 0), .int (nI q), .ref (ad 0)] rfl ?_
          refine g_get X srcW (v := .ref (ad 10)) hinX9 rfl 18 (by decide) w_1198 rfl (wm_mem (k := 0) (by decide)) rfl dX9_fetchNow_103 ?_
          refine g_callV X hSB hAf (srcW) (hrc1 := (rfl : CL[8]? = some _)) (wm_mem (k := 0) (by decide)) rfl (As := [.int (nI q), .ref (ad 10)]) (wr := [(hu1, Sum.inl (g 0, 15, .inl (wA (rwd I L S q 15))))]) (n := 2) (c_X9_write_m l D g ad (bm (u2 I 8 2 (I 8 2 + nI 1)) S (pl (rwd I L S q 15 ^^^ y) 15 &&& (32767 ^^^ ers I S 15)) 15) L S (z4 Z hu3.1 hu3.2 (wA y)) Y q y (hS18) (rfl) (by omega)) rfl srcN hrdN w_1309 w_1306 w_1308 w_s21 w_6 (by decide +kernel) rfl ⟨Nat.le_of_ble_eq_true rfl, Nat.le_of_ble_eq_true rfl⟩ rfl rfl rfl (Nat.le_of_ble_eq_true rfl) ⟨Nat.le_of_ble_eq_true rfl, Nat.le_of_ble_eq_true rfl⟩ dX9_fetchNow_106 (fun hu21 _ => ?_)
          refine g_af (ws' := WM ad g (bm (u2 I 8 2 (I 8 2 + nI 1)) S (pl (rwd I L S q 15 ^^^ y) 15 &&& (32767 ^^^ ers I S 15)) 15) (wrw S L q y 15) S (z4 Z hu3.1 hu3.2 (wA y)) Y ++ [(hu1, Sum.inl (g 0, 15, .inl (wA (rwd I L S q 15))))]) (st' := []) (cells' := 1) (slots' := 15) (pc' := 109) rfl rfl rfl rfl rfl ?_
          refine g_run X KX9_fetchNow_109_23 KX9_fetchNow_109_23_d 111 [(0, .ref (ad 0)), (1, .int (nI q)), (2, .ref hu1), (3, .int (nI (ers I S 15))), (4, .int (-nI 1)), (5, .int (nI (pl ((rwd I L S q 15) ^^^ y) 15))), (6, .int (nI 15))] [.int (nI (pl ((rwd I L S q 15) ^^^ y) 15))] rfl ?_
          refine g_callS X hSB hAf (As := [.int (nI (pl ((rwd I L S q 15) ^^^ y) 15))]) (wr := WM ad g (bm (u2 I 8 2 (I 8 2 + nI 1)) S (pl (rwd I L S q 15 ^^^ y) 15 &&& (32767 ^^^ ers I S 15)) 15) (wrw S L q y 15) S (z4 Z hu3.1 hu3.2 (wA y)) Y ++ [(hu1, Sum.inl (g 0, 15, .inl (wA (rwd I L S q 15))))]) (n := 1) (c_J6_bitCount_0f7a4 l D g (pl ((rwd I L S q 15) ^^^ y) 15) (pl_lt _ _)) rfl srcN hrdN w_259 w_1340 w_258 w_24 (by decide +kernel) rfl ⟨Nat.le_of_ble_eq_true rfl, Nat.le_of_ble_eq_true rfl⟩ rfl rfl rfl (Nat.le_of_ble_eq_true rfl) ⟨Nat.le_of_ble_eq_true rfl, Nat.le_of_ble_eq_true rfl⟩ dX9_fetchNow_111 (fun hu22 _ => ?_)
          refine g_af (ws' := WM ad g (bm (u2 I 8 2 (I 8 2 + nI 1)) S (pl (rwd I L S q 15 ^^^ y) 15 &&& (32767 ^^^ ers I S 15)) 15) (wrw S L q y 15) S (z4 Z hu3.1 hu3.2 (wA y)) Y ++ [(hu1, Sum.inl (g 0, 15, .inl (wA (rwd I L S q 15))))]) (st' := [.int (nI (pcn (pl ((rwd I L S q 15) ^^^ y) 15) 15))]) (cells' := 1) (slots' := 15) (pc' := 114) rfl rfl rfl rfl rfl ?_
          refine g_run X KX9_fetchNow_114_24 KX9_fetchNow_114_24_d 118 [(4, .int (nI (pcn (pl ((rwd I L S q 15) ^^^ y) 15) 15))), (0, .ref (ad 0)), (1, .int (nI q)), (2, .ref hu1), (3, .int (nI (ers I S 15))), (5, .int (nI (pl ((rwd I L S q 15) ^^^ y) 15))), (6, .int (nI 15))] [.ref (ad 0), .ref (ad 0)] rfl ?_
          refine g_get X srcW (v := .int ((bm (u2 I 8 2 (I 8 2 + nI 1)) S (pl (rwd I L S q 15 ^^^ y) 15 &&& (32767 ^^^ ers I S 15)) 15) 8 4)) hinX9 rfl 14 (by decide) w_1194 rfl (wm_mem (k := 0) (by decide)) rfl dX9_fetchNow_118 ?_
          refine g_run X KX9_fetchNow_121_25 KX9_fetchNow_121_25_d 124 [(4, .int (nI (pcn (pl ((rwd I L S q 15) ^^^ y) 15) 15))), (0, .ref (ad 0)), (1, .int (nI q)), (2, .ref hu1), (3, .int (nI (ers I S 15))), (5, .int (nI (pl ((rwd I L S q 15) ^^^ y) 15))), (6, .int (nI 15))] [.int (((bm (u2 I 8 2 (I 8 2 + nI 1)) S (pl (rwd I L S q 15 ^^^ y) 15 &&& (32767 ^^^ ers I S 15)) 15) 8 4) + (nI (pcn (pl ((rwd I L S q 15) ^^^ y) 15) 15))), .ref (ad 0)] rfl ?_
          refine g_put X (ws' := WM ad g (u2 (bm (u2 I 8 2 (I 8 2 + nI 1)) S (pl (rwd I L S q 15 ^^^ y) 15 &&& (32767 ^^^ ers I S 15)) 15) 8 4 (((bm (u2 I 8 2 (I 8 2 + nI 1)) S (pl (rwd I L S q 15 ^^^ y) 15 &&& (32767 ^^^ ers I S 15)) 15) 8 4) + (nI (pcn (pl ((rwd I L S q 15) ^^^ y) 15) 15)))) (wrw S L q y 15) S (z4 Z hu3.1 hu3.2 (wA y)) Y ++ [(hu1, Sum.inl (g 0, 15, .inl (wA (rwd I L S q 15))))]) hinX9 tyX9 tyX9_ok nmX9 rfl 14 (by decide) w_1194 rfl rfl (ty := .int) rfl rfl rfl (0) (wm_get (k := 0) (by decide)) (Nat.le_of_ble_eq_true rfl) (wm_mo14) dX9_fetchNow_124 ?_
          refine g_run X KX9_fetchNow_127_26 KX9_fetchNow_127_26_d 140 [(4, .int (nI (pcn (pl ((rwd I L S q 15) ^^^ y) 15) 15))), (0, .ref (ad 0)), (1, .int (nI q)), (2, .ref hu1), (3, .int (nI (ers I S 15))), (5, .int (nI (pl ((rwd I L S q 15) ^^^ y) 15))), (6, .int (nI 15))] [] rfl ?_
          refine g_ws (ws' := WM ad g (ftI I L S q) (ftL I L S q) S (z4 Z hu3.1 hu3.2 (wA y)) Y ++ [(hu1, Sum.inl (g 0, 15, .inl (wA (rwd I L S q 15))))]) (by rw [(fn_s hm).1, (fn_s hm).2.2 hb0]) ?_
          have hB2 : bOK (ftI I L S q) := hB.ftI
          refine g_run X KX9_fetchNow_140_7 KX9_fetchNow_140_7_d 143 [(5, .int (nI 0)), (4, .int (nI (pcn (pl ((rwd I L S q 15) ^^^ y) 15) 15))), (0, .ref (ad 0)), (1, .int (nI q)), (2, .ref hu1), (3, .int (nI (ers I S 15))), (6, .int (nI 15))] [] rfl ?_
          refine g_lv (lv' := [(0, .ref (ad 0)), (4, .int (nI (pcn (pl ((rwd I L S q 15) ^^^ y) 15) 15))), (5, .int (nI 0))]) (lsub_c 2 rfl (lsub_c 1 rfl (lsub_c 0 rfl (lsub_n)))) ?_
          refine g_for 15 (fun i => WM ad g ((erb (ftI I L S q) S i).1) (ftL I L S q) S (z4 Z hu3.1 hu3.2 (wA y)) Y ++ [(hu1, Sum.inl (g 0, 15, .inl (wA (rwd I L S q 15))))]) (fun i => [(0, .ref (ad 0)), (4, .int (nI (pcn (pl ((rwd I L S q 15) ^^^ y) 15) 15))), (5, .int (nI i))]) (by rw [erb]) (rfl) ?_ ?_
          · refine g_run X KX9_fetchNow_143_8 KX9_fetchNow_143_8_d 147 [(0, .ref (ad 0)), (4, .int (nI (pcn (pl ((rwd I L S q 15) ^^^ y) 15) 15))), (5, .int (nI 15))] [.int (nI 15), .int (nI 15)] rfl ?_
            refine g_icmp_ge X 199 dX9_fetchNow_147 (by decide) (fun hc23 => ?_) (fun hc23 => ?_)
            · refine g_run X KX9_fetchNow_199_9 KX9_fetchNow_199_9_d 201 [(0, .ref (ad 0)), (4, .int (nI (pcn (pl ((rwd I L S q 15) ^^^ y) 15) 15))), (5, .int (nI 15))] [.int (nI (pcn (pl ((rwd I L S q 15) ^^^ y) 15) 15))] rfl ?_
              exact g_iret X hr (hu3.1, hu3.2) (by show some (Value.int _) = some (Value.int _); rw [wr_s hm]) (by assumption) (by first | (rw [hm, ftA, erA]; done) | (rw [hm, ftA, erA]; rfl)) (Nat.le_of_ble_eq_true rfl) (Nat.le_of_ble_eq_true rfl) dX9_fetchNow_201
            · rw [nI_leI (by omega) (by omega)] at hc23; first | omega | (simp at hc23)
          · intro i hi k143
            have hEB := erb_b (S := S) hB2 i
            have hEC := erb_cnt (I := ftI I L S q) hSI i (by omega)
            have hp15 := pcn_15 (ers (erb (ftI I L S q) S i).1 S 15)
            refine g_run X KX9_fetchNow_143_8 KX9_fetchNow_143_8_d 147 [(0, .ref (ad 0)), (4, .int (nI (pcn (pl ((rwd I L S q 15) ^^^ y) 15) 15))), (5, .int (nI i))] [.int (nI 15), .int (nI i)] rfl ?_
            refine g_icmp_ge X 199 dX9_fetchNow_147 (by decide) (fun hc24 => ?_) (fun hc24 => ?_)
            · rw [nI_leI (by omega) (by omega)] at hc24; first | omega | (simp at hc24)
            · refine g_run X KX9_fetchNow_150_10 KX9_fetchNow_150_10_d 151 [(0, .ref (ad 0)), (4, .int (nI (pcn (pl ((rwd I L S q 15) ^^^ y) 15) 15))), (5, .int (nI i))] [.ref (ad 0)] rfl ?_
              refine g_get X srcW (v := .ref (ad 6)) hinX9 rfl 6 (by decide) w_1186 rfl (wm_mem (k := 0) (by decide)) rfl dX9_fetchNow_151 ?_
              refine g_run X KX9_fetchNow_154_11 KX9_fetchNow_154_11_d 155 [(0, .ref (ad 0)), (4, .int (nI (pcn (pl ((rwd I L S q 15) ^^^ y) 15) 15))), (5, .int (nI i))] [.ref (ad 0), .ref (ad 6)] rfl ?_
              refine g_get X srcW (v := .ref (ad 7)) hinX9 rfl 7 (by decide) w_1187 rfl (wm_mem (k := 0) (by decide)) rfl dX9_fetchNow_155 ?_
              refine g_run X KX9_fetchNow_158_12 KX9_fetchNow_158_12_d 160 [(0, .ref (ad 0)), (4, .int (nI (pcn (pl ((rwd I L S q 15) ^^^ y) 15) 15))), (5, .int (nI i))] [.int (nI i), .ref (ad 7), .ref (ad 6)] rfl ?_
              refine g_iald X srcW (v := nI (S i)) 0 rfl (wm_mem (k := 7) (by decide)) i rfl (by omega) (by decide) (st_at (by omega)) dX9_fetchNow_160 ?_
              refine g_aald X srcW (b := ad ((S i) + 17)) 3 rfl (wm_mem (k := 6) (by decide)) (S i) rfl (hS18 _ (by omega)) (by decide) (rfl) dX9_fetchNow_161 ?_
              refine g_run X KX9_fetchNow_162_13 KX9_fetchNow_162_13_d 166 [(6, .ref (ad ((S i) + 17))), (0, .ref (ad 0)), (4, .int (nI (pcn (pl ((rwd I L S q 15) ^^^ y) 15) 15))), (5, .int (nI i))] [.ref (ad ((S i) + 17))] rfl ?_
              refine g_getN X srcW (host := "ChipfieldModel") (v := .int (((erb (ftI I L S q) S i).1) 2 (S i))) hinX7 rfl 2 (by decide) (nw_in n_1099 rfl) rfl (wm_ch (hS18 _ (by omega))) rfl dX9_fetchNow_166 ?_
              refine g_run X KX9_fetchNow_169_14 KX9_fetchNow_169_14_d 170 [(6, .ref (ad ((S i) + 17))), (0, .ref (ad 0)), (4, .int (nI (pcn (pl ((rwd I L S q 15) ^^^ y) 15) 15))), (5, .int (nI i))] [.ref (ad 0), .int (((erb (ftI I L S q) S i).1) 2 (S i))] rfl ?_
              refine g_get X srcW (v := .int (((erb (ftI I L S q) S i).1) 8 0)) hinX9 rfl 9 (by decide) w_1189 rfl (wm_mem (k := 0) (by decide)) rfl dX9_fetchNow_170 ?_
              refine g_icmp_lt X 193 dX9_fetchNow_173 (by decide) (fun hc25 => ?_) (fun hc25 => ?_)
              · have hlt := hc25
                refine g_run X KX9_fetchNow_193_15 KX9_fetchNow_193_15_d 143 [(5, .int ((nI i) + (nI 1))), (6, .ref (ad ((S i) + 17))), (0, .ref (ad 0)), (4, .int (nI (pcn (pl ((rwd I L S q 15) ^^^ y) 15) 15)))] [] rfl ?_
                refine g_nm (lv' := [(5, .int (nI (i + 1))), (6, .ref (ad ((S i) + 17))), (0, .ref (ad 0)), (4, .int (nI (pcn (pl ((rwd I L S q 15) ^^^ y) 15) 15)))]) (st' := []) (by simp only [nI_add]) (by simp only [nI_add]) ?_
                refine g_lv (lv' := [(0, .ref (ad 0)), (4, .int (nI (pcn (pl ((rwd I L S q 15) ^^^ y) 15) 15))), (5, .int (nI (i + 1)))]) (lsub_c 2 rfl (lsub_c 3 rfl (lsub_c 0 rfl (lsub_n)))) ?_
                refine g_cs (ws' := WM ad g ((erb (ftI I L S q) S (i + 1)).1) (ftL I L S q) S (z4 Z hu3.1 hu3.2 (wA y)) Y ++ [(hu1, Sum.inl (g 0, 15, .inl (wA (rwd I L S q 15))))]) (lv' := [(0, .ref (ad 0)), (4, .int (nI (pcn (pl ((rwd I L S q 15) ^^^ y) 15) 15))), (5, .int (nI (i + 1)))]) (by first | rw [erb_s1 hlt] | rw [erb_s2 (by rw [hEC]; exact h4)] | rw [erb_s3 (by rw [hEC]; exact h4) hlt (hEB _ (hS18 i (by omega)))]) (rfl) ?_
                exact k143
              · have hlt := hc25
                refine g_run X KX9_fetchNow_176_16 KX9_fetchNow_176_16_d 177 [(6, .ref (ad ((S i) + 17))), (0, .ref (ad 0)), (4, .int (nI (pcn (pl ((rwd I L S q 15) ^^^ y) 15) 15))), (5, .int (nI i))] [.ref (ad 0)] rfl ?_
                refine g_callV X hSB hAf (srcW) (hrc1 := (rfl : CL[8]? = some _)) (wm_mem (k := 0) (by decide)) rfl (As := []) (wr := [(hu1, Sum.inl (g 0, 15, .inl (wA (rwd I L S q 15))))]) (n := 0) (c_X9_erased l D g ad ((erb (ftI I L S q) S i).1) (ftL I L S q) S (z4 Z hu3.1 hu3.2 (wA y)) Y (hS18)) rfl srcN hrdN w_1339 w_1336 w_1338 w_s23 w_6 (by decide +kernel) rfl ⟨Nat.le_of_ble_eq_true rfl, Nat.le_of_ble_eq_true rfl⟩ rfl rfl rfl (Nat.le_of_ble_eq_true rfl) ⟨Nat.le_of_ble_eq_true rfl, Nat.le_of_ble_eq_true rfl⟩ dX9_fetchNow_177 (fun hu26 _ => ?_)
                refine g_af (ws' := WM ad g ((erb (ftI I L S q) S i).1) (ftL I L S q) S (z4 Z hu3.1 hu3.2 (wA y)) Y ++ [(hu1, Sum.inl (g 0, 15, .inl (wA (rwd I L S q 15))))]) (st' := [.int (nI (ers ((erb (ftI I L S q) S i).1) S 15))]) (cells' := 1) (slots' := 15) (pc' := 180) rfl rfl rfl rfl rfl ?_
                refine g_callS X hSB hAf (As := [.int (nI (ers ((erb (ftI I L S q) S i).1) S 15))]) (wr := WM ad g ((erb (ftI I L S q) S i).1) (ftL I L S q) S (z4 Z hu3.1 hu3.2 (wA y)) Y ++ [(hu1, Sum.inl (g 0, 15, .inl (wA (rwd I L S q 15))))]) (n := 1) (c_J6_bitCount_0f7a4 l D g (ers ((erb (ftI I L S q) S i).1) S 15) (ers_lt _ _ _)) rfl srcN hrdN w_259 w_1340 w_258 w_24 (by decide +kernel) rfl ⟨Nat.le_of_ble_eq_true rfl, Nat.le_of_ble_eq_true rfl⟩ rfl rfl rfl (Nat.le_of_ble_eq_true rfl) ⟨Nat.le_of_ble_eq_true rfl, Nat.le_of_ble_eq_true rfl⟩ dX9_fetchNow_180 (fun hu27 _ => ?_)
                refine g_af (ws' := WM ad g ((erb (ftI I L S q) S i).1) (ftL I L S q) S (z4 Z hu3.1 hu3.2 (wA y)) Y ++ [(hu1, Sum.inl (g 0, 15, .inl (wA (rwd I L S q 15))))]) (st' := [.int (nI (pcn (ers ((erb (ftI I L S q) S i).1) S 15) 15))]) (cells' := 1) (slots' := 15) (pc' := 183) rfl rfl rfl rfl rfl ?_
                refine g_run X KX9_fetchNow_183_17 KX9_fetchNow_183_17_d 184 [(6, .ref (ad ((S i) + 17))), (0, .ref (ad 0)), (4, .int (nI (pcn (pl ((rwd I L S q 15) ^^^ y) 15) 15))), (5, .int (nI i))] [.int (nI 4), .int (nI (pcn (ers ((erb (ftI I L S q) S i).1) S 15) 15))] rfl ?_
                refine g_icmp_ge X 193 dX9_fetchNow_184 (by decide) (fun hc28 => ?_) (fun hc28 => ?_)
                · rw [nI_leI (by omega) (by omega)] at hc28; have h4 := hc28
                  refine g_run X KX9_fetchNow_193_15 KX9_fetchNow_193_15_d 143 [(5, .int ((nI i) + (nI 1))), (6, .ref (ad ((S i) + 17))), (0, .ref (ad 0)), (4, .int (nI (pcn (pl ((rwd I L S q 15) ^^^ y) 15) 15)))] [] rfl ?_
                  refine g_nm (lv' := [(5, .int (nI (i + 1))), (6, .ref (ad ((S i) + 17))), (0, .ref (ad 0)), (4, .int (nI (pcn (pl ((rwd I L S q 15) ^^^ y) 15) 15)))]) (st' := []) (by simp only [nI_add]) (by simp only [nI_add]) ?_
                  refine g_lv (lv' := [(0, .ref (ad 0)), (4, .int (nI (pcn (pl ((rwd I L S q 15) ^^^ y) 15) 15))), (5, .int (nI (i + 1)))]) (lsub_c 2 rfl (lsub_c 3 rfl (lsub_c 0 rfl (lsub_n)))) ?_
                  refine g_cs (ws' := WM ad g ((erb (ftI I L S q) S (i + 1)).1) (ftL I L S q) S (z4 Z hu3.1 hu3.2 (wA y)) Y ++ [(hu1, Sum.inl (g 0, 15, .inl (wA (rwd I L S q 15))))]) (lv' := [(0, .ref (ad 0)), (4, .int (nI (pcn (pl ((rwd I L S q 15) ^^^ y) 15) 15))), (5, .int (nI (i + 1)))]) (by first | rw [erb_s1 hlt] | rw [erb_s2 (by rw [hEC]; exact h4)] | rw [erb_s3 (by rw [hEC]; exact h4) hlt (hEB _ (hS18 i (by omega)))]) (rfl) ?_
                  exact k143
                · rw [nI_leI (by omega) (by omega)] at hc28; have h4 := hc28
                  refine g_run X KX9_fetchNow_187_18 KX9_fetchNow_187_18_d 190 [(6, .ref (ad ((S i) + 17))), (0, .ref (ad 0)), (4, .int (nI (pcn (pl ((rwd I L S q 15) ^^^ y) 15) 15))), (5, .int (nI i))] [.int (nI 1), .ref (ad ((S i) + 17))] rfl ?_
                  refine g_putN X (ws' := WM ad g (u2 ((erb (ftI I L S q) S i).1) 3 (S i) (nI 1)) (ftL I L S q) S (z4 Z hu3.1 hu3.2 (wA y)) Y ++ [(hu1, Sum.inl (g 0, 15, .inl (wA (rwd I L S q 15))))]) hinX7 tyX7 tyX7_ok nmX7 rfl 3 (by decide) (nw_in n_1100 rfl) rfl rfl (ty := .boolean) rfl (by decide +kernel) rfl ((S i) + 17) (wm_chG (hS18 _ (by omega))) (Nat.le_of_ble_eq_true rfl) (wm_ch3 (hS18 _ (by omega))) dX9_fetchNow_190 ?_
                  refine g_run X KX9_fetchNow_193_15 KX9_fetchNow_193_15_d 143 [(5, .int ((nI i) + (nI 1))), (6, .ref (ad ((S i) + 17))), (0, .ref (ad 0)), (4, .int (nI (pcn (pl ((rwd I L S q 15) ^^^ y) 15) 15)))] [] rfl ?_
                  refine g_nm (lv' := [(5, .int (nI (i + 1))), (6, .ref (ad ((S i) + 17))), (0, .ref (ad 0)), (4, .int (nI (pcn (pl ((rwd I L S q 15) ^^^ y) 15) 15)))]) (st' := []) (by simp only [nI_add]) (by simp only [nI_add]) ?_
                  refine g_lv (lv' := [(0, .ref (ad 0)), (4, .int (nI (pcn (pl ((rwd I L S q 15) ^^^ y) 15) 15))), (5, .int (nI (i + 1)))]) (lsub_c 2 rfl (lsub_c 3 rfl (lsub_c 0 rfl (lsub_n)))) ?_
                  refine g_cs (ws' := WM ad g ((erb (ftI I L S q) S (i + 1)).1) (ftL I L S q) S (z4 Z hu3.1 hu3.2 (wA y)) Y ++ [(hu1, Sum.inl (g 0, 15, .inl (wA (rwd I L S q 15))))]) (lv' := [(0, .ref (ad 0)), (4, .int (nI (pcn (pl ((rwd I L S q 15) ^^^ y) 15) 15))), (5, .int (nI (i + 1)))]) (by first | rw [erb_s1 hlt] | rw [erb_s2 (by rw [hEC]; exact h4)] | rw [erb_s3 (by rw [hEC]; exact h4) hlt (hEB _ (hS18 i (by omega)))]) (rfl) ?_
                  exact k143
      · rw [nI_leI (by omega) (by omega)] at hc12; first | omega | (simp at hc12)
    · intro i hi k43
      refine g_run X KX9_fetchNow_43_21 KX9_fetchNow_43_21_d 47 [(0, .ref (ad 0)), (1, .int (nI q)), (2, .ref hu1), (3, .int (nI (ers I S 15))), (4, .int (-nI 1)), (5, .int (nI (pl ((rwd I L S q 15) ^^^ y) 15))), (6, .int (nI i))] [.int (nI 15), .int (nI i)] rfl ?_
      refine g_icmp_ge X 95 dX9_fetchNow_47 (by decide) (fun hc29 => ?_) (fun hc29 => ?_)
      · rw [nI_leI (by omega) (by omega)] at hc29; first | omega | (simp at hc29)
      · refine g_run X KX9_fetchNow_50_28 KX9_fetchNow_50_28_d 51 [(0, .ref (ad 0)), (1, .int (nI q)), (2, .ref hu1), (3, .int (nI (ers I S 15))), (4, .int (-nI 1)), (5, .int (nI (pl ((rwd I L S q 15) ^^^ y) 15))), (6, .int (nI i))] [.ref (ad 0)] rfl ?_
        refine g_get X srcW (v := .ref (ad 6)) hinX9 rfl 6 (by decide) w_1186 rfl (wm_mem (k := 0) (by decide)) rfl dX9_fetchNow_51 ?_
        refine g_run X KX9_fetchNow_54_29 KX9_fetchNow_54_29_d 55 [(0, .ref (ad 0)), (1, .int (nI q)), (2, .ref hu1), (3, .int (nI (ers I S 15))), (4, .int (-nI 1)), (5, .int (nI (pl ((rwd I L S q 15) ^^^ y) 15))), (6, .int (nI i))] [.ref (ad 0), .ref (ad 6)] rfl ?_
        refine g_get X srcW (v := .ref (ad 7)) hinX9 rfl 7 (by decide) w_1187 rfl (wm_mem (k := 0) (by decide)) rfl dX9_fetchNow_55 ?_
        refine g_run X KX9_fetchNow_58_30 KX9_fetchNow_58_30_d 60 [(0, .ref (ad 0)), (1, .int (nI q)), (2, .ref hu1), (3, .int (nI (ers I S 15))), (4, .int (-nI 1)), (5, .int (nI (pl ((rwd I L S q 15) ^^^ y) 15))), (6, .int (nI i))] [.int (nI i), .ref (ad 7), .ref (ad 6)] rfl ?_
        refine g_iald X srcW (v := nI (S i)) 0 rfl (wm_mem (k := 7) (by decide)) i rfl (by omega) (by decide) (st_at (by omega)) dX9_fetchNow_60 ?_
        refine g_aald X srcW (b := ad ((S i) + 17)) 3 rfl (wm_mem (k := 6) (by decide)) (S i) rfl (hS18 _ (by omega)) (by decide) (rfl) dX9_fetchNow_61 ?_
        refine g_run X KX9_fetchNow_62_31 KX9_fetchNow_62_31_d 63 [(0, .ref (ad 0)), (1, .int (nI q)), (2, .ref hu1), (3, .int (nI (ers I S 15))), (4, .int (-nI 1)), (5, .int (nI (pl ((rwd I L S q 15) ^^^ y) 15))), (6, .int (nI i))] [.ref (ad ((S i) + 17)), .ref (ad ((S i) + 17))] rfl ?_
        refine g_getN X srcW (host := "ChipfieldModel") (v := .int ((bm (u2 I 8 2 (I 8 2 + nI 1)) S (pl (rwd I L S q 15 ^^^ y) 15 &&& (32767 ^^^ ers I S 15)) i) 2 (S i))) hinX7 rfl 2 (by decide) (nw_in n_1099 rfl) rfl (wm_ch (hS18 _ (by omega))) rfl dX9_fetchNow_63 ?_
        refine g_run X KX9_fetchNow_66_32 KX9_fetchNow_66_32_d 72 [(0, .ref (ad 0)), (1, .int (nI q)), (2, .ref hu1), (3, .int (nI (ers I S 15))), (4, .int (-nI 1)), (5, .int (nI (pl ((rwd I L S q 15) ^^^ y) 15))), (6, .int (nI i))] [.int ((nI (pl ((rwd I L S q 15) ^^^ y) 15)) &&& ((nI (ers I S 15)) ^^^ (-nI 1))), .int ((bm (u2 I 8 2 (I 8 2 + nI 1)) S (pl (rwd I L S q 15 ^^^ y) 15 &&& (32767 ^^^ ers I S 15)) i) 2 (S i)), .ref (ad ((S i) + 17))] rfl ?_
        refine g_st (st' := [.int (nI (pl (rwd I L S q 15 ^^^ y) 15 &&& (32767 ^^^ ers I S 15))), .int ((bm (u2 I 8 2 (I 8 2 + nI 1)) S (pl (rwd I L S q 15 ^^^ y) 15 &&& (32767 ^^^ ers I S 15)) i) 2 (S i)), .ref (ad ((S i) + 17))]) (by rw [an15 (ers_lt _ _ _) (pl_lt _ _)]) ?_
        refine g_run X KX9_fetchNow_72_33 KX9_fetchNow_72_33_d 74 [(0, .ref (ad 0)), (1, .int (nI q)), (2, .ref hu1), (3, .int (nI (ers I S 15))), (4, .int (-nI 1)), (5, .int (nI (pl ((rwd I L S q 15) ^^^ y) 15))), (6, .int (nI i))] [.int (nI i), .int (nI (pl (rwd I L S q 15 ^^^ y) 15 &&& (32767 ^^^ ers I S 15))), .int ((bm (u2 I 8 2 (I 8 2 + nI 1)) S (pl (rwd I L S q 15 ^^^ y) 15 &&& (32767 ^^^ ers I S 15)) i) 2 (S i)), .ref (ad ((S i) + 17))] rfl ?_
        refine g_callS X hSB hAf (As := [.int (nI (pl (rwd I L S q 15 ^^^ y) 15 &&& (32767 ^^^ ers I S 15))), .int (nI i)]) (wr := WM ad g (bm (u2 I 8 2 (I 8 2 + nI 1)) S (pl (rwd I L S q 15 ^^^ y) 15 &&& (32767 ^^^ ers I S 15)) i) L S (z4 Z hu3.1 hu3.2 (wA y)) Y ++ [(hu1, Sum.inl (g 0, 15, .inl (wA (rwd I L S q 15))))]) (n := 2) (c_X9_isIn l D g (pl (rwd I L S q 15 ^^^ y) 15 &&& (32767 ^^^ ers I S 15)) i (Nat.lt_trans (an_lt (pl_lt _ _)) (by decide)) (by omega)) rfl srcN hrdN w_1288 w_1286 w_1287 w_6 (by decide +kernel) rfl ⟨Nat.le_of_ble_eq_true rfl, Nat.le_of_ble_eq_true rfl⟩ rfl rfl rfl (Nat.le_of_ble_eq_true rfl) ⟨Nat.le_of_ble_eq_true rfl, Nat.le_of_ble_eq_true rfl⟩ dX9_fetchNow_74 (fun hu30 _ => ?_)
        refine g_af (ws' := WM ad g (bm (u2 I 8 2 (I 8 2 + nI 1)) S (pl (rwd I L S q 15 ^^^ y) 15 &&& (32767 ^^^ ers I S 15)) i) L S (z4 Z hu3.1 hu3.2 (wA y)) Y ++ [(hu1, Sum.inl (g 0, 15, .inl (wA (rwd I L S q 15))))]) (st' := [.int (nI (bN ((pl (rwd I L S q 15 ^^^ y) 15 &&& (32767 ^^^ ers I S 15)).testBit i))), .int ((bm (u2 I 8 2 (I 8 2 + nI 1)) S (pl (rwd I L S q 15 ^^^ y) 15 &&& (32767 ^^^ ers I S 15)) i) 2 (S i)), .ref (ad ((S i) + 17))]) (cells' := 1) (slots' := 15) (pc' := 77) rfl rfl rfl rfl rfl ?_
        refine g_if_eq X 84 dX9_fetchNow_77 (by decide) (fun hc31 => ?_) (fun hc31 => ?_)
        · rw [bN_eq0] at hc31; have hbf := hc31
          refine g_run X KX9_fetchNow_84_34 KX9_fetchNow_84_34_d 86 [(0, .ref (ad 0)), (1, .int (nI q)), (2, .ref hu1), (3, .int (nI (ers I S 15))), (4, .int (-nI 1)), (5, .int (nI (pl ((rwd I L S q 15) ^^^ y) 15))), (6, .int (nI i))] [.int (((bm (u2 I 8 2 (I 8 2 + nI 1)) S (pl (rwd I L S q 15 ^^^ y) 15 &&& (32767 ^^^ ers I S 15)) i) 2 (S i)) + (nI 0)), .ref (ad ((S i) + 17))] rfl ?_
          refine g_putN X (ws' := WM ad g (u2 (bm (u2 I 8 2 (I 8 2 + nI 1)) S (pl (rwd I L S q 15 ^^^ y) 15 &&& (32767 ^^^ ers I S 15)) i) 2 (S i) (((bm (u2 I 8 2 (I 8 2 + nI 1)) S (pl (rwd I L S q 15 ^^^ y) 15 &&& (32767 ^^^ ers I S 15)) i) 2 (S i)) + (nI 0))) L S (z4 Z hu3.1 hu3.2 (wA y)) Y ++ [(hu1, Sum.inl (g 0, 15, .inl (wA (rwd I L S q 15))))]) hinX7 tyX7 tyX7_ok nmX7 rfl 2 (by decide) (nw_in n_1099 rfl) rfl rfl (ty := .int) rfl rfl rfl ((S i) + 17) (wm_chG (hS18 _ (by omega))) (Nat.le_of_ble_eq_true rfl) (wm_ch2 (hS18 _ (by omega))) dX9_fetchNow_86 ?_
          refine g_run X KX9_fetchNow_89_35 KX9_fetchNow_89_35_d 43 [(6, .int ((nI i) + (nI 1))), (0, .ref (ad 0)), (1, .int (nI q)), (2, .ref hu1), (3, .int (nI (ers I S 15))), (4, .int (-nI 1)), (5, .int (nI (pl ((rwd I L S q 15) ^^^ y) 15)))] [] rfl ?_
          refine g_nm (lv' := [(6, .int (nI (i + 1))), (0, .ref (ad 0)), (1, .int (nI q)), (2, .ref hu1), (3, .int (nI (ers I S 15))), (4, .int (-nI 1)), (5, .int (nI (pl ((rwd I L S q 15) ^^^ y) 15)))]) (st' := []) (by simp only [nI_add]) (by simp only [nI_add]) ?_
          refine g_lv (lv' := [(0, .ref (ad 0)), (1, .int (nI q)), (2, .ref hu1), (3, .int (nI (ers I S 15))), (4, .int (-nI 1)), (5, .int (nI (pl ((rwd I L S q 15) ^^^ y) 15))), (6, .int (nI (i + 1)))]) (lsub_c 1 rfl (lsub_c 2 rfl (lsub_c 3 rfl (lsub_c 4 rfl (lsub_c 5 rfl (lsub_c 6 rfl (lsub_c 0 rfl (lsub_n)))))))) ?_
          refine g_cs (ws' := WM ad g (bm (u2 I 8 2 (I 8 2 + nI 1)) S (pl (rwd I L S q 15 ^^^ y) 15 &&& (32767 ^^^ ers I S 15)) (i + 1)) L S (z4 Z hu3.1 hu3.2 (wA y)) Y ++ [(hu1, Sum.inl (g 0, 15, .inl (wA (rwd I L S q 15))))]) (lv' := [(0, .ref (ad 0)), (1, .int (nI q)), (2, .ref hu1), (3, .int (nI (ers I S 15))), (4, .int (-nI 1)), (5, .int (nI (pl ((rwd I L S q 15) ^^^ y) 15))), (6, .int (nI (i + 1)))]) (by first | (rw [bm, hbf]; rfl) | (rw [bm, hbt]; rfl)) (rfl) ?_
          exact k43
        · rw [bN_eq0] at hc31; have hbt := nf_t hc31
          refine g_run X KX9_fetchNow_80_36 KX9_fetchNow_80_36_d 86 [(0, .ref (ad 0)), (1, .int (nI q)), (2, .ref hu1), (3, .int (nI (ers I S 15))), (4, .int (-nI 1)), (5, .int (nI (pl ((rwd I L S q 15) ^^^ y) 15))), (6, .int (nI i))] [.int (((bm (u2 I 8 2 (I 8 2 + nI 1)) S (pl (rwd I L S q 15 ^^^ y) 15 &&& (32767 ^^^ ers I S 15)) i) 2 (S i)) + (nI 1)), .ref (ad ((S i) + 17))] rfl ?_
          refine g_putN X (ws' := WM ad g (u2 (bm (u2 I 8 2 (I 8 2 + nI 1)) S (pl (rwd I L S q 15 ^^^ y) 15 &&& (32767 ^^^ ers I S 15)) i) 2 (S i) (((bm (u2 I 8 2 (I 8 2 + nI 1)) S (pl (rwd I L S q 15 ^^^ y) 15 &&& (32767 ^^^ ers I S 15)) i) 2 (S i)) + (nI 1))) L S (z4 Z hu3.1 hu3.2 (wA y)) Y ++ [(hu1, Sum.inl (g 0, 15, .inl (wA (rwd I L S q 15))))]) hinX7 tyX7 tyX7_ok nmX7 rfl 2 (by decide) (nw_in n_1099 rfl) rfl rfl (ty := .int) rfl rfl rfl ((S i) + 17) (wm_chG (hS18 _ (by omega))) (Nat.le_of_ble_eq_true rfl) (wm_ch2 (hS18 _ (by omega))) dX9_fetchNow_86 ?_
          refine g_run X KX9_fetchNow_89_35 KX9_fetchNow_89_35_d 43 [(6, .int ((nI i) + (nI 1))), (0, .ref (ad 0)), (1, .int (nI q)), (2, .ref hu1), (3, .int (nI (ers I S 15))), (4, .int (-nI 1)), (5, .int (nI (pl ((rwd I L S q 15) ^^^ y) 15)))] [] rfl ?_
          refine g_nm (lv' := [(6, .int (nI (i + 1))), (0, .ref (ad 0)), (1, .int (nI q)), (2, .ref hu1), (3, .int (nI (ers I S 15))), (4, .int (-nI 1)), (5, .int (nI (pl ((rwd I L S q 15) ^^^ y) 15)))]) (st' := []) (by simp only [nI_add]) (by simp only [nI_add]) ?_
          refine g_lv (lv' := [(0, .ref (ad 0)), (1, .int (nI q)), (2, .ref hu1), (3, .int (nI (ers I S 15))), (4, .int (-nI 1)), (5, .int (nI (pl ((rwd I L S q 15) ^^^ y) 15))), (6, .int (nI (i + 1)))]) (lsub_c 1 rfl (lsub_c 2 rfl (lsub_c 3 rfl (lsub_c 4 rfl (lsub_c 5 rfl (lsub_c 6 rfl (lsub_c 0 rfl (lsub_n)))))))) ?_
          refine g_cs (ws' := WM ad g (bm (u2 I 8 2 (I 8 2 + nI 1)) S (pl (rwd I L S q 15 ^^^ y) 15 &&& (32767 ^^^ ers I S 15)) (i + 1)) L S (z4 Z hu3.1 hu3.2 (wA y)) Y ++ [(hu1, Sum.inl (g 0, 15, .inl (wA (rwd I L S q 15))))]) (lv' := [(0, .ref (ad 0)), (1, .int (nI q)), (2, .ref hu1), (3, .int (nI (ers I S 15))), (4, .int (-nI 1)), (5, .int (nI (pl ((rwd I L S q 15) ^^^ y) 15))), (6, .int (nI (i + 1)))]) (by first | (rw [bm, hbf]; rfl) | (rw [bm, hbt]; rfl)) (rfl) ?_
          exact k43

def KX9_fetch_0_0 : List (Nat × Instr × Nat) := [(0, .aload_n 0, 1), (1, .iconst 0, 1)]
theorem KX9_fetch_0_0_d : ∀ z ∈ KX9_fetch_0_0, decode cX9_fetch z.1 = .ok z.2 := by decide +kernel
def KX9_fetch_5_1 : List (Nat × Instr × Nat) := [(5, .iload_n 1, 1)]
theorem KX9_fetch_5_1_d : ∀ z ∈ KX9_fetch_5_1, decode cX9_fetch z.1 = .ok z.2 := by decide +kernel
def KX9_fetch_12_2 : List (Nat × Instr × Nat) := [(12, .aload_n 0, 1), (13, .iload_n 1, 1)]
theorem KX9_fetch_12_2_d : ∀ z ∈ KX9_fetch_12_2, decode cX9_fetch z.1 = .ok z.2 := by decide +kernel
def KX9_fetch_17_3 : List (Nat × Instr × Nat) := [(17, .goto 8, 3)]
theorem KX9_fetch_17_3_d : ∀ z ∈ KX9_fetch_17_3, decode cX9_fetch z.1 = .ok z.2 := by decide +kernel
set_option maxHeartbeats 4000000 in
set_option maxRecDepth 100000 in
theorem c_X9_fetch (l : Launch) (D : va_G) (g : Nat → ClassId) (ad : Nat → Nat) (I : Nat → Nat → Int32) (L : Nat → Nat → Int64) (S : Nat → Nat) (Z : Nat → Nat → Int32) (Y : Int64) (q : Nat) (R : Nat → Nat) (hR : R16 R) (hZ : Z 0 = fun j => nI (R j)) (hS18 : ∀ p, p < 15 → S p < 18) (hSI : ∀ p q, p < 15 → q < 15 → S p = S q → p = q) (hK : kOK I) (hB : bOK I) (hq : q < 16) : CT l yX9_fetch cX9_fetch 2 ((Option.some FieldType.int)) ({ frames := 5, cells := 1, slots := 15, locals := 127 } : Room) [.ref (ad 0), .int (nI q)] D CL (TYS g) ([]) (WM ad g I L S Z Y) (S := (Nat → Nat) × (Nat → Int32)) (fun _ => some (.int (wrO (rwd I L S q 15) (oL (mwd I L S q))))) (fun u => WM ad g (ftA I L S q) (ftL I L S q) S (z4 (u2 Z 3 0 (nI 0)) u.1 u.2 (mdA (Z 2) (mwd I L S q))) Y) (fun u => R16 u.1) 1 15 := by
  refine ct_of (by decide +kernel) (Nat.le_of_ble_eq_true rfl) ?_
  intro p e s m below meth c A X hr hnm hSB hRO hAf
  refine g_cs (ws' := WM ad g I L S (z4 Z R (Z 1) (Z 2)) Y ++ []) (lv' := [(0, .ref (ad 0)), (1, .int (nI q))]) (by rw [z4_e hZ]; exact List.append_nil _) rfl ?_
  refine g_run X KX9_fetch_0_0 KX9_fetch_0_0_d 2 [(0, .ref (ad 0)), (1, .int (nI q))] [.int (nI 0), .ref (ad 0)] rfl ?_
  refine g_put X (ws' := WM ad g I L S (z4 (u2 Z 3 0 (nI 0)) R (Z 1) (Z 2)) Y ++ []) hinX9 tyX9 tyX9_ok nmX9 rfl 0 (by decide) w_1180 rfl rfl (ty := .int) rfl rfl rfl (0) (wm_get (k := 0) (by decide)) (Nat.le_of_ble_eq_true rfl) (wm_so0) dX9_fetch_2 ?_
  refine g_run X KX9_fetch_5_1 KX9_fetch_5_1_d 6 [(0, .ref (ad 0)), (1, .int (nI q))] [.int (nI q)] rfl ?_
  refine g_callS X hSB hAf (As := [.int (nI q)]) (wr := WM ad g I L S (z4 (u2 Z 3 0 (nI 0)) R (Z 1) (Z 2)) Y ++ []) (n := 1) (c_X9_isLine_t l D g q (by omega)) rfl srcN hrdN w_1257 w_1255 w_1256 w_6 (by decide +kernel) rfl ⟨Nat.le_of_ble_eq_true rfl, Nat.le_of_ble_eq_true rfl⟩ rfl rfl rfl (Nat.le_of_ble_eq_true rfl) ⟨Nat.le_of_ble_eq_true rfl, Nat.le_of_ble_eq_true rfl⟩ dX9_fetch_6 (fun hu1 _ => ?_)
  refine g_af (ws' := WM ad g I L S (z4 (u2 Z 3 0 (nI 0)) R (Z 1) (Z 2)) Y ++ []) (st' := [.int (nI 1)]) (cells' := 0) (slots' := 0) (pc' := 9) rfl rfl rfl rfl rfl ?_
  refine g_if_eq X 20 dX9_fetch_9 (by decide) (fun hc2 => ?_) (fun hc2 => ?_)
  · rw [nz_eq (by omega)] at hc2; first | omega | (simp at hc2)
  · refine g_run X KX9_fetch_12_2 KX9_fetch_12_2_d 14 [(0, .ref (ad 0)), (1, .int (nI q))] [.int (nI q), .ref (ad 0)] rfl ?_
    refine g_callV X hSB hAf (srcW) (hrc1 := (rfl : CL[8]? = some _)) (wm_mem (k := 0) (by decide)) rfl (As := [.int (nI q)]) (wr := []) (n := 1) (c_X9_fetchNow l D g ad I L S (z4 (u2 Z 3 0 (nI 0)) R (Z 1) (Z 2)) Y q R (by assumption) (rfl) (hS18) (hSI) (hK) (hB) (by omega)) rfl srcN hrdN w_1364 w_1361 w_1363 w_s26 w_6 (by decide +kernel) rfl ⟨Nat.le_of_ble_eq_true rfl, Nat.le_of_ble_eq_true rfl⟩ rfl rfl rfl (Nat.le_of_ble_eq_true rfl) ⟨Nat.le_of_ble_eq_true rfl, Nat.le_of_ble_eq_true rfl⟩ dX9_fetch_14 (fun hu3 hp_hu3 => ?_)
    refine g_af (ws' := WM ad g (ftA I L S q) (ftL I L S q) S (z4 (u2 Z 3 0 (nI 0)) hu3.1 hu3.2 (mdA (Z 2) (mwd I L S q))) Y ++ []) (st' := [.int (wrO (rwd I L S q 15) (oL (mwd I L S q)))]) (cells' := 1) (slots' := 15) (pc' := 17) (congrArg (fun z => (WM ad g (ftA I L S q) (ftL I L S q) S z Y) ++ []) z4_z4.symm) rfl rfl rfl rfl ?_
    refine g_run X KX9_fetch_17_3 KX9_fetch_17_3_d 25 [(0, .ref (ad 0)), (1, .int (nI q))] [.int (wrO (rwd I L S q 15) (oL (mwd I L S q)))] rfl ?_
    exact g_iret X hr (hu3.1, hu3.2) (rfl) (by assumption) (rfl) (Nat.le_of_ble_eq_true rfl) (Nat.le_of_ble_eq_true rfl) dX9_fetch_25

def KX9_fetch_20_4 : List (Nat × Instr × Nat) := [(20, .aload_n 0, 1), (21, .iconst 1, 1)]
theorem KX9_fetch_20_4_d : ∀ z ∈ KX9_fetch_20_4, decode cX9_fetch z.1 = .ok z.2 := by decide +kernel
set_option maxHeartbeats 4000000 in
set_option maxRecDepth 100000 in
theorem c_X9_fetch_1 (l : Launch) (D : va_G) (g : Nat → ClassId) (ad : Nat → Nat) (I : Nat → Nat → Int32) (L : Nat → Nat → Int64) (S : Nat → Nat) (Z : Nat → Nat → Int32) (Y : Int64) (x : Int32) (hx : x < 0 ∨ ¬ x ≤ nI 15) : CT l yX9_fetch cX9_fetch 2 ((Option.some FieldType.int)) ({ frames := 2, cells := 0, slots := 0, locals := 42 } : Room) [.ref (ad 0), .int x] D CL (TYS g) ([]) (WM ad g I L S Z Y) (S := Unit) (fun _ => some (.int (nI 0))) (fun _ => WM ad g I L S (u2 (u2 Z 3 0 (nI 0)) 3 0 (nI 1)) Y) (fun _ => True) 0 0 := by
  refine ct_of (by decide +kernel) (Nat.le_of_ble_eq_true rfl) ?_
  intro p e s m below meth c A X hr hnm hSB hRO hAf
  refine g_cs (ws' := WM ad g I L S Z Y ++ []) (lv' := [(0, .ref (ad 0)), (1, .int x)]) (List.append_nil _) rfl ?_
  refine g_run X KX9_fetch_0_0 KX9_fetch_0_0_d 2 [(0, .ref (ad 0)), (1, .int x)] [.int (nI 0), .ref (ad 0)] rfl ?_
  refine g_put X (ws' := WM ad g I L S (u2 Z 3 0 (nI 0)) Y ++ []) hinX9 tyX9 tyX9_ok nmX9 rfl 0 (by decide) w_1180 rfl rfl (ty := .int) rfl rfl rfl (0) (wm_get (k := 0) (by decide)) (Nat.le_of_ble_eq_true rfl) (wm_mo0) dX9_fetch_2 ?_
  refine g_run X KX9_fetch_5_1 KX9_fetch_5_1_d 6 [(0, .ref (ad 0)), (1, .int x)] [.int x] rfl ?_
  refine g_callS X hSB hAf (As := [.int x]) (wr := WM ad g I L S (u2 Z 3 0 (nI 0)) Y ++ []) (n := 1) (c_X9_isLine_f l D g x (hx)) rfl srcN hrdN w_1257 w_1255 w_1256 w_6 (by decide +kernel) rfl ⟨Nat.le_of_ble_eq_true rfl, Nat.le_of_ble_eq_true rfl⟩ rfl rfl rfl (Nat.le_of_ble_eq_true rfl) ⟨Nat.le_of_ble_eq_true rfl, Nat.le_of_ble_eq_true rfl⟩ dX9_fetch_6 (fun hu1 _ => ?_)
  refine g_af (ws' := WM ad g I L S (u2 Z 3 0 (nI 0)) Y ++ []) (st' := [.int (nI 0)]) (cells' := 0) (slots' := 0) (pc' := 9) rfl rfl rfl rfl rfl ?_
  refine g_if_eq X 20 dX9_fetch_9 (by decide) (fun hc2 => ?_) (fun hc2 => ?_)
  · refine g_run X KX9_fetch_20_4 KX9_fetch_20_4_d 22 [(0, .ref (ad 0)), (1, .int x)] [.int (nI 1), .ref (ad 0)] rfl ?_
    refine g_callV X hSB hAf (srcW) (hrc1 := (rfl : CL[8]? = some _)) (wm_mem (k := 0) (by decide)) rfl (As := [.int (nI 1)]) (wr := []) (n := 1) (c_X9_refuse l D g ad I L S (u2 Z 3 0 (nI 0)) Y 1 ) rfl srcN hrdN w_1264 w_1261 w_1263 w_s12 w_6 (by decide +kernel) rfl ⟨Nat.le_of_ble_eq_true rfl, Nat.le_of_ble_eq_true rfl⟩ rfl rfl rfl (Nat.le_of_ble_eq_true rfl) ⟨Nat.le_of_ble_eq_true rfl, Nat.le_of_ble_eq_true rfl⟩ dX9_fetch_22 (fun hu3 _ => ?_)
    refine g_af (ws' := WM ad g I L S (u2 (u2 Z 3 0 (nI 0)) 3 0 (nI 1)) Y ++ []) (st' := [.int (nI 0)]) (cells' := 0) (slots' := 0) (pc' := 25) rfl rfl rfl rfl rfl ?_
    exact g_iret X hr () (rfl) (trivial) (rfl) (Nat.le_of_ble_eq_true rfl) (Nat.le_of_ble_eq_true rfl) dX9_fetch_25
  · rw [nz_eq (by omega)] at hc2; first | omega | (simp at hc2)

