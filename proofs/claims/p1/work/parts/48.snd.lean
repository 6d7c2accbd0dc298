def KX9_isSoundNow_0_0 : List (Nat × Instr × Nat) := [(0, .iconst 0, 1), (1, .istore_n 1, 1), (2, .iconst 0, 1), (3, .istore_n 2, 1)]
theorem KX9_isSoundNow_0_0_d : ∀ z ∈ KX9_isSoundNow_0_0, decode cX9_isSoundNow z.1 = .ok z.2 := by decide +kernel
def KX9_isSoundNow_4_1 : List (Nat × Instr × Nat) := [(4, .iload_n 2, 1), (5, .bipush 15, 2)]
theorem KX9_isSoundNow_4_1_d : ∀ z ∈ KX9_isSoundNow_4_1, decode cX9_isSoundNow z.1 = .ok z.2 := by decide +kernel
def KX9_isSoundNow_69_2 : List (Nat × Instr × Nat) := [(69, .iconst 0, 1), (70, .istore_n 2, 1)]
theorem KX9_isSoundNow_69_2_d : ∀ z ∈ KX9_isSoundNow_69_2, decode cX9_isSoundNow z.1 = .ok z.2 := by decide +kernel
def KX9_isSoundNow_71_3 : List (Nat × Instr × Nat) := [(71, .iload_n 2, 1), (72, .iconst 4, 1)]
theorem KX9_isSoundNow_71_3_d : ∀ z ∈ KX9_isSoundNow_71_3, decode cX9_isSoundNow z.1 = .ok z.2 := by decide +kernel
def KX9_isSoundNow_207_4 : List (Nat × Instr × Nat) := [(207, .aload_n 0, 1)]
theorem KX9_isSoundNow_207_4_d : ∀ z ∈ KX9_isSoundNow_207_4, decode cX9_isSoundNow z.1 = .ok z.2 := by decide +kernel
def KX9_isSoundNow_211_5 : List (Nat × Instr × Nat) := [(211, .astore_n 2, 1), (212, .aload_n 2, 1)]
theorem KX9_isSoundNow_211_5_d : ∀ z ∈ KX9_isSoundNow_211_5, decode cX9_isSoundNow z.1 = .ok z.2 := by decide +kernel
def KX9_isSoundNow_214_6 : List (Nat × Instr × Nat) := [(214, .istore_n 3, 1), (215, .iconst 0, 1), (216, .istore 4, 2)]
theorem KX9_isSoundNow_214_6_d : ∀ z ∈ KX9_isSoundNow_214_6, decode cX9_isSoundNow z.1 = .ok z.2 := by decide +kernel
def KX9_isSoundNow_218_7 : List (Nat × Instr × Nat) := [(218, .iload 4, 2), (220, .iload_n 3, 1)]
theorem KX9_isSoundNow_218_7_d : ∀ z ∈ KX9_isSoundNow_218_7, decode cX9_isSoundNow z.1 = .ok z.2 := by decide +kernel
def KX9_isSoundNow_249_8 : List (Nat × Instr × Nat) := [(249, .aload_n 0, 1)]
theorem KX9_isSoundNow_249_8_d : ∀ z ∈ KX9_isSoundNow_249_8, decode cX9_isSoundNow z.1 = .ok z.2 := by decide +kernel
def KX9_isSoundNow_256_9 : List (Nat × Instr × Nat) := [(256, .iconst 4, 1)]
theorem KX9_isSoundNow_256_9_d : ∀ z ∈ KX9_isSoundNow_256_9, decode cX9_isSoundNow z.1 = .ok z.2 := by decide +kernel
def KX9_isSoundNow_275_10 : List (Nat × Instr × Nat) := [(275, .iconst 0, 1)]
theorem KX9_isSoundNow_275_10_d : ∀ z ∈ KX9_isSoundNow_275_10, decode cX9_isSoundNow z.1 = .ok z.2 := by decide +kernel
def KX9_isSoundNow_260_11 : List (Nat × Instr × Nat) := [(260, .aload_n 0, 1)]
theorem KX9_isSoundNow_260_11_d : ∀ z ∈ KX9_isSoundNow_260_11, decode cX9_isSoundNow z.1 = .ok z.2 := by decide +kernel
def KX9_isSoundNow_264_12 : List (Nat × Instr × Nat) := [(264, .aload_n 0, 1)]
theorem KX9_isSoundNow_264_12_d : ∀ z ∈ KX9_isSoundNow_264_12, decode cX9_isSoundNow z.1 = .ok z.2 := by decide +kernel
def KX9_isSoundNow_271_13 : List (Nat × Instr × Nat) := [(271, .iconst 1, 1), (272, .goto 4, 3)]
theorem KX9_isSoundNow_271_13_d : ∀ z ∈ KX9_isSoundNow_271_13, decode cX9_isSoundNow z.1 = .ok z.2 := by decide +kernel
def KX9_isSoundNow_224_14 : List (Nat × Instr × Nat) := [(224, .aload_n 2, 1), (225, .iload 4, 2)]
theorem KX9_isSoundNow_224_14_d : ∀ z ∈ KX9_isSoundNow_224_14, decode cX9_isSoundNow z.1 = .ok z.2 := by decide +kernel
def KX9_isSoundNow_228_15 : List (Nat × Instr × Nat) := [(228, .istore 5, 2), (230, .iload 5, 2), (232, .iconst 0, 1), (233, .bipush 15, 2)]
theorem KX9_isSoundNow_228_15_d : ∀ z ∈ KX9_isSoundNow_228_15, decode cX9_isSoundNow z.1 = .ok z.2 := by decide +kernel
def KX9_isSoundNow_243_16 : List (Nat × Instr × Nat) := [(243, .iinc 4 1, 3), (246, .goto (-28), 3)]
theorem KX9_isSoundNow_243_16_d : ∀ z ∈ KX9_isSoundNow_243_16, decode cX9_isSoundNow z.1 = .ok z.2 := by decide +kernel
def KX9_isSoundNow_76_17 : List (Nat × Instr × Nat) := [(76, .iconst 0, 1), (77, .istore_n 3, 1)]
theorem KX9_isSoundNow_76_17_d : ∀ z ∈ KX9_isSoundNow_76_17, decode cX9_isSoundNow z.1 = .ok z.2 := by decide +kernel
def KX9_isSoundNow_78_18 : List (Nat × Instr × Nat) := [(78, .iload_n 3, 1), (79, .iload_n 2, 1)]
theorem KX9_isSoundNow_78_18_d : ∀ z ∈ KX9_isSoundNow_78_18, decode cX9_isSoundNow z.1 = .ok z.2 := by decide +kernel
def KX9_isSoundNow_201_19 : List (Nat × Instr × Nat) := [(201, .iinc 2 1, 3), (204, .goto (-133), 3)]
theorem KX9_isSoundNow_201_19_d : ∀ z ∈ KX9_isSoundNow_201_19, decode cX9_isSoundNow z.1 = .ok z.2 := by decide +kernel
def KX9_isSoundNow_83_20 : List (Nat × Instr × Nat) := [(83, .aload_n 0, 1)]
theorem KX9_isSoundNow_83_20_d : ∀ z ∈ KX9_isSoundNow_83_20, decode cX9_isSoundNow z.1 = .ok z.2 := by decide +kernel
def KX9_isSoundNow_87_21 : List (Nat × Instr × Nat) := [(87, .iload_n 2, 1)]
theorem KX9_isSoundNow_87_21_d : ∀ z ∈ KX9_isSoundNow_87_21, decode cX9_isSoundNow z.1 = .ok z.2 := by decide +kernel
def KX9_isSoundNow_97_22 : List (Nat × Instr × Nat) := [(97, .iconst (-1), 1)]
theorem KX9_isSoundNow_97_22_d : ∀ z ∈ KX9_isSoundNow_97_22, decode cX9_isSoundNow z.1 = .ok z.2 := by decide +kernel
def KX9_isSoundNow_123_23 : List (Nat × Instr × Nat) := [(123, .iconst 0, 1), (124, .istore 4, 2), (126, .iload 4, 2)]
theorem KX9_isSoundNow_123_23_d : ∀ z ∈ KX9_isSoundNow_123_23, decode cX9_isSoundNow z.1 = .ok z.2 := by decide +kernel
def KX9_isSoundNow_195_24 : List (Nat × Instr × Nat) := [(195, .iinc 3 1, 3), (198, .goto (-120), 3)]
theorem KX9_isSoundNow_195_24_d : ∀ z ∈ KX9_isSoundNow_195_24, decode cX9_isSoundNow z.1 = .ok z.2 := by decide +kernel
def KX9_isSoundNow_101_25 : List (Nat × Instr × Nat) := [(101, .aload_n 0, 1)]
theorem KX9_isSoundNow_101_25_d : ∀ z ∈ KX9_isSoundNow_101_25, decode cX9_isSoundNow z.1 = .ok z.2 := by decide +kernel
def KX9_isSoundNow_105_26 : List (Nat × Instr × Nat) := [(105, .iload_n 3, 1)]
theorem KX9_isSoundNow_105_26_d : ∀ z ∈ KX9_isSoundNow_105_26, decode cX9_isSoundNow z.1 = .ok z.2 := by decide +kernel
def KX9_isSoundNow_115_27 : List (Nat × Instr × Nat) := [(115, .iconst (-1), 1)]
theorem KX9_isSoundNow_115_27_d : ∀ z ∈ KX9_isSoundNow_115_27, decode cX9_isSoundNow z.1 = .ok z.2 := by decide +kernel
def KX9_isSoundNow_119_28 : List (Nat × Instr × Nat) := [(119, .iconst 1, 1), (120, .goto 4, 3), (124, .istore 4, 2), (126, .iload 4, 2)]
theorem KX9_isSoundNow_119_28_d : ∀ z ∈ KX9_isSoundNow_119_28, decode cX9_isSoundNow z.1 = .ok z.2 := by decide +kernel
def KX9_isSoundNow_131_29 : List (Nat × Instr × Nat) := [(131, .aload_n 0, 1)]
theorem KX9_isSoundNow_131_29_d : ∀ z ∈ KX9_isSoundNow_131_29, decode cX9_isSoundNow z.1 = .ok z.2 := by decide +kernel
def KX9_isSoundNow_135_30 : List (Nat × Instr × Nat) := [(135, .iload_n 2, 1)]
theorem KX9_isSoundNow_135_30_d : ∀ z ∈ KX9_isSoundNow_135_30, decode cX9_isSoundNow z.1 = .ok z.2 := by decide +kernel
def KX9_isSoundNow_145_31 : List (Nat × Instr × Nat) := [(145, .aload_n 0, 1)]
theorem KX9_isSoundNow_145_31_d : ∀ z ∈ KX9_isSoundNow_145_31, decode cX9_isSoundNow z.1 = .ok z.2 := by decide +kernel
def KX9_isSoundNow_149_32 : List (Nat × Instr × Nat) := [(149, .iload_n 3, 1)]
theorem KX9_isSoundNow_149_32_d : ∀ z ∈ KX9_isSoundNow_149_32, decode cX9_isSoundNow z.1 = .ok z.2 := by decide +kernel
def KX9_isSoundNow_193_33 : List (Nat × Instr × Nat) := [(193, .iconst 0, 1)]
theorem KX9_isSoundNow_193_33_d : ∀ z ∈ KX9_isSoundNow_193_33, decode cX9_isSoundNow z.1 = .ok z.2 := by decide +kernel
def KX9_isSoundNow_162_34 : List (Nat × Instr × Nat) := [(162, .aload_n 0, 1)]
theorem KX9_isSoundNow_162_34_d : ∀ z ∈ KX9_isSoundNow_162_34, decode cX9_isSoundNow z.1 = .ok z.2 := by decide +kernel
def KX9_isSoundNow_166_35 : List (Nat × Instr × Nat) := [(166, .iload_n 2, 1)]
theorem KX9_isSoundNow_166_35_d : ∀ z ∈ KX9_isSoundNow_166_35, decode cX9_isSoundNow z.1 = .ok z.2 := by decide +kernel
def KX9_isSoundNow_176_36 : List (Nat × Instr × Nat) := [(176, .aload_n 0, 1)]
theorem KX9_isSoundNow_176_36_d : ∀ z ∈ KX9_isSoundNow_176_36, decode cX9_isSoundNow z.1 = .ok z.2 := by decide +kernel
def KX9_isSoundNow_180_37 : List (Nat × Instr × Nat) := [(180, .iload_n 3, 1)]
theorem KX9_isSoundNow_180_37_d : ∀ z ∈ KX9_isSoundNow_180_37, decode cX9_isSoundNow z.1 = .ok z.2 := by decide +kernel
def KX9_isSoundNow_10_38 : List (Nat × Instr × Nat) := [(10, .aload_n 0, 1)]
theorem KX9_isSoundNow_10_38_d : ∀ z ∈ KX9_isSoundNow_10_38, decode cX9_isSoundNow z.1 = .ok z.2 := by decide +kernel
def KX9_isSoundNow_14_39 : List (Nat × Instr × Nat) := [(14, .aload_n 0, 1)]
theorem KX9_isSoundNow_14_39_d : ∀ z ∈ KX9_isSoundNow_14_39, decode cX9_isSoundNow z.1 = .ok z.2 := by decide +kernel
def KX9_isSoundNow_18_40 : List (Nat × Instr × Nat) := [(18, .iload_n 2, 1)]
theorem KX9_isSoundNow_18_40_d : ∀ z ∈ KX9_isSoundNow_18_40, decode cX9_isSoundNow z.1 = .ok z.2 := by decide +kernel
def KX9_isSoundNow_21_41 : List (Nat × Instr × Nat) := [(21, .astore_n 3, 1), (22, .aload_n 3, 1)]
theorem KX9_isSoundNow_21_41_d : ∀ z ∈ KX9_isSoundNow_21_41, decode cX9_isSoundNow z.1 = .ok z.2 := by decide +kernel
def KX9_isSoundNow_26_42 : List (Nat × Instr × Nat) := [(26, .iload_n 2, 1)]
theorem KX9_isSoundNow_26_42_d : ∀ z ∈ KX9_isSoundNow_26_42, decode cX9_isSoundNow z.1 = .ok z.2 := by decide +kernel
def KX9_isSoundNow_30_43 : List (Nat × Instr × Nat) := [(30, .aload_n 3, 1)]
theorem KX9_isSoundNow_30_43_d : ∀ z ∈ KX9_isSoundNow_30_43, decode cX9_isSoundNow z.1 = .ok z.2 := by decide +kernel
def KX9_isSoundNow_50_44 : List (Nat × Instr × Nat) := [(50, .iconst 0, 1)]
theorem KX9_isSoundNow_50_44_d : ∀ z ∈ KX9_isSoundNow_50_44, decode cX9_isSoundNow z.1 = .ok z.2 := by decide +kernel
def KX9_isSoundNow_37_45 : List (Nat × Instr × Nat) := [(37, .iload_n 1, 1), (38, .aload_n 0, 1)]
theorem KX9_isSoundNow_37_45_d : ∀ z ∈ KX9_isSoundNow_37_45, decode cX9_isSoundNow z.1 = .ok z.2 := by decide +kernel
def KX9_isSoundNow_42_46 : List (Nat × Instr × Nat) := [(42, .iload_n 2, 1)]
theorem KX9_isSoundNow_42_46_d : ∀ z ∈ KX9_isSoundNow_42_46, decode cX9_isSoundNow z.1 = .ok z.2 := by decide +kernel
def KX9_isSoundNow_52_47 : List (Nat × Instr × Nat) := [(52, .iload_n 1, 1), (53, .iconst 1, 1), (54, .aload_n 0, 1)]
theorem KX9_isSoundNow_52_47_d : ∀ z ∈ KX9_isSoundNow_52_47, decode cX9_isSoundNow z.1 = .ok z.2 := by decide +kernel
def KX9_isSoundNow_58_48 : List (Nat × Instr × Nat) := [(58, .iload_n 2, 1)]
theorem KX9_isSoundNow_58_48_d : ∀ z ∈ KX9_isSoundNow_58_48, decode cX9_isSoundNow z.1 = .ok z.2 := by decide +kernel
def KX9_isSoundNow_60_49 : List (Nat × Instr × Nat) := [(60, .ishl, 1), (61, .ior, 1), (62, .istore_n 1, 1), (63, .iinc 2 1, 3), (66, .goto (-62), 3)]
theorem KX9_isSoundNow_60_49_d : ∀ z ∈ KX9_isSoundNow_60_49, decode cX9_isSoundNow z.1 = .ok z.2 := by decide +kernel
set_option maxHeartbeats 4000000 in
set_option maxRecDepth 100000 in
theorem c_X9_isSoundNow (l : Launch) (D : va_G) (g : Nat → ClassId) (ad : Nat → Nat) (I : Nat → Nat → Int32) (L : Nat → Nat → Int64) (S : Nat → Nat) (Z : Nat → Nat → Int32) (Y : Int64) (hS18 : ∀ p, p < 15 → S p < 18) (hpl : ∀ p, p < 15 → I 0 (S p) = nI p) : CT l yX9_isSoundNow cX9_isSoundNow 6 ((Option.some FieldType.boolean)) ({ frames := 3, cells := 0, slots := 0, locals := 64 } : Room) [.ref (ad 0)] D CL (TYS g) ([]) (WM ad g I L S Z Y) (S := Unit) (fun _ => some (.int (nI (pB (snd I S))))) (fun _ => WM ad g I L S Z Y) (fun _ => True) 0 0 := by
  refine ct_of (by decide +kernel) (Nat.le_of_ble_eq_true rfl) ?_
  intro p e s m below meth c A X hr hnm hSB hRO hAf
  refine g_cs (ws' := WM ad g I L S Z Y ++ []) (lv' := [(0, .ref (ad 0))]) (List.append_nil _) rfl ?_
  refine g_run X KX9_isSoundNow_0_0 KX9_isSoundNow_0_0_d 4 [(2, .int (nI 0)), (1, .int (nI 0)), (0, .ref (ad 0))] [] rfl ?_
  refine g_lv (lv' := [(0, .ref (ad 0)), (1, .int (nI 0)), (2, .int (nI 0))]) (lsub_c 2 rfl (lsub_c 1 rfl (lsub_c 0 rfl (lsub_n)))) ?_
  refine g_forP 15 (fun _ => WM ad g I L S Z Y ++ []) (fun i => [(0, .ref (ad 0)), (1, .int (nI (sset S i))), (2, .int (nI i))]) (fun i => ∀ k, k < i → sok1 I S k) (fun _ h => absurd h (Nat.not_lt_zero _)) (rfl) (by rw [sset]) ?_ ?_
  · intro hP4
    have hsok : sok I S := hP4
    refine g_run X KX9_isSoundNow_4_1 KX9_isSoundNow_4_1_d 7 [(0, .ref (ad 0)), (1, .int (nI (sset S 15))), (2, .int (nI 15))] [.int (nI 15), .int (nI 15)] rfl ?_
    refine g_icmp_ge X 69 dX9_isSoundNow_7 (by decide) (fun hc1 => ?_) (fun hc1 => ?_)
    · refine g_run X KX9_isSoundNow_69_2 KX9_isSoundNow_69_2_d 71 [(2, .int (nI 0)), (0, .ref (ad 0)), (1, .int (nI (sset S 15)))] [] rfl ?_
      refine g_lv (lv' := [(0, .ref (ad 0)), (2, .int (nI 0))]) (lsub_c 1 rfl (lsub_c 0 rfl (lsub_n))) ?_
      refine g_forP 4 (fun _ => WM ad g I L S Z Y ++ []) (fun i => [(0, .ref (ad 0)), (2, .int (nI i))]) (fun i => ∀ k, k < i → ∀ j, j < k → fpr I j k) (fun _ h => absurd h (Nat.not_lt_zero _)) (rfl) (rfl) ?_ ?_
      · intro hP71
        have hfok : fok I := fun j hj k hk hjk => hP71 k hk j hjk
        refine g_run X KX9_isSoundNow_71_3 KX9_isSoundNow_71_3_d 73 [(0, .ref (ad 0)), (2, .int (nI 4))] [.int (nI 4), .int (nI 4)] rfl ?_
        refine g_icmp_ge X 207 dX9_isSoundNow_73 (by decide) (fun hc2 => ?_) (fun hc2 => ?_)
        · refine g_run X KX9_isSoundNow_207_4 KX9_isSoundNow_207_4_d 208 [(0, .ref (ad 0)), (2, .int (nI 4))] [.ref (ad 0)] rfl ?_
          refine g_get X srcW (v := .ref (ad 3)) hinX9 rfl 3 (by decide) w_1183 rfl (wm_mem (k := 0) (by decide)) rfl dX9_isSoundNow_208 ?_
          refine g_run X KX9_isSoundNow_211_5 KX9_isSoundNow_211_5_d 213 [(2, .ref (ad 3)), (0, .ref (ad 0))] [.ref (ad 3)] rfl ?_
          refine g_alen X srcW (v := nI 288) 0 rfl (wm_mem (k := 3) (by decide)) rfl dX9_isSoundNow_213 ?_
          refine g_run X KX9_isSoundNow_214_6 KX9_isSoundNow_214_6_d 218 [(4, .int (nI 0)), (3, .int (nI 288)), (2, .ref (ad 3)), (0, .ref (ad 0))] [] rfl ?_
          refine g_lv (lv' := [(0, .ref (ad 0)), (2, .ref (ad 3)), (3, .int (nI 288)), (4, .int (nI 0))]) (lsub_c 3 rfl (lsub_c 2 rfl (lsub_c 1 rfl (lsub_c 0 rfl (lsub_n))))) ?_
          refine g_for 288 (fun _ => WM ad g I L S Z Y ++ []) (fun j => [(0, .ref (ad 0)), (2, .ref (ad 3)), (3, .int (nI 288)), (4, .int (nI j))]) (rfl) (rfl) ?_ ?_
          · refine g_run X KX9_isSoundNow_218_7 KX9_isSoundNow_218_7_d 221 [(0, .ref (ad 0)), (2, .ref (ad 3)), (3, .int (nI 288)), (4, .int (nI 288))] [.int (nI 288), .int (nI 288)] rfl ?_
            refine g_icmp_ge X 249 dX9_isSoundNow_221 (by decide) (fun hc3 => ?_) (fun hc3 => ?_)
            · refine g_run X KX9_isSoundNow_249_8 KX9_isSoundNow_249_8_d 250 [(0, .ref (ad 0)), (2, .ref (ad 3)), (3, .int (nI 288)), (4, .int (nI 288))] [.ref (ad 0)] rfl ?_
              refine g_callV X hSB hAf (srcW) (hrc1 := (rfl : CL[8]? = some _)) (wm_mem (k := 0) (by decide)) rfl (As := []) (wr := []) (n := 0) (c_X9_erased l D g ad I L S Z Y (hS18)) rfl srcN hrdN w_1339 w_1336 w_1338 w_s23 w_6 (by decide +kernel) rfl ⟨Nat.le_of_ble_eq_true rfl, Nat.le_of_ble_eq_true rfl⟩ rfl rfl rfl (Nat.le_of_ble_eq_true rfl) ⟨Nat.le_of_ble_eq_true rfl, Nat.le_of_ble_eq_true rfl⟩ dX9_isSoundNow_250 (fun hu4 _ => ?_)
              refine g_af (ws' := WM ad g I L S Z Y ++ []) (st' := [.int (nI (ers I S 15))]) (cells' := 0) (slots' := 0) (pc' := 253) rfl rfl rfl rfl rfl ?_
              have hp15 := pcn_15 (ers I S 15)
              refine g_callS X hSB hAf (As := [.int (nI (ers I S 15))]) (wr := WM ad g I L S Z Y ++ []) (n := 1) (c_J6_bitCount_0f7a4 l D g (ers I S 15) (ers_lt _ _ _)) rfl srcN hrdN w_259 w_1340 w_258 w_24 (by decide +kernel) rfl ⟨Nat.le_of_ble_eq_true rfl, Nat.le_of_ble_eq_true rfl⟩ rfl rfl rfl (Nat.le_of_ble_eq_true rfl) ⟨Nat.le_of_ble_eq_true rfl, Nat.le_of_ble_eq_true rfl⟩ dX9_isSoundNow_253 (fun hu5 _ => ?_)
              refine g_af (ws' := WM ad g I L S Z Y ++ []) (st' := [.int (nI (pcn (ers I S 15) 15))]) (cells' := 0) (slots' := 0) (pc' := 256) rfl rfl rfl rfl rfl ?_
              refine g_run X KX9_isSoundNow_256_9 KX9_isSoundNow_256_9_d 257 [(0, .ref (ad 0)), (2, .ref (ad 3)), (3, .int (nI 288)), (4, .int (nI 288))] [.int (nI 4), .int (nI (pcn (ers I S 15) 15))] rfl ?_
              refine g_icmp_gt X 275 dX9_isSoundNow_257 (by decide) (fun hc6 => ?_) (fun hc6 => ?_)
              · rw [nI_ltI (by omega) (by omega)] at hc6; have hno : ¬ snd I S := fun z => by have := z.2.1; omega
                refine g_run X KX9_isSoundNow_275_10 KX9_isSoundNow_275_10_d 276 [(0, .ref (ad 0)), (2, .ref (ad 3)), (3, .int (nI 288)), (4, .int (nI 288))] [.int (nI 0)] rfl ?_
                exact g_zret X hr (by decide +kernel) () (by show some (Value.int _) = some (Value.int _); rw [pB_f hno]) (trivial) (rfl) (Nat.le_of_ble_eq_true rfl) (Nat.le_of_ble_eq_true rfl) dX9_isSoundNow_276
              · rw [nI_ltI (by omega) (by omega)] at hc6; have h4 := Nat.le_of_not_lt hc6
                refine g_run X KX9_isSoundNow_260_11 KX9_isSoundNow_260_11_d 261 [(0, .ref (ad 0)), (2, .ref (ad 3)), (3, .int (nI 288)), (4, .int (nI 288))] [.ref (ad 0)] rfl ?_
                refine g_get X srcW (v := .int (I 8 3)) hinX9 rfl 13 (by decide) w_1193 rfl (wm_mem (k := 0) (by decide)) rfl dX9_isSoundNow_261 ?_
                refine g_run X KX9_isSoundNow_264_12 KX9_isSoundNow_264_12_d 265 [(0, .ref (ad 0)), (2, .ref (ad 3)), (3, .int (nI 288)), (4, .int (nI 288))] [.ref (ad 0), .int (I 8 3)] rfl ?_
                refine g_get X srcW (v := .int (I 8 2)) hinX9 rfl 12 (by decide) w_1192 rfl (wm_mem (k := 0) (by decide)) rfl dX9_isSoundNow_265 ?_
                refine g_icmp_gt X 275 dX9_isSoundNow_268 (by decide) (fun hc7 => ?_) (fun hc7 => ?_)
                · have hno : ¬ snd I S := fun z => absurd z.2.2.2 (Int32.not_le.mpr hc7)
                  refine g_run X KX9_isSoundNow_275_10 KX9_isSoundNow_275_10_d 276 [(0, .ref (ad 0)), (2, .ref (ad 3)), (3, .int (nI 288)), (4, .int (nI 288))] [.int (nI 0)] rfl ?_
                  exact g_zret X hr (by decide +kernel) () (by show some (Value.int _) = some (Value.int _); rw [pB_f hno]) (trivial) (rfl) (Nat.le_of_ble_eq_true rfl) (Nat.le_of_ble_eq_true rfl) dX9_isSoundNow_276
                · have hyes : snd I S := ⟨hsok, h4, hfok, Int32.not_lt.mp hc7⟩
                  refine g_run X KX9_isSoundNow_271_13 KX9_isSoundNow_271_13_d 276 [(0, .ref (ad 0)), (2, .ref (ad 3)), (3, .int (nI 288)), (4, .int (nI 288))] [.int (nI 1)] rfl ?_
                  exact g_zret X hr (by decide +kernel) () (by show some (Value.int _) = some (Value.int _); rw [pB_t hyes]) (trivial) (rfl) (Nat.le_of_ble_eq_true rfl) (Nat.le_of_ble_eq_true rfl) dX9_isSoundNow_276
            · rw [nI_leI (by omega) (by omega)] at hc3; first | omega | (simp at hc3)
          · intro j hj k218
            refine g_run X KX9_isSoundNow_218_7 KX9_isSoundNow_218_7_d 221 [(0, .ref (ad 0)), (2, .ref (ad 3)), (3, .int (nI 288)), (4, .int (nI j))] [.int (nI 288), .int (nI j)] rfl ?_
            refine g_icmp_ge X 249 dX9_isSoundNow_221 (by decide) (fun hc8 => ?_) (fun hc8 => ?_)
            · rw [nI_leI (by omega) (by omega)] at hc8; first | omega | (simp at hc8)
            · refine g_run X KX9_isSoundNow_224_14 KX9_isSoundNow_224_14_d 227 [(0, .ref (ad 0)), (2, .ref (ad 3)), (3, .int (nI 288)), (4, .int (nI j))] [.int (nI j), .ref (ad 3)] rfl ?_
              refine g_iald X srcW (v := nI (nib (L 0 (j / 16)) (j % 16))) 0 rfl (wm_mem (k := 3) (by decide)) j rfl (by omega) (by decide) (rfl) dX9_isSoundNow_227 ?_
              refine g_run X KX9_isSoundNow_228_15 KX9_isSoundNow_228_15_d 235 [(5, .int (nI (nib (L 0 (j / 16)) (j % 16)))), (0, .ref (ad 0)), (2, .ref (ad 3)), (3, .int (nI 288)), (4, .int (nI j))] [.int (nI 15), .int (nI 0), .int (nI (nib (L 0 (j / 16)) (j % 16)))] rfl ?_
              refine g_callS X hSB hAf (As := [.int (nI (nib (L 0 (j / 16)) (j % 16))), .int (nI 0), .int (nI 15)]) (wr := WM ad g I L S Z Y ++ []) (n := 3) (c_X9_is_t l D g (nib (L 0 (j / 16)) (j % 16)) 0 15 (by omega) (by have := nib_lt (L 0 (j / 16)) (j % 16); omega) (by omega)) rfl srcN hrdN w_1260 w_1258 w_1259 w_6 (by decide +kernel) rfl ⟨Nat.le_of_ble_eq_true rfl, Nat.le_of_ble_eq_true rfl⟩ rfl rfl rfl (Nat.le_of_ble_eq_true rfl) ⟨Nat.le_of_ble_eq_true rfl, Nat.le_of_ble_eq_true rfl⟩ dX9_isSoundNow_235 (fun hu9 _ => ?_)
              refine g_af (ws' := WM ad g I L S Z Y ++ []) (st' := [.int (nI 1)]) (cells' := 0) (slots' := 0) (pc' := 238) rfl rfl rfl rfl rfl ?_
              refine g_if_ne X 243 dX9_isSoundNow_238 (by decide) (fun hc10 => ?_) (fun hc10 => ?_)
              · refine g_run X KX9_isSoundNow_243_16 KX9_isSoundNow_243_16_d 218 [(4, .int ((nI j) + (nI 1))), (5, .int (nI (nib (L 0 (j / 16)) (j % 16)))), (0, .ref (ad 0)), (2, .ref (ad 3)), (3, .int (nI 288))] [] rfl ?_
                refine g_nm (lv' := [(4, .int (nI (j + 1))), (5, .int (nI (nib (L 0 (j / 16)) (j % 16)))), (0, .ref (ad 0)), (2, .ref (ad 3)), (3, .int (nI 288))]) (st' := []) (by simp only [nI_add]) (by simp only [nI_add]) ?_
                refine g_lv (lv' := [(0, .ref (ad 0)), (2, .ref (ad 3)), (3, .int (nI 288)), (4, .int (nI (j + 1)))]) (lsub_c 2 rfl (lsub_c 3 rfl (lsub_c 4 rfl (lsub_c 0 rfl (lsub_n))))) ?_
                refine g_cs (ws' := WM ad g I L S Z Y ++ []) (lv' := [(0, .ref (ad 0)), (2, .ref (ad 3)), (3, .int (nI 288)), (4, .int (nI (j + 1)))]) (rfl) (rfl) ?_
                exact k218
              · rw [nz_eq (by omega)] at hc10; first | omega | (simp at hc10)
        · rw [nI_leI (by omega) (by omega)] at hc2; first | omega | (simp at hc2)
      · intro i hi hP71 k71
        refine g_run X KX9_isSoundNow_71_3 KX9_isSoundNow_71_3_d 73 [(0, .ref (ad 0)), (2, .int (nI i))] [.int (nI 4), .int (nI i)] rfl ?_
        refine g_icmp_ge X 207 dX9_isSoundNow_73 (by decide) (fun hc11 => ?_) (fun hc11 => ?_)
        · rw [nI_leI (by omega) (by omega)] at hc11; first | omega | (simp at hc11)
        · refine g_run X KX9_isSoundNow_76_17 KX9_isSoundNow_76_17_d 78 [(3, .int (nI 0)), (0, .ref (ad 0)), (2, .int (nI i))] [] rfl ?_
          refine g_lv (lv' := [(0, .ref (ad 0)), (2, .int (nI i)), (3, .int (nI 0))]) (lsub_c 1 rfl (lsub_c 2 rfl (lsub_c 0 rfl (lsub_n)))) ?_
          refine g_forP i (fun _ => WM ad g I L S Z Y ++ []) (fun t => [(0, .ref (ad 0)), (2, .int (nI i)), (3, .int (nI t))]) (fun t => ∀ j, j < t → fpr I j i) (fun _ h => absurd h (Nat.not_lt_zero _)) (rfl) (rfl) ?_ ?_
          · intro hP78
            refine g_run X KX9_isSoundNow_78_18 KX9_isSoundNow_78_18_d 80 [(0, .ref (ad 0)), (2, .int (nI i)), (3, .int (nI i))] [.int (nI i), .int (nI i)] rfl ?_
            refine g_icmp_ge X 201 dX9_isSoundNow_80 (by decide) (fun hc12 => ?_) (fun hc12 => ?_)
            · refine g_run X KX9_isSoundNow_201_19 KX9_isSoundNow_201_19_d 71 [(2, .int ((nI i) + (nI 1))), (0, .ref (ad 0)), (3, .int (nI i))] [] rfl ?_
              refine g_nm (lv' := [(2, .int (nI (i + 1))), (0, .ref (ad 0)), (3, .int (nI i))]) (st' := []) (by simp only [nI_add]) (by simp only [nI_add]) ?_
              refine g_lv (lv' := [(0, .ref (ad 0)), (2, .int (nI (i + 1)))]) (lsub_c 1 rfl (lsub_c 0 rfl (lsub_n))) ?_
              refine g_cs (ws' := WM ad g I L S Z Y ++ []) (lv' := [(0, .ref (ad 0)), (2, .int (nI (i + 1)))]) (rfl) (rfl) ?_
              exact k71 (fun k hk j hjk => by rcases Nat.lt_succ_iff_lt_or_eq.mp hk with h | h; exact hP71 k h j hjk; subst h; exact hP78 j hjk)
            · rw [nI_leI (by omega) (by omega)] at hc12; first | omega | (simp at hc12)
          · intro t ht hP78 k78
            refine g_run X KX9_isSoundNow_78_18 KX9_isSoundNow_78_18_d 80 [(0, .ref (ad 0)), (2, .int (nI i)), (3, .int (nI t))] [.int (nI i), .int (nI t)] rfl ?_
            refine g_icmp_ge X 201 dX9_isSoundNow_80 (by decide) (fun hc13 => ?_) (fun hc13 => ?_)
            · rw [nI_leI (by omega) (by omega)] at hc13; first | omega | (simp at hc13)
            · refine g_run X KX9_isSoundNow_83_20 KX9_isSoundNow_83_20_d 84 [(0, .ref (ad 0)), (2, .int (nI i)), (3, .int (nI t))] [.ref (ad 0)] rfl ?_
              refine g_get X srcW (v := .ref (ad 8)) hinX9 rfl 8 (by decide) w_1188 rfl (wm_mem (k := 0) (by decide)) rfl dX9_isSoundNow_84 ?_
              refine g_run X KX9_isSoundNow_87_21 KX9_isSoundNow_87_21_d 88 [(0, .ref (ad 0)), (2, .int (nI i)), (3, .int (nI t))] [.int (nI i), .ref (ad 8)] rfl ?_
              refine g_callV X hSB hAf (srcW) (hrc1 := (rfl : CL[9]? = some _)) (wm_mem (k := 8) (by decide)) rfl (As := [.int (nI i)]) (wr := []) (n := 1) (c_Jx4a65c_get_915e3 l D g ad I L S Z Y i (by omega)) rfl srcN hrdN w_1384 w_1381 w_1382 w_1383 w_9 (by decide +kernel) rfl ⟨Nat.le_of_ble_eq_true rfl, Nat.le_of_ble_eq_true rfl⟩ rfl rfl rfl (Nat.le_of_ble_eq_true rfl) ⟨Nat.le_of_ble_eq_true rfl, Nat.le_of_ble_eq_true rfl⟩ dX9_isSoundNow_88 (fun hu14 _ => ?_)
              refine g_af (ws' := WM ad g I L S Z Y ++ []) (st' := [.ref (ad (i + 13))]) (cells' := 0) (slots' := 0) (pc' := 91) rfl rfl rfl rfl rfl ?_
              refine g_cast X srcW (hc := (rfl : CL[7]? = some _)) (wm_fr (by omega)) w_1113 dX9_isSoundNow_91 ?_
              refine g_getN X srcW (host := "ChipfieldModel") (v := .int (I 5 i)) hinX8 rfl 0 (by decide) (nw_in n_1120 rfl) rfl (wm_fr (by omega)) rfl dX9_isSoundNow_94 ?_
              refine g_run X KX9_isSoundNow_97_22 KX9_isSoundNow_97_22_d 98 [(0, .ref (ad 0)), (2, .int (nI i)), (3, .int (nI t))] [.int (-nI 1), .int (I 5 i)] rfl ?_
              refine g_icmp_eq X 123 dX9_isSoundNow_98 (by decide) (fun hc15 => ?_) (fun hc15 => ?_)
              · have hpr : fpr I t i := Or.inr (Or.inl hc15)
                refine g_run X KX9_isSoundNow_123_23 KX9_isSoundNow_123_23_d 128 [(4, .int (nI 0)), (0, .ref (ad 0)), (2, .int (nI i)), (3, .int (nI t))] [.int (nI 0)] rfl ?_
                refine g_if_eq X 195 dX9_isSoundNow_128 (by decide) (fun hc16 => ?_) (fun hc16 => ?_)
                · refine g_run X KX9_isSoundNow_195_24 KX9_isSoundNow_195_24_d 78 [(3, .int ((nI t) + (nI 1))), (4, .int (nI 0)), (0, .ref (ad 0)), (2, .int (nI i))] [] rfl ?_
                  refine g_nm (lv' := [(3, .int (nI (t + 1))), (4, .int (nI 0)), (0, .ref (ad 0)), (2, .int (nI i))]) (st' := []) (by simp only [nI_add]) (by simp only [nI_add]) ?_
                  refine g_lv (lv' := [(0, .ref (ad 0)), (2, .int (nI i)), (3, .int (nI (t + 1)))]) (lsub_c 2 rfl (lsub_c 3 rfl (lsub_c 0 rfl (lsub_n)))) ?_
                  refine g_cs (ws' := WM ad g I L S Z Y ++ []) (lv' := [(0, .ref (ad 0)), (2, .int (nI i)), (3, .int (nI (t + 1)))]) (rfl) (rfl) ?_
                  exact k78 (fun j hj => by rcases Nat.lt_succ_iff_lt_or_eq.mp hj with h | h; exact hP78 j h; subst h; exact hpr)
                · exact absurd rfl hc16
              · have hLi := hc15
                refine g_run X KX9_isSoundNow_101_25 KX9_isSoundNow_101_25_d 102 [(0, .ref (ad 0)), (2, .int (nI i)), (3, .int (nI t))] [.ref (ad 0)] rfl ?_
                refine g_get X srcW (v := .ref (ad 8)) hinX9 rfl 8 (by decide) w_1188 rfl (wm_mem (k := 0) (by decide)) rfl dX9_isSoundNow_102 ?_
                refine g_run X KX9_isSoundNow_105_26 KX9_isSoundNow_105_26_d 106 [(0, .ref (ad 0)), (2, .int (nI i)), (3, .int (nI t))] [.int (nI t), .ref (ad 8)] rfl ?_
                refine g_callV X hSB hAf (srcW) (hrc1 := (rfl : CL[9]? = some _)) (wm_mem (k := 8) (by decide)) rfl (As := [.int (nI t)]) (wr := []) (n := 1) (c_Jx4a65c_get_915e3 l D g ad I L S Z Y t (by omega)) rfl srcN hrdN w_1384 w_1381 w_1382 w_1383 w_9 (by decide +kernel) rfl ⟨Nat.le_of_ble_eq_true rfl, Nat.le_of_ble_eq_true rfl⟩ rfl rfl rfl (Nat.le_of_ble_eq_true rfl) ⟨Nat.le_of_ble_eq_true rfl, Nat.le_of_ble_eq_true rfl⟩ dX9_isSoundNow_106 (fun hu17 _ => ?_)
                refine g_af (ws' := WM ad g I L S Z Y ++ []) (st' := [.ref (ad (t + 13))]) (cells' := 0) (slots' := 0) (pc' := 109) rfl rfl rfl rfl rfl ?_
                refine g_cast X srcW (hc := (rfl : CL[7]? = some _)) (wm_fr (by omega)) w_1113 dX9_isSoundNow_109 ?_
                refine g_getN X srcW (host := "ChipfieldModel") (v := .int (I 5 t)) hinX8 rfl 0 (by decide) (nw_in n_1120 rfl) rfl (wm_fr (by omega)) rfl dX9_isSoundNow_112 ?_
                refine g_run X KX9_isSoundNow_115_27 KX9_isSoundNow_115_27_d 116 [(0, .ref (ad 0)), (2, .int (nI i)), (3, .int (nI t))] [.int (-nI 1), .int (I 5 t)] rfl ?_
                refine g_icmp_eq X 123 dX9_isSoundNow_116 (by decide) (fun hc18 => ?_) (fun hc18 => ?_)
                · have hpr : fpr I t i := Or.inl hc18
                  refine g_run X KX9_isSoundNow_123_23 KX9_isSoundNow_123_23_d 128 [(4, .int (nI 0)), (0, .ref (ad 0)), (2, .int (nI i)), (3, .int (nI t))] [.int (nI 0)] rfl ?_
                  refine g_if_eq X 195 dX9_isSoundNow_128 (by decide) (fun hc19 => ?_) (fun hc19 => ?_)
                  · refine g_run X KX9_isSoundNow_195_24 KX9_isSoundNow_195_24_d 78 [(3, .int ((nI t) + (nI 1))), (4, .int (nI 0)), (0, .ref (ad 0)), (2, .int (nI i))] [] rfl ?_
                    refine g_nm (lv' := [(3, .int (nI (t + 1))), (4, .int (nI 0)), (0, .ref (ad 0)), (2, .int (nI i))]) (st' := []) (by simp only [nI_add]) (by simp only [nI_add]) ?_
                    refine g_lv (lv' := [(0, .ref (ad 0)), (2, .int (nI i)), (3, .int (nI (t + 1)))]) (lsub_c 2 rfl (lsub_c 3 rfl (lsub_c 0 rfl (lsub_n)))) ?_
                    refine g_cs (ws' := WM ad g I L S Z Y ++ []) (lv' := [(0, .ref (ad 0)), (2, .int (nI i)), (3, .int (nI (t + 1)))]) (rfl) (rfl) ?_
                    exact k78 (fun j hj => by rcases Nat.lt_succ_iff_lt_or_eq.mp hj with h | h; exact hP78 j h; subst h; exact hpr)
                  · exact absurd rfl hc19
                · have hLj := hc18
                  refine g_run X KX9_isSoundNow_119_28 KX9_isSoundNow_119_28_d 128 [(4, .int (nI 1)), (0, .ref (ad 0)), (2, .int (nI i)), (3, .int (nI t))] [.int (nI 1)] rfl ?_
                  refine g_if_eq X 195 dX9_isSoundNow_128 (by decide) (fun hc20 => ?_) (fun hc20 => ?_)
                  · exact absurd hc20 (by decide)
                  · refine g_run X KX9_isSoundNow_131_29 KX9_isSoundNow_131_29_d 132 [(4, .int (nI 1)), (0, .ref (ad 0)), (2, .int (nI i)), (3, .int (nI t))] [.ref (ad 0)] rfl ?_
                    refine g_get X srcW (v := .ref (ad 8)) hinX9 rfl 8 (by decide) w_1188 rfl (wm_mem (k := 0) (by decide)) rfl dX9_isSoundNow_132 ?_
                    refine g_run X KX9_isSoundNow_135_30 KX9_isSoundNow_135_30_d 136 [(4, .int (nI 1)), (0, .ref (ad 0)), (2, .int (nI i)), (3, .int (nI t))] [.int (nI i), .ref (ad 8)] rfl ?_
                    refine g_callV X hSB hAf (srcW) (hrc1 := (rfl : CL[9]? = some _)) (wm_mem (k := 8) (by decide)) rfl (As := [.int (nI i)]) (wr := []) (n := 1) (c_Jx4a65c_get_915e3 l D g ad I L S Z Y i (by omega)) rfl srcN hrdN w_1384 w_1381 w_1382 w_1383 w_9 (by decide +kernel) rfl ⟨Nat.le_of_ble_eq_true rfl, Nat.le_of_ble_eq_true rfl⟩ rfl rfl rfl (Nat.le_of_ble_eq_true rfl) ⟨Nat.le_of_ble_eq_true rfl, Nat.le_of_ble_eq_true rfl⟩ dX9_isSoundNow_136 (fun hu21 _ => ?_)
                    refine g_af (ws' := WM ad g I L S Z Y ++ []) (st' := [.ref (ad (i + 13))]) (cells' := 0) (slots' := 0) (pc' := 139) rfl rfl rfl rfl rfl ?_
                    refine g_cast X srcW (hc := (rfl : CL[7]? = some _)) (wm_fr (by omega)) w_1113 dX9_isSoundNow_139 ?_
                    refine g_getN X srcW (host := "ChipfieldModel") (v := .int (I 5 i)) hinX8 rfl 0 (by decide) (nw_in n_1120 rfl) rfl (wm_fr (by omega)) rfl dX9_isSoundNow_142 ?_
                    refine g_run X KX9_isSoundNow_145_31 KX9_isSoundNow_145_31_d 146 [(4, .int (nI 1)), (0, .ref (ad 0)), (2, .int (nI i)), (3, .int (nI t))] [.ref (ad 0), .int (I 5 i)] rfl ?_
                    refine g_get X srcW (v := .ref (ad 8)) hinX9 rfl 8 (by decide) w_1188 rfl (wm_mem (k := 0) (by decide)) rfl dX9_isSoundNow_146 ?_
                    refine g_run X KX9_isSoundNow_149_32 KX9_isSoundNow_149_32_d 150 [(4, .int (nI 1)), (0, .ref (ad 0)), (2, .int (nI i)), (3, .int (nI t))] [.int (nI t), .ref (ad 8), .int (I 5 i)] rfl ?_
                    refine g_callV X hSB hAf (srcW) (hrc1 := (rfl : CL[9]? = some _)) (wm_mem (k := 8) (by decide)) rfl (As := [.int (nI t)]) (wr := []) (n := 1) (c_Jx4a65c_get_915e3 l D g ad I L S Z Y t (by omega)) rfl srcN hrdN w_1384 w_1381 w_1382 w_1383 w_9 (by decide +kernel) rfl ⟨Nat.le_of_ble_eq_true rfl, Nat.le_of_ble_eq_true rfl⟩ rfl rfl rfl (Nat.le_of_ble_eq_true rfl) ⟨Nat.le_of_ble_eq_true rfl, Nat.le_of_ble_eq_true rfl⟩ dX9_isSoundNow_150 (fun hu22 _ => ?_)
                    refine g_af (ws' := WM ad g I L S Z Y ++ []) (st' := [.ref (ad (t + 13)), .int (I 5 i)]) (cells' := 0) (slots' := 0) (pc' := 153) rfl rfl rfl rfl rfl ?_
                    refine g_cast X srcW (hc := (rfl : CL[7]? = some _)) (wm_fr (by omega)) w_1113 dX9_isSoundNow_153 ?_
                    refine g_getN X srcW (host := "ChipfieldModel") (v := .int (I 5 t)) hinX8 rfl 0 (by decide) (nw_in n_1120 rfl) rfl (wm_fr (by omega)) rfl dX9_isSoundNow_156 ?_
                    refine g_icmp_eq X 193 dX9_isSoundNow_159 (by decide) (fun hc23 => ?_) (fun hc23 => ?_)
                    · have hno : ¬ snd I S := fun z => by
                        rcases z.2.2.1 t (by omega) i (by omega) (by omega) with h | h | h
                        · exact hLj h
                        · exact hLi h
                        · exact h.1 hc23.symm
                      refine g_run X KX9_isSoundNow_193_33 KX9_isSoundNow_193_33_d 194 [(4, .int (nI 1)), (0, .ref (ad 0)), (2, .int (nI i)), (3, .int (nI t))] [.int (nI 0)] rfl ?_
                      exact g_zret X hr (by decide +kernel) () (by show some (Value.int _) = some (Value.int _); rw [pB_f hno]) (trivial) (rfl) (Nat.le_of_ble_eq_true rfl) (Nat.le_of_ble_eq_true rfl) dX9_isSoundNow_194
                    · have hLL := hc23
                      refine g_run X KX9_isSoundNow_162_34 KX9_isSoundNow_162_34_d 163 [(4, .int (nI 1)), (0, .ref (ad 0)), (2, .int (nI i)), (3, .int (nI t))] [.ref (ad 0)] rfl ?_
                      refine g_get X srcW (v := .ref (ad 8)) hinX9 rfl 8 (by decide) w_1188 rfl (wm_mem (k := 0) (by decide)) rfl dX9_isSoundNow_163 ?_
                      refine g_run X KX9_isSoundNow_166_35 KX9_isSoundNow_166_35_d 167 [(4, .int (nI 1)), (0, .ref (ad 0)), (2, .int (nI i)), (3, .int (nI t))] [.int (nI i), .ref (ad 8)] rfl ?_
                      refine g_callV X hSB hAf (srcW) (hrc1 := (rfl : CL[9]? = some _)) (wm_mem (k := 8) (by decide)) rfl (As := [.int (nI i)]) (wr := []) (n := 1) (c_Jx4a65c_get_915e3 l D g ad I L S Z Y i (by omega)) rfl srcN hrdN w_1384 w_1381 w_1382 w_1383 w_9 (by decide +kernel) rfl ⟨Nat.le_of_ble_eq_true rfl, Nat.le_of_ble_eq_true rfl⟩ rfl rfl rfl (Nat.le_of_ble_eq_true rfl) ⟨Nat.le_of_ble_eq_true rfl, Nat.le_of_ble_eq_true rfl⟩ dX9_isSoundNow_167 (fun hu24 _ => ?_)
                      refine g_af (ws' := WM ad g I L S Z Y ++ []) (st' := [.ref (ad (i + 13))]) (cells' := 0) (slots' := 0) (pc' := 170) rfl rfl rfl rfl rfl ?_
                      refine g_cast X srcW (hc := (rfl : CL[7]? = some _)) (wm_fr (by omega)) w_1113 dX9_isSoundNow_170 ?_
                      refine g_getN X srcW (host := "ChipfieldModel") (v := .int (I 7 i)) hinX8 rfl 3 (by decide) (nw_in n_1123 rfl) rfl (wm_fr (by omega)) rfl dX9_isSoundNow_173 ?_
                      refine g_run X KX9_isSoundNow_176_36 KX9_isSoundNow_176_36_d 177 [(4, .int (nI 1)), (0, .ref (ad 0)), (2, .int (nI i)), (3, .int (nI t))] [.ref (ad 0), .int (I 7 i)] rfl ?_
                      refine g_get X srcW (v := .ref (ad 8)) hinX9 rfl 8 (by decide) w_1188 rfl (wm_mem (k := 0) (by decide)) rfl dX9_isSoundNow_177 ?_
                      refine g_run X KX9_isSoundNow_180_37 KX9_isSoundNow_180_37_d 181 [(4, .int (nI 1)), (0, .ref (ad 0)), (2, .int (nI i)), (3, .int (nI t))] [.int (nI t), .ref (ad 8), .int (I 7 i)] rfl ?_
                      refine g_callV X hSB hAf (srcW) (hrc1 := (rfl : CL[9]? = some _)) (wm_mem (k := 8) (by decide)) rfl (As := [.int (nI t)]) (wr := []) (n := 1) (c_Jx4a65c_get_915e3 l D g ad I L S Z Y t (by omega)) rfl srcN hrdN w_1384 w_1381 w_1382 w_1383 w_9 (by decide +kernel) rfl ⟨Nat.le_of_ble_eq_true rfl, Nat.le_of_ble_eq_true rfl⟩ rfl rfl rfl (Nat.le_of_ble_eq_true rfl) ⟨Nat.le_of_ble_eq_true rfl, Nat.le_of_ble_eq_true rfl⟩ dX9_isSoundNow_181 (fun hu25 _ => ?_)
                      refine g_af (ws' := WM ad g I L S Z Y ++ []) (st' := [.ref (ad (t + 13)), .int (I 7 i)]) (cells' := 0) (slots' := 0) (pc' := 184) rfl rfl rfl rfl rfl ?_
                      refine g_cast X srcW (hc := (rfl : CL[7]? = some _)) (wm_fr (by omega)) w_1113 dX9_isSoundNow_184 ?_
                      refine g_getN X srcW (host := "ChipfieldModel") (v := .int (I 7 t)) hinX8 rfl 3 (by decide) (nw_in n_1123 rfl) rfl (wm_fr (by omega)) rfl dX9_isSoundNow_187 ?_
                      refine g_icmp_ne X 195 dX9_isSoundNow_190 (by decide) (fun hc26 => ?_) (fun hc26 => ?_)
                      · have hpr : fpr I t i := Or.inr (Or.inr ⟨fun z => hLL z.symm, fun z => hc26 z.symm⟩)
                        refine g_run X KX9_isSoundNow_195_24 KX9_isSoundNow_195_24_d 78 [(3, .int ((nI t) + (nI 1))), (4, .int (nI 1)), (0, .ref (ad 0)), (2, .int (nI i))] [] rfl ?_
                        refine g_nm (lv' := [(3, .int (nI (t + 1))), (4, .int (nI 1)), (0, .ref (ad 0)), (2, .int (nI i))]) (st' := []) (by simp only [nI_add]) (by simp only [nI_add]) ?_
                        refine g_lv (lv' := [(0, .ref (ad 0)), (2, .int (nI i)), (3, .int (nI (t + 1)))]) (lsub_c 2 rfl (lsub_c 3 rfl (lsub_c 0 rfl (lsub_n)))) ?_
                        refine g_cs (ws' := WM ad g I L S Z Y ++ []) (lv' := [(0, .ref (ad 0)), (2, .int (nI i)), (3, .int (nI (t + 1)))]) (rfl) (rfl) ?_
                        exact k78 (fun j hj => by rcases Nat.lt_succ_iff_lt_or_eq.mp hj with h | h; exact hP78 j h; subst h; exact hpr)
                      · have hno : ¬ snd I S := fun z => by
                          rcases z.2.2.1 t (by omega) i (by omega) (by omega) with h | h | h
                          · exact hLj h
                          · exact hLi h
                          · exact h.2 hc26.symm
                        refine g_run X KX9_isSoundNow_193_33 KX9_isSoundNow_193_33_d 194 [(4, .int (nI 1)), (0, .ref (ad 0)), (2, .int (nI i)), (3, .int (nI t))] [.int (nI 0)] rfl ?_
                        exact g_zret X hr (by decide +kernel) () (by show some (Value.int _) = some (Value.int _); rw [pB_f hno]) (trivial) (rfl) (Nat.le_of_ble_eq_true rfl) (Nat.le_of_ble_eq_true rfl) dX9_isSoundNow_194
    · rw [nI_leI (by omega) (by omega)] at hc1; first | omega | (simp at hc1)
  · intro i hi hP4 k4
    have hsi := hS18 i hi
    have hsl := sset_lt hS18 (show i ≤ 15 by omega)
    refine g_run X KX9_isSoundNow_4_1 KX9_isSoundNow_4_1_d 7 [(0, .ref (ad 0)), (1, .int (nI (sset S i))), (2, .int (nI i))] [.int (nI 15), .int (nI i)] rfl ?_
    refine g_icmp_ge X 69 dX9_isSoundNow_7 (by decide) (fun hc27 => ?_) (fun hc27 => ?_)
    · rw [nI_leI (by omega) (by omega)] at hc27; first | omega | (simp at hc27)
    · refine g_run X KX9_isSoundNow_10_38 KX9_isSoundNow_10_38_d 11 [(0, .ref (ad 0)), (1, .int (nI (sset S i))), (2, .int (nI i))] [.ref (ad 0)] rfl ?_
      refine g_get X srcW (v := .ref (ad 6)) hinX9 rfl 6 (by decide) w_1186 rfl (wm_mem (k := 0) (by decide)) rfl dX9_isSoundNow_11 ?_
      refine g_run X KX9_isSoundNow_14_39 KX9_isSoundNow_14_39_d 15 [(0, .ref (ad 0)), (1, .int (nI (sset S i))), (2, .int (nI i))] [.ref (ad 0), .ref (ad 6)] rfl ?_
      refine g_get X srcW (v := .ref (ad 7)) hinX9 rfl 7 (by decide) w_1187 rfl (wm_mem (k := 0) (by decide)) rfl dX9_isSoundNow_15 ?_
      refine g_run X KX9_isSoundNow_18_40 KX9_isSoundNow_18_40_d 19 [(0, .ref (ad 0)), (1, .int (nI (sset S i))), (2, .int (nI i))] [.int (nI i), .ref (ad 7), .ref (ad 6)] rfl ?_
      refine g_iald X srcW (v := nI (S i)) 0 rfl (wm_mem (k := 7) (by decide)) i rfl (by omega) (by decide) (st_at (by omega)) dX9_isSoundNow_19 ?_
      refine g_aald X srcW (b := ad ((S i) + 17)) 3 rfl (wm_mem (k := 6) (by decide)) (S i) rfl (hS18 _ (by omega)) (by decide) (rfl) dX9_isSoundNow_20 ?_
      refine g_run X KX9_isSoundNow_21_41 KX9_isSoundNow_21_41_d 23 [(3, .ref (ad ((S i) + 17))), (0, .ref (ad 0)), (1, .int (nI (sset S i))), (2, .int (nI i))] [.ref (ad ((S i) + 17))] rfl ?_
      refine g_getN X srcW (host := "ChipfieldModel") (v := .int (I 0 (S i))) hinX7 rfl 0 (by decide) (nw_in n_1096 rfl) rfl (wm_ch (hS18 _ (by omega))) rfl dX9_isSoundNow_23 ?_
      refine g_run X KX9_isSoundNow_26_42 KX9_isSoundNow_26_42_d 27 [(3, .ref (ad ((S i) + 17))), (0, .ref (ad 0)), (1, .int (nI (sset S i))), (2, .int (nI i))] [.int (nI i), .int (I 0 (S i))] rfl ?_
      refine g_icmp_ne X 50 dX9_isSoundNow_27 (by decide) (fun hc28 => ?_) (fun hc28 => ?_)
      · exact absurd (hpl i (by omega)) hc28
      · refine g_run X KX9_isSoundNow_30_43 KX9_isSoundNow_30_43_d 31 [(3, .ref (ad ((S i) + 17))), (0, .ref (ad 0)), (1, .int (nI (sset S i))), (2, .int (nI i))] [.ref (ad ((S i) + 17))] rfl ?_
        refine g_getN X srcW (host := "ChipfieldModel") (v := .int (I 4 (S i))) hinX7 rfl 4 (by decide) (nw_in n_1101 rfl) rfl (wm_ch (hS18 _ (by omega))) rfl dX9_isSoundNow_31 ?_
        refine g_if_ne X 50 dX9_isSoundNow_34 (by decide) (fun hc29 => ?_) (fun hc29 => ?_)
        · have hno : ¬ snd I S := fun z => hc29 (z.1 i hi).1
          refine g_run X KX9_isSoundNow_50_44 KX9_isSoundNow_50_44_d 51 [(3, .ref (ad ((S i) + 17))), (0, .ref (ad 0)), (1, .int (nI (sset S i))), (2, .int (nI i))] [.int (nI 0)] rfl ?_
          exact g_zret X hr (by decide +kernel) () (by show some (Value.int _) = some (Value.int _); rw [pB_f hno]) (trivial) (rfl) (Nat.le_of_ble_eq_true rfl) (Nat.le_of_ble_eq_true rfl) dX9_isSoundNow_51
        · have ho := hc29
          refine g_run X KX9_isSoundNow_37_45 KX9_isSoundNow_37_45_d 39 [(3, .ref (ad ((S i) + 17))), (0, .ref (ad 0)), (1, .int (nI (sset S i))), (2, .int (nI i))] [.ref (ad 0), .int (nI (sset S i))] rfl ?_
          refine g_get X srcW (v := .ref (ad 7)) hinX9 rfl 7 (by decide) w_1187 rfl (wm_mem (k := 0) (by decide)) rfl dX9_isSoundNow_39 ?_
          refine g_run X KX9_isSoundNow_42_46 KX9_isSoundNow_42_46_d 43 [(3, .ref (ad ((S i) + 17))), (0, .ref (ad 0)), (1, .int (nI (sset S i))), (2, .int (nI i))] [.int (nI i), .ref (ad 7), .int (nI (sset S i))] rfl ?_
          refine g_iald X srcW (v := nI (S i)) 0 rfl (wm_mem (k := 7) (by decide)) i rfl (by omega) (by decide) (st_at (by omega)) dX9_isSoundNow_43 ?_
          refine g_callS X hSB hAf (As := [.int (nI (sset S i)), .int (nI (S i))]) (wr := WM ad g I L S Z Y ++ []) (n := 2) (c_X9_isIn l D g (sset S i) (S i) (Nat.lt_trans hsl (by decide)) (by omega)) rfl srcN hrdN w_1288 w_1286 w_1287 w_6 (by decide +kernel) rfl ⟨Nat.le_of_ble_eq_true rfl, Nat.le_of_ble_eq_true rfl⟩ rfl rfl rfl (Nat.le_of_ble_eq_true rfl) ⟨Nat.le_of_ble_eq_true rfl, Nat.le_of_ble_eq_true rfl⟩ dX9_isSoundNow_44 (fun hu30 _ => ?_)
          refine g_af (ws' := WM ad g I L S Z Y ++ []) (st' := [.int (nI (bN ((sset S i).testBit (S i))))]) (cells' := 0) (slots' := 0) (pc' := 47) rfl rfl rfl rfl rfl ?_
          refine g_if_eq X 52 dX9_isSoundNow_47 (by decide) (fun hc31 => ?_) (fun hc31 => ?_)
          · rw [bN_eq0] at hc31; have hin2 := hc31
            refine g_run X KX9_isSoundNow_52_47 KX9_isSoundNow_52_47_d 55 [(3, .ref (ad ((S i) + 17))), (0, .ref (ad 0)), (1, .int (nI (sset S i))), (2, .int (nI i))] [.ref (ad 0), .int (nI 1), .int (nI (sset S i))] rfl ?_
            refine g_get X srcW (v := .ref (ad 7)) hinX9 rfl 7 (by decide) w_1187 rfl (wm_mem (k := 0) (by decide)) rfl dX9_isSoundNow_55 ?_
            refine g_run X KX9_isSoundNow_58_48 KX9_isSoundNow_58_48_d 59 [(3, .ref (ad ((S i) + 17))), (0, .ref (ad 0)), (1, .int (nI (sset S i))), (2, .int (nI i))] [.int (nI i), .ref (ad 7), .int (nI 1), .int (nI (sset S i))] rfl ?_
            refine g_iald X srcW (v := nI (S i)) 0 rfl (wm_mem (k := 7) (by decide)) i rfl (by omega) (by decide) (st_at (by omega)) dX9_isSoundNow_59 ?_
            refine g_run X KX9_isSoundNow_60_49 KX9_isSoundNow_60_49_d 4 [(2, .int ((nI i) + (nI 1))), (1, .int ((nI (sset S i)) ||| ((nI 1) <<< ((nI (S i)) &&& 31)))), (3, .ref (ad ((S i) + 17))), (0, .ref (ad 0))] [] rfl ?_
            refine g_nm (lv' := [(2, .int (nI (i + 1))), (1, .int (nI ((sset S i) ||| (2 ^ (S i))))), (3, .ref (ad ((S i) + 17))), (0, .ref (ad 0))]) (st' := []) (by simp only [nI_add, nx_or, sh1 (show S i < 31 by omega)]) (by simp only [nI_add, nx_or, sh1 (show S i < 31 by omega)]) ?_
            refine g_lv (lv' := [(0, .ref (ad 0)), (1, .int (nI ((sset S i) ||| (2 ^ (S i))))), (2, .int (nI (i + 1)))]) (lsub_c 3 rfl (lsub_c 1 rfl (lsub_c 0 rfl (lsub_n)))) ?_
            refine g_cs (ws' := WM ad g I L S Z Y ++ []) (lv' := [(0, .ref (ad 0)), (1, .int (nI (sset S (i + 1)))), (2, .int (nI (i + 1)))]) (rfl) (by rw [sset]) ?_
            exact k4 (fun k hk => by rcases Nat.lt_succ_iff_lt_or_eq.mp hk with h | h; exact hP4 k h; subst h; exact ⟨ho, hin2⟩)
          · rw [bN_eq0] at hc31; have hno : ¬ snd I S := fun z => hc31 (z.1 i hi).2
            refine g_run X KX9_isSoundNow_50_44 KX9_isSoundNow_50_44_d 51 [(3, .ref (ad ((S i) + 17))), (0, .ref (ad 0)), (1, .int (nI (sset S i))), (2, .int (nI i))] [.int (nI 0)] rfl ?_
            exact g_zret X hr (by decide +kernel) () (by show some (Value.int _) = some (Value.int _); rw [pB_f hno]) (trivial) (rfl) (Nat.le_of_ble_eq_true rfl) (Nat.le_of_ble_eq_true rfl) dX9_isSoundNow_51

def KX9_isSound_0_0 : List (Nat × Instr × Nat) := [(0, .aload_n 0, 1), (1, .iconst 0, 1)]
theorem KX9_isSound_0_0_d : ∀ z ∈ KX9_isSound_0_0, decode cX9_isSound z.1 = .ok z.2 := by decide +kernel
def KX9_isSound_5_1 : List (Nat × Instr × Nat) := [(5, .aload_n 0, 1)]
theorem KX9_isSound_5_1_d : ∀ z ∈ KX9_isSound_5_1, decode cX9_isSound z.1 = .ok z.2 := by decide +kernel
set_option maxHeartbeats 4000000 in
set_option maxRecDepth 100000 in
theorem c_X9_isSound (l : Launch) (D : va_G) (g : Nat → ClassId) (ad : Nat → Nat) (I : Nat → Nat → Int32) (L : Nat → Nat → Int64) (S : Nat → Nat) (Z : Nat → Nat → Int32) (Y : Int64) (hS18 : ∀ p, p < 15 → S p < 18) (hpl : ∀ p, p < 15 → I 0 (S p) = nI p) : CT l yX9_isSound cX9_isSound 1 ((Option.some FieldType.boolean)) ({ frames := 4, cells := 0, slots := 0, locals := 89 } : Room) [.ref (ad 0)] D CL (TYS g) ([]) (WM ad g I L S Z Y) (S := Unit) (fun _ => some (.int (nI (pB (snd I S))))) (fun _ => WM ad g I L S (u2 Z 3 0 (nI 0)) Y) (fun _ => True) 0 0 := by
  refine ct_of (by decide +kernel) (Nat.le_of_ble_eq_true rfl) ?_
  intro p e s m below meth c A X hr hnm hSB hRO hAf
  refine g_cs (ws' := WM ad g I L S Z Y ++ []) (lv' := [(0, .ref (ad 0))]) (List.append_nil _) rfl ?_
  refine g_run X KX9_isSound_0_0 KX9_isSound_0_0_d 2 [(0, .ref (ad 0))] [.int (nI 0), .ref (ad 0)] rfl ?_
  refine g_put X (ws' := WM ad g I L S (u2 Z 3 0 (nI 0)) Y ++ []) hinX9 tyX9 tyX9_ok nmX9 rfl 0 (by decide) w_1180 rfl rfl (ty := .int) rfl rfl rfl (0) (wm_get (k := 0) (by decide)) (Nat.le_of_ble_eq_true rfl) (wm_mo0) dX9_isSound_2 ?_
  refine g_run X KX9_isSound_5_1 KX9_isSound_5_1_d 6 [(0, .ref (ad 0))] [.ref (ad 0)] rfl ?_
  refine g_callV X hSB hAf (srcW) (hrc1 := (rfl : CL[8]? = some _)) (wm_mem (k := 0) (by decide)) rfl (As := []) (wr := []) (n := 0) (c_X9_isSoundNow l D g ad I L S (u2 Z 3 0 (nI 0)) Y (hS18) (hpl)) rfl srcN hrdN w_1542 w_1539 w_1541 w_s41 w_6 (by decide +kernel) rfl ⟨Nat.le_of_ble_eq_true rfl, Nat.le_of_ble_eq_true rfl⟩ rfl rfl rfl (Nat.le_of_ble_eq_true rfl) ⟨Nat.le_of_ble_eq_true rfl, Nat.le_of_ble_eq_true rfl⟩ dX9_isSound_6 (fun hu1 _ => ?_)
  refine g_af (ws' := WM ad g I L S (u2 Z 3 0 (nI 0)) Y ++ []) (st' := [.int (nI (pB (snd I S)))]) (cells' := 0) (slots' := 0) (pc' := 9) rfl rfl rfl rfl rfl ?_
  exact g_zret X hr (by rcases Classical.em (snd I S) with h | h <;> first | (rw [pB_t h]; decide +kernel) | (rw [pB_f h]; decide +kernel)) () (rfl) (trivial) (rfl) (Nat.le_of_ble_eq_true rfl) (Nat.le_of_ble_eq_true rfl) dX9_isSound_9

def KX9_add_0_0 : List (Nat × Instr × Nat) := [(0, .aload_n 0, 1), (1, .aload_n 0, 1)]
theorem KX9_add_0_0_d : ∀ z ∈ KX9_add_0_0, decode cX9_add z.1 = .ok z.2 := by decide +kernel
def KX9_add_8_1 : List (Nat × Instr × Nat) := [(8, .lmul, 1), (9, .lload_n 1, 1), (10, .ladd, 1)]
theorem KX9_add_8_1_d : ∀ z ∈ KX9_add_8_1, decode cX9_add z.1 = .ok z.2 := by decide +kernel
set_option maxHeartbeats 4000000 in
set_option maxRecDepth 100000 in
theorem c_X9_add (l : Launch) (D : va_G) (g : Nat → ClassId) (ad : Nat → Nat) (I : Nat → Nat → Int32) (L : Nat → Nat → Int64) (S : Nat → Nat) (Z : Nat → Nat → Int32) (Y : Int64) (x : Int64) : CT l yX9_add cX9_add 3 ((Option.none : Option Jvm.ClassFile.FieldType)) ({ frames := 0, cells := 0, slots := 0, locals := 0 } : Room) [.ref (ad 0), .long x] D CL (TYS g) ([]) (WM ad g I L S Z Y) (S := Unit) (fun _ => none) (fun _ => WM ad g I L S Z (Y * 31 + x)) (fun _ => True) 0 0 := by
  refine ct_of (by decide +kernel) (Nat.le_of_ble_eq_true rfl) ?_
  intro p e s m below meth c A X hr hnm hSB hRO hAf
  refine g_cs (ws' := WM ad g I L S Z Y ++ []) (lv' := [(0, .ref (ad 0)), (1, .long x)]) (List.append_nil _) rfl ?_
  refine g_run X KX9_add_0_0 KX9_add_0_0_d 2 [(0, .ref (ad 0)), (1, .long x)] [.ref (ad 0), .ref (ad 0)] rfl ?_
  refine g_get X srcW (v := .long Y) hinX9 rfl 21 (by decide) w_1201 rfl (wm_mem (k := 0) (by decide)) rfl dX9_add_2 ?_
  refine g_ldc2 X (v := (31 : Int64)) w_1552 dX9_add_5 ?_
  refine g_run X KX9_add_8_1 KX9_add_8_1_d 11 [(0, .ref (ad 0)), (1, .long x)] [.long ((Y * (31 : Int64)) + x), .ref (ad 0)] rfl ?_
  refine g_put X (ws' := WM ad g I L S Z ((Y * (31 : Int64)) + x) ++ []) hinX9 tyX9 tyX9_ok nmX9 rfl 21 (by decide) w_1201 rfl rfl (ty := .long) rfl rfl rfl (0) (wm_get (k := 0) (by decide)) (Nat.le_of_ble_eq_true rfl) (wm_mo21) dX9_add_11 ?_
  exact g_vret X hr () rfl (trivial) (rfl) (Nat.le_of_ble_eq_true rfl) (Nat.le_of_ble_eq_true rfl) dX9_add_14

