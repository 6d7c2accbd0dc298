def KX9_replace_0_0 : List (Nat × Instr × Nat) := [(0, .aload_n 0, 1), (1, .iconst 0, 1)]
theorem KX9_replace_0_0_d : ∀ z ∈ KX9_replace_0_0, decode cX9_replace z.1 = .ok z.2 := by decide +kernel
def KX9_replace_5_1 : List (Nat × Instr × Nat) := [(5, .iload_n 1, 1)]
theorem KX9_replace_5_1_d : ∀ z ∈ KX9_replace_5_1, decode cX9_replace z.1 = .ok z.2 := by decide +kernel
def KX9_replace_18_2 : List (Nat × Instr × Nat) := [(18, .aload_n 0, 1)]
theorem KX9_replace_18_2_d : ∀ z ∈ KX9_replace_18_2, decode cX9_replace z.1 = .ok z.2 := by decide +kernel
def KX9_replace_31_3 : List (Nat × Instr × Nat) := [(31, .bipush 15, 2), (33, .istore_n 2, 1)]
theorem KX9_replace_31_3_d : ∀ z ∈ KX9_replace_31_3, decode cX9_replace z.1 = .ok z.2 := by decide +kernel
def KX9_replace_34_4 : List (Nat × Instr × Nat) := [(34, .aload_n 0, 1)]
theorem KX9_replace_34_4_d : ∀ z ∈ KX9_replace_34_4, decode cX9_replace z.1 = .ok z.2 := by decide +kernel
def KX9_replace_38_5 : List (Nat × Instr × Nat) := [(38, .iload_n 2, 1)]
theorem KX9_replace_38_5_d : ∀ z ∈ KX9_replace_38_5, decode cX9_replace z.1 = .ok z.2 := by decide +kernel
def KX9_replace_43_6 : List (Nat × Instr × Nat) := [(43, .iconst (-1), 1)]
theorem KX9_replace_43_6_d : ∀ z ∈ KX9_replace_43_6, decode cX9_replace z.1 = .ok z.2 := by decide +kernel
def KX9_replace_47_7 : List (Nat × Instr × Nat) := [(47, .aload_n 0, 1)]
theorem KX9_replace_47_7_d : ∀ z ∈ KX9_replace_47_7, decode cX9_replace z.1 = .ok z.2 := by decide +kernel
def KX9_replace_51_8 : List (Nat × Instr × Nat) := [(51, .iload_n 2, 1)]
theorem KX9_replace_51_8_d : ∀ z ∈ KX9_replace_51_8, decode cX9_replace z.1 = .ok z.2 := by decide +kernel
def KX9_replace_65_9 : List (Nat × Instr × Nat) := [(65, .aload_n 0, 1)]
theorem KX9_replace_65_9_d : ∀ z ∈ KX9_replace_65_9, decode cX9_replace z.1 = .ok z.2 := by decide +kernel
def KX9_replace_69_10 : List (Nat × Instr × Nat) := [(69, .istore_n 3, 1), (70, .iload_n 3, 1), (71, .iconst 1, 1), (72, .iload_n 1, 1), (73, .ishl, 1), (74, .ior, 1)]
theorem KX9_replace_69_10_d : ∀ z ∈ KX9_replace_69_10, decode cX9_replace z.1 = .ok z.2 := by decide +kernel
def KX9_replace_78_11 : List (Nat × Instr × Nat) := [(78, .iconst 4, 1)]
theorem KX9_replace_78_11_d : ∀ z ∈ KX9_replace_78_11, decode cX9_replace z.1 = .ok z.2 := by decide +kernel
def KX9_replace_88_12 : List (Nat × Instr × Nat) := [(88, .iconst 0, 1), (89, .istore 4, 2)]
theorem KX9_replace_88_12_d : ∀ z ∈ KX9_replace_88_12, decode cX9_replace z.1 = .ok z.2 := by decide +kernel
def KX9_replace_91_13 : List (Nat × Instr × Nat) := [(91, .iload 4, 2), (93, .bipush 16, 2)]
theorem KX9_replace_91_13_d : ∀ z ∈ KX9_replace_91_13, decode cX9_replace z.1 = .ok z.2 := by decide +kernel
def KX9_replace_147_14 : List (Nat × Instr × Nat) := [(147, .aload_n 0, 1)]
theorem KX9_replace_147_14_d : ∀ z ∈ KX9_replace_147_14, decode cX9_replace z.1 = .ok z.2 := by decide +kernel
def KX9_replace_151_15 : List (Nat × Instr × Nat) := [(151, .iload_n 1, 1)]
theorem KX9_replace_151_15_d : ∀ z ∈ KX9_replace_151_15, decode cX9_replace z.1 = .ok z.2 := by decide +kernel
def KX9_replace_153_16 : List (Nat × Instr × Nat) := [(153, .istore 4, 2), (155, .aload_n 0, 1)]
theorem KX9_replace_153_16_d : ∀ z ∈ KX9_replace_153_16, decode cX9_replace z.1 = .ok z.2 := by decide +kernel
def KX9_replace_159_17 : List (Nat × Instr × Nat) := [(159, .iload 4, 2)]
theorem KX9_replace_159_17_d : ∀ z ∈ KX9_replace_159_17, decode cX9_replace z.1 = .ok z.2 := by decide +kernel
def KX9_replace_162_18 : List (Nat × Instr × Nat) := [(162, .iconst (-1), 1)]
theorem KX9_replace_162_18_d : ∀ z ∈ KX9_replace_162_18, decode cX9_replace z.1 = .ok z.2 := by decide +kernel
def KX9_replace_166_19 : List (Nat × Instr × Nat) := [(166, .aload_n 0, 1)]
theorem KX9_replace_166_19_d : ∀ z ∈ KX9_replace_166_19, decode cX9_replace z.1 = .ok z.2 := by decide +kernel
def KX9_replace_170_20 : List (Nat × Instr × Nat) := [(170, .iload 4, 2)]
theorem KX9_replace_170_20_d : ∀ z ∈ KX9_replace_170_20, decode cX9_replace z.1 = .ok z.2 := by decide +kernel
def KX9_replace_173_21 : List (Nat × Instr × Nat) := [(173, .iconst 1, 1)]
theorem KX9_replace_173_21_d : ∀ z ∈ KX9_replace_173_21, decode cX9_replace z.1 = .ok z.2 := by decide +kernel
def KX9_replace_177_22 : List (Nat × Instr × Nat) := [(177, .aload_n 0, 1)]
theorem KX9_replace_177_22_d : ∀ z ∈ KX9_replace_177_22, decode cX9_replace z.1 = .ok z.2 := by decide +kernel
def KX9_replace_181_23 : List (Nat × Instr × Nat) := [(181, .iload_n 2, 1)]
theorem KX9_replace_181_23_d : ∀ z ∈ KX9_replace_181_23, decode cX9_replace z.1 = .ok z.2 := by decide +kernel
def KX9_replace_183_24 : List (Nat × Instr × Nat) := [(183, .iload_n 1, 1)]
theorem KX9_replace_183_24_d : ∀ z ∈ KX9_replace_183_24, decode cX9_replace z.1 = .ok z.2 := by decide +kernel
def KX9_replace_187_25 : List (Nat × Instr × Nat) := [(187, .aload_n 0, 1)]
theorem KX9_replace_187_25_d : ∀ z ∈ KX9_replace_187_25, decode cX9_replace z.1 = .ok z.2 := by decide +kernel
def KX9_replace_191_26 : List (Nat × Instr × Nat) := [(191, .iload_n 2, 1)]
theorem KX9_replace_191_26_d : ∀ z ∈ KX9_replace_191_26, decode cX9_replace z.1 = .ok z.2 := by decide +kernel
def KX9_replace_193_27 : List (Nat × Instr × Nat) := [(193, .iconst 0, 1)]
theorem KX9_replace_193_27_d : ∀ z ∈ KX9_replace_193_27, decode cX9_replace z.1 = .ok z.2 := by decide +kernel
def KX9_replace_197_28 : List (Nat × Instr × Nat) := [(197, .aload_n 0, 1)]
theorem KX9_replace_197_28_d : ∀ z ∈ KX9_replace_197_28, decode cX9_replace z.1 = .ok z.2 := by decide +kernel
def KX9_replace_201_29 : List (Nat × Instr × Nat) := [(201, .iload_n 2, 1)]
theorem KX9_replace_201_29_d : ∀ z ∈ KX9_replace_201_29, decode cX9_replace z.1 = .ok z.2 := by decide +kernel
def KX9_replace_203_30 : List (Nat × Instr × Nat) := [(203, .iconst 0, 1)]
theorem KX9_replace_203_30_d : ∀ z ∈ KX9_replace_203_30, decode cX9_replace z.1 = .ok z.2 := by decide +kernel
def KX9_replace_207_31 : List (Nat × Instr × Nat) := [(207, .aload_n 0, 1)]
theorem KX9_replace_207_31_d : ∀ z ∈ KX9_replace_207_31, decode cX9_replace z.1 = .ok z.2 := by decide +kernel
def KX9_replace_211_32 : List (Nat × Instr × Nat) := [(211, .iload_n 1, 1), (212, .iload_n 2, 1)]
theorem KX9_replace_211_32_d : ∀ z ∈ KX9_replace_211_32, decode cX9_replace z.1 = .ok z.2 := by decide +kernel
def KX9_replace_214_33 : List (Nat × Instr × Nat) := [(214, .iload_n 2, 1)]
theorem KX9_replace_214_33_d : ∀ z ∈ KX9_replace_214_33, decode cX9_replace z.1 = .ok z.2 := by decide +kernel
def KX9_replace_98_34 : List (Nat × Instr × Nat) := [(98, .aload_n 0, 1), (99, .iload 4, 2)]
theorem KX9_replace_98_34_d : ∀ z ∈ KX9_replace_98_34, decode cX9_replace z.1 = .ok z.2 := by decide +kernel
def KX9_replace_104_35 : List (Nat × Instr × Nat) := [(104, .astore 5, 2), (106, .aload_n 0, 1)]
theorem KX9_replace_104_35_d : ∀ z ∈ KX9_replace_104_35, decode cX9_replace z.1 = .ok z.2 := by decide +kernel
def KX9_replace_110_36 : List (Nat × Instr × Nat) := [(110, .iload_n 2, 1), (111, .bipush 16, 2), (113, .imul, 1), (114, .iload 4, 2), (116, .iadd, 1), (117, .aload_n 0, 1), (118, .aload 5, 2), (120, .iload_n 3, 1)]
theorem KX9_replace_110_36_d : ∀ z ∈ KX9_replace_110_36, decode cX9_replace z.1 = .ok z.2 := by decide +kernel
def KX9_replace_136_37 : List (Nat × Instr × Nat) := [(136, .aload 5, 2), (138, .iload_n 1, 1)]
theorem KX9_replace_136_37_d : ∀ z ∈ KX9_replace_136_37, decode cX9_replace z.1 = .ok z.2 := by decide +kernel
def KX9_replace_141_38 : List (Nat × Instr × Nat) := [(141, .iinc 4 1, 3), (144, .goto (-53), 3)]
theorem KX9_replace_141_38_d : ∀ z ∈ KX9_replace_141_38, decode cX9_replace z.1 = .ok z.2 := by decide +kernel
def KX9_replace_127_39 : List (Nat × Instr × Nat) := [(127, .aload_n 0, 1)]
theorem KX9_replace_127_39_d : ∀ z ∈ KX9_replace_127_39, decode cX9_replace z.1 = .ok z.2 := by decide +kernel
def KX9_replace_131_40 : List (Nat × Instr × Nat) := [(131, .iload_n 1, 1)]
theorem KX9_replace_131_40_d : ∀ z ∈ KX9_replace_131_40, decode cX9_replace z.1 = .ok z.2 := by decide +kernel
def KX9_replace_133_41 : List (Nat × Instr × Nat) := [(133, .goto 7, 3)]
theorem KX9_replace_133_41_d : ∀ z ∈ KX9_replace_133_41, decode cX9_replace z.1 = .ok z.2 := by decide +kernel
def KX9_replace_82_42 : List (Nat × Instr × Nat) := [(82, .iload_n 3, 1), (83, .iconst 1, 1), (84, .iload_n 1, 1), (85, .ishl, 1), (86, .ior, 1), (87, .istore_n 3, 1)]
theorem KX9_replace_82_42_d : ∀ z ∈ KX9_replace_82_42, decode cX9_replace z.1 = .ok z.2 := by decide +kernel
def KX9_replace_59_43 : List (Nat × Instr × Nat) := [(59, .iinc 2 1, 3), (62, .goto (-28), 3)]
theorem KX9_replace_59_43_d : ∀ z ∈ KX9_replace_59_43, decode cX9_replace z.1 = .ok z.2 := by decide +kernel
set_option maxHeartbeats 4000000 in
set_option maxRecDepth 100000 in
theorem c_X9_replace (l : Launch) (D : va_G) (g : Nat → ClassId) (ad : Nat → Nat) (I : Nat → Nat → Int32) (L : Nat → Nat → Int64) (S : Nat → Nat) (Z : Nat → Nat → Int32) (Y : Int64) (q : Nat) (n : Nat) (R : Nat → Nat) (hR : R16 R) (hZ : Z 0 = fun j => nI (R j)) (hS18 : ∀ p, p < 15 → S p < 18) (hK : kOK I) (hq : q < 15) (hsp : SPI I n) (hn : n < 18) : CT l yX9_replace cX9_replace 6 ((Option.some FieldType.int)) ({ frames := 4, cells := 16, slots := 240, locals := 101 } : Room) [.ref (ad 0), .int (nI q)] D CL (TYS g) ([]) (WM ad g I L S Z Y) (S := (Nat → Nat) × (Nat → Int32) × (Nat → Int32)) (fun _ => some (.int (nI n))) (fun u => WM ad g (rpI I S q n) (ffl (u2 I 8 5 (nI (n + 1))) L S q n (ffb (u2 I 8 5 (nI (n + 1))) S q) 16) (u1 S q n) (z4 (u2 Z 3 0 (nI 0)) u.1 u.2.1 u.2.2) Y) (fun u => R16 u.1) 16 240 := by
  refine ct_of (by decide +kernel) (Nat.le_of_ble_eq_true rfl) ?_
  intro p e s m below meth c A X hr hnm hSB hRO hAf
  refine g_cs (ws' := WM ad g I L S (z4 Z R (Z 1) (Z 2)) Y ++ []) (lv' := [(0, .ref (ad 0)), (1, .int (nI q))]) (by rw [z4_e hZ]; exact List.append_nil _) rfl ?_
  refine g_run X KX9_replace_0_0 KX9_replace_0_0_d 2 [(0, .ref (ad 0)), (1, .int (nI q))] [.int (nI 0), .ref (ad 0)] rfl ?_
  refine g_put X (ws' := WM ad g I L S (z4 (u2 Z 3 0 (nI 0)) R (Z 1) (Z 2)) Y ++ []) hinX9 tyX9 tyX9_ok nmX9 rfl 0 (by decide) w_1180 rfl rfl (ty := .int) rfl rfl rfl (0) (wm_get (k := 0) (by decide)) (Nat.le_of_ble_eq_true rfl) (wm_so0) dX9_replace_2 ?_
  refine g_run X KX9_replace_5_1 KX9_replace_5_1_d 6 [(0, .ref (ad 0)), (1, .int (nI q))] [.int (nI q)] rfl ?_
  refine g_callS X hSB hAf (As := [.int (nI q)]) (wr := WM ad g I L S (z4 (u2 Z 3 0 (nI 0)) R (Z 1) (Z 2)) Y ++ []) (n := 1) (c_X9_isPlace_t l D g q (by omega)) rfl srcN hrdN w_1335 w_1333 w_1334 w_6 (by decide +kernel) rfl ⟨Nat.le_of_ble_eq_true rfl, Nat.le_of_ble_eq_true rfl⟩ rfl rfl rfl (Nat.le_of_ble_eq_true rfl) ⟨Nat.le_of_ble_eq_true rfl, Nat.le_of_ble_eq_true rfl⟩ dX9_replace_6 (fun hu1 _ => ?_)
  refine g_af (ws' := WM ad g I L S (z4 (u2 Z 3 0 (nI 0)) R (Z 1) (Z 2)) Y ++ []) (st' := [.int (nI 1)]) (cells' := 0) (slots' := 0) (pc' := 9) rfl rfl rfl rfl rfl ?_
  refine g_if_ne X 18 dX9_replace_9 (by decide) (fun hc2 => ?_) (fun hc2 => ?_)
  · refine g_run X KX9_replace_18_2 KX9_replace_18_2_d 19 [(0, .ref (ad 0)), (1, .int (nI q))] [.ref (ad 0)] rfl ?_
    refine g_callV X hSB hAf (srcW) (hrc1 := (rfl : CL[8]? = some _)) (wm_mem (k := 0) (by decide)) rfl (As := []) (wr := []) (n := 0) (c_X9_spares l D g ad I L S (z4 (u2 Z 3 0 (nI 0)) R (Z 1) (Z 2)) Y ) rfl srcN hrdN w_1348 w_1345 w_1347 w_s24 w_6 (by decide +kernel) rfl ⟨Nat.le_of_ble_eq_true rfl, Nat.le_of_ble_eq_true rfl⟩ rfl rfl rfl (Nat.le_of_ble_eq_true rfl) ⟨Nat.le_of_ble_eq_true rfl, Nat.le_of_ble_eq_true rfl⟩ dX9_replace_19 (fun hu3 _ => ?_)
    refine g_af (ws' := WM ad g I L S (z4 (u2 Z 3 0 (nI 0)) R (Z 1) (Z 2)) Y ++ []) (st' := [.int (nI (spn I 18))]) (cells' := 0) (slots' := 0) (pc' := 22) rfl rfl rfl rfl rfl ?_
    refine g_st (st' := [.int (nI (18 - n))]) (by rw [spn_n hsp]) ?_
    refine g_if_ne X 31 dX9_replace_22 (by decide) (fun hc4 => ?_) (fun hc4 => ?_)
    · have hsn := sp_at hsp hn; have hn15 := hsp.2.1; have hb15 := pcn_15 (ers I S 15 ||| 2 ^ q)
      refine g_run X KX9_replace_31_3 KX9_replace_31_3_d 34 [(2, .int (nI 15)), (0, .ref (ad 0)), (1, .int (nI q))] [] rfl ?_
      refine g_lv (lv' := [(0, .ref (ad 0)), (1, .int (nI q)), (2, .int (nI 15))]) (lsub_c 1 rfl (lsub_c 2 rfl (lsub_c 0 rfl (lsub_n)))) ?_
      refine g_for (n - 15) (fun _ => WM ad g I L S (z4 (u2 Z 3 0 (nI 0)) R (Z 1) (Z 2)) Y ++ []) (fun t => [(0, .ref (ad 0)), (1, .int (nI q)), (2, .int (nI (15 + t)))]) (rfl) (rfl) ?_ ?_
      · refine g_nm (lv' := [(0, .ref (ad 0)), (1, .int (nI q)), (2, .int (nI n))]) (st' := []) (by rw [show 15 + (n - 15) = n by omega]) rfl ?_
        refine g_run X KX9_replace_34_4 KX9_replace_34_4_d 35 [(0, .ref (ad 0)), (1, .int (nI q)), (2, .int (nI n))] [.ref (ad 0)] rfl ?_
        refine g_get X srcW (v := .ref (ad 6)) hinX9 rfl 6 (by decide) w_1186 rfl (wm_mem (k := 0) (by decide)) rfl dX9_replace_35 ?_
        refine g_run X KX9_replace_38_5 KX9_replace_38_5_d 39 [(0, .ref (ad 0)), (1, .int (nI q)), (2, .int (nI n))] [.int (nI n), .ref (ad 6)] rfl ?_
        refine g_aald X srcW (b := ad (n + 17)) 3 rfl (wm_mem (k := 6) (by decide)) n rfl (by omega) (by decide) (rfl) dX9_replace_39 ?_
        refine g_getN X srcW (host := "ChipfieldModel") (v := .int (I 0 n)) hinX7 rfl 0 (by decide) (nw_in n_1096 rfl) rfl (wm_ch (by omega)) rfl dX9_replace_40 ?_
        refine g_run X KX9_replace_43_6 KX9_replace_43_6_d 44 [(0, .ref (ad 0)), (1, .int (nI q)), (2, .int (nI n))] [.int (-nI 1), .int (I 0 n)] rfl ?_
        refine g_icmp_ne X 59 dX9_replace_44 (by decide) (fun hc5 => ?_) (fun hc5 => ?_)
        · exact absurd hsn.1 hc5
        · refine g_run X KX9_replace_47_7 KX9_replace_47_7_d 48 [(0, .ref (ad 0)), (1, .int (nI q)), (2, .int (nI n))] [.ref (ad 0)] rfl ?_
          refine g_get X srcW (v := .ref (ad 6)) hinX9 rfl 6 (by decide) w_1186 rfl (wm_mem (k := 0) (by decide)) rfl dX9_replace_48 ?_
          refine g_run X KX9_replace_51_8 KX9_replace_51_8_d 52 [(0, .ref (ad 0)), (1, .int (nI q)), (2, .int (nI n))] [.int (nI n), .ref (ad 6)] rfl ?_
          refine g_aald X srcW (b := ad (n + 17)) 3 rfl (wm_mem (k := 6) (by decide)) n rfl (by omega) (by decide) (rfl) dX9_replace_52 ?_
          refine g_getN X srcW (host := "ChipfieldModel") (v := .int (I 4 n)) hinX7 rfl 4 (by decide) (nw_in n_1101 rfl) rfl (wm_ch (by omega)) rfl dX9_replace_53 ?_
          refine g_if_eq X 65 dX9_replace_56 (by decide) (fun hc6 => ?_) (fun hc6 => ?_)
          · refine g_run X KX9_replace_65_9 KX9_replace_65_9_d 66 [(0, .ref (ad 0)), (1, .int (nI q)), (2, .int (nI n))] [.ref (ad 0)] rfl ?_
            refine g_callV X hSB hAf (srcW) (hrc1 := (rfl : CL[8]? = some _)) (wm_mem (k := 0) (by decide)) rfl (As := []) (wr := []) (n := 0) (c_X9_erased l D g ad I L S (z4 (u2 Z 3 0 (nI 0)) R (Z 1) (Z 2)) Y (hS18)) rfl srcN hrdN w_1339 w_1336 w_1338 w_s23 w_6 (by decide +kernel) rfl ⟨Nat.le_of_ble_eq_true rfl, Nat.le_of_ble_eq_true rfl⟩ rfl rfl rfl (Nat.le_of_ble_eq_true rfl) ⟨Nat.le_of_ble_eq_true rfl, Nat.le_of_ble_eq_true rfl⟩ dX9_replace_66 (fun hu7 _ => ?_)
            refine g_af (ws' := WM ad g I L S (z4 (u2 Z 3 0 (nI 0)) R (Z 1) (Z 2)) Y ++ []) (st' := [.int (nI (ers I S 15))]) (cells' := 0) (slots' := 0) (pc' := 69) rfl rfl rfl rfl rfl ?_
            refine g_run X KX9_replace_69_10 KX9_replace_69_10_d 75 [(3, .int (nI (ers I S 15))), (0, .ref (ad 0)), (1, .int (nI q)), (2, .int (nI n))] [.int ((nI (ers I S 15)) ||| ((nI 1) <<< ((nI q) &&& 31)))] rfl ?_
            refine g_nm (lv' := [(3, .int (nI (ers I S 15))), (0, .ref (ad 0)), (1, .int (nI q)), (2, .int (nI n))]) (st' := [.int (nI ((ers I S 15) ||| (2 ^ q)))]) (by simp only [nx_or, sh1 (show q < 31 by omega)]) (by simp only [nx_or, sh1 (show q < 31 by omega)]) ?_
            refine g_callS X hSB hAf (As := [.int (nI ((ers I S 15) ||| (2 ^ q)))]) (wr := WM ad g I L S (z4 (u2 Z 3 0 (nI 0)) R (Z 1) (Z 2)) Y ++ []) (n := 1) (c_J6_bitCount_0f7a4 l D g ((ers I S 15) ||| (2 ^ q)) (or_lt (n := 15) (ers_lt _ _ _) (two_lt hq))) rfl srcN hrdN w_259 w_1340 w_258 w_24 (by decide +kernel) rfl ⟨Nat.le_of_ble_eq_true rfl, Nat.le_of_ble_eq_true rfl⟩ rfl rfl rfl (Nat.le_of_ble_eq_true rfl) ⟨Nat.le_of_ble_eq_true rfl, Nat.le_of_ble_eq_true rfl⟩ dX9_replace_75 (fun hu8 _ => ?_)
            refine g_af (ws' := WM ad g I L S (z4 (u2 Z 3 0 (nI 0)) R (Z 1) (Z 2)) Y ++ []) (st' := [.int (nI (pcn ((ers I S 15) ||| (2 ^ q)) 15))]) (cells' := 0) (slots' := 0) (pc' := 78) rfl rfl rfl rfl rfl ?_
            refine g_run X KX9_replace_78_11 KX9_replace_78_11_d 79 [(3, .int (nI (ers I S 15))), (0, .ref (ad 0)), (1, .int (nI q)), (2, .int (nI n))] [.int (nI 4), .int (nI (pcn ((ers I S 15) ||| (2 ^ q)) 15))] rfl ?_
            refine g_icmp_gt X 88 dX9_replace_79 (by decide) (fun hc9 => ?_) (fun hc9 => ?_)
            · rw [nI_ltI (by omega) (by omega)] at hc9; have hfb : ffb I S q = ers I S 15 := if_neg (by omega)
              refine g_nm (lv' := [(3, .int (nI (ffb I S q))), (0, .ref (ad 0)), (1, .int (nI q)), (2, .int (nI n))]) (st' := []) (by rw [hfb]) rfl ?_
              have hfl : ffb I S q < 2 ^ 15 := ffb_lt hq
              refine g_run X KX9_replace_88_12 KX9_replace_88_12_d 91 [(4, .int (nI 0)), (3, .int (nI (ffb I S q))), (0, .ref (ad 0)), (1, .int (nI q)), (2, .int (nI n))] [] rfl ?_
              refine g_lv (lv' := [(0, .ref (ad 0)), (1, .int (nI q)), (2, .int (nI n)), (3, .int (nI (ffb I S q))), (4, .int (nI 0))]) (lsub_c 2 rfl (lsub_c 3 rfl (lsub_c 4 rfl (lsub_c 1 rfl (lsub_c 0 rfl (lsub_n)))))) ?_
              refine g_forX (σ := (Nat → Nat) × (Nat → Int32) × (Nat → Int32)) 16 (fun uX91 i => WM ad g I (ffl I L S q n (ffb I S q) i) S (z4 (u2 Z 3 0 (nI 0)) uX91.1 uX91.2.1 uX91.2.2) Y ++ []) (fun i => [(0, .ref (ad 0)), (1, .int (nI q)), (2, .int (nI n)), (3, .int (nI (ffb I S q))), (4, .int (nI i))]) (fun uX91 i => R16 uX91.1) 1 15 (R, (Z 1), (Z 2)) (by assumption) (by rw [ffl]) (rfl) ?_ ?_
              · intro uX91 hP91
                refine g_widen (k := 16) (n := 240) (Nat.le_of_ble_eq_true rfl) (Nat.le_of_ble_eq_true rfl) ?_
                refine g_run X KX9_replace_91_13 KX9_replace_91_13_d 95 [(0, .ref (ad 0)), (1, .int (nI q)), (2, .int (nI n)), (3, .int (nI (ffb I S q))), (4, .int (nI 16))] [.int (nI 16), .int (nI 16)] rfl ?_
                refine g_icmp_ge X 147 dX9_replace_95 (by decide) (fun hc10 => ?_) (fun hc10 => ?_)
                · refine g_run X KX9_replace_147_14 KX9_replace_147_14_d 148 [(0, .ref (ad 0)), (1, .int (nI q)), (2, .int (nI n)), (3, .int (nI (ffb I S q))), (4, .int (nI 16))] [.ref (ad 0)] rfl ?_
                  refine g_get X srcW (v := .ref (ad 7)) hinX9 rfl 7 (by decide) w_1187 rfl (wm_mem (k := 0) (by decide)) rfl dX9_replace_148 ?_
                  refine g_run X KX9_replace_151_15 KX9_replace_151_15_d 152 [(0, .ref (ad 0)), (1, .int (nI q)), (2, .int (nI n)), (3, .int (nI (ffb I S q))), (4, .int (nI 16))] [.int (nI q), .ref (ad 7)] rfl ?_
                  refine g_iald X srcW (v := nI (S q)) 0 rfl (wm_mem (k := 7) (by decide)) q rfl (by omega) (by decide) (st_at (by omega)) dX9_replace_152 ?_
                  refine g_run X KX9_replace_153_16 KX9_replace_153_16_d 156 [(4, .int (nI (S q))), (0, .ref (ad 0)), (1, .int (nI q)), (2, .int (nI n)), (3, .int (nI (ffb I S q)))] [.ref (ad 0)] rfl ?_
                  refine g_get X srcW (v := .ref (ad 6)) hinX9 rfl 6 (by decide) w_1186 rfl (wm_mem (k := 0) (by decide)) rfl dX9_replace_156 ?_
                  refine g_run X KX9_replace_159_17 KX9_replace_159_17_d 161 [(4, .int (nI (S q))), (0, .ref (ad 0)), (1, .int (nI q)), (2, .int (nI n)), (3, .int (nI (ffb I S q)))] [.int (nI (S q)), .ref (ad 6)] rfl ?_
                  refine g_aald X srcW (b := ad ((S q) + 17)) 3 rfl (wm_mem (k := 6) (by decide)) (S q) rfl (hS18 _ (by omega)) (by decide) (rfl) dX9_replace_161 ?_
                  refine g_run X KX9_replace_162_18 KX9_replace_162_18_d 163 [(4, .int (nI (S q))), (0, .ref (ad 0)), (1, .int (nI q)), (2, .int (nI n)), (3, .int (nI (ffb I S q)))] [.int (-nI 1), .ref (ad ((S q) + 17))] rfl ?_
                  refine g_putN X (ws' := WM ad g (u2 I 0 (S q) (-nI 1)) (ffl I L S q n (ffb I S q) 16) S (z4 (u2 Z 3 0 (nI 0)) uX91.1 uX91.2.1 uX91.2.2) Y ++ []) hinX7 tyX7 tyX7_ok nmX7 rfl 0 (by decide) (nw_in n_1096 rfl) rfl rfl (ty := .int) rfl rfl rfl ((S q) + 17) (wm_chG (hS18 _ (by omega))) (Nat.le_of_ble_eq_true rfl) (wm_ch0 (hS18 _ (by omega))) dX9_replace_163 ?_
                  refine g_run X KX9_replace_166_19 KX9_replace_166_19_d 167 [(4, .int (nI (S q))), (0, .ref (ad 0)), (1, .int (nI q)), (2, .int (nI n)), (3, .int (nI (ffb I S q)))] [.ref (ad 0)] rfl ?_
                  refine g_get X srcW (v := .ref (ad 6)) hinX9 rfl 6 (by decide) w_1186 rfl (wm_mem (k := 0) (by decide)) rfl dX9_replace_167 ?_
                  refine g_run X KX9_replace_170_20 KX9_replace_170_20_d 172 [(4, .int (nI (S q))), (0, .ref (ad 0)), (1, .int (nI q)), (2, .int (nI n)), (3, .int (nI (ffb I S q)))] [.int (nI (S q)), .ref (ad 6)] rfl ?_
                  refine g_aald X srcW (b := ad ((S q) + 17)) 3 rfl (wm_mem (k := 6) (by decide)) (S q) rfl (hS18 _ (by omega)) (by decide) (rfl) dX9_replace_172 ?_
                  refine g_run X KX9_replace_173_21 KX9_replace_173_21_d 174 [(4, .int (nI (S q))), (0, .ref (ad 0)), (1, .int (nI q)), (2, .int (nI n)), (3, .int (nI (ffb I S q)))] [.int (nI 1), .ref (ad ((S q) + 17))] rfl ?_
                  refine g_putN X (ws' := WM ad g (u2 (u2 I 0 (S q) (-nI 1)) 4 (S q) (nI 1)) (ffl I L S q n (ffb I S q) 16) S (z4 (u2 Z 3 0 (nI 0)) uX91.1 uX91.2.1 uX91.2.2) Y ++ []) hinX7 tyX7 tyX7_ok nmX7 rfl 4 (by decide) (nw_in n_1101 rfl) rfl rfl (ty := .boolean) rfl (by decide +kernel) rfl ((S q) + 17) (wm_chG (hS18 _ (by omega))) (Nat.le_of_ble_eq_true rfl) (wm_ch4 (hS18 _ (by omega))) dX9_replace_174 ?_
                  refine g_run X KX9_replace_177_22 KX9_replace_177_22_d 178 [(4, .int (nI (S q))), (0, .ref (ad 0)), (1, .int (nI q)), (2, .int (nI n)), (3, .int (nI (ffb I S q)))] [.ref (ad 0)] rfl ?_
                  refine g_get X srcW (v := .ref (ad 6)) hinX9 rfl 6 (by decide) w_1186 rfl (wm_mem (k := 0) (by decide)) rfl dX9_replace_178 ?_
                  refine g_run X KX9_replace_181_23 KX9_replace_181_23_d 182 [(4, .int (nI (S q))), (0, .ref (ad 0)), (1, .int (nI q)), (2, .int (nI n)), (3, .int (nI (ffb I S q)))] [.int (nI n), .ref (ad 6)] rfl ?_
                  refine g_aald X srcW (b := ad (n + 17)) 3 rfl (wm_mem (k := 6) (by decide)) n rfl (by omega) (by decide) (rfl) dX9_replace_182 ?_
                  refine g_run X KX9_replace_183_24 KX9_replace_183_24_d 184 [(4, .int (nI (S q))), (0, .ref (ad 0)), (1, .int (nI q)), (2, .int (nI n)), (3, .int (nI (ffb I S q)))] [.int (nI q), .ref (ad (n + 17))] rfl ?_
                  refine g_putN X (ws' := WM ad g (u2 (u2 (u2 I 0 (S q) (-nI 1)) 4 (S q) (nI 1)) 0 n (nI q)) (ffl I L S q n (ffb I S q) 16) S (z4 (u2 Z 3 0 (nI 0)) uX91.1 uX91.2.1 uX91.2.2) Y ++ []) hinX7 tyX7 tyX7_ok nmX7 rfl 0 (by decide) (nw_in n_1096 rfl) rfl rfl (ty := .int) rfl rfl rfl (n + 17) (wm_chG (by omega)) (Nat.le_of_ble_eq_true rfl) (wm_ch0 (by omega)) dX9_replace_184 ?_
                  refine g_run X KX9_replace_187_25 KX9_replace_187_25_d 188 [(4, .int (nI (S q))), (0, .ref (ad 0)), (1, .int (nI q)), (2, .int (nI n)), (3, .int (nI (ffb I S q)))] [.ref (ad 0)] rfl ?_
                  refine g_get X srcW (v := .ref (ad 6)) hinX9 rfl 6 (by decide) w_1186 rfl (wm_mem (k := 0) (by decide)) rfl dX9_replace_188 ?_
                  refine g_run X KX9_replace_191_26 KX9_replace_191_26_d 192 [(4, .int (nI (S q))), (0, .ref (ad 0)), (1, .int (nI q)), (2, .int (nI n)), (3, .int (nI (ffb I S q)))] [.int (nI n), .ref (ad 6)] rfl ?_
                  refine g_aald X srcW (b := ad (n + 17)) 3 rfl (wm_mem (k := 6) (by decide)) n rfl (by omega) (by decide) (rfl) dX9_replace_192 ?_
                  refine g_run X KX9_replace_193_27 KX9_replace_193_27_d 194 [(4, .int (nI (S q))), (0, .ref (ad 0)), (1, .int (nI q)), (2, .int (nI n)), (3, .int (nI (ffb I S q)))] [.int (nI 0), .ref (ad (n + 17))] rfl ?_
                  refine g_putN X (ws' := WM ad g (u2 (u2 (u2 (u2 I 0 (S q) (-nI 1)) 4 (S q) (nI 1)) 0 n (nI q)) 3 n (nI 0)) (ffl I L S q n (ffb I S q) 16) S (z4 (u2 Z 3 0 (nI 0)) uX91.1 uX91.2.1 uX91.2.2) Y ++ []) hinX7 tyX7 tyX7_ok nmX7 rfl 3 (by decide) (nw_in n_1100 rfl) rfl rfl (ty := .boolean) rfl (by decide +kernel) rfl (n + 17) (wm_chG (by omega)) (Nat.le_of_ble_eq_true rfl) (wm_ch3 (by omega)) dX9_replace_194 ?_
                  refine g_run X KX9_replace_197_28 KX9_replace_197_28_d 198 [(4, .int (nI (S q))), (0, .ref (ad 0)), (1, .int (nI q)), (2, .int (nI n)), (3, .int (nI (ffb I S q)))] [.ref (ad 0)] rfl ?_
                  refine g_get X srcW (v := .ref (ad 6)) hinX9 rfl 6 (by decide) w_1186 rfl (wm_mem (k := 0) (by decide)) rfl dX9_replace_198 ?_
                  refine g_run X KX9_replace_201_29 KX9_replace_201_29_d 202 [(4, .int (nI (S q))), (0, .ref (ad 0)), (1, .int (nI q)), (2, .int (nI n)), (3, .int (nI (ffb I S q)))] [.int (nI n), .ref (ad 6)] rfl ?_
                  refine g_aald X srcW (b := ad (n + 17)) 3 rfl (wm_mem (k := 6) (by decide)) n rfl (by omega) (by decide) (rfl) dX9_replace_202 ?_
                  refine g_run X KX9_replace_203_30 KX9_replace_203_30_d 204 [(4, .int (nI (S q))), (0, .ref (ad 0)), (1, .int (nI q)), (2, .int (nI n)), (3, .int (nI (ffb I S q)))] [.int (nI 0), .ref (ad (n + 17))] rfl ?_
                  refine g_putN X (ws' := WM ad g (u2 (u2 (u2 (u2 (u2 I 0 (S q) (-nI 1)) 4 (S q) (nI 1)) 0 n (nI q)) 3 n (nI 0)) 2 n (nI 0)) (ffl I L S q n (ffb I S q) 16) S (z4 (u2 Z 3 0 (nI 0)) uX91.1 uX91.2.1 uX91.2.2) Y ++ []) hinX7 tyX7 tyX7_ok nmX7 rfl 2 (by decide) (nw_in n_1099 rfl) rfl rfl (ty := .int) rfl rfl rfl (n + 17) (wm_chG (by omega)) (Nat.le_of_ble_eq_true rfl) (wm_ch2 (by omega)) dX9_replace_204 ?_
                  refine g_run X KX9_replace_207_31 KX9_replace_207_31_d 208 [(4, .int (nI (S q))), (0, .ref (ad 0)), (1, .int (nI q)), (2, .int (nI n)), (3, .int (nI (ffb I S q)))] [.ref (ad 0)] rfl ?_
                  refine g_get X srcW (v := .ref (ad 7)) hinX9 rfl 7 (by decide) w_1187 rfl (wm_mem (k := 0) (by decide)) rfl dX9_replace_208 ?_
                  refine g_run X KX9_replace_211_32 KX9_replace_211_32_d 213 [(4, .int (nI (S q))), (0, .ref (ad 0)), (1, .int (nI q)), (2, .int (nI n)), (3, .int (nI (ffb I S q)))] [.int (nI n), .int (nI q), .ref (ad 7)] rfl ?_
                  refine g_iast X (ws' := WM ad g (u2 (u2 (u2 (u2 (u2 I 0 (S q) (-nI 1)) 4 (S q) (nI 1)) 0 n (nI q)) 3 n (nI 0)) 2 n (nI 0)) (ffl I L S q n (ffb I S q) 16) (u1 S q n) (z4 (u2 Z 3 0 (nI 0)) uX91.1 uX91.2.1 uX91.2.2) Y ++ []) 0 rfl 7 (wm_get (k := 7) (by decide)) q rfl (by omega) (by decide) (wm_se (by omega)) dX9_replace_213 ?_
                  refine g_run X KX9_replace_214_33 KX9_replace_214_33_d 215 [(4, .int (nI (S q))), (0, .ref (ad 0)), (1, .int (nI q)), (2, .int (nI n)), (3, .int (nI (ffb I S q)))] [.int (nI n)] rfl ?_
                  exact g_iret X hr (uX91.1, uX91.2.1, uX91.2.2) (rfl) (by assumption) (by show _ = WM ad g (rpI I S q n) (ffl (u2 I 8 5 (nI (n + 1))) L S q n (ffb (u2 I 8 5 (nI (n + 1))) S q) 16) (u1 S q n) _ Y ++ []; rw [rp_w hsp hn, ffb_8, ffl_8]) (Nat.le_of_ble_eq_true rfl) (Nat.le_of_ble_eq_true rfl) dX9_replace_215
                · rw [nI_leI (by omega) (by omega)] at hc10; first | omega | (simp at hc10)
              · intro i hi uX91 hP91 k91
                have hR91 : R16 uX91.1 := hP91
                refine g_run X KX9_replace_91_13 KX9_replace_91_13_d 95 [(0, .ref (ad 0)), (1, .int (nI q)), (2, .int (nI n)), (3, .int (nI (ffb I S q))), (4, .int (nI i))] [.int (nI 16), .int (nI i)] rfl ?_
                refine g_icmp_ge X 147 dX9_replace_95 (by decide) (fun hc11 => ?_) (fun hc11 => ?_)
                · rw [nI_leI (by omega) (by omega)] at hc11; first | omega | (simp at hc11)
                · refine g_run X KX9_replace_98_34 KX9_replace_98_34_d 101 [(0, .ref (ad 0)), (1, .int (nI q)), (2, .int (nI n)), (3, .int (nI (ffb I S q))), (4, .int (nI i))] [.int (nI i), .ref (ad 0)] rfl ?_
                  refine g_callV X hSB hAf (srcW) (hrc1 := (rfl : CL[8]? = some _)) (wm_mem (k := 0) (by decide)) rfl (As := [.int (nI i)]) (wr := []) (n := 1) (c_X9_read l D g ad I (ffl I L S q n (ffb I S q) i) S (z4 (u2 Z 3 0 (nI 0)) uX91.1 uX91.2.1 uX91.2.2) Y i (hS18) (by omega) (by omega)) rfl srcN hrdN w_1272 w_1269 w_1271 w_s13 w_6 (by decide +kernel) rfl ⟨Nat.le_of_ble_eq_true rfl, Nat.le_of_ble_eq_true rfl⟩ rfl rfl rfl (Nat.le_of_ble_eq_true rfl) ⟨by show (0 + i * 1) + 1 ≤ 16; omega, by show (0 + i * 15) + 15 ≤ 240; omega⟩ dX9_replace_101 (fun hu12 _ => ?_)
                  refine g_af (ws' := WM ad g I (ffl I L S q n (ffb I S q) i) S (z4 (u2 Z 3 0 (nI 0)) uX91.1 uX91.2.1 uX91.2.2) Y ++ [(hu12, Sum.inl (g 0, 15, .inl (wA (rwd I (ffl I L S q n (ffb I S q) i) S i 15))))]) (st' := [.ref hu12]) (cells' := 0 + i * 1 + 1) (slots' := 0 + i * 15 + 15) (pc' := 104) ((List.append_assoc _ ([(hu12, Sum.inl (g 0, 15, .inl (wA (rwd I (ffl I L S q n (ffb I S q) i) S i 15))))] : va_W) []).symm) rfl rfl rfl rfl ?_
                  refine g_run X KX9_replace_104_35 KX9_replace_104_35_d 107 [(5, .ref hu12), (0, .ref (ad 0)), (1, .int (nI q)), (2, .int (nI n)), (3, .int (nI (ffb I S q))), (4, .int (nI i))] [.ref (ad 0)] rfl ?_
                  refine g_get X srcW (v := .ref (ad 3)) hinX9 rfl 3 (by decide) w_1183 rfl (wm_mem (k := 0) (by decide)) rfl dX9_replace_107 ?_
                  refine g_run X KX9_replace_110_36 KX9_replace_110_36_d 121 [(5, .ref hu12), (0, .ref (ad 0)), (1, .int (nI q)), (2, .int (nI n)), (3, .int (nI (ffb I S q))), (4, .int (nI i))] [.int (nI (ffb I S q)), .ref hu12, .ref (ad 0), .int (((nI n) * (nI 16)) + (nI i)), .ref (ad 3)] rfl ?_
                  refine g_nm (lv' := [(5, .ref hu12), (0, .ref (ad 0)), (1, .int (nI q)), (2, .int (nI n)), (3, .int (nI (ffb I S q))), (4, .int (nI i))]) (st' := [.int (nI (ffb I S q)), .ref hu12, .ref (ad 0), .int (nI ((n * 16) + i)), .ref (ad 3)]) (by simp only [nI_add, pk_mul]) (by simp only [nI_add, pk_mul]) ?_
                  refine g_callV X hSB hAf (srcW) (hrc1 := (rfl : CL[8]? = some _)) (wm_mem (k := 0) (by decide)) rfl (As := [.ref hu12, .int (nI (ffb I S q))]) (wr := [(hu12, Sum.inl (g 0, 15, .inl (wA (rwd I (ffl I L S q n (ffb I S q) i) S i 15))))]) (n := 2) (c_X9_mend l D g ad I (ffl I L S q n (ffb I S q) i) S (z4 (u2 Z 3 0 (nI 0)) uX91.1 uX91.2.1 uX91.2.2) Y hu12 (rwd I (ffl I L S q n (ffb I S q) i) S i 15) (ffb I S q) uX91.1 (by assumption) (rfl) (hfl)) rfl (src_sub (wt_mem (by simp))) (hrdT rfl (by simp)) w_1352 w_1349 w_1351 w_s25 w_6 (by decide +kernel) rfl ⟨Nat.le_of_ble_eq_true rfl, Nat.le_of_ble_eq_true rfl⟩ rfl rfl rfl (Nat.le_of_ble_eq_true rfl) ⟨by show (0 + i * 1 + 1) + 0 ≤ 16; omega, by show (0 + i * 15 + 15) + 0 ≤ 240; omega⟩ dX9_replace_121 (fun hu13 hp_hu13 => ?_)
                  refine g_af (ws' := WM ad g I (ffl I L S q n (ffb I S q) i) S (z4 (u2 Z 3 0 (nI 0)) hu13.1 hu13.2 (mdA uX91.2.2 (mw (ffb I S q) (rwd I (ffl I L S q n (ffb I S q) i) S i 15)))) Y ++ [(hu12, Sum.inl (g 0, 15, .inl (wA (rwd I (ffl I L S q n (ffb I S q) i) S i 15))))]) (st' := [.int (nI (sB (mw (ffb I S q) (rwd I (ffl I L S q n (ffb I S q) i) S i 15)))), .int (nI ((n * 16) + i)), .ref (ad 3)]) (cells' := 0 + i * 1 + 1) (slots' := 0 + i * 15 + 15) (pc' := 124) (congrArg (fun z => (WM ad g I (ffl I L S q n (ffb I S q) i) S z Y) ++ [(hu12, Sum.inl (g 0, 15, .inl (wA (rwd I (ffl I L S q n (ffb I S q) i) S i 15))))]) z4_z4.symm) rfl rfl rfl rfl ?_
                  refine g_if_eq X 136 dX9_replace_124 (by decide) (fun hc14 => ?_) (fun hc14 => ?_)
                  · rw [sB_0] at hc14; have hfw : ffw I (ffl I L S q n (ffb I S q) i) S (ffb I S q) i = rwd I (ffl I L S q n (ffb I S q) i) S i 15 := if_pos (by rw [hc14]; rfl)
                    refine g_run X KX9_replace_136_37 KX9_replace_136_37_d 139 [(5, .ref hu12), (0, .ref (ad 0)), (1, .int (nI q)), (2, .int (nI n)), (3, .int (nI (ffb I S q))), (4, .int (nI i))] [.int (nI q), .ref hu12, .int (nI ((n * 16) + i)), .ref (ad 3)] rfl ?_
                    refine g_iald X srcW (v := nI (nib (rwd I (ffl I L S q n (ffb I S q) i) S i 15) q)) 0 rfl (wt_mem (List.mem_cons_self ..)) q rfl (by omega) (by decide) (rfl) dX9_replace_139 ?_
                    refine g_iast X (ws' := WM ad g I (u2 (ffl I L S q n (ffb I S q) i) 0 n (wn ((ffl I L S q n (ffb I S q) i) 0 n) i (nib (rwd I (ffl I L S q n (ffb I S q) i) S i 15) q))) S (z4 (u2 Z 3 0 (nI 0)) hu13.1 hu13.2 (mdA uX91.2.2 (mw (ffb I S q) (rwd I (ffl I L S q n (ffb I S q) i) S i 15)))) Y ++ [(hu12, Sum.inl (g 0, 15, .inl (wA (rwd I (ffl I L S q n (ffb I S q) i) S i 15))))]) 0 rfl 3 (wm_get (k := 3) (by decide)) ((n * 16) + i) rfl (by omega) (by decide) (wm_ar0 (c := n) (q := i) (by omega) (nib_lt _ _)) dX9_replace_140 ?_
                    refine g_run X KX9_replace_141_38 KX9_replace_141_38_d 91 [(4, .int ((nI i) + (nI 1))), (5, .ref hu12), (0, .ref (ad 0)), (1, .int (nI q)), (2, .int (nI n)), (3, .int (nI (ffb I S q)))] [] rfl ?_
                    refine g_nm (lv' := [(4, .int (nI (i + 1))), (5, .ref hu12), (0, .ref (ad 0)), (1, .int (nI q)), (2, .int (nI n)), (3, .int (nI (ffb I S q)))]) (st' := []) (by simp only [nI_add]) (by simp only [nI_add]) ?_
                    refine g_lv (lv' := [(0, .ref (ad 0)), (1, .int (nI q)), (2, .int (nI n)), (3, .int (nI (ffb I S q))), (4, .int (nI (i + 1)))]) (lsub_c 2 rfl (lsub_c 3 rfl (lsub_c 4 rfl (lsub_c 5 rfl (lsub_c 0 rfl (lsub_n)))))) ?_
                    refine g_dropM (a := WM ad g I (u2 (ffl I L S q n (ffb I S q) i) 0 n (wn ((ffl I L S q n (ffb I S q) i) 0 n) i (nib (rwd I (ffl I L S q n (ffb I S q) i) S i 15) q))) S (z4 (u2 Z 3 0 (nI 0)) hu13.1 hu13.2 (mdA uX91.2.2 (mw (ffb I S q) (rwd I (ffl I L S q n (ffb I S q) i) S i 15)))) Y) (b := []) rfl ?_
                    refine g_cs (ws' := WM ad g I (ffl I L S q n (ffb I S q) (i + 1)) S (z4 (u2 Z 3 0 (nI 0)) ((hu13.1, hu13.2, mdA uX91.2.2 (mw (ffb I S q) (rwd I (ffl I L S q n (ffb I S q) i) S i 15))).1) ((hu13.1, hu13.2, mdA uX91.2.2 (mw (ffb I S q) (rwd I (ffl I L S q n (ffb I S q) i) S i 15))).2.1) ((hu13.1, hu13.2, mdA uX91.2.2 (mw (ffb I S q) (rwd I (ffl I L S q n (ffb I S q) i) S i 15))).2.2)) Y ++ []) (lv' := [(0, .ref (ad 0)), (1, .int (nI q)), (2, .int (nI n)), (3, .int (nI (ffb I S q))), (4, .int (nI (i + 1)))]) (by rw [ffl_s, hfw]) (rfl) ?_
                    exact k91 (hu13.1, hu13.2, mdA uX91.2.2 (mw (ffb I S q) (rwd I (ffl I L S q n (ffb I S q) i) S i 15))) (by assumption)
                  · rw [sB_0] at hc14; obtain ⟨y, hy⟩ := sB_1 hc14; have hfw : ffw I (ffl I L S q n (ffb I S q) i) S (ffb I S q) i = y := by rw [ffw, hy]; exact if_neg (ne_m1 (mw_15 (rwd_15 _ _ _ _ _ (Nat.le_refl _)) hy))
                    refine g_ws (ws' := WM ad g I (ffl I L S q n (ffb I S q) i) S (z4 (u2 Z 3 0 (nI 0)) hu13.1 hu13.2 (wA y)) Y ++ [(hu12, Sum.inl (g 0, 15, .inl (wA (rwd I (ffl I L S q n (ffb I S q) i) S i 15))))]) (by first | (rw [hy]; done) | (rw [hy]; rfl)) ?_
                    refine g_run X KX9_replace_127_39 KX9_replace_127_39_d 128 [(5, .ref hu12), (0, .ref (ad 0)), (1, .int (nI q)), (2, .int (nI n)), (3, .int (nI (ffb I S q))), (4, .int (nI i))] [.ref (ad 0), .int (nI ((n * 16) + i)), .ref (ad 3)] rfl ?_
                    refine g_get X srcW (v := .ref (ad 10)) hinX9 rfl 18 (by decide) w_1198 rfl (wm_mem (k := 0) (by decide)) rfl dX9_replace_128 ?_
                    refine g_run X KX9_replace_131_40 KX9_replace_131_40_d 132 [(5, .ref hu12), (0, .ref (ad 0)), (1, .int (nI q)), (2, .int (nI n)), (3, .int (nI (ffb I S q))), (4, .int (nI i))] [.int (nI q), .ref (ad 10), .int (nI ((n * 16) + i)), .ref (ad 3)] rfl ?_
                    refine g_iald X srcW (v := nI (nib y q)) 0 rfl (wm_mem (k := 10) (by decide)) q rfl (by omega) (by decide) (rfl) dX9_replace_132 ?_
                    refine g_run X KX9_replace_133_41 KX9_replace_133_41_d 140 [(5, .ref hu12), (0, .ref (ad 0)), (1, .int (nI q)), (2, .int (nI n)), (3, .int (nI (ffb I S q))), (4, .int (nI i))] [.int (nI (nib y q)), .int (nI ((n * 16) + i)), .ref (ad 3)] rfl ?_
                    refine g_iast X (ws' := WM ad g I (u2 (ffl I L S q n (ffb I S q) i) 0 n (wn ((ffl I L S q n (ffb I S q) i) 0 n) i (nib y q))) S (z4 (u2 Z 3 0 (nI 0)) hu13.1 hu13.2 (wA y)) Y ++ [(hu12, Sum.inl (g 0, 15, .inl (wA (rwd I (ffl I L S q n (ffb I S q) i) S i 15))))]) 0 rfl 3 (wm_get (k := 3) (by decide)) ((n * 16) + i) rfl (by omega) (by decide) (wm_ar0 (c := n) (q := i) (by omega) (nib_lt _ _)) dX9_replace_140 ?_
                    refine g_run X KX9_replace_141_38 KX9_replace_141_38_d 91 [(4, .int ((nI i) + (nI 1))), (5, .ref hu12), (0, .ref (ad 0)), (1, .int (nI q)), (2, .int (nI n)), (3, .int (nI (ffb I S q)))] [] rfl ?_
                    refine g_nm (lv' := [(4, .int (nI (i + 1))), (5, .ref hu12), (0, .ref (ad 0)), (1, .int (nI q)), (2, .int (nI n)), (3, .int (nI (ffb I S q)))]) (st' := []) (by simp only [nI_add]) (by simp only [nI_add]) ?_
                    refine g_lv (lv' := [(0, .ref (ad 0)), (1, .int (nI q)), (2, .int (nI n)), (3, .int (nI (ffb I S q))), (4, .int (nI (i + 1)))]) (lsub_c 2 rfl (lsub_c 3 rfl (lsub_c 4 rfl (lsub_c 5 rfl (lsub_c 0 rfl (lsub_n)))))) ?_
                    refine g_dropM (a := WM ad g I (u2 (ffl I L S q n (ffb I S q) i) 0 n (wn ((ffl I L S q n (ffb I S q) i) 0 n) i (nib y q))) S (z4 (u2 Z 3 0 (nI 0)) hu13.1 hu13.2 (wA y)) Y) (b := []) rfl ?_
                    refine g_cs (ws' := WM ad g I (ffl I L S q n (ffb I S q) (i + 1)) S (z4 (u2 Z 3 0 (nI 0)) ((hu13.1, hu13.2, (wA y)).1) ((hu13.1, hu13.2, (wA y)).2.1) ((hu13.1, hu13.2, (wA y)).2.2)) Y ++ []) (lv' := [(0, .ref (ad 0)), (1, .int (nI q)), (2, .int (nI n)), (3, .int (nI (ffb I S q))), (4, .int (nI (i + 1)))]) (by rw [ffl_s, hfw]) (rfl) ?_
                    exact k91 (hu13.1, hu13.2, (wA y)) (by assumption)
            · rw [nI_ltI (by omega) (by omega)] at hc9; have hfb : ffb I S q = ers I S 15 ||| 2 ^ q := if_pos (by omega)
              refine g_run X KX9_replace_82_42 KX9_replace_82_42_d 88 [(3, .int ((nI (ers I S 15)) ||| ((nI 1) <<< ((nI q) &&& 31)))), (0, .ref (ad 0)), (1, .int (nI q)), (2, .int (nI n))] [] rfl ?_
              refine g_nm (lv' := [(3, .int (nI ((ers I S 15) ||| (2 ^ q)))), (0, .ref (ad 0)), (1, .int (nI q)), (2, .int (nI n))]) (st' := []) (by simp only [nx_or, sh1 (show q < 31 by omega)]) (by simp only [nx_or, sh1 (show q < 31 by omega)]) ?_
              refine g_nm (lv' := [(3, .int (nI (ffb I S q))), (0, .ref (ad 0)), (1, .int (nI q)), (2, .int (nI n))]) (st' := []) (by rw [hfb]) rfl ?_
              have hfl : ffb I S q < 2 ^ 15 := ffb_lt hq
              refine g_run X KX9_replace_88_12 KX9_replace_88_12_d 91 [(4, .int (nI 0)), (3, .int (nI (ffb I S q))), (0, .ref (ad 0)), (1, .int (nI q)), (2, .int (nI n))] [] rfl ?_
              refine g_lv (lv' := [(0, .ref (ad 0)), (1, .int (nI q)), (2, .int (nI n)), (3, .int (nI (ffb I S q))), (4, .int (nI 0))]) (lsub_c 2 rfl (lsub_c 3 rfl (lsub_c 4 rfl (lsub_c 1 rfl (lsub_c 0 rfl (lsub_n)))))) ?_
              refine g_forX (σ := (Nat → Nat) × (Nat → Int32) × (Nat → Int32)) 16 (fun uX91 i => WM ad g I (ffl I L S q n (ffb I S q) i) S (z4 (u2 Z 3 0 (nI 0)) uX91.1 uX91.2.1 uX91.2.2) Y ++ []) (fun i => [(0, .ref (ad 0)), (1, .int (nI q)), (2, .int (nI n)), (3, .int (nI (ffb I S q))), (4, .int (nI i))]) (fun uX91 i => R16 uX91.1) 1 15 (R, (Z 1), (Z 2)) (by assumption) (by rw [ffl]) (rfl) ?_ ?_
              · intro uX91 hP91
                refine g_widen (k := 16) (n := 240) (Nat.le_of_ble_eq_true rfl) (Nat.le_of_ble_eq_true rfl) ?_
                refine g_run X KX9_replace_91_13 KX9_replace_91_13_d 95 [(0, .ref (ad 0)), (1, .int (nI q)), (2, .int (nI n)), (3, .int (nI (ffb I S q))), (4, .int (nI 16))] [.int (nI 16), .int (nI 16)] rfl ?_
                refine g_icmp_ge X 147 dX9_replace_95 (by decide) (fun hc15 => ?_) (fun hc15 => ?_)
                · refine g_run X KX9_replace_147_14 KX9_replace_147_14_d 148 [(0, .ref (ad 0)), (1, .int (nI q)), (2, .int (nI n)), (3, .int (nI (ffb I S q))), (4, .int (nI 16))] [.ref (ad 0)] rfl ?_
                  refine g_get X srcW (v := .ref (ad 7)) hinX9 rfl 7 (by decide) w_1187 rfl (wm_mem (k := 0) (by decide)) rfl dX9_replace_148 ?_
                  refine g_run X KX9_replace_151_15 KX9_replace_151_15_d 152 [(0, .ref (ad 0)), (1, .int (nI q)), (2, .int (nI n)), (3, .int (nI (ffb I S q))), (4, .int (nI 16))] [.int (nI q), .ref (ad 7)] rfl ?_
                  refine g_iald X srcW (v := nI (S q)) 0 rfl (wm_mem (k := 7) (by decide)) q rfl (by omega) (by decide) (st_at (by omega)) dX9_replace_152 ?_
                  refine g_run X KX9_replace_153_16 KX9_replace_153_16_d 156 [(4, .int (nI (S q))), (0, .ref (ad 0)), (1, .int (nI q)), (2, .int (nI n)), (3, .int (nI (ffb I S q)))] [.ref (ad 0)] rfl ?_
                  refine g_get X srcW (v := .ref (ad 6)) hinX9 rfl 6 (by decide) w_1186 rfl (wm_mem (k := 0) (by decide)) rfl dX9_replace_156 ?_
                  refine g_run X KX9_replace_159_17 KX9_replace_159_17_d 161 [(4, .int (nI (S q))), (0, .ref (ad 0)), (1, .int (nI q)), (2, .int (nI n)), (3, .int (nI (ffb I S q)))] [.int (nI (S q)), .ref (ad 6)] rfl ?_
                  refine g_aald X srcW (b := ad ((S q) + 17)) 3 rfl (wm_mem (k := 6) (by decide)) (S q) rfl (hS18 _ (by omega)) (by decide) (rfl) dX9_replace_161 ?_
                  refine g_run X KX9_replace_162_18 KX9_replace_162_18_d 163 [(4, .int (nI (S q))), (0, .ref (ad 0)), (1, .int (nI q)), (2, .int (nI n)), (3, .int (nI (ffb I S q)))] [.int (-nI 1), .ref (ad ((S q) + 17))] rfl ?_
                  refine g_putN X (ws' := WM ad g (u2 I 0 (S q) (-nI 1)) (ffl I L S q n (ffb I S q) 16) S (z4 (u2 Z 3 0 (nI 0)) uX91.1 uX91.2.1 uX91.2.2) Y ++ []) hinX7 tyX7 tyX7_ok nmX7 rfl 0 (by decide) (nw_in n_1096 rfl) rfl rfl (ty := .int) rfl rfl rfl ((S q) + 17) (wm_chG (hS18 _ (by omega))) (Nat.le_of_ble_eq_true rfl) (wm_ch0 (hS18 _ (by omega))) dX9_replace_163 ?_
                  refine g_run X KX9_replace_166_19 KX9_replace_166_19_d 167 [(4, .int (nI (S q))), (0, .ref (ad 0)), (1, .int (nI q)), (2, .int (nI n)), (3, .int (nI (ffb I S q)))] [.ref (ad 0)] rfl ?_
                  refine g_get X srcW (v := .ref (ad 6)) hinX9 rfl 6 (by decide) w_1186 rfl (wm_mem (k := 0) (by decide)) rfl dX9_replace_167 ?_
                  refine g_run X KX9_replace_170_20 KX9_replace_170_20_d 172 [(4, .int (nI (S q))), (0, .ref (ad 0)), (1, .int (nI q)), (2, .int (nI n)), (3, .int (nI (ffb I S q)))] [.int (nI (S q)), .ref (ad 6)] rfl ?_
                  refine g_aald X srcW (b := ad ((S q) + 17)) 3 rfl (wm_mem (k := 6) (by decide)) (S q) rfl (hS18 _ (by omega)) (by decide) (rfl) dX9_replace_172 ?_
                  refine g_run X KX9_replace_173_21 KX9_replace_173_21_d 174 [(4, .int (nI (S q))), (0, .ref (ad 0)), (1, .int (nI q)), (2, .int (nI n)), (3, .int (nI (ffb I S q)))] [.int (nI 1), .ref (ad ((S q) + 17))] rfl ?_
                  refine g_putN X (ws' := WM ad g (u2 (u2 I 0 (S q) (-nI 1)) 4 (S q) (nI 1)) (ffl I L S q n (ffb I S q) 16) S (z4 (u2 Z 3 0 (nI 0)) uX91.1 uX91.2.1 uX91.2.2) Y ++ []) hinX7 tyX7 tyX7_ok nmX7 rfl 4 (by decide) (nw_in n_1101 rfl) rfl rfl (ty := .boolean) rfl (by decide +kernel) rfl ((S q) + 17) (wm_chG (hS18 _ (by omega))) (Nat.le_of_ble_eq_true rfl) (wm_ch4 (hS18 _ (by omega))) dX9_replace_174 ?_
                  refine g_run X KX9_replace_177_22 KX9_replace_177_22_d 178 [(4, .int (nI (S q))), (0, .ref (ad 0)), (1, .int (nI q)), (2, .int (nI n)), (3, .int (nI (ffb I S q)))] [.ref (ad 0)] rfl ?_
                  refine g_get X srcW (v := .ref (ad 6)) hinX9 rfl 6 (by decide) w_1186 rfl (wm_mem (k := 0) (by decide)) rfl dX9_replace_178 ?_
                  refine g_run X KX9_replace_181_23 KX9_replace_181_23_d 182 [(4, .int (nI (S q))), (0, .ref (ad 0)), (1, .int (nI q)), (2, .int (nI n)), (3, .int (nI (ffb I S q)))] [.int (nI n), .ref (ad 6)] rfl ?_
                  refine g_aald X srcW (b := ad (n + 17)) 3 rfl (wm_mem (k := 6) (by decide)) n rfl (by omega) (by decide) (rfl) dX9_replace_182 ?_
                  refine g_run X KX9_replace_183_24 KX9_replace_183_24_d 184 [(4, .int (nI (S q))), (0, .ref (ad 0)), (1, .int (nI q)), (2, .int (nI n)), (3, .int (nI (ffb I S q)))] [.int (nI q), .ref (ad (n + 17))] rfl ?_
                  refine g_putN X (ws' := WM ad g (u2 (u2 (u2 I 0 (S q) (-nI 1)) 4 (S q) (nI 1)) 0 n (nI q)) (ffl I L S q n (ffb I S q) 16) S (z4 (u2 Z 3 0 (nI 0)) uX91.1 uX91.2.1 uX91.2.2) Y ++ []) hinX7 tyX7 tyX7_ok nmX7 rfl 0 (by decide) (nw_in n_1096 rfl) rfl rfl (ty := .int) rfl rfl rfl (n + 17) (wm_chG (by omega)) (Nat.le_of_ble_eq_true rfl) (wm_ch0 (by omega)) dX9_replace_184 ?_
                  refine g_run X KX9_replace_187_25 KX9_replace_187_25_d 188 [(4, .int (nI (S q))), (0, .ref (ad 0)), (1, .int (nI q)), (2, .int (nI n)), (3, .int (nI (ffb I S q)))] [.ref (ad 0)] rfl ?_
                  refine g_get X srcW (v := .ref (ad 6)) hinX9 rfl 6 (by decide) w_1186 rfl (wm_mem (k := 0) (by decide)) rfl dX9_replace_188 ?_
                  refine g_run X KX9_replace_191_26 KX9_replace_191_26_d 192 [(4, .int (nI (S q))), (0, .ref (ad 0)), (1, .int (nI q)), (2, .int (nI n)), (3, .int (nI (ffb I S q)))] [.int (nI n), .ref (ad 6)] rfl ?_
                  refine g_aald X srcW (b := ad (n + 17)) 3 rfl (wm_mem (k := 6) (by decide)) n rfl (by omega) (by decide) (rfl) dX9_replace_192 ?_
                  refine g_run X KX9_replace_193_27 KX9_replace_193_27_d 194 [(4, .int (nI (S q))), (0, .ref (ad 0)), (1, .int (nI q)), (2, .int (nI n)), (3, .int (nI (ffb I S q)))] [.int (nI 0), .ref (ad (n + 17))] rfl ?_
                  refine g_putN X (ws' := WM ad g (u2 (u2 (u2 (u2 I 0 (S q) (-nI 1)) 4 (S q) (nI 1)) 0 n (nI q)) 3 n (nI 0)) (ffl I L S q n (ffb I S q) 16) S (z4 (u2 Z 3 0 (nI 0)) uX91.1 uX91.2.1 uX91.2.2) Y ++ []) hinX7 tyX7 tyX7_ok nmX7 rfl 3 (by decide) (nw_in n_1100 rfl) rfl rfl (ty := .boolean) rfl (by decide +kernel) rfl (n + 17) (wm_chG (by omega)) (Nat.le_of_ble_eq_true rfl) (wm_ch3 (by omega)) dX9_replace_194 ?_
                  refine g_run X KX9_replace_197_28 KX9_replace_197_28_d 198 [(4, .int (nI (S q))), (0, .ref (ad 0)), (1, .int (nI q)), (2, .int (nI n)), (3, .int (nI (ffb I S q)))] [.ref (ad 0)] rfl ?_
                  refine g_get X srcW (v := .ref (ad 6)) hinX9 rfl 6 (by decide) w_1186 rfl (wm_mem (k := 0) (by decide)) rfl dX9_replace_198 ?_
                  refine g_run X KX9_replace_201_29 KX9_replace_201_29_d 202 [(4, .int (nI (S q))), (0, .ref (ad 0)), (1, .int (nI q)), (2, .int (nI n)), (3, .int (nI (ffb I S q)))] [.int (nI n), .ref (ad 6)] rfl ?_
                  refine g_aald X srcW (b := ad (n + 17)) 3 rfl (wm_mem (k := 6) (by decide)) n rfl (by omega) (by decide) (rfl) dX9_replace_202 ?_
                  refine g_run X KX9_replace_203_30 KX9_replace_203_30_d 204 [(4, .int (nI (S q))), (0, .ref (ad 0)), (1, .int (nI q)), (2, .int (nI n)), (3, .int (nI (ffb I S q)))] [.int (nI 0), .ref (ad (n + 17))] rfl ?_
                  refine g_putN X (ws' := WM ad g (u2 (u2 (u2 (u2 (u2 I 0 (S q) (-nI 1)) 4 (S q) (nI 1)) 0 n (nI q)) 3 n (nI 0)) 2 n (nI 0)) (ffl I L S q n (ffb I S q) 16) S (z4 (u2 Z 3 0 (nI 0)) uX91.1 uX91.2.1 uX91.2.2) Y ++ []) hinX7 tyX7 tyX7_ok nmX7 rfl 2 (by decide) (nw_in n_1099 rfl) rfl rfl (ty := .int) rfl rfl rfl (n + 17) (wm_chG (by omega)) (Nat.le_of_ble_eq_true rfl) (wm_ch2 (by omega)) dX9_replace_204 ?_
                  refine g_run X KX9_replace_207_31 KX9_replace_207_31_d 208 [(4, .int (nI (S q))), (0, .ref (ad 0)), (1, .int (nI q)), (2, .int (nI n)), (3, .int (nI (ffb I S q)))] [.ref (ad 0)] rfl ?_
                  refine g_get X srcW (v := .ref (ad 7)) hinX9 rfl 7 (by decide) w_1187 rfl (wm_mem (k := 0) (by decide)) rfl dX9_replace_208 ?_
                  refine g_run X KX9_replace_211_32 KX9_replace_211_32_d 213 [(4, .int (nI (S q))), (0, .ref (ad 0)), (1, .int (nI q)), (2, .int (nI n)), (3, .int (nI (ffb I S q)))] [.int (nI n), .int (nI q), .ref (ad 7)] rfl ?_
                  refine g_iast X (ws' := WM ad g (u2 (u2 (u2 (u2 (u2 I 0 (S q) (-nI 1)) 4 (S q) (nI 1)) 0 n (nI q)) 3 n (nI 0)) 2 n (nI 0)) (ffl I L S q n (ffb I S q) 16) (u1 S q n) (z4 (u2 Z 3 0 (nI 0)) uX91.1 uX91.2.1 uX91.2.2) Y ++ []) 0 rfl 7 (wm_get (k := 7) (by decide)) q rfl (by omega) (by decide) (wm_se (by omega)) dX9_replace_213 ?_
                  refine g_run X KX9_replace_214_33 KX9_replace_214_33_d 215 [(4, .int (nI (S q))), (0, .ref (ad 0)), (1, .int (nI q)), (2, .int (nI n)), (3, .int (nI (ffb I S q)))] [.int (nI n)] rfl ?_
                  exact g_iret X hr (uX91.1, uX91.2.1, uX91.2.2) (rfl) (by assumption) (by show _ = WM ad g (rpI I S q n) (ffl (u2 I 8 5 (nI (n + 1))) L S q n (ffb (u2 I 8 5 (nI (n + 1))) S q) 16) (u1 S q n) _ Y ++ []; rw [rp_w hsp hn, ffb_8, ffl_8]) (Nat.le_of_ble_eq_true rfl) (Nat.le_of_ble_eq_true rfl) dX9_replace_215
                · rw [nI_leI (by omega) (by omega)] at hc15; first | omega | (simp at hc15)
              · intro i hi uX91 hP91 k91
                have hR91 : R16 uX91.1 := hP91
                refine g_run X KX9_replace_91_13 KX9_replace_91_13_d 95 [(0, .ref (ad 0)), (1, .int (nI q)), (2, .int (nI n)), (3, .int (nI (ffb I S q))), (4, .int (nI i))] [.int (nI 16), .int (nI i)] rfl ?_
                refine g_icmp_ge X 147 dX9_replace_95 (by decide) (fun hc16 => ?_) (fun hc16 => ?_)
                · rw [nI_leI (by omega) (by omega)] at hc16; first | omega | (simp at hc16)
                · refine g_run X KX9_replace_98_34 KX9_replace_98_34_d 101 [(0, .ref (ad 0)), (1, .int (nI q)), (2, .int (nI n)), (3, .int (nI (ffb I S q))), (4, .int (nI i))] [.int (nI i), .ref (ad 0)] rfl ?_
                  refine g_callV X hSB hAf (srcW) (hrc1 := (rfl : CL[8]? = some _)) (wm_mem (k := 0) (by decide)) rfl (As := [.int (nI i)]) (wr := []) (n := 1) (c_X9_read l D g ad I (ffl I L S q n (ffb I S q) i) S (z4 (u2 Z 3 0 (nI 0)) uX91.1 uX91.2.1 uX91.2.2) Y i (hS18) (by omega) (by omega)) rfl srcN hrdN w_1272 w_1269 w_1271 w_s13 w_6 (by decide +kernel) rfl ⟨Nat.le_of_ble_eq_true rfl, Nat.le_of_ble_eq_true rfl⟩ rfl rfl rfl (Nat.le_of_ble_eq_true rfl) ⟨by show (0 + i * 1) + 1 ≤ 16; omega, by show (0 + i * 15) + 15 ≤ 240; omega⟩ dX9_replace_101 (fun hu17 _ => ?_)
                  refine g_af (ws' := WM ad g I (ffl I L S q n (ffb I S q) i) S (z4 (u2 Z 3 0 (nI 0)) uX91.1 uX91.2.1 uX91.2.2) Y ++ [(hu17, Sum.inl (g 0, 15, .inl (wA (rwd I (ffl I L S q n (ffb I S q) i) S i 15))))]) (st' := [.ref hu17]) (cells' := 0 + i * 1 + 1) (slots' := 0 + i * 15 + 15) (pc' := 104) ((List.append_assoc _ ([(hu17, Sum.inl (g 0, 15, .inl (wA (rwd I (ffl I L S q n (ffb I S q) i) S i 15))))] : va_W) []).symm) rfl rfl rfl rfl ?_
                  refine g_run X KX9_replace_104_35 KX9_replace_104_35_d 107 [(5, .ref hu17), (0, .ref (ad 0)), (1, .int (nI q)), (2, .int (nI n)), (3, .int (nI (ffb I S q))), (4, .int (nI i))] [.ref (ad 0)] rfl ?_
                  refine g_get X srcW (v := .ref (ad 3)) hinX9 rfl 3 (by decide) w_1183 rfl (wm_mem (k := 0) (by decide)) rfl dX9_replace_107 ?_
                  refine g_run X KX9_replace_110_36 KX9_replace_110_36_d 121 [(5, .ref hu17), (0, .ref (ad 0)), (1, .int (nI q)), (2, .int (nI n)), (3, .int (nI (ffb I S q))), (4, .int (nI i))] [.int (nI (ffb I S q)), .ref hu17, .ref (ad 0), .int (((nI n) * (nI 16)) + (nI i)), .ref (ad 3)] rfl ?_
                  refine g_nm (lv' := [(5, .ref hu17), (0, .ref (ad 0)), (1, .int (nI q)), (2, .int (nI n)), (3, .int (nI (ffb I S q))), (4, .int (nI i))]) (st' := [.int (nI (ffb I S q)), .ref hu17, .ref (ad 0), .int (nI ((n * 16) + i)), .ref (ad 3)]) (by simp only [nI_add, pk_mul]) (by simp only [nI_add, pk_mul]) ?_
                  refine g_callV X hSB hAf (srcW) (hrc1 := (rfl : CL[8]? = some _)) (wm_mem (k := 0) (by decide)) rfl (As := [.ref hu17, .int (nI (ffb I S q))]) (wr := [(hu17, Sum.inl (g 0, 15, .inl (wA (rwd I (ffl I L S q n (ffb I S q) i) S i 15))))]) (n := 2) (c_X9_mend l D g ad I (ffl I L S q n (ffb I S q) i) S (z4 (u2 Z 3 0 (nI 0)) uX91.1 uX91.2.1 uX91.2.2) Y hu17 (rwd I (ffl I L S q n (ffb I S q) i) S i 15) (ffb I S q) uX91.1 (by assumption) (rfl) (hfl)) rfl (src_sub (wt_mem (by simp))) (hrdT rfl (by simp)) w_1352 w_1349 w_1351 w_s25 w_6 (by decide +kernel) rfl ⟨Nat.le_of_ble_eq_true rfl, Nat.le_of_ble_eq_true rfl⟩ rfl rfl rfl (Nat.le_of_ble_eq_true rfl) ⟨by show (0 + i * 1 + 1) + 0 ≤ 16; omega, by show (0 + i * 15 + 15) + 0 ≤ 240; omega⟩ dX9_replace_121 (fun hu18 hp_hu18 => ?_)
                  refine g_af (ws' := WM ad g I (ffl I L S q n (ffb I S q) i) S (z4 (u2 Z 3 0 (nI 0)) hu18.1 hu18.2 (mdA uX91.2.2 (mw (ffb I S q) (rwd I (ffl I L S q n (ffb I S q) i) S i 15)))) Y ++ [(hu17, Sum.inl (g 0, 15, .inl (wA (rwd I (ffl I L S q n (ffb I S q) i) S i 15))))]) (st' := [.int (nI (sB (mw (ffb I S q) (rwd I (ffl I L S q n (ffb I S q) i) S i 15)))), .int (nI ((n * 16) + i)), .ref (ad 3)]) (cells' := 0 + i * 1 + 1) (slots' := 0 + i * 15 + 15) (pc' := 124) (congrArg (fun z => (WM ad g I (ffl I L S q n (ffb I S q) i) S z Y) ++ [(hu17, Sum.inl (g 0, 15, .inl (wA (rwd I (ffl I L S q n (ffb I S q) i) S i 15))))]) z4_z4.symm) rfl rfl rfl rfl ?_
                  refine g_if_eq X 136 dX9_replace_124 (by decide) (fun hc19 => ?_) (fun hc19 => ?_)
                  · rw [sB_0] at hc19; have hfw : ffw I (ffl I L S q n (ffb I S q) i) S (ffb I S q) i = rwd I (ffl I L S q n (ffb I S q) i) S i 15 := if_pos (by rw [hc19]; rfl)
                    refine g_run X KX9_replace_136_37 KX9_replace_136_37_d 139 [(5, .ref hu17), (0, .ref (ad 0)), (1, .int (nI q)), (2, .int (nI n)), (3, .int (nI (ffb I S q))), (4, .int (nI i))] [.int (nI q), .ref hu17, .int (nI ((n * 16) + i)), .ref (ad 3)] rfl ?_
                    refine g_iald X srcW (v := nI (nib (rwd I (ffl I L S q n (ffb I S q) i) S i 15) q)) 0 rfl (wt_mem (List.mem_cons_self ..)) q rfl (by omega) (by decide) (rfl) dX9_replace_139 ?_
                    refine g_iast X (ws' := WM ad g I (u2 (ffl I L S q n (ffb I S q) i) 0 n (wn ((ffl I L S q n (ffb I S q) i) 0 n) i (nib (rwd I (ffl I L S q n (ffb I S q) i) S i 15) q))) S (z4 (u2 Z 3 0 (nI 0)) hu18.1 hu18.2 (mdA uX91.2.2 (mw (ffb I S q) (rwd I (ffl I L S q n (ffb I S q) i) S i 15)))) Y ++ [(hu17, Sum.inl (g 0, 15, .inl (wA (rwd I (ffl I L S q n (ffb I S q) i) S i 15))))]) 0 rfl 3 (wm_get (k := 3) (by decide)) ((n * 16) + i) rfl (by omega) (by decide) (wm_ar0 (c := n) (q := i) (by omega) (nib_lt _ _)) dX9_replace_140 ?_
                    refine g_run X KX9_replace_141_38 KX9_replace_141_38_d 91 [(4, .int ((nI i) + (nI 1))), (5, .ref hu17), (0, .ref (ad 0)), (1, .int (nI q)), (2, .int (nI n)), (3, .int (nI (ffb I S q)))] [] rfl ?_
                    refine g_nm (lv' := [(4, .int (nI (i + 1))), (5, .ref hu17), (0, .ref (ad 0)), (1, .int (nI q)), (2, .int (nI n)), (3, .int (nI (ffb I S q)))]) (st' := []) (by simp only [nI_add]) (by simp only [nI_add]) ?_
                    refine g_lv (lv' := [(0, .ref (ad 0)), (1, .int (nI q)), (2, .int (nI n)), (3, .int (nI (ffb I S q))), (4, .int (nI (i + 1)))]) (lsub_c 2 rfl (lsub_c 3 rfl (lsub_c 4 rfl (lsub_c 5 rfl (lsub_c 0 rfl (lsub_n)))))) ?_
                    refine g_dropM (a := WM ad g I (u2 (ffl I L S q n (ffb I S q) i) 0 n (wn ((ffl I L S q n (ffb I S q) i) 0 n) i (nib (rwd I (ffl I L S q n (ffb I S q) i) S i 15) q))) S (z4 (u2 Z 3 0 (nI 0)) hu18.1 hu18.2 (mdA uX91.2.2 (mw (ffb I S q) (rwd I (ffl I L S q n (ffb I S q) i) S i 15)))) Y) (b := []) rfl ?_
                    refine g_cs (ws' := WM ad g I (ffl I L S q n (ffb I S q) (i + 1)) S (z4 (u2 Z 3 0 (nI 0)) ((hu18.1, hu18.2, mdA uX91.2.2 (mw (ffb I S q) (rwd I (ffl I L S q n (ffb I S q) i) S i 15))).1) ((hu18.1, hu18.2, mdA uX91.2.2 (mw (ffb I S q) (rwd I (ffl I L S q n (ffb I S q) i) S i 15))).2.1) ((hu18.1, hu18.2, mdA uX91.2.2 (mw (ffb I S q) (rwd I (ffl I L S q n (ffb I S q) i) S i 15))).2.2)) Y ++ []) (lv' := [(0, .ref (ad 0)), (1, .int (nI q)), (2, .int (nI n)), (3, .int (nI (ffb I S q))), (4, .int (nI (i + 1)))]) (by rw [ffl_s, hfw]) (rfl) ?_
                    exact k91 (hu18.1, hu18.2, mdA uX91.2.2 (mw (ffb I S q) (rwd I (ffl I L S q n (ffb I S q) i) S i 15))) (by assumption)
                  · rw [sB_0] at hc19; obtain ⟨y, hy⟩ := sB_1 hc19; have hfw : ffw I (ffl I L S q n (ffb I S q) i) S (ffb I S q) i = y := by rw [ffw, hy]; exact if_neg (ne_m1 (mw_15 (rwd_15 _ _ _ _ _ (Nat.le_refl _)) hy))
                    refine g_ws (ws' := WM ad g I (ffl I L S q n (ffb I S q) i) S (z4 (u2 Z 3 0 (nI 0)) hu18.1 hu18.2 (wA y)) Y ++ [(hu17, Sum.inl (g 0, 15, .inl (wA (rwd I (ffl I L S q n (ffb I S q) i) S i 15))))]) (by first | (rw [hy]; done) | (rw [hy]; rfl)) ?_
                    refine g_run X KX9_replace_127_39 KX9_replace_127_39_d 128 [(5, .ref hu17), (0, .ref (ad 0)), (1, .int (nI q)), (2, .int (nI n)), (3, .int (nI (ffb I S q))), (4, .int (nI i))] [.ref (ad 0), .int (nI ((n * 16) + i)), .ref (ad 3)] rfl ?_
                    refine g_get X srcW (v := .ref (ad 10)) hinX9 rfl 18 (by decide) w_1198 rfl (wm_mem (k := 0) (by decide)) rfl dX9_replace_128 ?_
                    refine g_run X KX9_replace_131_40 KX9_replace_131_40_d 132 [(5, .ref hu17), (0, .ref (ad 0)), (1, .int (nI q)), (2, .int (nI n)), (3, .int (nI (ffb I S q))), (4, .int (nI i))] [.int (nI q), .ref (ad 10), .int (nI ((n * 16) + i)), .ref (ad 3)] rfl ?_
                    refine g_iald X srcW (v := nI (nib y q)) 0 rfl (wm_mem (k := 10) (by decide)) q rfl (by omega) (by decide) (rfl) dX9_replace_132 ?_
                    refine g_run X KX9_replace_133_41 KX9_replace_133_41_d 140 [(5, .ref hu17), (0, .ref (ad 0)), (1, .int (nI q)), (2, .int (nI n)), (3, .int (nI (ffb I S q))), (4, .int (nI i))] [.int (nI (nib y q)), .int (nI ((n * 16) + i)), .ref (ad 3)] rfl ?_
                    refine g_iast X (ws' := WM ad g I (u2 (ffl I L S q n (ffb I S q) i) 0 n (wn ((ffl I L S q n (ffb I S q) i) 0 n) i (nib y q))) S (z4 (u2 Z 3 0 (nI 0)) hu18.1 hu18.2 (wA y)) Y ++ [(hu17, Sum.inl (g 0, 15, .inl (wA (rwd I (ffl I L S q n (ffb I S q) i) S i 15))))]) 0 rfl 3 (wm_get (k := 3) (by decide)) ((n * 16) + i) rfl (by omega) (by decide) (wm_ar0 (c := n) (q := i) (by omega) (nib_lt _ _)) dX9_replace_140 ?_
                    refine g_run X KX9_replace_141_38 KX9_replace_141_38_d 91 [(4, .int ((nI i) + (nI 1))), (5, .ref hu17), (0, .ref (ad 0)), (1, .int (nI q)), (2, .int (nI n)), (3, .int (nI (ffb I S q)))] [] rfl ?_
                    refine g_nm (lv' := [(4, .int (nI (i + 1))), (5, .ref hu17), (0, .ref (ad 0)), (1, .int (nI q)), (2, .int (nI n)), (3, .int (nI (ffb I S q)))]) (st' := []) (by simp only [nI_add]) (by simp only [nI_add]) ?_
                    refine g_lv (lv' := [(0, .ref (ad 0)), (1, .int (nI q)), (2, .int (nI n)), (3, .int (nI (ffb I S q))), (4, .int (nI (i + 1)))]) (lsub_c 2 rfl (lsub_c 3 rfl (lsub_c 4 rfl (lsub_c 5 rfl (lsub_c 0 rfl (lsub_n)))))) ?_
                    refine g_dropM (a := WM ad g I (u2 (ffl I L S q n (ffb I S q) i) 0 n (wn ((ffl I L S q n (ffb I S q) i) 0 n) i (nib y q))) S (z4 (u2 Z 3 0 (nI 0)) hu18.1 hu18.2 (wA y)) Y) (b := []) rfl ?_
                    refine g_cs (ws' := WM ad g I (ffl I L S q n (ffb I S q) (i + 1)) S (z4 (u2 Z 3 0 (nI 0)) ((hu18.1, hu18.2, (wA y)).1) ((hu18.1, hu18.2, (wA y)).2.1) ((hu18.1, hu18.2, (wA y)).2.2)) Y ++ []) (lv' := [(0, .ref (ad 0)), (1, .int (nI q)), (2, .int (nI n)), (3, .int (nI (ffb I S q))), (4, .int (nI (i + 1)))]) (by rw [ffl_s, hfw]) (rfl) ?_
                    exact k91 (hu18.1, hu18.2, (wA y)) (by assumption)
          · exact absurd hsn.2 hc6
      · intro t ht k34
        refine g_run X KX9_replace_34_4 KX9_replace_34_4_d 35 [(0, .ref (ad 0)), (1, .int (nI q)), (2, .int (nI (15 + t)))] [.ref (ad 0)] rfl ?_
        refine g_get X srcW (v := .ref (ad 6)) hinX9 rfl 6 (by decide) w_1186 rfl (wm_mem (k := 0) (by decide)) rfl dX9_replace_35 ?_
        refine g_run X KX9_replace_38_5 KX9_replace_38_5_d 39 [(0, .ref (ad 0)), (1, .int (nI q)), (2, .int (nI (15 + t)))] [.int (nI (15 + t)), .ref (ad 6)] rfl ?_
        refine g_aald X srcW (b := ad ((15 + t) + 17)) 3 rfl (wm_mem (k := 6) (by decide)) (15 + t) rfl (by omega) (by decide) (rfl) dX9_replace_39 ?_
        refine g_getN X srcW (host := "ChipfieldModel") (v := .int (I 0 (15 + t))) hinX7 rfl 0 (by decide) (nw_in n_1096 rfl) rfl (wm_ch (by omega)) rfl dX9_replace_40 ?_
        refine g_run X KX9_replace_43_6 KX9_replace_43_6_d 44 [(0, .ref (ad 0)), (1, .int (nI q)), (2, .int (nI (15 + t)))] [.int (-nI 1), .int (I 0 (15 + t))] rfl ?_
        refine g_icmp_ne X 59 dX9_replace_44 (by decide) (fun hc20 => ?_) (fun hc20 => ?_)
        · refine g_run X KX9_replace_59_43 KX9_replace_59_43_d 34 [(2, .int ((nI (15 + t)) + (nI 1))), (0, .ref (ad 0)), (1, .int (nI q))] [] rfl ?_
          refine g_nm (lv' := [(2, .int (nI ((15 + t) + 1))), (0, .ref (ad 0)), (1, .int (nI q))]) (st' := []) (by simp only [nI_add]) (by simp only [nI_add]) ?_
          refine g_lv (lv' := [(0, .ref (ad 0)), (1, .int (nI q)), (2, .int (nI ((15 + t) + 1)))]) (lsub_c 1 rfl (lsub_c 2 rfl (lsub_c 0 rfl (lsub_n)))) ?_
          refine g_cs (ws' := WM ad g I L S (z4 (u2 Z 3 0 (nI 0)) R (Z 1) (Z 2)) Y ++ []) (lv' := [(0, .ref (ad 0)), (1, .int (nI q)), (2, .int (nI (15 + (t + 1))))]) (rfl) (rfl) ?_
          exact k34
        · have h0 := hc20
          refine g_run X KX9_replace_47_7 KX9_replace_47_7_d 48 [(0, .ref (ad 0)), (1, .int (nI q)), (2, .int (nI (15 + t)))] [.ref (ad 0)] rfl ?_
          refine g_get X srcW (v := .ref (ad 6)) hinX9 rfl 6 (by decide) w_1186 rfl (wm_mem (k := 0) (by decide)) rfl dX9_replace_48 ?_
          refine g_run X KX9_replace_51_8 KX9_replace_51_8_d 52 [(0, .ref (ad 0)), (1, .int (nI q)), (2, .int (nI (15 + t)))] [.int (nI (15 + t)), .ref (ad 6)] rfl ?_
          refine g_aald X srcW (b := ad ((15 + t) + 17)) 3 rfl (wm_mem (k := 6) (by decide)) (15 + t) rfl (by omega) (by decide) (rfl) dX9_replace_52 ?_
          refine g_getN X srcW (host := "ChipfieldModel") (v := .int (I 4 (15 + t))) hinX7 rfl 4 (by decide) (nw_in n_1101 rfl) rfl (wm_ch (by omega)) rfl dX9_replace_53 ?_
          refine g_if_eq X 65 dX9_replace_56 (by decide) (fun hc21 => ?_) (fun hc21 => ?_)
          · exact absurd ⟨h0, hc21⟩ (sp_no hsp (by omega))
          · refine g_run X KX9_replace_59_43 KX9_replace_59_43_d 34 [(2, .int ((nI (15 + t)) + (nI 1))), (0, .ref (ad 0)), (1, .int (nI q))] [] rfl ?_
            refine g_nm (lv' := [(2, .int (nI ((15 + t) + 1))), (0, .ref (ad 0)), (1, .int (nI q))]) (st' := []) (by simp only [nI_add]) (by simp only [nI_add]) ?_
            refine g_lv (lv' := [(0, .ref (ad 0)), (1, .int (nI q)), (2, .int (nI ((15 + t) + 1)))]) (lsub_c 1 rfl (lsub_c 2 rfl (lsub_c 0 rfl (lsub_n)))) ?_
            refine g_cs (ws' := WM ad g I L S (z4 (u2 Z 3 0 (nI 0)) R (Z 1) (Z 2)) Y ++ []) (lv' := [(0, .ref (ad 0)), (1, .int (nI q)), (2, .int (nI (15 + (t + 1))))]) (rfl) (rfl) ?_
            exact k34
    · rw [nz_eq (by omega)] at hc4; first | omega | (simp at hc4)
  · rw [nz_eq (by omega)] at hc2; first | omega | (simp at hc2)

def KX9_replace_12_44 : List (Nat × Instr × Nat) := [(12, .aload_n 0, 1), (13, .iconst 1, 1)]
theorem KX9_replace_12_44_d : ∀ z ∈ KX9_replace_12_44, decode cX9_replace z.1 = .ok z.2 := by decide +kernel
set_option maxHeartbeats 4000000 in
set_option maxRecDepth 100000 in
theorem c_X9_replace_1 (l : Launch) (D : va_G) (g : Nat → ClassId) (ad : Nat → Nat) (I : Nat → Nat → Int32) (L : Nat → Nat → Int64) (S : Nat → Nat) (Z : Nat → Nat → Int32) (Y : Int64) (x : Int32) (hx : x < 0 ∨ ¬ x ≤ nI 14) : CT l yX9_replace cX9_replace 6 ((Option.some FieldType.int)) ({ frames := 2, cells := 0, slots := 0, locals := 42 } : Room) [.ref (ad 0), .int x] D CL (TYS g) ([]) (WM ad g I L S Z Y) (S := Unit) (fun _ => some (.int (nI 0))) (fun _ => WM ad g I L S (u2 (u2 Z 3 0 (nI 0)) 3 0 (nI 1)) Y) (fun _ => True) 0 0 := by
  refine ct_of (by decide +kernel) (Nat.le_of_ble_eq_true rfl) ?_
  intro p e s m below meth c A X hr hnm hSB hRO hAf
  refine g_cs (ws' := WM ad g I L S Z Y ++ []) (lv' := [(0, .ref (ad 0)), (1, .int x)]) (List.append_nil _) rfl ?_
  refine g_run X KX9_replace_0_0 KX9_replace_0_0_d 2 [(0, .ref (ad 0)), (1, .int x)] [.int (nI 0), .ref (ad 0)] rfl ?_
  refine g_put X (ws' := WM ad g I L S (u2 Z 3 0 (nI 0)) Y ++ []) hinX9 tyX9 tyX9_ok nmX9 rfl 0 (by decide) w_1180 rfl rfl (ty := .int) rfl rfl rfl (0) (wm_get (k := 0) (by decide)) (Nat.le_of_ble_eq_true rfl) (wm_mo0) dX9_replace_2 ?_
  refine g_run X KX9_replace_5_1 KX9_replace_5_1_d 6 [(0, .ref (ad 0)), (1, .int x)] [.int x] rfl ?_
  refine g_callS X hSB hAf (As := [.int x]) (wr := WM ad g I L S (u2 Z 3 0 (nI 0)) Y ++ []) (n := 1) (c_X9_isPlace_f l D g x (hx)) rfl srcN hrdN w_1335 w_1333 w_1334 w_6 (by decide +kernel) rfl ⟨Nat.le_of_ble_eq_true rfl, Nat.le_of_ble_eq_true rfl⟩ rfl rfl rfl (Nat.le_of_ble_eq_true rfl) ⟨Nat.le_of_ble_eq_true rfl, Nat.le_of_ble_eq_true rfl⟩ dX9_replace_6 (fun hu1 _ => ?_)
  refine g_af (ws' := WM ad g I L S (u2 Z 3 0 (nI 0)) Y ++ []) (st' := [.int (nI 0)]) (cells' := 0) (slots' := 0) (pc' := 9) rfl rfl rfl rfl rfl ?_
  refine g_if_ne X 18 dX9_replace_9 (by decide) (fun hc2 => ?_) (fun hc2 => ?_)
  · rw [nz_eq (by omega)] at hc2; first | omega | (simp at hc2)
  · refine g_run X KX9_replace_12_44 KX9_replace_12_44_d 14 [(0, .ref (ad 0)), (1, .int x)] [.int (nI 1), .ref (ad 0)] rfl ?_
    refine g_callV X hSB hAf (srcW) (hrc1 := (rfl : CL[8]? = some _)) (wm_mem (k := 0) (by decide)) rfl (As := [.int (nI 1)]) (wr := []) (n := 1) (c_X9_refuse l D g ad I L S (u2 Z 3 0 (nI 0)) Y 1 ) rfl srcN hrdN w_1264 w_1261 w_1263 w_s12 w_6 (by decide +kernel) rfl ⟨Nat.le_of_ble_eq_true rfl, Nat.le_of_ble_eq_true rfl⟩ rfl rfl rfl (Nat.le_of_ble_eq_true rfl) ⟨Nat.le_of_ble_eq_true rfl, Nat.le_of_ble_eq_true rfl⟩ dX9_replace_14 (fun hu3 _ => ?_)
    refine g_af (ws' := WM ad g I L S (u2 (u2 Z 3 0 (nI 0)) 3 0 (nI 1)) Y ++ []) (st' := [.int (nI 0)]) (cells' := 0) (slots' := 0) (pc' := 17) rfl rfl rfl rfl rfl ?_
    exact g_iret X hr () (rfl) (trivial) (rfl) (Nat.le_of_ble_eq_true rfl) (Nat.le_of_ble_eq_true rfl) dX9_replace_17

def KX9_replace_25_45 : List (Nat × Instr × Nat) := [(25, .aload_n 0, 1), (26, .iconst 2, 1)]
theorem KX9_replace_25_45_d : ∀ z ∈ KX9_replace_25_45, decode cX9_replace z.1 = .ok z.2 := by decide +kernel
set_option maxHeartbeats 4000000 in
set_option maxRecDepth 100000 in
theorem c_X9_replace_2 (l : Launch) (D : va_G) (g : Nat → ClassId) (ad : Nat → Nat) (I : Nat → Nat → Int32) (L : Nat → Nat → Int64) (S : Nat → Nat) (Z : Nat → Nat → Int32) (Y : Int64) (q : Nat) (hq : q < 15) (hsp : SPI I 18) : CT l yX9_replace cX9_replace 6 ((Option.some FieldType.int)) ({ frames := 2, cells := 0, slots := 0, locals := 42 } : Room) [.ref (ad 0), .int (nI q)] D CL (TYS g) ([]) (WM ad g I L S Z Y) (S := Unit) (fun _ => some (.int (nI 0))) (fun _ => WM ad g I L S (u2 (u2 Z 3 0 (nI 0)) 3 0 (nI 2)) Y) (fun _ => True) 0 0 := by
  refine ct_of (by decide +kernel) (Nat.le_of_ble_eq_true rfl) ?_
  intro p e s m below meth c A X hr hnm hSB hRO hAf
  refine g_cs (ws' := WM ad g I L S Z Y ++ []) (lv' := [(0, .ref (ad 0)), (1, .int (nI q))]) (List.append_nil _) rfl ?_
  refine g_run X KX9_replace_0_0 KX9_replace_0_0_d 2 [(0, .ref (ad 0)), (1, .int (nI q))] [.int (nI 0), .ref (ad 0)] rfl ?_
  refine g_put X (ws' := WM ad g I L S (u2 Z 3 0 (nI 0)) Y ++ []) hinX9 tyX9 tyX9_ok nmX9 rfl 0 (by decide) w_1180 rfl rfl (ty := .int) rfl rfl rfl (0) (wm_get (k := 0) (by decide)) (Nat.le_of_ble_eq_true rfl) (wm_mo0) dX9_replace_2 ?_
  refine g_run X KX9_replace_5_1 KX9_replace_5_1_d 6 [(0, .ref (ad 0)), (1, .int (nI q))] [.int (nI q)] rfl ?_
  refine g_callS X hSB hAf (As := [.int (nI q)]) (wr := WM ad g I L S (u2 Z 3 0 (nI 0)) Y ++ []) (n := 1) (c_X9_isPlace_t l D g q (by omega)) rfl srcN hrdN w_1335 w_1333 w_1334 w_6 (by decide +kernel) rfl ⟨Nat.le_of_ble_eq_true rfl, Nat.le_of_ble_eq_true rfl⟩ rfl rfl rfl (Nat.le_of_ble_eq_true rfl) ⟨Nat.le_of_ble_eq_true rfl, Nat.le_of_ble_eq_true rfl⟩ dX9_replace_6 (fun hu1 _ => ?_)
  refine g_af (ws' := WM ad g I L S (u2 Z 3 0 (nI 0)) Y ++ []) (st' := [.int (nI 1)]) (cells' := 0) (slots' := 0) (pc' := 9) rfl rfl rfl rfl rfl ?_
  refine g_if_ne X 18 dX9_replace_9 (by decide) (fun hc2 => ?_) (fun hc2 => ?_)
  · refine g_run X KX9_replace_18_2 KX9_replace_18_2_d 19 [(0, .ref (ad 0)), (1, .int (nI q))] [.ref (ad 0)] rfl ?_
    refine g_callV X hSB hAf (srcW) (hrc1 := (rfl : CL[8]? = some _)) (wm_mem (k := 0) (by decide)) rfl (As := []) (wr := []) (n := 0) (c_X9_spares l D g ad I L S (u2 Z 3 0 (nI 0)) Y ) rfl srcN hrdN w_1348 w_1345 w_1347 w_s24 w_6 (by decide +kernel) rfl ⟨Nat.le_of_ble_eq_true rfl, Nat.le_of_ble_eq_true rfl⟩ rfl rfl rfl (Nat.le_of_ble_eq_true rfl) ⟨Nat.le_of_ble_eq_true rfl, Nat.le_of_ble_eq_true rfl⟩ dX9_replace_19 (fun hu3 _ => ?_)
    refine g_af (ws' := WM ad g I L S (u2 Z 3 0 (nI 0)) Y ++ []) (st' := [.int (nI (spn I 18))]) (cells' := 0) (slots' := 0) (pc' := 22) rfl rfl rfl rfl rfl ?_
    refine g_st (st' := [.int (nI 0)]) (by rw [spn_n hsp]) ?_
    refine g_if_ne X 31 dX9_replace_22 (by decide) (fun hc4 => ?_) (fun hc4 => ?_)
    · rw [nz_eq (by omega)] at hc4; first | omega | (simp at hc4)
    · refine g_run X KX9_replace_25_45 KX9_replace_25_45_d 27 [(0, .ref (ad 0)), (1, .int (nI q))] [.int (nI 2), .ref (ad 0)] rfl ?_
      refine g_callV X hSB hAf (srcW) (hrc1 := (rfl : CL[8]? = some _)) (wm_mem (k := 0) (by decide)) rfl (As := [.int (nI 2)]) (wr := []) (n := 1) (c_X9_refuse l D g ad I L S (u2 Z 3 0 (nI 0)) Y 2 ) rfl srcN hrdN w_1264 w_1261 w_1263 w_s12 w_6 (by decide +kernel) rfl ⟨Nat.le_of_ble_eq_true rfl, Nat.le_of_ble_eq_true rfl⟩ rfl rfl rfl (Nat.le_of_ble_eq_true rfl) ⟨Nat.le_of_ble_eq_true rfl, Nat.le_of_ble_eq_true rfl⟩ dX9_replace_27 (fun hu5 _ => ?_)
      refine g_af (ws' := WM ad g I L S (u2 (u2 Z 3 0 (nI 0)) 3 0 (nI 2)) Y ++ []) (st' := [.int (nI 0)]) (cells' := 0) (slots' := 0) (pc' := 30) rfl rfl rfl rfl rfl ?_
      exact g_iret X hr () (rfl) (trivial) (rfl) (Nat.le_of_ble_eq_true rfl) (Nat.le_of_ble_eq_true rfl) dX9_replace_30
  · rw [nz_eq (by omega)] at hc2; first | omega | (simp at hc2)

