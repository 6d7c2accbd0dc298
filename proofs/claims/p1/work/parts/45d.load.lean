def KX9_load_0_0 : List (Nat × Instr × Nat) := [(0, .aload_n 0, 1), (1, .iconst 0, 1)]
theorem KX9_load_0_0_d : ∀ z ∈ KX9_load_0_0, decode cX9_load z.1 = .ok z.2 := by decide +kernel
def KX9_load_5_1 : List (Nat × Instr × Nat) := [(5, .iload_n 1, 1)]
theorem KX9_load_5_1_d : ∀ z ∈ KX9_load_5_1, decode cX9_load z.1 = .ok z.2 := by decide +kernel
def KX9_load_19_2 : List (Nat × Instr × Nat) := [(19, .aload_n 0, 1), (20, .iload_n 1, 1)]
theorem KX9_load_19_2_d : ∀ z ∈ KX9_load_19_2, decode cX9_load z.1 = .ok z.2 := by decide +kernel
def KX9_load_24_3 : List (Nat × Instr × Nat) := [(24, .istore_n 2, 1), (25, .iload_n 2, 1), (26, .iconst (-1), 1)]
theorem KX9_load_24_3_d : ∀ z ∈ KX9_load_24_3, decode cX9_load z.1 = .ok z.2 := by decide +kernel
def KX9_load_70_4 : List (Nat × Instr × Nat) := [(70, .aload_n 0, 1), (71, .dup, 1)]
theorem KX9_load_70_4_d : ∀ z ∈ KX9_load_70_4, decode cX9_load z.1 = .ok z.2 := by decide +kernel
def KX9_load_75_5 : List (Nat × Instr × Nat) := [(75, .iconst 1, 1), (76, .iadd, 1)]
theorem KX9_load_75_5_d : ∀ z ∈ KX9_load_75_5, decode cX9_load z.1 = .ok z.2 := by decide +kernel
def KX9_load_80_6 : List (Nat × Instr × Nat) := [(80, .aload_n 0, 1), (81, .iload_n 1, 1)]
theorem KX9_load_80_6_d : ∀ z ∈ KX9_load_80_6, decode cX9_load z.1 = .ok z.2 := by decide +kernel
def KX9_load_85_7 : List (Nat × Instr × Nat) := [(85, .iconst (-1), 1)]
theorem KX9_load_85_7_d : ∀ z ∈ KX9_load_85_7, decode cX9_load z.1 = .ok z.2 := by decide +kernel
def KX9_load_93_8 : List (Nat × Instr × Nat) := [(93, .aload_n 0, 1)]
theorem KX9_load_93_8_d : ∀ z ∈ KX9_load_93_8, decode cX9_load z.1 = .ok z.2 := by decide +kernel
def KX9_load_100_9 : List (Nat × Instr × Nat) := [(100, .lstore_n 3, 1), (101, .aload_n 0, 1), (102, .iload_n 1, 1), (103, .lload_n 3, 1), (104, .iconst 0, 1)]
theorem KX9_load_100_9_d : ∀ z ∈ KX9_load_100_9, decode cX9_load z.1 = .ok z.2 := by decide +kernel
def KX9_load_108_10 : List (Nat × Instr × Nat) := [(108, .pop, 1), (109, .lload_n 3, 1)]
theorem KX9_load_108_10_d : ∀ z ∈ KX9_load_108_10, decode cX9_load z.1 = .ok z.2 := by decide +kernel
def KX9_load_30_11 : List (Nat × Instr × Nat) := [(30, .aload_n 0, 1), (31, .dup, 1)]
theorem KX9_load_30_11_d : ∀ z ∈ KX9_load_30_11, decode cX9_load z.1 = .ok z.2 := by decide +kernel
def KX9_load_35_12 : List (Nat × Instr × Nat) := [(35, .iconst 1, 1), (36, .iadd, 1)]
theorem KX9_load_35_12_d : ∀ z ∈ KX9_load_35_12, decode cX9_load z.1 = .ok z.2 := by decide +kernel
def KX9_load_40_13 : List (Nat × Instr × Nat) := [(40, .aload_n 0, 1), (41, .aload_n 0, 1)]
theorem KX9_load_40_13_d : ∀ z ∈ KX9_load_40_13, decode cX9_load z.1 = .ok z.2 := by decide +kernel
def KX9_load_45_14 : List (Nat × Instr × Nat) := [(45, .iload_n 2, 1)]
theorem KX9_load_45_14_d : ∀ z ∈ KX9_load_45_14, decode cX9_load z.1 = .ok z.2 := by decide +kernel
def KX9_load_55_15 : List (Nat × Instr × Nat) := [(55, .aload_n 0, 1)]
theorem KX9_load_55_15_d : ∀ z ∈ KX9_load_55_15, decode cX9_load z.1 = .ok z.2 := by decide +kernel
def KX9_load_59_16 : List (Nat × Instr × Nat) := [(59, .iload_n 2, 1)]
theorem KX9_load_59_16_d : ∀ z ∈ KX9_load_59_16, decode cX9_load z.1 = .ok z.2 := by decide +kernel
set_option maxHeartbeats 4000000 in
set_option maxRecDepth 100000 in
theorem c_X9_load (l : Launch) (D : va_G) (g : Nat → ClassId) (ad : Nat → Nat) (I : Nat → Nat → Int32) (L : Nat → Nat → Int64) (S : Nat → Nat) (Z : Nat → Nat → Int32) (Y : Int64) (q : Nat) (R : Nat → Nat) (hR : R16 R) (hZ : Z 0 = fun j => nI (R j)) (hS18 : ∀ p, p < 15 → S p < 18) (hSI : ∀ p q, p < 15 → q < 15 → S p = S q → p = q) (hK : kOK I) (hB : bOK I) (hFr : FrI I) (hFw : FwI I L) (hin : ∀ k, k < 4 → (I 5 k = -nI 1 ↔ L 3 k = -1)) (hq : q < 16) : CT l yX9_load cX9_load 5 ((Option.some FieldType.long)) ({ frames := 6, cells := 2, slots := 30, locals := 150 } : Room) [.ref (ad 0), .int (nI q)] D CL (TYS g) ([]) (WM ad g I L S Z Y) (S := (Nat → Nat) × (Nat → Int32) × (Nat → Int32)) (fun _ => some (.long (dtO (ldV I L S q)))) (fun u => WM ad g (ldI I L S q) (ldL I L S q) S (z4 (u2 Z 3 0 (nI 0)) u.1 u.2.1 u.2.2) Y) (fun u => R16 u.1) 2 30 := by
  refine ct_of (by decide +kernel) (Nat.le_of_ble_eq_true rfl) ?_
  intro p e s m below meth c A X hr hnm hSB hRO hAf
  refine g_cs (ws' := WM ad g I L S (z4 Z R (Z 1) (Z 2)) Y ++ []) (lv' := [(0, .ref (ad 0)), (1, .int (nI q))]) (by rw [z4_e hZ]; exact List.append_nil _) rfl ?_
  refine g_run X KX9_load_0_0 KX9_load_0_0_d 2 [(0, .ref (ad 0)), (1, .int (nI q))] [.int (nI 0), .ref (ad 0)] rfl ?_
  refine g_put X (ws' := WM ad g I L S (z4 (u2 Z 3 0 (nI 0)) R (Z 1) (Z 2)) Y ++ []) hinX9 tyX9 tyX9_ok nmX9 rfl 0 (by decide) w_1180 rfl rfl (ty := .int) rfl rfl rfl (0) (wm_get (k := 0) (by decide)) (Nat.le_of_ble_eq_true rfl) (wm_so0) dX9_load_2 ?_
  refine g_run X KX9_load_5_1 KX9_load_5_1_d 6 [(0, .ref (ad 0)), (1, .int (nI q))] [.int (nI q)] rfl ?_
  refine g_callS X hSB hAf (As := [.int (nI q)]) (wr := WM ad g I L S (z4 (u2 Z 3 0 (nI 0)) R (Z 1) (Z 2)) Y ++ []) (n := 1) (c_X9_isLine_t l D g q (by omega)) rfl srcN hrdN w_1257 w_1255 w_1256 w_6 (by decide +kernel) rfl ⟨Nat.le_of_ble_eq_true rfl, Nat.le_of_ble_eq_true rfl⟩ rfl rfl rfl (Nat.le_of_ble_eq_true rfl) ⟨Nat.le_of_ble_eq_true rfl, Nat.le_of_ble_eq_true rfl⟩ dX9_load_6 (fun hu1 _ => ?_)
  refine g_af (ws' := WM ad g I L S (z4 (u2 Z 3 0 (nI 0)) R (Z 1) (Z 2)) Y ++ []) (st' := [.int (nI 1)]) (cells' := 0) (slots' := 0) (pc' := 9) rfl rfl rfl rfl rfl ?_
  refine g_if_ne X 19 dX9_load_9 (by decide) (fun hc2 => ?_) (fun hc2 => ?_)
  · refine g_run X KX9_load_19_2 KX9_load_19_2_d 21 [(0, .ref (ad 0)), (1, .int (nI q))] [.int (nI q), .ref (ad 0)] rfl ?_
    refine g_callV X hSB hAf (srcW) (hrc1 := (rfl : CL[8]? = some _)) (wm_mem (k := 0) (by decide)) rfl (As := [.int (nI q)]) (wr := []) (n := 1) (c_X9_frameOf l D g ad I L S (z4 (u2 Z 3 0 (nI 0)) R (Z 1) (Z 2)) Y q ) rfl srcN hrdN w_1380 w_1377 w_1379 w_s28 w_6 (by decide +kernel) rfl ⟨Nat.le_of_ble_eq_true rfl, Nat.le_of_ble_eq_true rfl⟩ rfl rfl rfl (Nat.le_of_ble_eq_true rfl) ⟨Nat.le_of_ble_eq_true rfl, Nat.le_of_ble_eq_true rfl⟩ dX9_load_21 (fun hu3 _ => ?_)
    refine g_af (ws' := WM ad g I L S (z4 (u2 Z 3 0 (nI 0)) R (Z 1) (Z 2)) Y ++ []) (st' := [.int (oI (fof I q))]) (cells' := 0) (slots' := 0) (pc' := 24) rfl rfl rfl rfl rfl ?_
    rcases hfo : fof I q with _ | k
    · refine g_st (st' := [.int (-nI 1)]) rfl ?_
      refine g_run X KX9_load_24_3 KX9_load_24_3_d 27 [(2, .int (-nI 1)), (0, .ref (ad 0)), (1, .int (nI q))] [.int (-nI 1), .int (-nI 1)] rfl ?_
      refine g_icmp_eq X 70 dX9_load_27 (by decide) (fun hc4 => ?_) (fun hc4 => ?_)
      · refine g_run X KX9_load_70_4 KX9_load_70_4_d 72 [(2, .int (-nI 1)), (0, .ref (ad 0)), (1, .int (nI q))] [.ref (ad 0), .ref (ad 0)] rfl ?_
        refine g_get X srcW (v := .int (I 8 7)) hinX9 rfl 16 (by decide) w_1196 rfl (wm_mem (k := 0) (by decide)) rfl dX9_load_72 ?_
        refine g_run X KX9_load_75_5 KX9_load_75_5_d 77 [(2, .int (-nI 1)), (0, .ref (ad 0)), (1, .int (nI q))] [.int ((I 8 7) + (nI 1)), .ref (ad 0)] rfl ?_
        refine g_put X (ws' := WM ad g (u2 I 8 7 ((I 8 7) + (nI 1))) L S (z4 (u2 Z 3 0 (nI 0)) R (Z 1) (Z 2)) Y ++ []) hinX9 tyX9 tyX9_ok nmX9 rfl 16 (by decide) w_1196 rfl rfl (ty := .int) rfl rfl rfl (0) (wm_get (k := 0) (by decide)) (Nat.le_of_ble_eq_true rfl) (wm_mo16) dX9_load_77 ?_
        refine g_ws (ws' := WM ad g (mis I) L S (z4 (u2 Z 3 0 (nI 0)) R (Z 1) (Z 2)) Y ++ []) (rfl) ?_
        refine g_run X KX9_load_80_6 KX9_load_80_6_d 82 [(2, .int (-nI 1)), (0, .ref (ad 0)), (1, .int (nI q))] [.int (nI q), .ref (ad 0)] rfl ?_
        refine g_callV X hSB hAf (srcW) (hrc1 := (rfl : CL[8]? = some _)) (wm_mem (k := 0) (by decide)) rfl (As := [.int (nI q)]) (wr := []) (n := 1) (c_X9_fetchNow l D g ad (mis I) L S (z4 (u2 Z 3 0 (nI 0)) R (Z 1) (Z 2)) Y q R (by assumption) (rfl) (hS18) (hSI) (hK.of (fun _ => u2_n (by decide))) (hB.of (fun _ => u2_n (by decide))) (by omega)) rfl srcN hrdN w_1364 w_1361 w_1363 w_s26 w_6 (by decide +kernel) rfl ⟨Nat.le_of_ble_eq_true rfl, Nat.le_of_ble_eq_true rfl⟩ rfl rfl rfl (Nat.le_of_ble_eq_true rfl) ⟨Nat.le_of_ble_eq_true rfl, Nat.le_of_ble_eq_true rfl⟩ dX9_load_82 (fun hu5 hp_hu5 => ?_)
        refine g_af (ws' := WM ad g (ftA (mis I) L S q) (ftL (mis I) L S q) S (z4 (u2 Z 3 0 (nI 0)) hu5.1 hu5.2 (mdA (Z 2) (mwd (mis I) L S q))) Y ++ []) (st' := [.int (wrO (rwd (mis I) L S q 15) (oL (mwd (mis I) L S q)))]) (cells' := 1) (slots' := 15) (pc' := 85) (congrArg (fun z => (WM ad g (ftA (mis I) L S q) (ftL (mis I) L S q) S z Y) ++ []) z4_z4.symm) rfl rfl rfl rfl ?_
        refine g_run X KX9_load_85_7 KX9_load_85_7_d 86 [(2, .int (-nI 1)), (0, .ref (ad 0)), (1, .int (nI q))] [.int (-nI 1), .int (wrO (rwd (mis I) L S q 15) (oL (mwd (mis I) L S q)))] rfl ?_
        refine g_icmp_ne X 93 dX9_load_86 (by decide) (fun hc6 => ?_) (fun hc6 => ?_)
        · rw [wrO_m1] at hc6; have hbad := hc6
          obtain ⟨y, hy⟩ := oL_ne hbad
          refine g_ws (ws' := WM ad g (ftA (mis I) L S q) (ftL (mis I) L S q) S (z4 (u2 Z 3 0 (nI 0)) hu5.1 hu5.2 (wA y)) Y ++ []) (by first | (rw [hy]; done) | (rw [hy]; rfl)) ?_
          refine g_run X KX9_load_93_8 KX9_load_93_8_d 94 [(2, .int (-nI 1)), (0, .ref (ad 0)), (1, .int (nI q))] [.ref (ad 0)] rfl ?_
          refine g_get X srcW (v := .ref (ad 10)) hinX9 rfl 18 (by decide) w_1198 rfl (wm_mem (k := 0) (by decide)) rfl dX9_load_94 ?_
          refine g_callS X hSB hAf (As := [.ref (ad 10)]) (wr := WM ad g (ftA (mis I) L S q) (ftL (mis I) L S q) S (z4 (u2 Z 3 0 (nI 0)) hu5.1 hu5.2 (wA y)) Y ++ []) (n := 1) (c_X9_dataOf l D g (ad 10) y (fn_15 hy)) rfl (src_sub (wm_mem (k := 10) (by decide))) hrdC w_1400 w_1398 w_1399 w_6 (by decide +kernel) rfl ⟨Nat.le_of_ble_eq_true rfl, Nat.le_of_ble_eq_true rfl⟩ rfl rfl rfl (Nat.le_of_ble_eq_true rfl) ⟨Nat.le_of_ble_eq_true rfl, Nat.le_of_ble_eq_true rfl⟩ dX9_load_97 (fun hu7 _ => ?_)
          refine g_af (ws' := WM ad g (ftA (mis I) L S q) (ftL (mis I) L S q) S (z4 (u2 Z 3 0 (nI 0)) hu5.1 hu5.2 (wA y)) Y ++ []) (st' := [.long (dtW y)]) (cells' := 1) (slots' := 15) (pc' := 100) rfl rfl rfl rfl rfl ?_
          refine g_run X KX9_load_100_9 KX9_load_100_9_d 105 [(3, .long (dtW y)), (2, .int (-nI 1)), (0, .ref (ad 0)), (1, .int (nI q))] [.int (nI 0), .long (dtW y), .int (nI q), .ref (ad 0)] rfl ?_
          refine g_callV X hSB hAf (srcW) (hrc1 := (rfl : CL[8]? = some _)) (wm_mem (k := 0) (by decide)) rfl (As := [.int (nI q), .long (dtW y), .int (nI 0)]) (wr := []) (n := 3) (c_X9_keep_0 l D g ad (ftA (mis I) L S q) (ftL (mis I) L S q) S (z4 (u2 Z 3 0 (nI 0)) hu5.1 hu5.2 (wA y)) Y q (dtW y) y hu5.1 (by assumption) (rfl) (hS18) (hFr.u8.ft) (hFw.u8.ft) (mdt_w (fn_15 hy))) rfl srcN hrdN w_1404 w_1401 w_1403 w_s30 w_6 (by decide +kernel) rfl ⟨Nat.le_of_ble_eq_true rfl, Nat.le_of_ble_eq_true rfl⟩ rfl rfl rfl (Nat.le_of_ble_eq_true rfl) ⟨Nat.le_of_ble_eq_true rfl, Nat.le_of_ble_eq_true rfl⟩ dX9_load_105 (fun hu8 hp_hu8 => ?_)
          refine g_af (ws' := WM ad g (rmI (ftA (mis I) L S q) q) (rmL (ftA (mis I) L S q) (ftL (mis I) L S q) S y) S (z4 (u2 Z 3 0 (nI 0)) hu8.1 hu8.2.1 hu8.2.2) Y ++ []) (st' := [.int (nI (old (ftA (mis I) L S q) 3))]) (cells' := 2) (slots' := 30) (pc' := 108) (congrArg (fun z => (WM ad g (rmI (ftA (mis I) L S q) q) (rmL (ftA (mis I) L S q) (ftL (mis I) L S q) S y) S z Y) ++ []) z4_z4.symm) rfl rfl rfl rfl ?_
          refine g_run X KX9_load_108_10 KX9_load_108_10_d 110 [(3, .long (dtW y)), (2, .int (-nI 1)), (0, .ref (ad 0)), (1, .int (nI q))] [.long (dtW y)] rfl ?_
          exact g_lret X hr (hu8.1, hu8.2.1, hu8.2.2) (by show some (Value.long _) = some (Value.long _); rw [(ld_n (L := L) (S := S) hfo hbad).2.2, hy, dtO_s (fn_15 hy)]) (by assumption) (by first | (rw [(ld_n (L := L) (S := S) hfo hbad).1, (ld_n (L := L) (S := S) hfo hbad).2.1, hy]; done) | (rw [(ld_n (L := L) (S := S) hfo hbad).1, (ld_n (L := L) (S := S) hfo hbad).2.1, hy]; rfl)) (Nat.le_of_ble_eq_true rfl) (Nat.le_of_ble_eq_true rfl) dX9_load_110
        · rw [wrO_m1] at hc6; have hbad := hc6
          refine g_ldc2 X (v := (-1 : Int64)) w_1397 dX9_load_89 ?_
          exact g_lret X hr (hu5.1, hu5.2, mdA (Z 2) (mwd (mis I) L S q)) (by show some (Value.long _) = some (Value.long _); first | (rw [(ld_b (L := L) (S := S) hfo hbad).2.2, hbad]; done) | (rw [(ld_b (L := L) (S := S) hfo hbad).2.2, hbad]; rfl)) (by assumption) (by first | (rw [(ld_b (L := L) (S := S) hfo hbad).1, (ld_b (L := L) (S := S) hfo hbad).2.1]; done) | (rw [(ld_b (L := L) (S := S) hfo hbad).1, (ld_b (L := L) (S := S) hfo hbad).2.1]; rfl)) (Nat.le_of_ble_eq_true rfl) (Nat.le_of_ble_eq_true rfl) dX9_load_92
      · exact absurd rfl hc4
    · have hk4 := (fof_lt hfo).1
      refine g_st (st' := [.int (nI k)]) rfl ?_
      refine g_run X KX9_load_24_3 KX9_load_24_3_d 27 [(2, .int (nI k)), (0, .ref (ad 0)), (1, .int (nI q))] [.int (-nI 1), .int (nI k)] rfl ?_
      refine g_icmp_eq X 70 dX9_load_27 (by decide) (fun hc9 => ?_) (fun hc9 => ?_)
      · exact absurd hc9 (m1_ne (by omega))
      · refine g_run X KX9_load_30_11 KX9_load_30_11_d 32 [(2, .int (nI k)), (0, .ref (ad 0)), (1, .int (nI q))] [.ref (ad 0), .ref (ad 0)] rfl ?_
        refine g_get X srcW (v := .int (I 8 6)) hinX9 rfl 15 (by decide) w_1195 rfl (wm_mem (k := 0) (by decide)) rfl dX9_load_32 ?_
        refine g_run X KX9_load_35_12 KX9_load_35_12_d 37 [(2, .int (nI k)), (0, .ref (ad 0)), (1, .int (nI q))] [.int ((I 8 6) + (nI 1)), .ref (ad 0)] rfl ?_
        refine g_put X (ws' := WM ad g (u2 I 8 6 ((I 8 6) + (nI 1))) L S (z4 (u2 Z 3 0 (nI 0)) R (Z 1) (Z 2)) Y ++ []) hinX9 tyX9 tyX9_ok nmX9 rfl 15 (by decide) w_1195 rfl rfl (ty := .int) rfl rfl rfl (0) (wm_get (k := 0) (by decide)) (Nat.le_of_ble_eq_true rfl) (wm_mo15) dX9_load_37 ?_
        refine g_run X KX9_load_40_13 KX9_load_40_13_d 42 [(2, .int (nI k)), (0, .ref (ad 0)), (1, .int (nI q))] [.ref (ad 0), .ref (ad 0)] rfl ?_
        refine g_get X srcW (v := .ref (ad 8)) hinX9 rfl 8 (by decide) w_1188 rfl (wm_mem (k := 0) (by decide)) rfl dX9_load_42 ?_
        refine g_run X KX9_load_45_14 KX9_load_45_14_d 46 [(2, .int (nI k)), (0, .ref (ad 0)), (1, .int (nI q))] [.int (nI k), .ref (ad 8), .ref (ad 0)] rfl ?_
        refine g_callV X hSB hAf (srcW) (hrc1 := (rfl : CL[9]? = some _)) (wm_mem (k := 8) (by decide)) rfl (As := [.int (nI k)]) (wr := []) (n := 1) (c_Jx4a65c_get_915e3 l D g ad (u2 I 8 6 ((I 8 6) + (nI 1))) L S (z4 (u2 Z 3 0 (nI 0)) R (Z 1) (Z 2)) Y k (by omega)) rfl srcN hrdN w_1384 w_1381 w_1382 w_1383 w_9 (by decide +kernel) rfl ⟨Nat.le_of_ble_eq_true rfl, Nat.le_of_ble_eq_true rfl⟩ rfl rfl rfl (Nat.le_of_ble_eq_true rfl) ⟨Nat.le_of_ble_eq_true rfl, Nat.le_of_ble_eq_true rfl⟩ dX9_load_46 (fun hu10 _ => ?_)
        refine g_af (ws' := WM ad g (u2 I 8 6 ((I 8 6) + (nI 1))) L S (z4 (u2 Z 3 0 (nI 0)) R (Z 1) (Z 2)) Y ++ []) (st' := [.ref (ad (k + 13)), .ref (ad 0)]) (cells' := 0) (slots' := 0) (pc' := 49) rfl rfl rfl rfl rfl ?_
        refine g_cast X srcW (hc := (rfl : CL[7]? = some _)) (wm_fr (by omega)) w_1113 dX9_load_49 ?_
        refine g_callV X hSB hAf (srcW) (hrc1 := (rfl : CL[8]? = some _)) (wm_mem (k := 0) (by decide)) rfl (As := [.ref (ad (k + 13))]) (wr := []) (n := 1) (c_X9_use l D g ad (u2 I 8 6 ((I 8 6) + (nI 1))) L S (z4 (u2 Z 3 0 (nI 0)) R (Z 1) (Z 2)) Y k (by omega)) rfl srcN hrdN w_1396 w_1393 w_1395 w_s29 w_6 (by decide +kernel) rfl ⟨Nat.le_of_ble_eq_true rfl, Nat.le_of_ble_eq_true rfl⟩ rfl rfl rfl (Nat.le_of_ble_eq_true rfl) ⟨Nat.le_of_ble_eq_true rfl, Nat.le_of_ble_eq_true rfl⟩ dX9_load_52 (fun hu11 _ => ?_)
        refine g_af (ws' := WM ad g (useI (u2 I 8 6 ((I 8 6) + (nI 1))) k) L S (z4 (u2 Z 3 0 (nI 0)) R (Z 1) (Z 2)) Y ++ []) (st' := []) (cells' := 0) (slots' := 0) (pc' := 55) rfl rfl rfl rfl rfl ?_
        refine g_run X KX9_load_55_15 KX9_load_55_15_d 56 [(2, .int (nI k)), (0, .ref (ad 0)), (1, .int (nI q))] [.ref (ad 0)] rfl ?_
        refine g_get X srcW (v := .ref (ad 8)) hinX9 rfl 8 (by decide) w_1188 rfl (wm_mem (k := 0) (by decide)) rfl dX9_load_56 ?_
        refine g_run X KX9_load_59_16 KX9_load_59_16_d 60 [(2, .int (nI k)), (0, .ref (ad 0)), (1, .int (nI q))] [.int (nI k), .ref (ad 8)] rfl ?_
        refine g_callV X hSB hAf (srcW) (hrc1 := (rfl : CL[9]? = some _)) (wm_mem (k := 8) (by decide)) rfl (As := [.int (nI k)]) (wr := []) (n := 1) (c_Jx4a65c_get_915e3 l D g ad (useI (u2 I 8 6 ((I 8 6) + (nI 1))) k) L S (z4 (u2 Z 3 0 (nI 0)) R (Z 1) (Z 2)) Y k (by omega)) rfl srcN hrdN w_1384 w_1381 w_1382 w_1383 w_9 (by decide +kernel) rfl ⟨Nat.le_of_ble_eq_true rfl, Nat.le_of_ble_eq_true rfl⟩ rfl rfl rfl (Nat.le_of_ble_eq_true rfl) ⟨Nat.le_of_ble_eq_true rfl, Nat.le_of_ble_eq_true rfl⟩ dX9_load_60 (fun hu12 _ => ?_)
        refine g_af (ws' := WM ad g (useI (u2 I 8 6 ((I 8 6) + (nI 1))) k) L S (z4 (u2 Z 3 0 (nI 0)) R (Z 1) (Z 2)) Y ++ []) (st' := [.ref (ad (k + 13))]) (cells' := 0) (slots' := 0) (pc' := 63) rfl rfl rfl rfl rfl ?_
        refine g_cast X srcW (hc := (rfl : CL[7]? = some _)) (wm_fr (by omega)) w_1113 dX9_load_63 ?_
        refine g_getN X srcW (host := "ChipfieldModel") (v := .long (mdt (L 3 k))) hinX8 rfl 1 (by decide) (nw_in n_1121 rfl) rfl (wm_fr (by omega)) rfl dX9_load_66 ?_
        exact g_lret X hr (R, (Z 1), (Z 2)) (by show some (Value.long _) = some (Value.long _); rw [(ld_s (L := L) (S := S) hfo).2.2, mdt_d (fun z => m1_ne (show q < 2 ^ 31 by omega) ((fof_lt hfo).2.symm.trans ((hin k hk4).mpr z)))]) (by assumption) (by first | (rw [(ld_s (L := L) (S := S) hfo).1, (ld_s (L := L) (S := S) hfo).2.1]; done) | (rw [(ld_s (L := L) (S := S) hfo).1, (ld_s (L := L) (S := S) hfo).2.1]; rfl)) (Nat.le_of_ble_eq_true rfl) (Nat.le_of_ble_eq_true rfl) dX9_load_69
  · rw [nz_eq (by omega)] at hc2; first | omega | (simp at hc2)

def KX9_load_12_17 : List (Nat × Instr × Nat) := [(12, .aload_n 0, 1), (13, .iconst 1, 1)]
theorem KX9_load_12_17_d : ∀ z ∈ KX9_load_12_17, decode cX9_load z.1 = .ok z.2 := by decide +kernel
def KX9_load_17_18 : List (Nat × Instr × Nat) := [(17, .i2l, 1)]
theorem KX9_load_17_18_d : ∀ z ∈ KX9_load_17_18, decode cX9_load z.1 = .ok z.2 := by decide +kernel
set_option maxHeartbeats 4000000 in
set_option maxRecDepth 100000 in
theorem c_X9_load_1 (l : Launch) (D : va_G) (g : Nat → ClassId) (ad : Nat → Nat) (I : Nat → Nat → Int32) (L : Nat → Nat → Int64) (S : Nat → Nat) (Z : Nat → Nat → Int32) (Y : Int64) (x : Int32) (hx : x < 0 ∨ ¬ x ≤ nI 15) : CT l yX9_load cX9_load 5 ((Option.some FieldType.long)) ({ frames := 2, cells := 0, slots := 0, locals := 42 } : Room) [.ref (ad 0), .int x] D CL (TYS g) ([]) (WM ad g I L S Z Y) (S := Unit) (fun _ => some (.long ((nI 0).toInt64))) (fun _ => WM ad g I L S (u2 (u2 Z 3 0 (nI 0)) 3 0 (nI 1)) Y) (fun _ => True) 0 0 := by
  refine ct_of (by decide +kernel) (Nat.le_of_ble_eq_true rfl) ?_
  intro p e s m below meth c A X hr hnm hSB hRO hAf
  refine g_cs (ws' := WM ad g I L S Z Y ++ []) (lv' := [(0, .ref (ad 0)), (1, .int x)]) (List.append_nil _) rfl ?_
  refine g_run X KX9_load_0_0 KX9_load_0_0_d 2 [(0, .ref (ad 0)), (1, .int x)] [.int (nI 0), .ref (ad 0)] rfl ?_
  refine g_put X (ws' := WM ad g I L S (u2 Z 3 0 (nI 0)) Y ++ []) hinX9 tyX9 tyX9_ok nmX9 rfl 0 (by decide) w_1180 rfl rfl (ty := .int) rfl rfl rfl (0) (wm_get (k := 0) (by decide)) (Nat.le_of_ble_eq_true rfl) (wm_mo0) dX9_load_2 ?_
  refine g_run X KX9_load_5_1 KX9_load_5_1_d 6 [(0, .ref (ad 0)), (1, .int x)] [.int x] rfl ?_
  refine g_callS X hSB hAf (As := [.int x]) (wr := WM ad g I L S (u2 Z 3 0 (nI 0)) Y ++ []) (n := 1) (c_X9_isLine_f l D g x (hx)) rfl srcN hrdN w_1257 w_1255 w_1256 w_6 (by decide +kernel) rfl ⟨Nat.le_of_ble_eq_true rfl, Nat.le_of_ble_eq_true rfl⟩ rfl rfl rfl (Nat.le_of_ble_eq_true rfl) ⟨Nat.le_of_ble_eq_true rfl, Nat.le_of_ble_eq_true rfl⟩ dX9_load_6 (fun hu1 _ => ?_)
  refine g_af (ws' := WM ad g I L S (u2 Z 3 0 (nI 0)) Y ++ []) (st' := [.int (nI 0)]) (cells' := 0) (slots' := 0) (pc' := 9) rfl rfl rfl rfl rfl ?_
  refine g_if_ne X 19 dX9_load_9 (by decide) (fun hc2 => ?_) (fun hc2 => ?_)
  · rw [nz_eq (by omega)] at hc2; first | omega | (simp at hc2)
  · refine g_run X KX9_load_12_17 KX9_load_12_17_d 14 [(0, .ref (ad 0)), (1, .int x)] [.int (nI 1), .ref (ad 0)] rfl ?_
    refine g_callV X hSB hAf (srcW) (hrc1 := (rfl : CL[8]? = some _)) (wm_mem (k := 0) (by decide)) rfl (As := [.int (nI 1)]) (wr := []) (n := 1) (c_X9_refuse l D g ad I L S (u2 Z 3 0 (nI 0)) Y 1 ) rfl srcN hrdN w_1264 w_1261 w_1263 w_s12 w_6 (by decide +kernel) rfl ⟨Nat.le_of_ble_eq_true rfl, Nat.le_of_ble_eq_true rfl⟩ rfl rfl rfl (Nat.le_of_ble_eq_true rfl) ⟨Nat.le_of_ble_eq_true rfl, Nat.le_of_ble_eq_true rfl⟩ dX9_load_14 (fun hu3 _ => ?_)
    refine g_af (ws' := WM ad g I L S (u2 (u2 Z 3 0 (nI 0)) 3 0 (nI 1)) Y ++ []) (st' := [.int (nI 0)]) (cells' := 0) (slots' := 0) (pc' := 17) rfl rfl rfl rfl rfl ?_
    refine g_run X KX9_load_17_18 KX9_load_17_18_d 18 [(0, .ref (ad 0)), (1, .int x)] [.long ((nI 0).toInt64)] rfl ?_
    exact g_lret X hr () (rfl) (trivial) (rfl) (Nat.le_of_ble_eq_true rfl) (Nat.le_of_ble_eq_true rfl) dX9_load_18

