def KX9_flush_0_0 : List (Nat × Instr × Nat) := [(0, .aload_n 0, 1), (1, .iconst 0, 1)]
theorem KX9_flush_0_0_d : ∀ z ∈ KX9_flush_0_0, decode cX9_flush z.1 = .ok z.2 := by decide +kernel
def KX9_flush_5_1 : List (Nat × Instr × Nat) := [(5, .aload_n 0, 1)]
theorem KX9_flush_5_1_d : ∀ z ∈ KX9_flush_5_1, decode cX9_flush z.1 = .ok z.2 := by decide +kernel
def KX9_flush_9_2 : List (Nat × Instr × Nat) := [(9, .istore_n 1, 1), (10, .iconst 0, 1), (11, .istore_n 2, 1)]
theorem KX9_flush_9_2_d : ∀ z ∈ KX9_flush_9_2, decode cX9_flush z.1 = .ok z.2 := by decide +kernel
def KX9_flush_12_3 : List (Nat × Instr × Nat) := [(12, .iload_n 2, 1), (13, .iconst 4, 1)]
theorem KX9_flush_12_3_d : ∀ z ∈ KX9_flush_12_3, decode cX9_flush z.1 = .ok z.2 := by decide +kernel
def KX9_flush_63_4 : List (Nat × Instr × Nat) := [(63, .iload_n 1, 1)]
theorem KX9_flush_63_4_d : ∀ z ∈ KX9_flush_63_4, decode cX9_flush z.1 = .ok z.2 := by decide +kernel
def KX9_flush_17_5 : List (Nat × Instr × Nat) := [(17, .aload_n 0, 1)]
theorem KX9_flush_17_5_d : ∀ z ∈ KX9_flush_17_5, decode cX9_flush z.1 = .ok z.2 := by decide +kernel
def KX9_flush_21_6 : List (Nat × Instr × Nat) := [(21, .iload_n 2, 1)]
theorem KX9_flush_21_6_d : ∀ z ∈ KX9_flush_21_6, decode cX9_flush z.1 = .ok z.2 := by decide +kernel
def KX9_flush_28_7 : List (Nat × Instr × Nat) := [(28, .astore_n 3, 1), (29, .aload_n 3, 1)]
theorem KX9_flush_28_7_d : ∀ z ∈ KX9_flush_28_7, decode cX9_flush z.1 = .ok z.2 := by decide +kernel
def KX9_flush_52_8 : List (Nat × Instr × Nat) := [(52, .aload_n 3, 1), (53, .iconst 0, 1)]
theorem KX9_flush_52_8_d : ∀ z ∈ KX9_flush_52_8, decode cX9_flush z.1 = .ok z.2 := by decide +kernel
def KX9_flush_57_9 : List (Nat × Instr × Nat) := [(57, .iinc 2 1, 3), (60, .goto (-48), 3)]
theorem KX9_flush_57_9_d : ∀ z ∈ KX9_flush_57_9, decode cX9_flush z.1 = .ok z.2 := by decide +kernel
def KX9_flush_36_10 : List (Nat × Instr × Nat) := [(36, .aload_n 0, 1), (37, .aload_n 3, 1)]
theorem KX9_flush_36_10_d : ∀ z ∈ KX9_flush_36_10, decode cX9_flush z.1 = .ok z.2 := by decide +kernel
def KX9_flush_41_11 : List (Nat × Instr × Nat) := [(41, .aload_n 0, 1), (42, .aload_n 3, 1)]
theorem KX9_flush_41_11_d : ∀ z ∈ KX9_flush_41_11, decode cX9_flush z.1 = .ok z.2 := by decide +kernel
set_option maxHeartbeats 4000000 in
set_option maxRecDepth 100000 in
theorem c_X9_flush (l : Launch) (D : va_G) (g : Nat → ClassId) (ad : Nat → Nat) (I : Nat → Nat → Int32) (L : Nat → Nat → Int64) (S : Nat → Nat) (Z : Nat → Nat → Int32) (Y : Int64) (R : Nat → Nat) (hR : R16 R) (hZ : Z 0 = fun j => nI (R j)) (hS18 : ∀ p, p < 15 → S p < 18) (hFr : FrI I) (hFw : FwI I L) : CT l yX9_flush cX9_flush 4 ((Option.some FieldType.int)) ({ frames := 4, cells := 4, slots := 60, locals := 102 } : Room) [.ref (ad 0)] D CL (TYS g) ([]) (WM ad g I L S Z Y) (S := (Nat → Nat) × (Nat → Int32) × (Nat → Int32)) (fun _ => some (.int (nI (dirt I 4)))) (fun u => WM ad g ((wba I L S 4).1) ((wba I L S 4).2) S (z4 (u2 Z 3 0 (nI 0)) u.1 u.2.1 u.2.2) Y) (fun u => R16 u.1) 4 60 := by
  refine ct_of (by decide +kernel) (Nat.le_of_ble_eq_true rfl) ?_
  intro p e s m below meth c A X hr hnm hSB hRO hAf
  refine g_cs (ws' := WM ad g I L S (z4 Z R (Z 1) (Z 2)) Y ++ []) (lv' := [(0, .ref (ad 0))]) (by rw [z4_e hZ]; exact List.append_nil _) rfl ?_
  refine g_run X KX9_flush_0_0 KX9_flush_0_0_d 2 [(0, .ref (ad 0))] [.int (nI 0), .ref (ad 0)] rfl ?_
  refine g_put X (ws' := WM ad g I L S (z4 (u2 Z 3 0 (nI 0)) R (Z 1) (Z 2)) Y ++ []) hinX9 tyX9 tyX9_ok nmX9 rfl 0 (by decide) w_1180 rfl rfl (ty := .int) rfl rfl rfl (0) (wm_get (k := 0) (by decide)) (Nat.le_of_ble_eq_true rfl) (wm_so0) dX9_flush_2 ?_
  refine g_run X KX9_flush_5_1 KX9_flush_5_1_d 6 [(0, .ref (ad 0))] [.ref (ad 0)] rfl ?_
  refine g_callV X hSB hAf (srcW) (hrc1 := (rfl : CL[8]? = some _)) (wm_mem (k := 0) (by decide)) rfl (As := []) (wr := []) (n := 0) (c_X9_dirty l D g ad I L S (z4 (u2 Z 3 0 (nI 0)) R (Z 1) (Z 2)) Y ) rfl srcN hrdN w_1420 w_1417 w_1419 w_s32 w_6 (by decide +kernel) rfl ⟨Nat.le_of_ble_eq_true rfl, Nat.le_of_ble_eq_true rfl⟩ rfl rfl rfl (Nat.le_of_ble_eq_true rfl) ⟨Nat.le_of_ble_eq_true rfl, Nat.le_of_ble_eq_true rfl⟩ dX9_flush_6 (fun hu1 _ => ?_)
  refine g_af (ws' := WM ad g I L S (z4 (u2 Z 3 0 (nI 0)) R (Z 1) (Z 2)) Y ++ []) (st' := [.int (nI (dirt I 4))]) (cells' := 0) (slots' := 0) (pc' := 9) rfl rfl rfl rfl rfl ?_
  refine g_run X KX9_flush_9_2 KX9_flush_9_2_d 12 [(2, .int (nI 0)), (1, .int (nI (dirt I 4))), (0, .ref (ad 0))] [] rfl ?_
  refine g_lv (lv' := [(0, .ref (ad 0)), (1, .int (nI (dirt I 4))), (2, .int (nI 0))]) (lsub_c 2 rfl (lsub_c 1 rfl (lsub_c 0 rfl (lsub_n)))) ?_
  refine g_forX (σ := (Nat → Nat) × (Nat → Int32) × (Nat → Int32)) 4 (fun uX12 i => WM ad g ((wba I L S i).1) ((wba I L S i).2) S (z4 (u2 Z 3 0 (nI 0)) uX12.1 uX12.2.1 uX12.2.2) Y ++ []) (fun i => [(0, .ref (ad 0)), (1, .int (nI (dirt I 4))), (2, .int (nI i))]) (fun uX12 i => R16 uX12.1) 1 15 (R, (Z 1), (Z 2)) (by assumption) (by rw [wba]) (rfl) ?_ ?_
  · intro uX12 hP12
    refine g_widen (k := 4) (n := 60) (Nat.le_of_ble_eq_true rfl) (Nat.le_of_ble_eq_true rfl) ?_
    refine g_run X KX9_flush_12_3 KX9_flush_12_3_d 14 [(0, .ref (ad 0)), (1, .int (nI (dirt I 4))), (2, .int (nI 4))] [.int (nI 4), .int (nI 4)] rfl ?_
    refine g_icmp_ge X 63 dX9_flush_14 (by decide) (fun hc2 => ?_) (fun hc2 => ?_)
    · refine g_run X KX9_flush_63_4 KX9_flush_63_4_d 64 [(0, .ref (ad 0)), (1, .int (nI (dirt I 4))), (2, .int (nI 4))] [.int (nI (dirt I 4))] rfl ?_
      exact g_iret X hr (uX12.1, uX12.2.1, uX12.2.2) (rfl) (by assumption) (rfl) (Nat.le_of_ble_eq_true rfl) (Nat.le_of_ble_eq_true rfl) dX9_flush_64
    · rw [nI_leI (by omega) (by omega)] at hc2; first | omega | (simp at hc2)
  · intro i hi uX12 hP12 k12
    have hR12 : R16 uX12.1 := hP12
    refine g_run X KX9_flush_12_3 KX9_flush_12_3_d 14 [(0, .ref (ad 0)), (1, .int (nI (dirt I 4))), (2, .int (nI i))] [.int (nI 4), .int (nI i)] rfl ?_
    refine g_icmp_ge X 63 dX9_flush_14 (by decide) (fun hc3 => ?_) (fun hc3 => ?_)
    · rw [nI_leI (by omega) (by omega)] at hc3; first | omega | (simp at hc3)
    · refine g_run X KX9_flush_17_5 KX9_flush_17_5_d 18 [(0, .ref (ad 0)), (1, .int (nI (dirt I 4))), (2, .int (nI i))] [.ref (ad 0)] rfl ?_
      refine g_get X srcW (v := .ref (ad 8)) hinX9 rfl 8 (by decide) w_1188 rfl (wm_mem (k := 0) (by decide)) rfl dX9_flush_18 ?_
      refine g_run X KX9_flush_21_6 KX9_flush_21_6_d 22 [(0, .ref (ad 0)), (1, .int (nI (dirt I 4))), (2, .int (nI i))] [.int (nI i), .ref (ad 8)] rfl ?_
      refine g_callV X hSB hAf (srcW) (hrc1 := (rfl : CL[9]? = some _)) (wm_mem (k := 8) (by decide)) rfl (As := [.int (nI i)]) (wr := []) (n := 1) (c_Jx4a65c_get_915e3 l D g ad ((wba I L S i).1) ((wba I L S i).2) S (z4 (u2 Z 3 0 (nI 0)) uX12.1 uX12.2.1 uX12.2.2) Y i (by omega)) rfl srcN hrdN w_1384 w_1381 w_1382 w_1383 w_9 (by decide +kernel) rfl ⟨Nat.le_of_ble_eq_true rfl, Nat.le_of_ble_eq_true rfl⟩ rfl rfl rfl (Nat.le_of_ble_eq_true rfl) ⟨by show (0 + i * 1) + 0 ≤ 4; omega, by show (0 + i * 15) + 0 ≤ 60; omega⟩ dX9_flush_22 (fun hu4 _ => ?_)
      refine g_af (ws' := WM ad g ((wba I L S i).1) ((wba I L S i).2) S (z4 (u2 Z 3 0 (nI 0)) uX12.1 uX12.2.1 uX12.2.2) Y ++ []) (st' := [.ref (ad (i + 13))]) (cells' := 0 + i * 1) (slots' := 0 + i * 15) (pc' := 25) rfl rfl rfl rfl rfl ?_
      refine g_cast X srcW (hc := (rfl : CL[7]? = some _)) (wm_fr (by omega)) w_1113 dX9_flush_25 ?_
      refine g_run X KX9_flush_28_7 KX9_flush_28_7_d 30 [(3, .ref (ad (i + 13))), (0, .ref (ad 0)), (1, .int (nI (dirt I 4))), (2, .int (nI i))] [.ref (ad (i + 13))] rfl ?_
      refine g_getN X srcW (host := "ChipfieldModel") (v := .int (((wba I L S i).1) 6 i)) hinX8 rfl 2 (by decide) (nw_in n_1122 rfl) rfl (wm_fr (by omega)) rfl dX9_flush_30 ?_
      refine g_if_eq X 52 dX9_flush_33 (by decide) (fun hc5 => ?_) (fun hc5 => ?_)
      · have hd0 := hc5
        refine g_run X KX9_flush_52_8 KX9_flush_52_8_d 54 [(3, .ref (ad (i + 13))), (0, .ref (ad 0)), (1, .int (nI (dirt I 4))), (2, .int (nI i))] [.int (nI 0), .ref (ad (i + 13))] rfl ?_
        refine g_putN X (ws' := WM ad g (u2 ((wba I L S i).1) 6 i (nI 0)) ((wba I L S i).2) S (z4 (u2 Z 3 0 (nI 0)) uX12.1 uX12.2.1 uX12.2.2) Y ++ []) hinX8 tyX8 tyX8_ok nmX8 rfl 2 (by decide) (nw_in n_1122 rfl) rfl rfl (ty := .boolean) rfl (by decide +kernel) rfl (i + 13) (wm_frG (by omega)) (Nat.le_of_ble_eq_true rfl) (wm_fr2 (by omega)) dX9_flush_54 ?_
        refine g_run X KX9_flush_57_9 KX9_flush_57_9_d 12 [(2, .int ((nI i) + (nI 1))), (3, .ref (ad (i + 13))), (0, .ref (ad 0)), (1, .int (nI (dirt I 4)))] [] rfl ?_
        refine g_nm (lv' := [(2, .int (nI (i + 1))), (3, .ref (ad (i + 13))), (0, .ref (ad 0)), (1, .int (nI (dirt I 4)))]) (st' := []) (by simp only [nI_add]) (by simp only [nI_add]) ?_
        refine g_lv (lv' := [(0, .ref (ad 0)), (1, .int (nI (dirt I 4))), (2, .int (nI (i + 1)))]) (lsub_c 2 rfl (lsub_c 3 rfl (lsub_c 0 rfl (lsub_n)))) ?_
        refine g_widen (k := 0 + i * 1 + 1) (n := 0 + i * 15 + 15) (by omega) (by omega) ?_
        refine g_cs (ws' := WM ad g ((wba I L S (i + 1)).1) ((wba I L S (i + 1)).2) S (z4 (u2 Z 3 0 (nI 0)) ((uX12.1, uX12.2.1, uX12.2.2).1) ((uX12.1, uX12.2.1, uX12.2.2).2.1) ((uX12.1, uX12.2.1, uX12.2.2).2.2)) Y ++ []) (lv' := [(0, .ref (ad 0)), (1, .int (nI (dirt I 4))), (2, .int (nI (i + 1)))]) (by first | rw [wba_s, wba_z hd0] | rw [wba_s, wba_w hnd]) (rfl) ?_
        exact k12 (uX12.1, uX12.2.1, uX12.2.2) (by assumption)
      · have hnd := hc5
        have hl2 := wba_ln hFr hi hnd; have hw2 := hFw.wba hi hnd
        refine g_run X KX9_flush_36_10 KX9_flush_36_10_d 38 [(3, .ref (ad (i + 13))), (0, .ref (ad 0)), (1, .int (nI (dirt I 4))), (2, .int (nI i))] [.ref (ad (i + 13)), .ref (ad 0)] rfl ?_
        refine g_getN X srcW (host := "ChipfieldModel") (v := .int (((wba I L S i).1) 5 i)) hinX8 rfl 0 (by decide) (nw_in n_1120 rfl) rfl (wm_fr (by omega)) rfl dX9_flush_38 ?_
        refine g_st (st' := [.int (nI (lnN ((wba I L S i).1) i)), .ref (ad 0)]) (by rw [← hl2.2]) ?_
        refine g_run X KX9_flush_41_11 KX9_flush_41_11_d 43 [(3, .ref (ad (i + 13))), (0, .ref (ad 0)), (1, .int (nI (dirt I 4))), (2, .int (nI i))] [.ref (ad (i + 13)), .ref (ad 0), .int (nI (lnN ((wba I L S i).1) i)), .ref (ad 0)] rfl ?_
        refine g_getN X srcW (host := "ChipfieldModel") (v := .long (mdt (((wba I L S i).2) 3 i))) hinX8 rfl 1 (by decide) (nw_in n_1121 rfl) rfl (wm_fr (by omega)) rfl dX9_flush_43 ?_
        refine g_st (st' := [.long (lN (((wba I L S i).2 3 i).toBitVec.toNat / 65536)), .ref (ad 0), .int (nI (lnN ((wba I L S i).1) i)), .ref (ad 0)]) (by rw [← mdt_n hw2.2]) ?_
        refine g_callV X hSB hAf (srcW) (hrc1 := (rfl : CL[8]? = some _)) (wm_mem (k := 0) (by decide)) rfl (As := [.long (lN (((wba I L S i).2 3 i).toBitVec.toNat / 65536))]) (wr := []) (n := 1) (c_X9_wordOf l D g ad ((wba I L S i).1) ((wba I L S i).2) S (z4 (u2 Z 3 0 (nI 0)) uX12.1 uX12.2.1 uX12.2.2) Y (((wba I L S i).2 3 i).toBitVec.toNat / 65536) uX12.1 (by assumption) (rfl) ((wd_back hw2.1 hw2.2).2)) rfl srcN hrdN w_1280 w_1277 w_1279 w_s15 w_6 (by decide +kernel) rfl ⟨Nat.le_of_ble_eq_true rfl, Nat.le_of_ble_eq_true rfl⟩ rfl rfl rfl (Nat.le_of_ble_eq_true rfl) ⟨by show (0 + i * 1) + 1 ≤ 4; omega, by show (0 + i * 15) + 15 ≤ 60; omega⟩ dX9_flush_46 (fun hu6 hp_hu6 => ?_)
        refine g_af (ws' := WM ad g ((wba I L S i).1) ((wba I L S i).2) S (z4 (u2 Z 3 0 (nI 0)) hu6.1 hu6.2.1 (wA (wdO (lN (((wba I L S i).2 3 i).toBitVec.toNat / 65536))))) Y ++ [(hu6.2.2, Sum.inl (g 0, 15, .inl (wA (wdO (lN (((wba I L S i).2 3 i).toBitVec.toNat / 65536))))))]) (st' := [.ref hu6.2.2, .int (nI (lnN ((wba I L S i).1) i)), .ref (ad 0)]) (cells' := 0 + i * 1 + 1) (slots' := 0 + i * 15 + 15) (pc' := 49) ((List.append_assoc _ ([(hu6.2.2, Sum.inl (g 0, 15, .inl (wA (wdO (lN (((wba I L S i).2 3 i).toBitVec.toNat / 65536))))))] : va_W) []).symm.trans (congrArg (fun z => (WM ad g ((wba I L S i).1) ((wba I L S i).2) S z Y ++ ([(hu6.2.2, Sum.inl (g 0, 15, .inl (wA (wdO (lN (((wba I L S i).2 3 i).toBitVec.toNat / 65536))))))] : va_W)) ++ []) z4_z4.symm)) rfl rfl rfl rfl ?_
        refine g_ws (ws' := WM ad g ((wba I L S i).1) ((wba I L S i).2) S (z4 (u2 Z 3 0 (nI 0)) hu6.1 hu6.2.1 (wA (wdO (lN (((wba I L S i).2 3 i).toBitVec.toNat / 65536))))) Y ++ [(hu6.2.2, Sum.inl (g 0, 15, .inl (wA ((wba I L S i).2 3 i))))]) (by rw [(wd_back hw2.1 hw2.2).1]) ?_
        refine g_callV X hSB hAf (srcW) (hrc1 := (rfl : CL[8]? = some _)) (wm_mem (k := 0) (by decide)) rfl (As := [.int (nI (lnN ((wba I L S i).1) i)), .ref hu6.2.2]) (wr := [(hu6.2.2, Sum.inl (g 0, 15, .inl (wA ((wba I L S i).2 3 i))))]) (n := 2) (c_X9_write l D g ad ((wba I L S i).1) ((wba I L S i).2) S (z4 (u2 Z 3 0 (nI 0)) hu6.1 hu6.2.1 (wA (wdO (lN (((wba I L S i).2 3 i).toBitVec.toNat / 65536))))) Y (lnN ((wba I L S i).1) i) hu6.2.2 ((wba I L S i).2 3 i) (hS18) (hl2.1)) rfl (src_sub (wt_mem (by simp))) (hrdT rfl (by simp)) w_1309 w_1306 w_1308 w_s21 w_6 (by decide +kernel) rfl ⟨Nat.le_of_ble_eq_true rfl, Nat.le_of_ble_eq_true rfl⟩ rfl rfl rfl (Nat.le_of_ble_eq_true rfl) ⟨by show (0 + i * 1 + 1) + 0 ≤ 4; omega, by show (0 + i * 15 + 15) + 0 ≤ 60; omega⟩ dX9_flush_49 (fun hu7 _ => ?_)
        refine g_af (ws' := WM ad g ((wba I L S i).1) (wrw S ((wba I L S i).2) (lnN ((wba I L S i).1) i) ((wba I L S i).2 3 i) 15) S (z4 (u2 Z 3 0 (nI 0)) hu6.1 hu6.2.1 (wA (wdO (lN (((wba I L S i).2 3 i).toBitVec.toNat / 65536))))) Y ++ [(hu6.2.2, Sum.inl (g 0, 15, .inl (wA ((wba I L S i).2 3 i))))]) (st' := []) (cells' := 0 + i * 1 + 1) (slots' := 0 + i * 15 + 15) (pc' := 52) rfl rfl rfl rfl rfl ?_
        refine g_run X KX9_flush_52_8 KX9_flush_52_8_d 54 [(3, .ref (ad (i + 13))), (0, .ref (ad 0)), (1, .int (nI (dirt I 4))), (2, .int (nI i))] [.int (nI 0), .ref (ad (i + 13))] rfl ?_
        refine g_putN X (ws' := WM ad g (u2 ((wba I L S i).1) 6 i (nI 0)) (wrw S ((wba I L S i).2) (lnN ((wba I L S i).1) i) ((wba I L S i).2 3 i) 15) S (z4 (u2 Z 3 0 (nI 0)) hu6.1 hu6.2.1 (wA (wdO (lN (((wba I L S i).2 3 i).toBitVec.toNat / 65536))))) Y ++ [(hu6.2.2, Sum.inl (g 0, 15, .inl (wA ((wba I L S i).2 3 i))))]) hinX8 tyX8 tyX8_ok nmX8 rfl 2 (by decide) (nw_in n_1122 rfl) rfl rfl (ty := .boolean) rfl (by decide +kernel) rfl (i + 13) (wm_frG (by omega)) (Nat.le_of_ble_eq_true rfl) (wm_fr2 (by omega)) dX9_flush_54 ?_
        refine g_run X KX9_flush_57_9 KX9_flush_57_9_d 12 [(2, .int ((nI i) + (nI 1))), (3, .ref (ad (i + 13))), (0, .ref (ad 0)), (1, .int (nI (dirt I 4)))] [] rfl ?_
        refine g_nm (lv' := [(2, .int (nI (i + 1))), (3, .ref (ad (i + 13))), (0, .ref (ad 0)), (1, .int (nI (dirt I 4)))]) (st' := []) (by simp only [nI_add]) (by simp only [nI_add]) ?_
        refine g_lv (lv' := [(0, .ref (ad 0)), (1, .int (nI (dirt I 4))), (2, .int (nI (i + 1)))]) (lsub_c 2 rfl (lsub_c 3 rfl (lsub_c 0 rfl (lsub_n)))) ?_
        refine g_dropM (a := WM ad g (u2 ((wba I L S i).1) 6 i (nI 0)) (wrw S ((wba I L S i).2) (lnN ((wba I L S i).1) i) ((wba I L S i).2 3 i) 15) S (z4 (u2 Z 3 0 (nI 0)) hu6.1 hu6.2.1 (wA (wdO (lN (((wba I L S i).2 3 i).toBitVec.toNat / 65536))))) Y) (b := []) rfl ?_
        refine g_cs (ws' := WM ad g ((wba I L S (i + 1)).1) ((wba I L S (i + 1)).2) S (z4 (u2 Z 3 0 (nI 0)) ((hu6.1, hu6.2.1, (wA (wdO (lN (((wba I L S i).2 3 i).toBitVec.toNat / 65536))))).1) ((hu6.1, hu6.2.1, (wA (wdO (lN (((wba I L S i).2 3 i).toBitVec.toNat / 65536))))).2.1) ((hu6.1, hu6.2.1, (wA (wdO (lN (((wba I L S i).2 3 i).toBitVec.toNat / 65536))))).2.2)) Y ++ []) (lv' := [(0, .ref (ad 0)), (1, .int (nI (dirt I 4))), (2, .int (nI (i + 1)))]) (by first | rw [wba_s, wba_z hd0] | rw [wba_s, wba_w hnd]) (rfl) ?_
        exact k12 (hu6.1, hu6.2.1, (wA (wdO (lN (((wba I L S i).2 3 i).toBitVec.toNat / 65536))))) (by assumption)

