def KX9_patrol_0_0 : List (Nat × Instr × Nat) := [(0, .aload_n 0, 1), (1, .iconst 0, 1)]
theorem KX9_patrol_0_0_d : ∀ z ∈ KX9_patrol_0_0, decode cX9_patrol z.1 = .ok z.2 := by decide +kernel
def KX9_patrol_5_1 : List (Nat × Instr × Nat) := [(5, .iload_n 1, 1), (6, .iconst 1, 1), (7, .bipush 40, 2)]
theorem KX9_patrol_5_1_d : ∀ z ∈ KX9_patrol_5_1, decode cX9_patrol z.1 = .ok z.2 := by decide +kernel
def KX9_patrol_21_2 : List (Nat × Instr × Nat) := [(21, .iconst 0, 1), (22, .istore_n 2, 1), (23, .iconst 0, 1), (24, .istore_n 3, 1)]
theorem KX9_patrol_21_2_d : ∀ z ∈ KX9_patrol_21_2, decode cX9_patrol z.1 = .ok z.2 := by decide +kernel
def KX9_patrol_25_3 : List (Nat × Instr × Nat) := [(25, .iload_n 3, 1), (26, .iload_n 1, 1)]
theorem KX9_patrol_25_3_d : ∀ z ∈ KX9_patrol_25_3, decode cX9_patrol z.1 = .ok z.2 := by decide +kernel
def KX9_patrol_69_4 : List (Nat × Instr × Nat) := [(69, .iload_n 2, 1)]
theorem KX9_patrol_69_4_d : ∀ z ∈ KX9_patrol_69_4, decode cX9_patrol z.1 = .ok z.2 := by decide +kernel
def KX9_patrol_30_5 : List (Nat × Instr × Nat) := [(30, .iload_n 2, 1), (31, .aload_n 0, 1), (32, .aload_n 0, 1)]
theorem KX9_patrol_30_5_d : ∀ z ∈ KX9_patrol_30_5, decode cX9_patrol z.1 = .ok z.2 := by decide +kernel
def KX9_patrol_39_6 : List (Nat × Instr × Nat) := [(39, .iconst (-1), 1)]
theorem KX9_patrol_39_6_d : ∀ z ∈ KX9_patrol_39_6, decode cX9_patrol z.1 = .ok z.2 := by decide +kernel
def KX9_patrol_47_7 : List (Nat × Instr × Nat) := [(47, .iconst 0, 1), (48, .iadd, 1), (49, .istore_n 2, 1), (50, .aload_n 0, 1), (51, .aload_n 0, 1)]
theorem KX9_patrol_47_7_d : ∀ z ∈ KX9_patrol_47_7, decode cX9_patrol z.1 = .ok z.2 := by decide +kernel
def KX9_patrol_55_8 : List (Nat × Instr × Nat) := [(55, .iconst 1, 1), (56, .iadd, 1), (57, .bipush 16, 2)]
theorem KX9_patrol_55_8_d : ∀ z ∈ KX9_patrol_55_8, decode cX9_patrol z.1 = .ok z.2 := by decide +kernel
def KX9_patrol_63_9 : List (Nat × Instr × Nat) := [(63, .iinc 3 1, 3), (66, .goto (-41), 3)]
theorem KX9_patrol_63_9_d : ∀ z ∈ KX9_patrol_63_9, decode cX9_patrol z.1 = .ok z.2 := by decide +kernel
def KX9_patrol_43_10 : List (Nat × Instr × Nat) := [(43, .iconst 1, 1), (44, .goto 4, 3), (48, .iadd, 1), (49, .istore_n 2, 1), (50, .aload_n 0, 1), (51, .aload_n 0, 1)]
theorem KX9_patrol_43_10_d : ∀ z ∈ KX9_patrol_43_10, decode cX9_patrol z.1 = .ok z.2 := by decide +kernel
set_option maxHeartbeats 4000000 in
set_option maxRecDepth 100000 in
theorem c_X9_patrol (l : Launch) (D : va_G) (g : Nat → ClassId) (ad : Nat → Nat) (I : Nat → Nat → Int32) (L : Nat → Nat → Int64) (S : Nat → Nat) (Z : Nat → Nat → Int32) (Y : Int64) (v : Nat) (n : Nat) (R : Nat → Nat) (hR : R16 R) (hZ : Z 0 = fun j => nI (R j)) (hS18 : ∀ p, p < 15 → S p < 18) (hSI : ∀ p q, p < 15 → q < 15 → S p = S q → p = q) (hK : kOK I) (hB : bOK I) (hpt : I 8 1 = nI n) (hn : n < 16) (h1 : 1 ≤ v) (hv : v < 41) : CT l yX9_patrol cX9_patrol 4 ((Option.some FieldType.int)) ({ frames := 5, cells := 40, slots := 600, locals := 127 } : Room) [.ref (ad 0), .int (nI v)] D CL (TYS g) ([]) (WM ad g I L S Z Y) (S := (Nat → Nat) × (Nat → Int32) × (Nat → Int32)) (fun _ => some (.int (nI (ptb I L S n v)))) (fun u => WM ad g ((ptr I L S n v).1) ((ptr I L S n v).2) S (z4 (u2 Z 3 0 (nI 0)) u.1 u.2.1 u.2.2) Y) (fun u => R16 u.1) 40 600 := by
  refine ct_of (by decide +kernel) (Nat.le_of_ble_eq_true rfl) ?_
  intro p e s m below meth c A X hr hnm hSB hRO hAf
  refine g_cs (ws' := WM ad g I L S (z4 Z R (Z 1) (Z 2)) Y ++ []) (lv' := [(0, .ref (ad 0)), (1, .int (nI v))]) (by rw [z4_e hZ]; exact List.append_nil _) rfl ?_
  refine g_run X KX9_patrol_0_0 KX9_patrol_0_0_d 2 [(0, .ref (ad 0)), (1, .int (nI v))] [.int (nI 0), .ref (ad 0)] rfl ?_
  refine g_put X (ws' := WM ad g I L S (z4 (u2 Z 3 0 (nI 0)) R (Z 1) (Z 2)) Y ++ []) hinX9 tyX9 tyX9_ok nmX9 rfl 0 (by decide) w_1180 rfl rfl (ty := .int) rfl rfl rfl (0) (wm_get (k := 0) (by decide)) (Nat.le_of_ble_eq_true rfl) (wm_so0) dX9_patrol_2 ?_
  refine g_run X KX9_patrol_5_1 KX9_patrol_5_1_d 9 [(0, .ref (ad 0)), (1, .int (nI v))] [.int (nI 40), .int (nI 1), .int (nI v)] rfl ?_
  refine g_callS X hSB hAf (As := [.int (nI v), .int (nI 1), .int (nI 40)]) (wr := WM ad g I L S (z4 (u2 Z 3 0 (nI 0)) R (Z 1) (Z 2)) Y ++ []) (n := 3) (c_X9_is_t l D g v 1 40 (by omega) (by omega) (by omega)) rfl srcN hrdN w_1260 w_1258 w_1259 w_6 (by decide +kernel) rfl ⟨Nat.le_of_ble_eq_true rfl, Nat.le_of_ble_eq_true rfl⟩ rfl rfl rfl (Nat.le_of_ble_eq_true rfl) ⟨Nat.le_of_ble_eq_true rfl, Nat.le_of_ble_eq_true rfl⟩ dX9_patrol_9 (fun hu1 _ => ?_)
  refine g_af (ws' := WM ad g I L S (z4 (u2 Z 3 0 (nI 0)) R (Z 1) (Z 2)) Y ++ []) (st' := [.int (nI 1)]) (cells' := 0) (slots' := 0) (pc' := 12) rfl rfl rfl rfl rfl ?_
  refine g_if_ne X 21 dX9_patrol_12 (by decide) (fun hc2 => ?_) (fun hc2 => ?_)
  · refine g_run X KX9_patrol_21_2 KX9_patrol_21_2_d 25 [(3, .int (nI 0)), (2, .int (nI 0)), (0, .ref (ad 0)), (1, .int (nI v))] [] rfl ?_
    refine g_lv (lv' := [(0, .ref (ad 0)), (1, .int (nI v)), (2, .int (nI 0)), (3, .int (nI 0))]) (lsub_c 2 rfl (lsub_c 3 rfl (lsub_c 1 rfl (lsub_c 0 rfl (lsub_n))))) ?_
    refine g_forX (σ := (Nat → Nat) × (Nat → Int32) × (Nat → Int32)) v (fun uX25 i => WM ad g ((ptr I L S n i).1) ((ptr I L S n i).2) S (z4 (u2 Z 3 0 (nI 0)) uX25.1 uX25.2.1 uX25.2.2) Y ++ []) (fun i => [(0, .ref (ad 0)), (1, .int (nI v)), (2, .int (nI (ptb I L S n i))), (3, .int (nI i))]) (fun uX25 i => R16 uX25.1) 1 15 (R, (Z 1), (Z 2)) (by assumption) (by rw [ptr]) (rfl) ?_ ?_
    · intro uX25 hP25
      refine g_widen (k := 40) (n := 600) (by omega) (by omega) ?_
      refine g_run X KX9_patrol_25_3 KX9_patrol_25_3_d 27 [(0, .ref (ad 0)), (1, .int (nI v)), (2, .int (nI (ptb I L S n v))), (3, .int (nI v))] [.int (nI v), .int (nI v)] rfl ?_
      refine g_icmp_ge X 69 dX9_patrol_27 (by decide) (fun hc3 => ?_) (fun hc3 => ?_)
      · refine g_run X KX9_patrol_69_4 KX9_patrol_69_4_d 70 [(0, .ref (ad 0)), (1, .int (nI v)), (2, .int (nI (ptb I L S n v))), (3, .int (nI v))] [.int (nI (ptb I L S n v))] rfl ?_
        exact g_iret X hr (uX25.1, uX25.2.1, uX25.2.2) (rfl) (by assumption) (rfl) (Nat.le_of_ble_eq_true rfl) (Nat.le_of_ble_eq_true rfl) dX9_patrol_70
      · rw [nI_leI (by omega) (by omega)] at hc3; first | omega | (simp at hc3)
    · intro i hi uX25 hP25 k25
      have hR25 : R16 uX25.1 := hP25
      have hatI := ptr_81 (L := L) (S := S) hpt hn i
      have hptI := ptr_ok (L := L) (S := S) (n := n) hK hB i
      refine g_run X KX9_patrol_25_3 KX9_patrol_25_3_d 27 [(0, .ref (ad 0)), (1, .int (nI v)), (2, .int (nI (ptb I L S n i))), (3, .int (nI i))] [.int (nI v), .int (nI i)] rfl ?_
      refine g_icmp_ge X 69 dX9_patrol_27 (by decide) (fun hc4 => ?_) (fun hc4 => ?_)
      · rw [nI_leI (by omega) (by omega)] at hc4; first | omega | (simp at hc4)
      · refine g_run X KX9_patrol_30_5 KX9_patrol_30_5_d 33 [(0, .ref (ad 0)), (1, .int (nI v)), (2, .int (nI (ptb I L S n i))), (3, .int (nI i))] [.ref (ad 0), .ref (ad 0), .int (nI (ptb I L S n i))] rfl ?_
        refine g_get X srcW (v := .int (((ptr I L S n i).1) 8 1)) hinX9 rfl 10 (by decide) w_1190 rfl (wm_mem (k := 0) (by decide)) rfl dX9_patrol_33 ?_
        refine g_st (st' := [.int (nI ((n + i) % 16)), .ref (ad 0), .int (nI (ptb I L S n i))]) (by rw [hatI]) ?_
        refine g_callV X hSB hAf (srcW) (hrc1 := (rfl : CL[8]? = some _)) (wm_mem (k := 0) (by decide)) rfl (As := [.int (nI ((n + i) % 16))]) (wr := []) (n := 1) (c_X9_fetchNow l D g ad ((ptr I L S n i).1) ((ptr I L S n i).2) S (z4 (u2 Z 3 0 (nI 0)) uX25.1 uX25.2.1 uX25.2.2) Y ((n + i) % 16) uX25.1 (by assumption) (rfl) (hS18) (hSI) (hptI.1) (hptI.2) (Nat.mod_lt _ (by decide))) rfl srcN hrdN w_1364 w_1361 w_1363 w_s26 w_6 (by decide +kernel) rfl ⟨Nat.le_of_ble_eq_true rfl, Nat.le_of_ble_eq_true rfl⟩ rfl rfl rfl (Nat.le_of_ble_eq_true rfl) ⟨by show (0 + i * 1) + 1 ≤ 40; omega, by show (0 + i * 15) + 15 ≤ 600; omega⟩ dX9_patrol_36 (fun hu5 hp_hu5 => ?_)
        refine g_af (ws' := WM ad g (ftA ((ptr I L S n i).1) ((ptr I L S n i).2) S ((n + i) % 16)) (ftL ((ptr I L S n i).1) ((ptr I L S n i).2) S ((n + i) % 16)) S (z4 (u2 Z 3 0 (nI 0)) hu5.1 hu5.2 (mdA uX25.2.2 (mwd ((ptr I L S n i).1) ((ptr I L S n i).2) S ((n + i) % 16)))) Y ++ []) (st' := [.int (wrO (rwd ((ptr I L S n i).1) ((ptr I L S n i).2) S ((n + i) % 16) 15) (oL (mwd ((ptr I L S n i).1) ((ptr I L S n i).2) S ((n + i) % 16)))), .int (nI (ptb I L S n i))]) (cells' := 0 + i * 1 + 1) (slots' := 0 + i * 15 + 15) (pc' := 39) (congrArg (fun z => (WM ad g (ftA ((ptr I L S n i).1) ((ptr I L S n i).2) S ((n + i) % 16)) (ftL ((ptr I L S n i).1) ((ptr I L S n i).2) S ((n + i) % 16)) S z Y) ++ []) z4_z4.symm) rfl rfl rfl rfl ?_
        refine g_run X KX9_patrol_39_6 KX9_patrol_39_6_d 40 [(0, .ref (ad 0)), (1, .int (nI v)), (2, .int (nI (ptb I L S n i))), (3, .int (nI i))] [.int (-nI 1), .int (wrO (rwd ((ptr I L S n i).1) ((ptr I L S n i).2) S ((n + i) % 16) 15) (oL (mwd ((ptr I L S n i).1) ((ptr I L S n i).2) S ((n + i) % 16)))), .int (nI (ptb I L S n i))] rfl ?_
        refine g_icmp_ne X 47 dX9_patrol_40 (by decide) (fun hc6 => ?_) (fun hc6 => ?_)
        · rw [wrO_m1, ← mwd_8 (j := 1) (v := nI (((n + i) % 16 + 1) % 16))] at hc6; have hpm : ¬ ptm I L S n i = -1 := hc6
          refine g_run X KX9_patrol_47_7 KX9_patrol_47_7_d 52 [(2, .int ((nI (ptb I L S n i)) + (nI 0))), (0, .ref (ad 0)), (1, .int (nI v)), (3, .int (nI i))] [.ref (ad 0), .ref (ad 0)] rfl ?_
          refine g_nm (lv' := [(2, .int (nI ((ptb I L S n i) + 0))), (0, .ref (ad 0)), (1, .int (nI v)), (3, .int (nI i))]) (st' := [.ref (ad 0), .ref (ad 0)]) (by simp only [nI_add]) (by simp only [nI_add]) ?_
          refine g_get X srcW (v := .int ((ftA ((ptr I L S n i).1) ((ptr I L S n i).2) S ((n + i) % 16)) 8 1)) hinX9 rfl 10 (by decide) w_1190 rfl (wm_mem (k := 0) (by decide)) rfl dX9_patrol_52 ?_
          refine g_st (st' := [.int (nI ((n + i) % 16)), .ref (ad 0)]) (by rw [ftA_8 (by decide) (by decide) (by decide), hatI]) ?_
          refine g_run X KX9_patrol_55_8 KX9_patrol_55_8_d 59 [(2, .int (nI ((ptb I L S n i) + 0))), (0, .ref (ad 0)), (1, .int (nI v)), (3, .int (nI i))] [.int (nI 16), .int ((nI ((n + i) % 16)) + (nI 1)), .ref (ad 0)] rfl ?_
          refine g_nm (lv' := [(2, .int (nI ((ptb I L S n i) + 0))), (0, .ref (ad 0)), (1, .int (nI v)), (3, .int (nI i))]) (st' := [.int (nI 16), .int (nI (((n + i) % 16) + 1)), .ref (ad 0)]) (by simp only [nI_add]) (by simp only [nI_add]) ?_
          refine g_irem X (v := nI ((((n + i) % 16) + 1) % 16)) (nI_ne0 (by decide) (by decide)) (pk_rem (by omega) (by omega) (by decide)) dX9_patrol_59 ?_
          refine g_put X (ws' := WM ad g (u2 (ftA ((ptr I L S n i).1) ((ptr I L S n i).2) S ((n + i) % 16)) 8 1 (nI ((((n + i) % 16) + 1) % 16))) (ftL ((ptr I L S n i).1) ((ptr I L S n i).2) S ((n + i) % 16)) S (z4 (u2 Z 3 0 (nI 0)) hu5.1 hu5.2 (mdA uX25.2.2 (mwd ((ptr I L S n i).1) ((ptr I L S n i).2) S ((n + i) % 16)))) Y ++ []) hinX9 tyX9 tyX9_ok nmX9 rfl 10 (by decide) w_1190 rfl rfl (ty := .int) rfl rfl rfl (0) (wm_get (k := 0) (by decide)) (Nat.le_of_ble_eq_true rfl) (wm_mo10) dX9_patrol_60 ?_
          refine g_run X KX9_patrol_63_9 KX9_patrol_63_9_d 25 [(3, .int ((nI i) + (nI 1))), (2, .int (nI ((ptb I L S n i) + 0))), (0, .ref (ad 0)), (1, .int (nI v))] [] rfl ?_
          refine g_nm (lv' := [(3, .int (nI (i + 1))), (2, .int (nI ((ptb I L S n i) + 0))), (0, .ref (ad 0)), (1, .int (nI v))]) (st' := []) (by simp only [nI_add]) (by simp only [nI_add]) ?_
          refine g_lv (lv' := [(0, .ref (ad 0)), (1, .int (nI v)), (2, .int (nI ((ptb I L S n i) + 0))), (3, .int (nI (i + 1)))]) (lsub_c 2 rfl (lsub_c 3 rfl (lsub_c 1 rfl (lsub_c 0 rfl (lsub_n))))) ?_
          refine g_cs (ws' := WM ad g ((ptr I L S n (i + 1)).1) ((ptr I L S n (i + 1)).2) S (z4 (u2 Z 3 0 (nI 0)) ((hu5.1, hu5.2, mdA uX25.2.2 (mwd ((ptr I L S n i).1) ((ptr I L S n i).2) S ((n + i) % 16))).1) ((hu5.1, hu5.2, mdA uX25.2.2 (mwd ((ptr I L S n i).1) ((ptr I L S n i).2) S ((n + i) % 16))).2.1) ((hu5.1, hu5.2, mdA uX25.2.2 (mwd ((ptr I L S n i).1) ((ptr I L S n i).2) S ((n + i) % 16))).2.2)) Y ++ []) (lv' := [(0, .ref (ad 0)), (1, .int (nI v)), (2, .int (nI (ptb I L S n (i + 1)))), (3, .int (nI (i + 1)))]) (by rw [ptr_s1, ptr_s2, ftA_81, ftL_81]) (by first | (rw [ptb, if_pos hpm]; done) | (rw [ptb, if_neg hpm]; done) | (rw [ptb, if_pos hpm]; rfl) | (rw [ptb, if_neg hpm]; rfl)) ?_
          exact k25 (hu5.1, hu5.2, mdA uX25.2.2 (mwd ((ptr I L S n i).1) ((ptr I L S n i).2) S ((n + i) % 16))) (by assumption)
        · rw [wrO_m1, ← mwd_8 (j := 1) (v := nI (((n + i) % 16 + 1) % 16))] at hc6; have hpm : ptm I L S n i = -1 := hc6
          refine g_run X KX9_patrol_43_10 KX9_patrol_43_10_d 52 [(2, .int ((nI (ptb I L S n i)) + (nI 1))), (0, .ref (ad 0)), (1, .int (nI v)), (3, .int (nI i))] [.ref (ad 0), .ref (ad 0)] rfl ?_
          refine g_nm (lv' := [(2, .int (nI ((ptb I L S n i) + 1))), (0, .ref (ad 0)), (1, .int (nI v)), (3, .int (nI i))]) (st' := [.ref (ad 0), .ref (ad 0)]) (by simp only [nI_add]) (by simp only [nI_add]) ?_
          refine g_get X srcW (v := .int ((ftA ((ptr I L S n i).1) ((ptr I L S n i).2) S ((n + i) % 16)) 8 1)) hinX9 rfl 10 (by decide) w_1190 rfl (wm_mem (k := 0) (by decide)) rfl dX9_patrol_52 ?_
          refine g_st (st' := [.int (nI ((n + i) % 16)), .ref (ad 0)]) (by rw [ftA_8 (by decide) (by decide) (by decide), hatI]) ?_
          refine g_run X KX9_patrol_55_8 KX9_patrol_55_8_d 59 [(2, .int (nI ((ptb I L S n i) + 1))), (0, .ref (ad 0)), (1, .int (nI v)), (3, .int (nI i))] [.int (nI 16), .int ((nI ((n + i) % 16)) + (nI 1)), .ref (ad 0)] rfl ?_
          refine g_nm (lv' := [(2, .int (nI ((ptb I L S n i) + 1))), (0, .ref (ad 0)), (1, .int (nI v)), (3, .int (nI i))]) (st' := [.int (nI 16), .int (nI (((n + i) % 16) + 1)), .ref (ad 0)]) (by simp only [nI_add]) (by simp only [nI_add]) ?_
          refine g_irem X (v := nI ((((n + i) % 16) + 1) % 16)) (nI_ne0 (by decide) (by decide)) (pk_rem (by omega) (by omega) (by decide)) dX9_patrol_59 ?_
          refine g_put X (ws' := WM ad g (u2 (ftA ((ptr I L S n i).1) ((ptr I L S n i).2) S ((n + i) % 16)) 8 1 (nI ((((n + i) % 16) + 1) % 16))) (ftL ((ptr I L S n i).1) ((ptr I L S n i).2) S ((n + i) % 16)) S (z4 (u2 Z 3 0 (nI 0)) hu5.1 hu5.2 (mdA uX25.2.2 (mwd ((ptr I L S n i).1) ((ptr I L S n i).2) S ((n + i) % 16)))) Y ++ []) hinX9 tyX9 tyX9_ok nmX9 rfl 10 (by decide) w_1190 rfl rfl (ty := .int) rfl rfl rfl (0) (wm_get (k := 0) (by decide)) (Nat.le_of_ble_eq_true rfl) (wm_mo10) dX9_patrol_60 ?_
          refine g_run X KX9_patrol_63_9 KX9_patrol_63_9_d 25 [(3, .int ((nI i) + (nI 1))), (2, .int (nI ((ptb I L S n i) + 1))), (0, .ref (ad 0)), (1, .int (nI v))] [] rfl ?_
          refine g_nm (lv' := [(3, .int (nI (i + 1))), (2, .int (nI ((ptb I L S n i) + 1))), (0, .ref (ad 0)), (1, .int (nI v))]) (st' := []) (by simp only [nI_add]) (by simp only [nI_add]) ?_
          refine g_lv (lv' := [(0, .ref (ad 0)), (1, .int (nI v)), (2, .int (nI ((ptb I L S n i) + 1))), (3, .int (nI (i + 1)))]) (lsub_c 2 rfl (lsub_c 3 rfl (lsub_c 1 rfl (lsub_c 0 rfl (lsub_n))))) ?_
          refine g_cs (ws' := WM ad g ((ptr I L S n (i + 1)).1) ((ptr I L S n (i + 1)).2) S (z4 (u2 Z 3 0 (nI 0)) ((hu5.1, hu5.2, mdA uX25.2.2 (mwd ((ptr I L S n i).1) ((ptr I L S n i).2) S ((n + i) % 16))).1) ((hu5.1, hu5.2, mdA uX25.2.2 (mwd ((ptr I L S n i).1) ((ptr I L S n i).2) S ((n + i) % 16))).2.1) ((hu5.1, hu5.2, mdA uX25.2.2 (mwd ((ptr I L S n i).1) ((ptr I L S n i).2) S ((n + i) % 16))).2.2)) Y ++ []) (lv' := [(0, .ref (ad 0)), (1, .int (nI v)), (2, .int (nI (ptb I L S n (i + 1)))), (3, .int (nI (i + 1)))]) (by rw [ptr_s1, ptr_s2, ftA_81, ftL_81]) (by first | (rw [ptb, if_pos hpm]; done) | (rw [ptb, if_neg hpm]; done) | (rw [ptb, if_pos hpm]; rfl) | (rw [ptb, if_neg hpm]; rfl)) ?_
          exact k25 (hu5.1, hu5.2, mdA uX25.2.2 (mwd ((ptr I L S n i).1) ((ptr I L S n i).2) S ((n + i) % 16))) (by assumption)
  · rw [nz_eq (by omega)] at hc2; first | omega | (simp at hc2)

def KX9_patrol_15_11 : List (Nat × Instr × Nat) := [(15, .aload_n 0, 1), (16, .iconst 1, 1)]
theorem KX9_patrol_15_11_d : ∀ z ∈ KX9_patrol_15_11, decode cX9_patrol z.1 = .ok z.2 := by decide +kernel
set_option maxHeartbeats 4000000 in
set_option maxRecDepth 100000 in
theorem c_X9_patrol_1 (l : Launch) (D : va_G) (g : Nat → ClassId) (ad : Nat → Nat) (I : Nat → Nat → Int32) (L : Nat → Nat → Int64) (S : Nat → Nat) (Z : Nat → Nat → Int32) (Y : Int64) (x : Int32) (hx : x < nI 1 ∨ ¬ x ≤ nI 40) : CT l yX9_patrol cX9_patrol 4 ((Option.some FieldType.int)) ({ frames := 1, cells := 0, slots := 0, locals := 22 } : Room) [.ref (ad 0), .int x] D CL (TYS g) ([]) (WM ad g I L S Z Y) (S := Unit) (fun _ => some (.int (nI 0))) (fun _ => WM ad g I L S (u2 (u2 Z 3 0 (nI 0)) 3 0 (nI 1)) Y) (fun _ => True) 0 0 := by
  refine ct_of (by decide +kernel) (Nat.le_of_ble_eq_true rfl) ?_
  intro p e s m below meth c A X hr hnm hSB hRO hAf
  refine g_cs (ws' := WM ad g I L S Z Y ++ []) (lv' := [(0, .ref (ad 0)), (1, .int x)]) (List.append_nil _) rfl ?_
  refine g_run X KX9_patrol_0_0 KX9_patrol_0_0_d 2 [(0, .ref (ad 0)), (1, .int x)] [.int (nI 0), .ref (ad 0)] rfl ?_
  refine g_put X (ws' := WM ad g I L S (u2 Z 3 0 (nI 0)) Y ++ []) hinX9 tyX9 tyX9_ok nmX9 rfl 0 (by decide) w_1180 rfl rfl (ty := .int) rfl rfl rfl (0) (wm_get (k := 0) (by decide)) (Nat.le_of_ble_eq_true rfl) (wm_mo0) dX9_patrol_2 ?_
  refine g_run X KX9_patrol_5_1 KX9_patrol_5_1_d 9 [(0, .ref (ad 0)), (1, .int x)] [.int (nI 40), .int (nI 1), .int x] rfl ?_
  refine g_callS X hSB hAf (As := [.int x, .int (nI 1), .int (nI 40)]) (wr := WM ad g I L S (u2 Z 3 0 (nI 0)) Y ++ []) (n := 3) (c_X9_is_f l D g x (nI 1) (nI 40) (hx)) rfl srcN hrdN w_1260 w_1258 w_1259 w_6 (by decide +kernel) rfl ⟨Nat.le_of_ble_eq_true rfl, Nat.le_of_ble_eq_true rfl⟩ rfl rfl rfl (Nat.le_of_ble_eq_true rfl) ⟨Nat.le_of_ble_eq_true rfl, Nat.le_of_ble_eq_true rfl⟩ dX9_patrol_9 (fun hu1 _ => ?_)
  refine g_af (ws' := WM ad g I L S (u2 Z 3 0 (nI 0)) Y ++ []) (st' := [.int (nI 0)]) (cells' := 0) (slots' := 0) (pc' := 12) rfl rfl rfl rfl rfl ?_
  refine g_if_ne X 21 dX9_patrol_12 (by decide) (fun hc2 => ?_) (fun hc2 => ?_)
  · rw [nz_eq (by omega)] at hc2; first | omega | (simp at hc2)
  · refine g_run X KX9_patrol_15_11 KX9_patrol_15_11_d 17 [(0, .ref (ad 0)), (1, .int x)] [.int (nI 1), .ref (ad 0)] rfl ?_
    refine g_callV X hSB hAf (srcW) (hrc1 := (rfl : CL[8]? = some _)) (wm_mem (k := 0) (by decide)) rfl (As := [.int (nI 1)]) (wr := []) (n := 1) (c_X9_refuse l D g ad I L S (u2 Z 3 0 (nI 0)) Y 1 ) rfl srcN hrdN w_1264 w_1261 w_1263 w_s12 w_6 (by decide +kernel) rfl ⟨Nat.le_of_ble_eq_true rfl, Nat.le_of_ble_eq_true rfl⟩ rfl rfl rfl (Nat.le_of_ble_eq_true rfl) ⟨Nat.le_of_ble_eq_true rfl, Nat.le_of_ble_eq_true rfl⟩ dX9_patrol_17 (fun hu3 _ => ?_)
    refine g_af (ws' := WM ad g I L S (u2 (u2 Z 3 0 (nI 0)) 3 0 (nI 1)) Y ++ []) (st' := [.int (nI 0)]) (cells' := 0) (slots' := 0) (pc' := 20) rfl rfl rfl rfl rfl ?_
    exact g_iret X hr () (rfl) (trivial) (rfl) (Nat.le_of_ble_eq_true rfl) (Nat.le_of_ble_eq_true rfl) dX9_patrol_20

