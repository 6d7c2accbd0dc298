def KX9_bad_0_0 : List (Nat × Instr × Nat) := [(0, .iconst 0, 1), (1, .istore_n 1, 1), (2, .iconst 0, 1), (3, .istore_n 2, 1)]
theorem KX9_bad_0_0_d : ∀ z ∈ KX9_bad_0_0, decode cX9_bad z.1 = .ok z.2 := by decide +kernel
def KX9_bad_4_1 : List (Nat × Instr × Nat) := [(4, .iload_n 2, 1), (5, .bipush 16, 2)]
theorem KX9_bad_4_1_d : ∀ z ∈ KX9_bad_4_1, decode cX9_bad z.1 = .ok z.2 := by decide +kernel
def KX9_bad_40_2 : List (Nat × Instr × Nat) := [(40, .iload_n 1, 1)]
theorem KX9_bad_40_2_d : ∀ z ∈ KX9_bad_40_2, decode cX9_bad z.1 = .ok z.2 := by decide +kernel
def KX9_bad_10_3 : List (Nat × Instr × Nat) := [(10, .iload_n 1, 1), (11, .aload_n 0, 1), (12, .aload_n 0, 1), (13, .iload_n 2, 1)]
theorem KX9_bad_10_3_d : ∀ z ∈ KX9_bad_10_3, decode cX9_bad z.1 = .ok z.2 := by decide +kernel
def KX9_bad_17_4 : List (Nat × Instr × Nat) := [(17, .aload_n 0, 1)]
theorem KX9_bad_17_4_d : ∀ z ∈ KX9_bad_17_4, decode cX9_bad z.1 = .ok z.2 := by decide +kernel
def KX9_bad_31_5 : List (Nat × Instr × Nat) := [(31, .iconst 1, 1), (32, .iadd, 1), (33, .istore_n 1, 1), (34, .iinc 2 1, 3), (37, .goto (-33), 3)]
theorem KX9_bad_31_5_d : ∀ z ∈ KX9_bad_31_5, decode cX9_bad z.1 = .ok z.2 := by decide +kernel
def KX9_bad_27_6 : List (Nat × Instr × Nat) := [(27, .iconst 0, 1), (28, .goto 4, 3), (32, .iadd, 1), (33, .istore_n 1, 1), (34, .iinc 2 1, 3), (37, .goto (-33), 3)]
theorem KX9_bad_27_6_d : ∀ z ∈ KX9_bad_27_6, decode cX9_bad z.1 = .ok z.2 := by decide +kernel
set_option maxHeartbeats 4000000 in
set_option maxRecDepth 100000 in
theorem c_X9_bad (l : Launch) (D : va_G) (g : Nat → ClassId) (ad : Nat → Nat) (I : Nat → Nat → Int32) (L : Nat → Nat → Int64) (S : Nat → Nat) (Z : Nat → Nat → Int32) (Y : Int64) (R : Nat → Nat) (hR : R16 R) (hZ : Z 0 = fun j => nI (R j)) (hS18 : ∀ p, p < 15 → S p < 18) (hK : kOK I) : CT l yX9_bad cX9_bad 3 ((Option.some FieldType.int)) ({ frames := 4, cells := 16, slots := 240, locals := 101 } : Room) [.ref (ad 0)] D CL (TYS g) ([]) (WM ad g I L S Z Y) (S := (Nat → Nat) × (Nat → Int32) × (Nat → Int32)) (fun _ => some (.int (nI (bdl I L S 16)))) (fun u => WM ad g I L S (z4 Z u.1 u.2.1 u.2.2) Y) (fun u => R16 u.1) 16 240 := by
  refine ct_of (by decide +kernel) (Nat.le_of_ble_eq_true rfl) ?_
  intro p e s m below meth c A X hr hnm hSB hRO hAf
  refine g_cs (ws' := WM ad g I L S (z4 Z R (Z 1) (Z 2)) Y ++ []) (lv' := [(0, .ref (ad 0))]) (by rw [z4_e hZ]; exact List.append_nil _) rfl ?_
  refine g_run X KX9_bad_0_0 KX9_bad_0_0_d 4 [(2, .int (nI 0)), (1, .int (nI 0)), (0, .ref (ad 0))] [] rfl ?_
  refine g_lv (lv' := [(0, .ref (ad 0)), (1, .int (nI 0)), (2, .int (nI 0))]) (lsub_c 2 rfl (lsub_c 1 rfl (lsub_c 0 rfl (lsub_n)))) ?_
  refine g_forX (σ := (Nat → Nat) × (Nat → Int32) × (Nat → Int32)) 16 (fun uX4 i => WM ad g I L S (z4 Z uX4.1 uX4.2.1 uX4.2.2) Y ++ []) (fun i => [(0, .ref (ad 0)), (1, .int (nI (bdl I L S i))), (2, .int (nI i))]) (fun uX4 i => R16 uX4.1) 1 15 (R, (Z 1), (Z 2)) (by assumption) (rfl) (by rw [bdl]) ?_ ?_
  · intro uX4 hP4
    refine g_widen (k := 16) (n := 240) (Nat.le_of_ble_eq_true rfl) (Nat.le_of_ble_eq_true rfl) ?_
    refine g_run X KX9_bad_4_1 KX9_bad_4_1_d 7 [(0, .ref (ad 0)), (1, .int (nI (bdl I L S 16))), (2, .int (nI 16))] [.int (nI 16), .int (nI 16)] rfl ?_
    refine g_icmp_ge X 40 dX9_bad_7 (by decide) (fun hc1 => ?_) (fun hc1 => ?_)
    · refine g_run X KX9_bad_40_2 KX9_bad_40_2_d 41 [(0, .ref (ad 0)), (1, .int (nI (bdl I L S 16))), (2, .int (nI 16))] [.int (nI (bdl I L S 16))] rfl ?_
      exact g_iret X hr (uX4.1, uX4.2.1, uX4.2.2) (rfl) (by assumption) (rfl) (Nat.le_of_ble_eq_true rfl) (Nat.le_of_ble_eq_true rfl) dX9_bad_41
    · rw [nI_leI (by omega) (by omega)] at hc1; first | omega | (simp at hc1)
  · intro i hi uX4 hP4 k4
    have hR4 : R16 uX4.1 := hP4
    refine g_run X KX9_bad_4_1 KX9_bad_4_1_d 7 [(0, .ref (ad 0)), (1, .int (nI (bdl I L S i))), (2, .int (nI i))] [.int (nI 16), .int (nI i)] rfl ?_
    refine g_icmp_ge X 40 dX9_bad_7 (by decide) (fun hc2 => ?_) (fun hc2 => ?_)
    · rw [nI_leI (by omega) (by omega)] at hc2; first | omega | (simp at hc2)
    · refine g_run X KX9_bad_10_3 KX9_bad_10_3_d 14 [(0, .ref (ad 0)), (1, .int (nI (bdl I L S i))), (2, .int (nI i))] [.int (nI i), .ref (ad 0), .ref (ad 0), .int (nI (bdl I L S i))] rfl ?_
      refine g_callV X hSB hAf (srcW) (hrc1 := (rfl : CL[8]? = some _)) (wm_mem (k := 0) (by decide)) rfl (As := [.int (nI i)]) (wr := []) (n := 1) (c_X9_read l D g ad I L S (z4 Z uX4.1 uX4.2.1 uX4.2.2) Y i (hS18) (by omega) (by omega)) rfl srcN hrdN w_1272 w_1269 w_1271 w_s13 w_6 (by decide +kernel) rfl ⟨Nat.le_of_ble_eq_true rfl, Nat.le_of_ble_eq_true rfl⟩ rfl rfl rfl (Nat.le_of_ble_eq_true rfl) ⟨by show (0 + i * 1) + 1 ≤ 16; omega, by show (0 + i * 15) + 15 ≤ 240; omega⟩ dX9_bad_14 (fun hu3 _ => ?_)
      refine g_af (ws' := WM ad g I L S (z4 Z uX4.1 uX4.2.1 uX4.2.2) Y ++ [(hu3, Sum.inl (g 0, 15, .inl (wA (rwd I L S i 15))))]) (st' := [.ref hu3, .ref (ad 0), .int (nI (bdl I L S i))]) (cells' := 0 + i * 1 + 1) (slots' := 0 + i * 15 + 15) (pc' := 17) ((List.append_assoc _ ([(hu3, Sum.inl (g 0, 15, .inl (wA (rwd I L S i 15))))] : va_W) []).symm) rfl rfl rfl rfl ?_
      refine g_run X KX9_bad_17_4 KX9_bad_17_4_d 18 [(0, .ref (ad 0)), (1, .int (nI (bdl I L S i))), (2, .int (nI i))] [.ref (ad 0), .ref hu3, .ref (ad 0), .int (nI (bdl I L S i))] rfl ?_
      refine g_callV X hSB hAf (srcW) (hrc1 := (rfl : CL[8]? = some _)) (wm_mem (k := 0) (by decide)) rfl (As := []) (wr := [(hu3, Sum.inl (g 0, 15, .inl (wA (rwd I L S i 15))))]) (n := 0) (c_X9_erased l D g ad I L S (z4 Z uX4.1 uX4.2.1 uX4.2.2) Y (hS18)) rfl srcN hrdN w_1339 w_1336 w_1338 w_s23 w_6 (by decide +kernel) rfl ⟨Nat.le_of_ble_eq_true rfl, Nat.le_of_ble_eq_true rfl⟩ rfl rfl rfl (Nat.le_of_ble_eq_true rfl) ⟨by show (0 + i * 1 + 1) + 0 ≤ 16; omega, by show (0 + i * 15 + 15) + 0 ≤ 240; omega⟩ dX9_bad_18 (fun hu4 _ => ?_)
      refine g_af (ws' := WM ad g I L S (z4 Z uX4.1 uX4.2.1 uX4.2.2) Y ++ [(hu3, Sum.inl (g 0, 15, .inl (wA (rwd I L S i 15))))]) (st' := [.int (nI (ers I S 15)), .ref hu3, .ref (ad 0), .int (nI (bdl I L S i))]) (cells' := 0 + i * 1 + 1) (slots' := 0 + i * 15 + 15) (pc' := 21) rfl rfl rfl rfl rfl ?_
      refine g_callV X hSB hAf (srcW) (hrc1 := (rfl : CL[8]? = some _)) (wm_mem (k := 0) (by decide)) rfl (As := [.ref hu3, .int (nI (ers I S 15))]) (wr := [(hu3, Sum.inl (g 0, 15, .inl (wA (rwd I L S i 15))))]) (n := 2) (c_X9_mend l D g ad I L S (z4 Z uX4.1 uX4.2.1 uX4.2.2) Y hu3 (rwd I L S i 15) (ers I S 15) uX4.1 (by assumption) (rfl) (ers_lt _ _ _)) rfl (src_sub (wt_mem (by simp))) (hrdT rfl (by simp)) w_1352 w_1349 w_1351 w_s25 w_6 (by decide +kernel) rfl ⟨Nat.le_of_ble_eq_true rfl, Nat.le_of_ble_eq_true rfl⟩ rfl rfl rfl (Nat.le_of_ble_eq_true rfl) ⟨by show (0 + i * 1 + 1) + 0 ≤ 16; omega, by show (0 + i * 15 + 15) + 0 ≤ 240; omega⟩ dX9_bad_21 (fun hu5 hp_hu5 => ?_)
      refine g_af (ws' := WM ad g I L S (z4 Z hu5.1 hu5.2 (mdA uX4.2.2 (mw (ers I S 15) (rwd I L S i 15)))) Y ++ [(hu3, Sum.inl (g 0, 15, .inl (wA (rwd I L S i 15))))]) (st' := [.int (nI (sB (mw (ers I S 15) (rwd I L S i 15)))), .int (nI (bdl I L S i))]) (cells' := 0 + i * 1 + 1) (slots' := 0 + i * 15 + 15) (pc' := 24) (congrArg (fun z => (WM ad g I L S z Y) ++ [(hu3, Sum.inl (g 0, 15, .inl (wA (rwd I L S i 15))))]) z4_z4.symm) rfl rfl rfl rfl ?_
      refine g_if_eq X 31 dX9_bad_24 (by decide) (fun hc6 => ?_) (fun hc6 => ?_)
      · rw [sB_0] at hc6; have hbd : oL (mwd I L S i) = -1 := by rw [mwd, hc6]; rfl
        refine g_run X KX9_bad_31_5 KX9_bad_31_5_d 4 [(2, .int ((nI i) + (nI 1))), (1, .int ((nI (bdl I L S i)) + (nI 1))), (0, .ref (ad 0))] [] rfl ?_
        refine g_nm (lv' := [(2, .int (nI (i + 1))), (1, .int (nI ((bdl I L S i) + 1))), (0, .ref (ad 0))]) (st' := []) (by simp only [nI_add]) (by simp only [nI_add]) ?_
        refine g_lv (lv' := [(0, .ref (ad 0)), (1, .int (nI ((bdl I L S i) + 1))), (2, .int (nI (i + 1)))]) (lsub_c 2 rfl (lsub_c 1 rfl (lsub_c 0 rfl (lsub_n)))) ?_
        refine g_dropM (a := WM ad g I L S (z4 Z hu5.1 hu5.2 (mdA uX4.2.2 (mw (ers I S 15) (rwd I L S i 15)))) Y) (b := []) rfl ?_
        refine g_cs (ws' := WM ad g I L S (z4 Z ((hu5.1, hu5.2, mdA uX4.2.2 (mw (ers I S 15) (rwd I L S i 15))).1) ((hu5.1, hu5.2, mdA uX4.2.2 (mw (ers I S 15) (rwd I L S i 15))).2.1) ((hu5.1, hu5.2, mdA uX4.2.2 (mw (ers I S 15) (rwd I L S i 15))).2.2)) Y ++ []) (lv' := [(0, .ref (ad 0)), (1, .int (nI (bdl I L S (i + 1)))), (2, .int (nI (i + 1)))]) (rfl) (by first | (rw [bdl, if_pos hbd]; done) | (rw [bdl, if_neg hbd]; done) | (rw [bdl, if_pos hbd]; rfl) | (rw [bdl, if_neg hbd]; rfl)) ?_
        exact k4 (hu5.1, hu5.2, mdA uX4.2.2 (mw (ers I S 15) (rwd I L S i 15))) (by assumption)
      · rw [sB_0] at hc6; obtain ⟨y, hy⟩ := sB_1 hc6; have hbd : ¬ oL (mwd I L S i) = -1 := by rw [mwd, hy]; exact ne_m1 (mw_15 (rwd_15 _ _ _ _ _ (Nat.le_refl _)) hy)
        refine g_run X KX9_bad_27_6 KX9_bad_27_6_d 4 [(2, .int ((nI i) + (nI 1))), (1, .int ((nI (bdl I L S i)) + (nI 0))), (0, .ref (ad 0))] [] rfl ?_
        refine g_nm (lv' := [(2, .int (nI (i + 1))), (1, .int (nI ((bdl I L S i) + 0))), (0, .ref (ad 0))]) (st' := []) (by simp only [nI_add]) (by simp only [nI_add]) ?_
        refine g_lv (lv' := [(0, .ref (ad 0)), (1, .int (nI ((bdl I L S i) + 0))), (2, .int (nI (i + 1)))]) (lsub_c 2 rfl (lsub_c 1 rfl (lsub_c 0 rfl (lsub_n)))) ?_
        refine g_dropM (a := WM ad g I L S (z4 Z hu5.1 hu5.2 (mdA uX4.2.2 (mw (ers I S 15) (rwd I L S i 15)))) Y) (b := []) rfl ?_
        refine g_cs (ws' := WM ad g I L S (z4 Z ((hu5.1, hu5.2, mdA uX4.2.2 (mw (ers I S 15) (rwd I L S i 15))).1) ((hu5.1, hu5.2, mdA uX4.2.2 (mw (ers I S 15) (rwd I L S i 15))).2.1) ((hu5.1, hu5.2, mdA uX4.2.2 (mw (ers I S 15) (rwd I L S i 15))).2.2)) Y ++ []) (lv' := [(0, .ref (ad 0)), (1, .int (nI (bdl I L S (i + 1)))), (2, .int (nI (i + 1)))]) (rfl) (by first | (rw [bdl, if_pos hbd]; done) | (rw [bdl, if_neg hbd]; done) | (rw [bdl, if_pos hbd]; rfl) | (rw [bdl, if_neg hbd]; rfl)) ?_
        exact k4 (hu5.1, hu5.2, mdA uX4.2.2 (mw (ers I S 15) (rwd I L S i 15))) (by assumption)

