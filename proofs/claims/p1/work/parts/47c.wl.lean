def KX9_wouldLose_0_0 : List (Nat × Instr × Nat) := [(0, .aload_n 0, 1), (1, .iconst 0, 1)]
theorem KX9_wouldLose_0_0_d : ∀ z ∈ KX9_wouldLose_0_0, decode cX9_wouldLose z.1 = .ok z.2 := by decide +kernel
def KX9_wouldLose_5_1 : List (Nat × Instr × Nat) := [(5, .iload_n 1, 1)]
theorem KX9_wouldLose_5_1_d : ∀ z ∈ KX9_wouldLose_5_1, decode cX9_wouldLose z.1 = .ok z.2 := by decide +kernel
def KX9_wouldLose_18_2 : List (Nat × Instr × Nat) := [(18, .iload_n 2, 1), (19, .iconst 0, 1), (20, .bipush 15, 2)]
theorem KX9_wouldLose_18_2_d : ∀ z ∈ KX9_wouldLose_18_2, decode cX9_wouldLose z.1 = .ok z.2 := by decide +kernel
def KX9_wouldLose_34_3 : List (Nat × Instr × Nat) := [(34, .iconst 0, 1), (35, .istore_n 3, 1), (36, .iconst 0, 1), (37, .istore 4, 2)]
theorem KX9_wouldLose_34_3_d : ∀ z ∈ KX9_wouldLose_34_3, decode cX9_wouldLose z.1 = .ok z.2 := by decide +kernel
def KX9_wouldLose_39_4 : List (Nat × Instr × Nat) := [(39, .iload 4, 2), (41, .bipush 16, 2)]
theorem KX9_wouldLose_39_4_d : ∀ z ∈ KX9_wouldLose_39_4, decode cX9_wouldLose z.1 = .ok z.2 := by decide +kernel
def KX9_wouldLose_92_5 : List (Nat × Instr × Nat) := [(92, .iload_n 3, 1)]
theorem KX9_wouldLose_92_5_d : ∀ z ∈ KX9_wouldLose_92_5, decode cX9_wouldLose z.1 = .ok z.2 := by decide +kernel
def KX9_wouldLose_46_6 : List (Nat × Instr × Nat) := [(46, .aload_n 0, 1), (47, .iload 4, 2)]
theorem KX9_wouldLose_46_6_d : ∀ z ∈ KX9_wouldLose_46_6, decode cX9_wouldLose z.1 = .ok z.2 := by decide +kernel
def KX9_wouldLose_52_7 : List (Nat × Instr × Nat) := [(52, .astore 5, 2), (54, .aload 5, 2), (56, .iload_n 1, 1), (57, .iload_n 2, 1), (58, .iload 4, 2), (60, .iadd, 1), (61, .bipush 16, 2)]
theorem KX9_wouldLose_52_7_d : ∀ z ∈ KX9_wouldLose_52_7, decode cX9_wouldLose z.1 = .ok z.2 := by decide +kernel
def KX9_wouldLose_65_8 : List (Nat × Instr × Nat) := [(65, .iload_n 3, 1), (66, .aload_n 0, 1), (67, .aload 5, 2), (69, .aload_n 0, 1)]
theorem KX9_wouldLose_65_8_d : ∀ z ∈ KX9_wouldLose_65_8, decode cX9_wouldLose z.1 = .ok z.2 := by decide +kernel
def KX9_wouldLose_83_9 : List (Nat × Instr × Nat) := [(83, .iconst 1, 1), (84, .iadd, 1), (85, .istore_n 3, 1), (86, .iinc 4 1, 3), (89, .goto (-50), 3)]
theorem KX9_wouldLose_83_9_d : ∀ z ∈ KX9_wouldLose_83_9, decode cX9_wouldLose z.1 = .ok z.2 := by decide +kernel
def KX9_wouldLose_79_10 : List (Nat × Instr × Nat) := [(79, .iconst 0, 1), (80, .goto 4, 3), (84, .iadd, 1), (85, .istore_n 3, 1), (86, .iinc 4 1, 3), (89, .goto (-50), 3)]
theorem KX9_wouldLose_79_10_d : ∀ z ∈ KX9_wouldLose_79_10, decode cX9_wouldLose z.1 = .ok z.2 := by decide +kernel
set_option maxHeartbeats 4000000 in
set_option maxRecDepth 100000 in
theorem c_X9_wouldLose (l : Launch) (D : va_G) (g : Nat → ClassId) (ad : Nat → Nat) (I : Nat → Nat → Int32) (L : Nat → Nat → Int64) (S : Nat → Nat) (Z : Nat → Nat → Int32) (Y : Int64) (q : Nat) (k : Nat) (R : Nat → Nat) (hR : R16 R) (hZ : Z 0 = fun j => nI (R j)) (hS18 : ∀ p, p < 15 → S p < 18) (hK : kOK I) (hq : q < 15) (hk : k < 16) : CT l yX9_wouldLose cX9_wouldLose 6 ((Option.some FieldType.int)) ({ frames := 4, cells := 16, slots := 240, locals := 101 } : Room) [.ref (ad 0), .int (nI q), .int (nI k)] D CL (TYS g) ([]) (WM ad g I L S Z Y) (S := (Nat → Nat) × (Nat → Int32) × (Nat → Int32)) (fun _ => some (.int (nI (wlV I L S q k 16)))) (fun u => WM ad g I L S (z4 (u2 Z 3 0 (nI 0)) u.1 u.2.1 u.2.2) Y) (fun u => R16 u.1) 16 240 := by
  refine ct_of (by decide +kernel) (Nat.le_of_ble_eq_true rfl) ?_
  intro p e s m below meth c A X hr hnm hSB hRO hAf
  refine g_cs (ws' := WM ad g I L S (z4 Z R (Z 1) (Z 2)) Y ++ []) (lv' := [(0, .ref (ad 0)), (1, .int (nI q)), (2, .int (nI k))]) (by rw [z4_e hZ]; exact List.append_nil _) rfl ?_
  refine g_run X KX9_wouldLose_0_0 KX9_wouldLose_0_0_d 2 [(0, .ref (ad 0)), (1, .int (nI q)), (2, .int (nI k))] [.int (nI 0), .ref (ad 0)] rfl ?_
  refine g_put X (ws' := WM ad g I L S (z4 (u2 Z 3 0 (nI 0)) R (Z 1) (Z 2)) Y ++ []) hinX9 tyX9 tyX9_ok nmX9 rfl 0 (by decide) w_1180 rfl rfl (ty := .int) rfl rfl rfl (0) (wm_get (k := 0) (by decide)) (Nat.le_of_ble_eq_true rfl) (wm_so0) dX9_wouldLose_2 ?_
  refine g_run X KX9_wouldLose_5_1 KX9_wouldLose_5_1_d 6 [(0, .ref (ad 0)), (1, .int (nI q)), (2, .int (nI k))] [.int (nI q)] rfl ?_
  refine g_callS X hSB hAf (As := [.int (nI q)]) (wr := WM ad g I L S (z4 (u2 Z 3 0 (nI 0)) R (Z 1) (Z 2)) Y ++ []) (n := 1) (c_X9_isPlace_t l D g q (by omega)) rfl srcN hrdN w_1335 w_1333 w_1334 w_6 (by decide +kernel) rfl ⟨Nat.le_of_ble_eq_true rfl, Nat.le_of_ble_eq_true rfl⟩ rfl rfl rfl (Nat.le_of_ble_eq_true rfl) ⟨Nat.le_of_ble_eq_true rfl, Nat.le_of_ble_eq_true rfl⟩ dX9_wouldLose_6 (fun hu1 _ => ?_)
  refine g_af (ws' := WM ad g I L S (z4 (u2 Z 3 0 (nI 0)) R (Z 1) (Z 2)) Y ++ []) (st' := [.int (nI 1)]) (cells' := 0) (slots' := 0) (pc' := 9) rfl rfl rfl rfl rfl ?_
  refine g_if_ne X 18 dX9_wouldLose_9 (by decide) (fun hc2 => ?_) (fun hc2 => ?_)
  · refine g_run X KX9_wouldLose_18_2 KX9_wouldLose_18_2_d 22 [(0, .ref (ad 0)), (1, .int (nI q)), (2, .int (nI k))] [.int (nI 15), .int (nI 0), .int (nI k)] rfl ?_
    refine g_callS X hSB hAf (As := [.int (nI k), .int (nI 0), .int (nI 15)]) (wr := WM ad g I L S (z4 (u2 Z 3 0 (nI 0)) R (Z 1) (Z 2)) Y ++ []) (n := 3) (c_X9_is_t l D g k 0 15 (by omega) (by omega) (by omega)) rfl srcN hrdN w_1260 w_1258 w_1259 w_6 (by decide +kernel) rfl ⟨Nat.le_of_ble_eq_true rfl, Nat.le_of_ble_eq_true rfl⟩ rfl rfl rfl (Nat.le_of_ble_eq_true rfl) ⟨Nat.le_of_ble_eq_true rfl, Nat.le_of_ble_eq_true rfl⟩ dX9_wouldLose_22 (fun hu3 _ => ?_)
    refine g_af (ws' := WM ad g I L S (z4 (u2 Z 3 0 (nI 0)) R (Z 1) (Z 2)) Y ++ []) (st' := [.int (nI 1)]) (cells' := 0) (slots' := 0) (pc' := 25) rfl rfl rfl rfl rfl ?_
    refine g_if_ne X 34 dX9_wouldLose_25 (by decide) (fun hc4 => ?_) (fun hc4 => ?_)
    · refine g_run X KX9_wouldLose_34_3 KX9_wouldLose_34_3_d 39 [(4, .int (nI 0)), (3, .int (nI 0)), (0, .ref (ad 0)), (1, .int (nI q)), (2, .int (nI k))] [] rfl ?_
      refine g_lv (lv' := [(0, .ref (ad 0)), (1, .int (nI q)), (2, .int (nI k)), (3, .int (nI 0)), (4, .int (nI 0))]) (lsub_c 2 rfl (lsub_c 3 rfl (lsub_c 4 rfl (lsub_c 1 rfl (lsub_c 0 rfl (lsub_n)))))) ?_
      refine g_forX (σ := (Nat → Nat) × (Nat → Int32) × (Nat → Int32)) 16 (fun uX39 i => WM ad g I L S (z4 (u2 Z 3 0 (nI 0)) uX39.1 uX39.2.1 uX39.2.2) Y ++ []) (fun i => [(0, .ref (ad 0)), (1, .int (nI q)), (2, .int (nI k)), (3, .int (nI (wlV I L S q k i))), (4, .int (nI i))]) (fun uX39 i => R16 uX39.1) 1 15 (R, (Z 1), (Z 2)) (by assumption) (rfl) (by rw [wlV]) ?_ ?_
      · intro uX39 hP39
        refine g_widen (k := 16) (n := 240) (Nat.le_of_ble_eq_true rfl) (Nat.le_of_ble_eq_true rfl) ?_
        refine g_run X KX9_wouldLose_39_4 KX9_wouldLose_39_4_d 43 [(0, .ref (ad 0)), (1, .int (nI q)), (2, .int (nI k)), (3, .int (nI (wlV I L S q k 16))), (4, .int (nI 16))] [.int (nI 16), .int (nI 16)] rfl ?_
        refine g_icmp_ge X 92 dX9_wouldLose_43 (by decide) (fun hc5 => ?_) (fun hc5 => ?_)
        · refine g_run X KX9_wouldLose_92_5 KX9_wouldLose_92_5_d 93 [(0, .ref (ad 0)), (1, .int (nI q)), (2, .int (nI k)), (3, .int (nI (wlV I L S q k 16))), (4, .int (nI 16))] [.int (nI (wlV I L S q k 16))] rfl ?_
          exact g_iret X hr (uX39.1, uX39.2.1, uX39.2.2) (rfl) (by assumption) (rfl) (Nat.le_of_ble_eq_true rfl) (Nat.le_of_ble_eq_true rfl) dX9_wouldLose_93
        · rw [nI_leI (by omega) (by omega)] at hc5; first | omega | (simp at hc5)
      · intro i hi uX39 hP39 k39
        have hR39 : R16 uX39.1 := hP39
        refine g_run X KX9_wouldLose_39_4 KX9_wouldLose_39_4_d 43 [(0, .ref (ad 0)), (1, .int (nI q)), (2, .int (nI k)), (3, .int (nI (wlV I L S q k i))), (4, .int (nI i))] [.int (nI 16), .int (nI i)] rfl ?_
        refine g_icmp_ge X 92 dX9_wouldLose_43 (by decide) (fun hc6 => ?_) (fun hc6 => ?_)
        · rw [nI_leI (by omega) (by omega)] at hc6; first | omega | (simp at hc6)
        · refine g_run X KX9_wouldLose_46_6 KX9_wouldLose_46_6_d 49 [(0, .ref (ad 0)), (1, .int (nI q)), (2, .int (nI k)), (3, .int (nI (wlV I L S q k i))), (4, .int (nI i))] [.int (nI i), .ref (ad 0)] rfl ?_
          refine g_callV X hSB hAf (srcW) (hrc1 := (rfl : CL[8]? = some _)) (wm_mem (k := 0) (by decide)) rfl (As := [.int (nI i)]) (wr := []) (n := 1) (c_X9_read l D g ad I L S (z4 (u2 Z 3 0 (nI 0)) uX39.1 uX39.2.1 uX39.2.2) Y i (hS18) (by omega) (by omega)) rfl srcN hrdN w_1272 w_1269 w_1271 w_s13 w_6 (by decide +kernel) rfl ⟨Nat.le_of_ble_eq_true rfl, Nat.le_of_ble_eq_true rfl⟩ rfl rfl rfl (Nat.le_of_ble_eq_true rfl) ⟨by show (0 + i * 1) + 1 ≤ 16; omega, by show (0 + i * 15) + 15 ≤ 240; omega⟩ dX9_wouldLose_49 (fun hu7 _ => ?_)
          refine g_af (ws' := WM ad g I L S (z4 (u2 Z 3 0 (nI 0)) uX39.1 uX39.2.1 uX39.2.2) Y ++ [(hu7, Sum.inl (g 0, 15, .inl (wA (rwd I L S i 15))))]) (st' := [.ref hu7]) (cells' := 0 + i * 1 + 1) (slots' := 0 + i * 15 + 15) (pc' := 52) ((List.append_assoc _ ([(hu7, Sum.inl (g 0, 15, .inl (wA (rwd I L S i 15))))] : va_W) []).symm) rfl rfl rfl rfl ?_
          refine g_run X KX9_wouldLose_52_7 KX9_wouldLose_52_7_d 63 [(5, .ref hu7), (0, .ref (ad 0)), (1, .int (nI q)), (2, .int (nI k)), (3, .int (nI (wlV I L S q k i))), (4, .int (nI i))] [.int (nI 16), .int ((nI k) + (nI i)), .int (nI q), .ref hu7] rfl ?_
          refine g_nm (lv' := [(5, .ref hu7), (0, .ref (ad 0)), (1, .int (nI q)), (2, .int (nI k)), (3, .int (nI (wlV I L S q k i))), (4, .int (nI i))]) (st' := [.int (nI 16), .int (nI (k + i)), .int (nI q), .ref hu7]) (by simp only [nI_add]) (by simp only [nI_add]) ?_
          refine g_irem X (v := nI ((k + i) % 16)) (nI_ne0 (by decide) (by decide)) (pk_rem (by omega) (by omega) (by decide)) dX9_wouldLose_63 ?_
          refine g_iast X (ws' := WM ad g I L S (z4 (u2 Z 3 0 (nI 0)) uX39.1 uX39.2.1 uX39.2.2) Y ++ [(hu7, Sum.inl (g 0, 15, .inl (wA (wn (rwd I L S i 15) q ((k + i) % 16)))))]) 0 rfl 35 (wt_get0) q rfl (by omega) (by decide) (by rw [wA_up hq (Nat.mod_lt _ (by decide))]; exact wt_set0) dX9_wouldLose_64 ?_
          refine g_run X KX9_wouldLose_65_8 KX9_wouldLose_65_8_d 70 [(5, .ref hu7), (0, .ref (ad 0)), (1, .int (nI q)), (2, .int (nI k)), (3, .int (nI (wlV I L S q k i))), (4, .int (nI i))] [.ref (ad 0), .ref hu7, .ref (ad 0), .int (nI (wlV I L S q k i))] rfl ?_
          refine g_callV X hSB hAf (srcW) (hrc1 := (rfl : CL[8]? = some _)) (wm_mem (k := 0) (by decide)) rfl (As := []) (wr := [(hu7, Sum.inl (g 0, 15, .inl (wA (wn (rwd I L S i 15) q ((k + i) % 16)))))]) (n := 0) (c_X9_erased l D g ad I L S (z4 (u2 Z 3 0 (nI 0)) uX39.1 uX39.2.1 uX39.2.2) Y (hS18)) rfl srcN hrdN w_1339 w_1336 w_1338 w_s23 w_6 (by decide +kernel) rfl ⟨Nat.le_of_ble_eq_true rfl, Nat.le_of_ble_eq_true rfl⟩ rfl rfl rfl (Nat.le_of_ble_eq_true rfl) ⟨by show (0 + i * 1 + 1) + 0 ≤ 16; omega, by show (0 + i * 15 + 15) + 0 ≤ 240; omega⟩ dX9_wouldLose_70 (fun hu8 _ => ?_)
          refine g_af (ws' := WM ad g I L S (z4 (u2 Z 3 0 (nI 0)) uX39.1 uX39.2.1 uX39.2.2) Y ++ [(hu7, Sum.inl (g 0, 15, .inl (wA (wn (rwd I L S i 15) q ((k + i) % 16)))))]) (st' := [.int (nI (ers I S 15)), .ref hu7, .ref (ad 0), .int (nI (wlV I L S q k i))]) (cells' := 0 + i * 1 + 1) (slots' := 0 + i * 15 + 15) (pc' := 73) rfl rfl rfl rfl rfl ?_
          refine g_callV X hSB hAf (srcW) (hrc1 := (rfl : CL[8]? = some _)) (wm_mem (k := 0) (by decide)) rfl (As := [.ref hu7, .int (nI (ers I S 15))]) (wr := [(hu7, Sum.inl (g 0, 15, .inl (wA (wn (rwd I L S i 15) q ((k + i) % 16)))))]) (n := 2) (c_X9_mend l D g ad I L S (z4 (u2 Z 3 0 (nI 0)) uX39.1 uX39.2.1 uX39.2.2) Y hu7 (wn (rwd I L S i 15) q ((k + i) % 16)) (ers I S 15) uX39.1 (by assumption) (rfl) (ers_lt _ _ _)) rfl (src_sub (wt_mem (by simp))) (hrdT rfl (by simp)) w_1352 w_1349 w_1351 w_s25 w_6 (by decide +kernel) rfl ⟨Nat.le_of_ble_eq_true rfl, Nat.le_of_ble_eq_true rfl⟩ rfl rfl rfl (Nat.le_of_ble_eq_true rfl) ⟨by show (0 + i * 1 + 1) + 0 ≤ 16; omega, by show (0 + i * 15 + 15) + 0 ≤ 240; omega⟩ dX9_wouldLose_73 (fun hu9 hp_hu9 => ?_)
          refine g_af (ws' := WM ad g I L S (z4 (u2 Z 3 0 (nI 0)) hu9.1 hu9.2 (mdA uX39.2.2 (mw (ers I S 15) (wn (rwd I L S i 15) q ((k + i) % 16))))) Y ++ [(hu7, Sum.inl (g 0, 15, .inl (wA (wn (rwd I L S i 15) q ((k + i) % 16)))))]) (st' := [.int (nI (sB (mw (ers I S 15) (wn (rwd I L S i 15) q ((k + i) % 16))))), .int (nI (wlV I L S q k i))]) (cells' := 0 + i * 1 + 1) (slots' := 0 + i * 15 + 15) (pc' := 76) (congrArg (fun z => (WM ad g I L S z Y) ++ [(hu7, Sum.inl (g 0, 15, .inl (wA (wn (rwd I L S i 15) q ((k + i) % 16)))))]) z4_z4.symm) rfl rfl rfl rfl ?_
          refine g_if_eq X 83 dX9_wouldLose_76 (by decide) (fun hc10 => ?_) (fun hc10 => ?_)
          · rw [sB_0] at hc10; have hbd : wlW I L S q k i = -1 := by rw [wlW, hc10]; rfl
            refine g_run X KX9_wouldLose_83_9 KX9_wouldLose_83_9_d 39 [(4, .int ((nI i) + (nI 1))), (3, .int ((nI (wlV I L S q k i)) + (nI 1))), (5, .ref hu7), (0, .ref (ad 0)), (1, .int (nI q)), (2, .int (nI k))] [] rfl ?_
            refine g_nm (lv' := [(4, .int (nI (i + 1))), (3, .int (nI ((wlV I L S q k i) + 1))), (5, .ref hu7), (0, .ref (ad 0)), (1, .int (nI q)), (2, .int (nI k))]) (st' := []) (by simp only [nI_add]) (by simp only [nI_add]) ?_
            refine g_lv (lv' := [(0, .ref (ad 0)), (1, .int (nI q)), (2, .int (nI k)), (3, .int (nI ((wlV I L S q k i) + 1))), (4, .int (nI (i + 1)))]) (lsub_c 3 rfl (lsub_c 4 rfl (lsub_c 5 rfl (lsub_c 1 rfl (lsub_c 0 rfl (lsub_n)))))) ?_
            refine g_dropM (a := WM ad g I L S (z4 (u2 Z 3 0 (nI 0)) hu9.1 hu9.2 (mdA uX39.2.2 (mw (ers I S 15) (wn (rwd I L S i 15) q ((k + i) % 16))))) Y) (b := []) rfl ?_
            refine g_cs (ws' := WM ad g I L S (z4 (u2 Z 3 0 (nI 0)) ((hu9.1, hu9.2, mdA uX39.2.2 (mw (ers I S 15) (wn (rwd I L S i 15) q ((k + i) % 16)))).1) ((hu9.1, hu9.2, mdA uX39.2.2 (mw (ers I S 15) (wn (rwd I L S i 15) q ((k + i) % 16)))).2.1) ((hu9.1, hu9.2, mdA uX39.2.2 (mw (ers I S 15) (wn (rwd I L S i 15) q ((k + i) % 16)))).2.2)) Y ++ []) (lv' := [(0, .ref (ad 0)), (1, .int (nI q)), (2, .int (nI k)), (3, .int (nI (wlV I L S q k (i + 1)))), (4, .int (nI (i + 1)))]) (rfl) (by first | (rw [wlV, if_pos hbd]; done) | (rw [wlV, if_neg hbd]; done) | (rw [wlV, if_pos hbd]; rfl) | (rw [wlV, if_neg hbd]; rfl)) ?_
            exact k39 (hu9.1, hu9.2, mdA uX39.2.2 (mw (ers I S 15) (wn (rwd I L S i 15) q ((k + i) % 16)))) (by assumption)
          · rw [sB_0] at hc10; obtain ⟨y, hy⟩ := sB_1 hc10; have hbd : ¬ wlW I L S q k i = -1 := by rw [wlW, hy]; exact ne_m1 (mw_15 (wn_15 hq (Nat.mod_lt _ (by decide)) (rwd_15 _ _ _ _ _ (Nat.le_refl _))) hy)
            refine g_run X KX9_wouldLose_79_10 KX9_wouldLose_79_10_d 39 [(4, .int ((nI i) + (nI 1))), (3, .int ((nI (wlV I L S q k i)) + (nI 0))), (5, .ref hu7), (0, .ref (ad 0)), (1, .int (nI q)), (2, .int (nI k))] [] rfl ?_
            refine g_nm (lv' := [(4, .int (nI (i + 1))), (3, .int (nI ((wlV I L S q k i) + 0))), (5, .ref hu7), (0, .ref (ad 0)), (1, .int (nI q)), (2, .int (nI k))]) (st' := []) (by simp only [nI_add]) (by simp only [nI_add]) ?_
            refine g_lv (lv' := [(0, .ref (ad 0)), (1, .int (nI q)), (2, .int (nI k)), (3, .int (nI ((wlV I L S q k i) + 0))), (4, .int (nI (i + 1)))]) (lsub_c 3 rfl (lsub_c 4 rfl (lsub_c 5 rfl (lsub_c 1 rfl (lsub_c 0 rfl (lsub_n)))))) ?_
            refine g_dropM (a := WM ad g I L S (z4 (u2 Z 3 0 (nI 0)) hu9.1 hu9.2 (mdA uX39.2.2 (mw (ers I S 15) (wn (rwd I L S i 15) q ((k + i) % 16))))) Y) (b := []) rfl ?_
            refine g_cs (ws' := WM ad g I L S (z4 (u2 Z 3 0 (nI 0)) ((hu9.1, hu9.2, mdA uX39.2.2 (mw (ers I S 15) (wn (rwd I L S i 15) q ((k + i) % 16)))).1) ((hu9.1, hu9.2, mdA uX39.2.2 (mw (ers I S 15) (wn (rwd I L S i 15) q ((k + i) % 16)))).2.1) ((hu9.1, hu9.2, mdA uX39.2.2 (mw (ers I S 15) (wn (rwd I L S i 15) q ((k + i) % 16)))).2.2)) Y ++ []) (lv' := [(0, .ref (ad 0)), (1, .int (nI q)), (2, .int (nI k)), (3, .int (nI (wlV I L S q k (i + 1)))), (4, .int (nI (i + 1)))]) (rfl) (by first | (rw [wlV, if_pos hbd]; done) | (rw [wlV, if_neg hbd]; done) | (rw [wlV, if_pos hbd]; rfl) | (rw [wlV, if_neg hbd]; rfl)) ?_
            exact k39 (hu9.1, hu9.2, mdA uX39.2.2 (mw (ers I S 15) (wn (rwd I L S i 15) q ((k + i) % 16)))) (by assumption)
    · rw [nz_eq (by omega)] at hc4; first | omega | (simp at hc4)
  · rw [nz_eq (by omega)] at hc2; first | omega | (simp at hc2)

def KX9_wouldLose_12_11 : List (Nat × Instr × Nat) := [(12, .aload_n 0, 1), (13, .iconst 1, 1)]
theorem KX9_wouldLose_12_11_d : ∀ z ∈ KX9_wouldLose_12_11, decode cX9_wouldLose z.1 = .ok z.2 := by decide +kernel
set_option maxHeartbeats 4000000 in
set_option maxRecDepth 100000 in
theorem c_X9_wouldLose_1 (l : Launch) (D : va_G) (g : Nat → ClassId) (ad : Nat → Nat) (I : Nat → Nat → Int32) (L : Nat → Nat → Int64) (S : Nat → Nat) (Z : Nat → Nat → Int32) (Y : Int64) (x : Int32) (y1 : Int32) (hx : x < 0 ∨ ¬ x ≤ nI 14) : CT l yX9_wouldLose cX9_wouldLose 6 ((Option.some FieldType.int)) ({ frames := 2, cells := 0, slots := 0, locals := 42 } : Room) [.ref (ad 0), .int x, .int y1] D CL (TYS g) ([]) (WM ad g I L S Z Y) (S := Unit) (fun _ => some (.int (nI 0))) (fun _ => WM ad g I L S (u2 (u2 Z 3 0 (nI 0)) 3 0 (nI 1)) Y) (fun _ => True) 0 0 := by
  refine ct_of (by decide +kernel) (Nat.le_of_ble_eq_true rfl) ?_
  intro p e s m below meth c A X hr hnm hSB hRO hAf
  refine g_cs (ws' := WM ad g I L S Z Y ++ []) (lv' := [(0, .ref (ad 0)), (1, .int x), (2, .int y1)]) (List.append_nil _) rfl ?_
  refine g_run X KX9_wouldLose_0_0 KX9_wouldLose_0_0_d 2 [(0, .ref (ad 0)), (1, .int x), (2, .int y1)] [.int (nI 0), .ref (ad 0)] rfl ?_
  refine g_put X (ws' := WM ad g I L S (u2 Z 3 0 (nI 0)) Y ++ []) hinX9 tyX9 tyX9_ok nmX9 rfl 0 (by decide) w_1180 rfl rfl (ty := .int) rfl rfl rfl (0) (wm_get (k := 0) (by decide)) (Nat.le_of_ble_eq_true rfl) (wm_mo0) dX9_wouldLose_2 ?_
  refine g_run X KX9_wouldLose_5_1 KX9_wouldLose_5_1_d 6 [(0, .ref (ad 0)), (1, .int x), (2, .int y1)] [.int x] rfl ?_
  refine g_callS X hSB hAf (As := [.int x]) (wr := WM ad g I L S (u2 Z 3 0 (nI 0)) Y ++ []) (n := 1) (c_X9_isPlace_f l D g x (hx)) rfl srcN hrdN w_1335 w_1333 w_1334 w_6 (by decide +kernel) rfl ⟨Nat.le_of_ble_eq_true rfl, Nat.le_of_ble_eq_true rfl⟩ rfl rfl rfl (Nat.le_of_ble_eq_true rfl) ⟨Nat.le_of_ble_eq_true rfl, Nat.le_of_ble_eq_true rfl⟩ dX9_wouldLose_6 (fun hu1 _ => ?_)
  refine g_af (ws' := WM ad g I L S (u2 Z 3 0 (nI 0)) Y ++ []) (st' := [.int (nI 0)]) (cells' := 0) (slots' := 0) (pc' := 9) rfl rfl rfl rfl rfl ?_
  refine g_if_ne X 18 dX9_wouldLose_9 (by decide) (fun hc2 => ?_) (fun hc2 => ?_)
  · rw [nz_eq (by omega)] at hc2; first | omega | (simp at hc2)
  · refine g_run X KX9_wouldLose_12_11 KX9_wouldLose_12_11_d 14 [(0, .ref (ad 0)), (1, .int x), (2, .int y1)] [.int (nI 1), .ref (ad 0)] rfl ?_
    refine g_callV X hSB hAf (srcW) (hrc1 := (rfl : CL[8]? = some _)) (wm_mem (k := 0) (by decide)) rfl (As := [.int (nI 1)]) (wr := []) (n := 1) (c_X9_refuse l D g ad I L S (u2 Z 3 0 (nI 0)) Y 1 ) rfl srcN hrdN w_1264 w_1261 w_1263 w_s12 w_6 (by decide +kernel) rfl ⟨Nat.le_of_ble_eq_true rfl, Nat.le_of_ble_eq_true rfl⟩ rfl rfl rfl (Nat.le_of_ble_eq_true rfl) ⟨Nat.le_of_ble_eq_true rfl, Nat.le_of_ble_eq_true rfl⟩ dX9_wouldLose_14 (fun hu3 _ => ?_)
    refine g_af (ws' := WM ad g I L S (u2 (u2 Z 3 0 (nI 0)) 3 0 (nI 1)) Y ++ []) (st' := [.int (nI 0)]) (cells' := 0) (slots' := 0) (pc' := 17) rfl rfl rfl rfl rfl ?_
    exact g_iret X hr () (rfl) (trivial) (rfl) (Nat.le_of_ble_eq_true rfl) (Nat.le_of_ble_eq_true rfl) dX9_wouldLose_17

def KX9_wouldLose_28_12 : List (Nat × Instr × Nat) := [(28, .aload_n 0, 1), (29, .iconst 2, 1)]
theorem KX9_wouldLose_28_12_d : ∀ z ∈ KX9_wouldLose_28_12, decode cX9_wouldLose z.1 = .ok z.2 := by decide +kernel
set_option maxHeartbeats 4000000 in
set_option maxRecDepth 100000 in
theorem c_X9_wouldLose_2 (l : Launch) (D : va_G) (g : Nat → ClassId) (ad : Nat → Nat) (I : Nat → Nat → Int32) (L : Nat → Nat → Int64) (S : Nat → Nat) (Z : Nat → Nat → Int32) (Y : Int64) (q : Nat) (x : Int32) (hq : q < 15) (hx : x < nI 0 ∨ ¬ x ≤ nI 15) : CT l yX9_wouldLose cX9_wouldLose 6 ((Option.some FieldType.int)) ({ frames := 2, cells := 0, slots := 0, locals := 42 } : Room) [.ref (ad 0), .int (nI q), .int x] D CL (TYS g) ([]) (WM ad g I L S Z Y) (S := Unit) (fun _ => some (.int (nI 0))) (fun _ => WM ad g I L S (u2 (u2 Z 3 0 (nI 0)) 3 0 (nI 2)) Y) (fun _ => True) 0 0 := by
  refine ct_of (by decide +kernel) (Nat.le_of_ble_eq_true rfl) ?_
  intro p e s m below meth c A X hr hnm hSB hRO hAf
  refine g_cs (ws' := WM ad g I L S Z Y ++ []) (lv' := [(0, .ref (ad 0)), (1, .int (nI q)), (2, .int x)]) (List.append_nil _) rfl ?_
  refine g_run X KX9_wouldLose_0_0 KX9_wouldLose_0_0_d 2 [(0, .ref (ad 0)), (1, .int (nI q)), (2, .int x)] [.int (nI 0), .ref (ad 0)] rfl ?_
  refine g_put X (ws' := WM ad g I L S (u2 Z 3 0 (nI 0)) Y ++ []) hinX9 tyX9 tyX9_ok nmX9 rfl 0 (by decide) w_1180 rfl rfl (ty := .int) rfl rfl rfl (0) (wm_get (k := 0) (by decide)) (Nat.le_of_ble_eq_true rfl) (wm_mo0) dX9_wouldLose_2 ?_
  refine g_run X KX9_wouldLose_5_1 KX9_wouldLose_5_1_d 6 [(0, .ref (ad 0)), (1, .int (nI q)), (2, .int x)] [.int (nI q)] rfl ?_
  refine g_callS X hSB hAf (As := [.int (nI q)]) (wr := WM ad g I L S (u2 Z 3 0 (nI 0)) Y ++ []) (n := 1) (c_X9_isPlace_t l D g q (by omega)) rfl srcN hrdN w_1335 w_1333 w_1334 w_6 (by decide +kernel) rfl ⟨Nat.le_of_ble_eq_true rfl, Nat.le_of_ble_eq_true rfl⟩ rfl rfl rfl (Nat.le_of_ble_eq_true rfl) ⟨Nat.le_of_ble_eq_true rfl, Nat.le_of_ble_eq_true rfl⟩ dX9_wouldLose_6 (fun hu1 _ => ?_)
  refine g_af (ws' := WM ad g I L S (u2 Z 3 0 (nI 0)) Y ++ []) (st' := [.int (nI 1)]) (cells' := 0) (slots' := 0) (pc' := 9) rfl rfl rfl rfl rfl ?_
  refine g_if_ne X 18 dX9_wouldLose_9 (by decide) (fun hc2 => ?_) (fun hc2 => ?_)
  · refine g_run X KX9_wouldLose_18_2 KX9_wouldLose_18_2_d 22 [(0, .ref (ad 0)), (1, .int (nI q)), (2, .int x)] [.int (nI 15), .int (nI 0), .int x] rfl ?_
    refine g_callS X hSB hAf (As := [.int x, .int (nI 0), .int (nI 15)]) (wr := WM ad g I L S (u2 Z 3 0 (nI 0)) Y ++ []) (n := 3) (c_X9_is_f l D g x (nI 0) (nI 15) (hx)) rfl srcN hrdN w_1260 w_1258 w_1259 w_6 (by decide +kernel) rfl ⟨Nat.le_of_ble_eq_true rfl, Nat.le_of_ble_eq_true rfl⟩ rfl rfl rfl (Nat.le_of_ble_eq_true rfl) ⟨Nat.le_of_ble_eq_true rfl, Nat.le_of_ble_eq_true rfl⟩ dX9_wouldLose_22 (fun hu3 _ => ?_)
    refine g_af (ws' := WM ad g I L S (u2 Z 3 0 (nI 0)) Y ++ []) (st' := [.int (nI 0)]) (cells' := 0) (slots' := 0) (pc' := 25) rfl rfl rfl rfl rfl ?_
    refine g_if_ne X 34 dX9_wouldLose_25 (by decide) (fun hc4 => ?_) (fun hc4 => ?_)
    · rw [nz_eq (by omega)] at hc4; first | omega | (simp at hc4)
    · refine g_run X KX9_wouldLose_28_12 KX9_wouldLose_28_12_d 30 [(0, .ref (ad 0)), (1, .int (nI q)), (2, .int x)] [.int (nI 2), .ref (ad 0)] rfl ?_
      refine g_callV X hSB hAf (srcW) (hrc1 := (rfl : CL[8]? = some _)) (wm_mem (k := 0) (by decide)) rfl (As := [.int (nI 2)]) (wr := []) (n := 1) (c_X9_refuse l D g ad I L S (u2 Z 3 0 (nI 0)) Y 2 ) rfl srcN hrdN w_1264 w_1261 w_1263 w_s12 w_6 (by decide +kernel) rfl ⟨Nat.le_of_ble_eq_true rfl, Nat.le_of_ble_eq_true rfl⟩ rfl rfl rfl (Nat.le_of_ble_eq_true rfl) ⟨Nat.le_of_ble_eq_true rfl, Nat.le_of_ble_eq_true rfl⟩ dX9_wouldLose_30 (fun hu5 _ => ?_)
      refine g_af (ws' := WM ad g I L S (u2 (u2 Z 3 0 (nI 0)) 3 0 (nI 2)) Y ++ []) (st' := [.int (nI 0)]) (cells' := 0) (slots' := 0) (pc' := 33) rfl rfl rfl rfl rfl ?_
      exact g_iret X hr () (rfl) (trivial) (rfl) (Nat.le_of_ble_eq_true rfl) (Nat.le_of_ble_eq_true rfl) dX9_wouldLose_33
  · rw [nz_eq (by omega)] at hc2; first | omega | (simp at hc2)

