
theorem dOK_l {n : Nat} (h : n < 2 ^ 44) : dOK (lN n) := by
  constructor
  · rw [Int64.lt_iff_toInt_lt, lN_ti (by omega), if_pos (by omega), show (lN 0).toInt = 0 from by decide +kernel]; omega
  · rw [Int64.le_iff_toInt_le, lN_ti (by omega), if_pos (by omega), show (17592186044415 : Int64).toInt = 17592186044415 from by decide +kernel]; omega
theorem rwd_15 (I : Nat → Nat → Int32) (L : Nat → Nat → Int64) (S : Nat → Nat) (q n : Nat) (hn : n ≤ 15) : nib (rwd I L S q n) 15 = 0 := by
  induction n with
  | zero => rw [rwd, nib_0]
  | succ n ih => rw [rwd, nib_wn (by omega) (rd_lt _ _ _ _) (by decide), if_neg (by omega), ih (by omega)]
theorem mw_15 {b : Nat} {x y : Int64} (hx : nib x 15 = 0) (h : mw b x = some y) : nib y 15 = 0 := by rw [(mw_adm h).2.1, hx]
theorem ne_m1 {y : Int64} (h : nib y 15 = 0) : ¬ y = -1 := fun e => by rw [e] at h; exact absurd h (by decide)
theorem mdV_eq {I : Nat → Nat → Int32} {L : Nat → Nat → Int64} {S : Nat → Nat} {q : Nat} : mdO (rwd I L S q 15) (mw (ers I S 15) (rwd I L S q 15)) = mdV I L S q := by
  unfold mdV mwd
  cases h : mw (ers I S 15) (rwd I L S q 15) with
  | none => rw [if_pos (by rfl)]; rfl
  | some y =>
    rw [show oL (some y) = y from rfl, if_neg (ne_m1 (mw_15 (rwd_15 _ _ _ _ _ (Nat.le_refl _)) h))]
    rfl
theorem dtO_n : dtO (oL none) = -1 := if_pos rfl
theorem dtO_s {y : Int64} (h : nib y 15 = 0) : dtO (oL (some y)) = dtW y := if_neg (ne_m1 h)

def KX9_symbol_0_0 : List (Nat × Instr × Nat) := [(0, .aload_n 0, 1), (1, .iconst 0, 1)]
theorem KX9_symbol_0_0_d : ∀ z ∈ KX9_symbol_0_0, decode cX9_symbol z.1 = .ok z.2 := by decide +kernel
def KX9_symbol_5_1 : List (Nat × Instr × Nat) := [(5, .iload_n 3, 1)]
theorem KX9_symbol_5_1_d : ∀ z ∈ KX9_symbol_5_1, decode cX9_symbol z.1 = .ok z.2 := by decide +kernel
def KX9_symbol_18_2 : List (Nat × Instr × Nat) := [(18, .lload_n 1, 1)]
theorem KX9_symbol_18_2_d : ∀ z ∈ KX9_symbol_18_2, decode cX9_symbol z.1 = .ok z.2 := by decide +kernel
def KX9_symbol_25_3 : List (Nat × Instr × Nat) := [(25, .aload_n 0, 1), (26, .lload_n 1, 1)]
theorem KX9_symbol_25_3_d : ∀ z ∈ KX9_symbol_25_3, decode cX9_symbol z.1 = .ok z.2 := by decide +kernel
def KX9_symbol_30_4 : List (Nat × Instr × Nat) := [(30, .iload_n 3, 1)]
theorem KX9_symbol_30_4_d : ∀ z ∈ KX9_symbol_30_4, decode cX9_symbol z.1 = .ok z.2 := by decide +kernel
def KX9_symbol_32_5 : List (Nat × Instr × Nat) := [(32, .goto 8, 3)]
theorem KX9_symbol_32_5_d : ∀ z ∈ KX9_symbol_32_5, decode cX9_symbol z.1 = .ok z.2 := by decide +kernel
set_option maxHeartbeats 4000000 in
set_option maxRecDepth 100000 in
theorem c_X9_symbol (l : Launch) (D : va_G) (g : Nat → ClassId) (ad : Nat → Nat) (I : Nat → Nat → Int32) (L : Nat → Nat → Int64) (S : Nat → Nat) (Z : Nat → Nat → Int32) (Y : Int64) (dd : Nat) (q : Nat) (R : Nat → Nat) (hR : R16 R) (hZ : Z 0 = fun j => nI (R j)) (hX : dd < 2 ^ 44) (hq : q < 15) : CT l yX9_symbol cX9_symbol 4 ((Option.some FieldType.int)) ({ frames := 4, cells := 1, slots := 15, locals := 102 } : Room) [.ref (ad 0), .long (lN dd), .int (nI q)] D CL (TYS g) ([]) (WM ad g I L S Z Y) (S := (Nat → Nat) × (Nat → Int32)) (fun _ => some (.int (nI (nib (wdO (lN dd)) q)))) (fun u => WM ad g I L S (z4 (u2 Z 3 0 (nI 0)) u.1 u.2 (wA (wdO (lN dd)))) Y) (fun u => R16 u.1) 1 15 := by
  refine ct_of (by decide +kernel) (Nat.le_of_ble_eq_true rfl) ?_
  intro p e s m below meth c A X hr hnm hSB hRO hAf
  refine g_cs (ws' := WM ad g I L S (z4 Z R (Z 1) (Z 2)) Y ++ []) (lv' := [(0, .ref (ad 0)), (1, .long (lN dd)), (3, .int (nI q))]) (by rw [z4_e hZ]; exact List.append_nil _) rfl ?_
  refine g_run X KX9_symbol_0_0 KX9_symbol_0_0_d 2 [(0, .ref (ad 0)), (1, .long (lN dd)), (3, .int (nI q))] [.int (nI 0), .ref (ad 0)] rfl ?_
  refine g_put X (ws' := WM ad g I L S (z4 (u2 Z 3 0 (nI 0)) R (Z 1) (Z 2)) Y ++ []) hinX9 tyX9 tyX9_ok nmX9 rfl 0 (by decide) w_1180 rfl rfl (ty := .int) rfl rfl rfl (0) (wm_get (k := 0) (by decide)) (Nat.le_of_ble_eq_true rfl) (wm_so0) dX9_symbol_2 ?_
  refine g_run X KX9_symbol_5_1 KX9_symbol_5_1_d 6 [(0, .ref (ad 0)), (1, .long (lN dd)), (3, .int (nI q))] [.int (nI q)] rfl ?_
  refine g_callS X hSB hAf (As := [.int (nI q)]) (wr := WM ad g I L S (z4 (u2 Z 3 0 (nI 0)) R (Z 1) (Z 2)) Y ++ []) (n := 1) (c_X9_isPlace_t l D g q (by omega)) rfl srcN hrdN w_1335 w_1333 w_1334 w_6 (by decide +kernel) rfl ⟨Nat.le_of_ble_eq_true rfl, Nat.le_of_ble_eq_true rfl⟩ rfl rfl rfl (Nat.le_of_ble_eq_true rfl) ⟨Nat.le_of_ble_eq_true rfl, Nat.le_of_ble_eq_true rfl⟩ dX9_symbol_6 (fun hu1 _ => ?_)
  refine g_af (ws' := WM ad g I L S (z4 (u2 Z 3 0 (nI 0)) R (Z 1) (Z 2)) Y ++ []) (st' := [.int (nI 1)]) (cells' := 0) (slots' := 0) (pc' := 9) rfl rfl rfl rfl rfl ?_
  refine g_if_ne X 18 dX9_symbol_9 (by decide) (fun hc2 => ?_) (fun hc2 => ?_)
  · refine g_run X KX9_symbol_18_2 KX9_symbol_18_2_d 19 [(0, .ref (ad 0)), (1, .long (lN dd)), (3, .int (nI q))] [.long (lN dd)] rfl ?_
    refine g_callS X hSB hAf (As := [.long (lN dd)]) (wr := WM ad g I L S (z4 (u2 Z 3 0 (nI 0)) R (Z 1) (Z 2)) Y ++ []) (n := 1) (c_X9_isData_t l D g (lN dd) (dOK_l hX)) rfl srcN hrdN w_1267 w_1265 w_1266 w_6 (by decide +kernel) rfl ⟨Nat.le_of_ble_eq_true rfl, Nat.le_of_ble_eq_true rfl⟩ rfl rfl rfl (Nat.le_of_ble_eq_true rfl) ⟨Nat.le_of_ble_eq_true rfl, Nat.le_of_ble_eq_true rfl⟩ dX9_symbol_19 (fun hu3 _ => ?_)
    refine g_af (ws' := WM ad g I L S (z4 (u2 Z 3 0 (nI 0)) R (Z 1) (Z 2)) Y ++ []) (st' := [.int (nI 1)]) (cells' := 0) (slots' := 0) (pc' := 22) rfl rfl rfl rfl rfl ?_
    refine g_if_eq X 35 dX9_symbol_22 (by decide) (fun hc4 => ?_) (fun hc4 => ?_)
    · rw [nz_eq (by omega)] at hc4; first | omega | (simp at hc4)
    · refine g_run X KX9_symbol_25_3 KX9_symbol_25_3_d 27 [(0, .ref (ad 0)), (1, .long (lN dd)), (3, .int (nI q))] [.long (lN dd), .ref (ad 0)] rfl ?_
      refine g_callV X hSB hAf (srcW) (hrc1 := (rfl : CL[8]? = some _)) (wm_mem (k := 0) (by decide)) rfl (As := [.long (lN dd)]) (wr := []) (n := 1) (c_X9_wordOf l D g ad I L S (z4 (u2 Z 3 0 (nI 0)) R (Z 1) (Z 2)) Y dd R (by assumption) (rfl) (hX)) rfl srcN hrdN w_1280 w_1277 w_1279 w_s15 w_6 (by decide +kernel) rfl ⟨Nat.le_of_ble_eq_true rfl, Nat.le_of_ble_eq_true rfl⟩ rfl rfl rfl (Nat.le_of_ble_eq_true rfl) ⟨Nat.le_of_ble_eq_true rfl, Nat.le_of_ble_eq_true rfl⟩ dX9_symbol_27 (fun hu5 hp_hu5 => ?_)
      refine g_af (ws' := WM ad g I L S (z4 (u2 Z 3 0 (nI 0)) hu5.1 hu5.2.1 (wA (wdO (lN dd)))) Y ++ [(hu5.2.2, Sum.inl (g 0, 15, .inl (wA (wdO (lN dd)))))]) (st' := [.ref hu5.2.2]) (cells' := 1) (slots' := 15) (pc' := 30) ((List.append_assoc _ ([(hu5.2.2, Sum.inl (g 0, 15, .inl (wA (wdO (lN dd)))))] : va_W) []).symm.trans (congrArg (fun z => (WM ad g I L S z Y ++ ([(hu5.2.2, Sum.inl (g 0, 15, .inl (wA (wdO (lN dd)))))] : va_W)) ++ []) z4_z4.symm)) rfl rfl rfl rfl ?_
      refine g_run X KX9_symbol_30_4 KX9_symbol_30_4_d 31 [(0, .ref (ad 0)), (1, .long (lN dd)), (3, .int (nI q))] [.int (nI q), .ref hu5.2.2] rfl ?_
      refine g_iald X srcW (v := nI (nib (wdO (lN dd)) q)) 0 rfl (wt_mem (List.mem_cons_self ..)) q rfl (by omega) (by decide) (rfl) dX9_symbol_31 ?_
      refine g_run X KX9_symbol_32_5 KX9_symbol_32_5_d 40 [(0, .ref (ad 0)), (1, .long (lN dd)), (3, .int (nI q))] [.int (nI (nib (wdO (lN dd)) q))] rfl ?_
      exact g_iret X hr (hu5.1, hu5.2.1) (rfl) (by assumption) (rfl) (Nat.le_of_ble_eq_true rfl) (Nat.le_of_ble_eq_true rfl) dX9_symbol_40
  · rw [nz_eq (by omega)] at hc2; first | omega | (simp at hc2)

def KX9_mended_0_0 : List (Nat × Instr × Nat) := [(0, .aload_n 0, 1), (1, .iconst 0, 1)]
theorem KX9_mended_0_0_d : ∀ z ∈ KX9_mended_0_0, decode cX9_mended z.1 = .ok z.2 := by decide +kernel
def KX9_mended_5_1 : List (Nat × Instr × Nat) := [(5, .iload_n 1, 1)]
theorem KX9_mended_5_1_d : ∀ z ∈ KX9_mended_5_1, decode cX9_mended z.1 = .ok z.2 := by decide +kernel
def KX9_mended_12_2 : List (Nat × Instr × Nat) := [(12, .aload_n 0, 1), (13, .aload_n 0, 1), (14, .iload_n 1, 1)]
theorem KX9_mended_12_2_d : ∀ z ∈ KX9_mended_12_2, decode cX9_mended z.1 = .ok z.2 := by decide +kernel
def KX9_mended_18_3 : List (Nat × Instr × Nat) := [(18, .aload_n 0, 1)]
theorem KX9_mended_18_3_d : ∀ z ∈ KX9_mended_18_3, decode cX9_mended z.1 = .ok z.2 := by decide +kernel
def KX9_mended_25_4 : List (Nat × Instr × Nat) := [(25, .goto 8, 3)]
theorem KX9_mended_25_4_d : ∀ z ∈ KX9_mended_25_4, decode cX9_mended z.1 = .ok z.2 := by decide +kernel
set_option maxHeartbeats 4000000 in
set_option maxRecDepth 100000 in
theorem c_X9_mended (l : Launch) (D : va_G) (g : Nat → ClassId) (ad : Nat → Nat) (I : Nat → Nat → Int32) (L : Nat → Nat → Int64) (S : Nat → Nat) (Z : Nat → Nat → Int32) (Y : Int64) (q : Nat) (R : Nat → Nat) (hR : R16 R) (hZ : Z 0 = fun j => nI (R j)) (hS18 : ∀ p, p < 15 → S p < 18) (hK : kOK I) (hq : q < 16) : CT l yX9_mended cX9_mended 2 ((Option.some FieldType.int)) ({ frames := 5, cells := 1, slots := 15, locals := 123 } : Room) [.ref (ad 0), .int (nI q)] D CL (TYS g) ([]) (WM ad g I L S Z Y) (S := (Nat → Nat) × (Nat → Int32)) (fun _ => some (.int (mdV I L S q))) (fun u => WM ad g I L S (z4 (u2 Z 3 0 (nI 0)) u.1 u.2 (mdA (Z 2) (mw (ers I S 15) (rwd I L S q 15)))) Y) (fun u => R16 u.1) 1 15 := by
  refine ct_of (by decide +kernel) (Nat.le_of_ble_eq_true rfl) ?_
  intro p e s m below meth c A X hr hnm hSB hRO hAf
  refine g_cs (ws' := WM ad g I L S (z4 Z R (Z 1) (Z 2)) Y ++ []) (lv' := [(0, .ref (ad 0)), (1, .int (nI q))]) (by rw [z4_e hZ]; exact List.append_nil _) rfl ?_
  refine g_run X KX9_mended_0_0 KX9_mended_0_0_d 2 [(0, .ref (ad 0)), (1, .int (nI q))] [.int (nI 0), .ref (ad 0)] rfl ?_
  refine g_put X (ws' := WM ad g I L S (z4 (u2 Z 3 0 (nI 0)) R (Z 1) (Z 2)) Y ++ []) hinX9 tyX9 tyX9_ok nmX9 rfl 0 (by decide) w_1180 rfl rfl (ty := .int) rfl rfl rfl (0) (wm_get (k := 0) (by decide)) (Nat.le_of_ble_eq_true rfl) (wm_so0) dX9_mended_2 ?_
  refine g_run X KX9_mended_5_1 KX9_mended_5_1_d 6 [(0, .ref (ad 0)), (1, .int (nI q))] [.int (nI q)] rfl ?_
  refine g_callS X hSB hAf (As := [.int (nI q)]) (wr := WM ad g I L S (z4 (u2 Z 3 0 (nI 0)) R (Z 1) (Z 2)) Y ++ []) (n := 1) (c_X9_isLine_t l D g q (by omega)) rfl srcN hrdN w_1257 w_1255 w_1256 w_6 (by decide +kernel) rfl ⟨Nat.le_of_ble_eq_true rfl, Nat.le_of_ble_eq_true rfl⟩ rfl rfl rfl (Nat.le_of_ble_eq_true rfl) ⟨Nat.le_of_ble_eq_true rfl, Nat.le_of_ble_eq_true rfl⟩ dX9_mended_6 (fun hu1 _ => ?_)
  refine g_af (ws' := WM ad g I L S (z4 (u2 Z 3 0 (nI 0)) R (Z 1) (Z 2)) Y ++ []) (st' := [.int (nI 1)]) (cells' := 0) (slots' := 0) (pc' := 9) rfl rfl rfl rfl rfl ?_
  refine g_if_eq X 28 dX9_mended_9 (by decide) (fun hc2 => ?_) (fun hc2 => ?_)
  · rw [nz_eq (by omega)] at hc2; first | omega | (simp at hc2)
  · refine g_run X KX9_mended_12_2 KX9_mended_12_2_d 15 [(0, .ref (ad 0)), (1, .int (nI q))] [.int (nI q), .ref (ad 0), .ref (ad 0)] rfl ?_
    refine g_callV X hSB hAf (srcW) (hrc1 := (rfl : CL[8]? = some _)) (wm_mem (k := 0) (by decide)) rfl (As := [.int (nI q)]) (wr := []) (n := 1) (c_X9_read l D g ad I L S (z4 (u2 Z 3 0 (nI 0)) R (Z 1) (Z 2)) Y q (hS18) (hK) (by omega)) rfl srcN hrdN w_1272 w_1269 w_1271 w_s13 w_6 (by decide +kernel) rfl ⟨Nat.le_of_ble_eq_true rfl, Nat.le_of_ble_eq_true rfl⟩ rfl rfl rfl (Nat.le_of_ble_eq_true rfl) ⟨Nat.le_of_ble_eq_true rfl, Nat.le_of_ble_eq_true rfl⟩ dX9_mended_15 (fun hu3 _ => ?_)
    refine g_af (ws' := WM ad g I L S (z4 (u2 Z 3 0 (nI 0)) R (Z 1) (Z 2)) Y ++ [(hu3, Sum.inl (g 0, 15, .inl (wA (rwd I L S q 15))))]) (st' := [.ref hu3, .ref (ad 0)]) (cells' := 1) (slots' := 15) (pc' := 18) ((List.append_assoc _ ([(hu3, Sum.inl (g 0, 15, .inl (wA (rwd I L S q 15))))] : va_W) []).symm) rfl rfl rfl rfl ?_
    refine g_run X KX9_mended_18_3 KX9_mended_18_3_d 19 [(0, .ref (ad 0)), (1, .int (nI q))] [.ref (ad 0), .ref hu3, .ref (ad 0)] rfl ?_
    refine g_callV X hSB hAf (srcW) (hrc1 := (rfl : CL[8]? = some _)) (wm_mem (k := 0) (by decide)) rfl (As := []) (wr := [(hu3, Sum.inl (g 0, 15, .inl (wA (rwd I L S q 15))))]) (n := 0) (c_X9_erased l D g ad I L S (z4 (u2 Z 3 0 (nI 0)) R (Z 1) (Z 2)) Y (hS18)) rfl srcN hrdN w_1339 w_1336 w_1338 w_s23 w_6 (by decide +kernel) rfl ⟨Nat.le_of_ble_eq_true rfl, Nat.le_of_ble_eq_true rfl⟩ rfl rfl rfl (Nat.le_of_ble_eq_true rfl) ⟨Nat.le_of_ble_eq_true rfl, Nat.le_of_ble_eq_true rfl⟩ dX9_mended_19 (fun hu4 _ => ?_)
    refine g_af (ws' := WM ad g I L S (z4 (u2 Z 3 0 (nI 0)) R (Z 1) (Z 2)) Y ++ [(hu3, Sum.inl (g 0, 15, .inl (wA (rwd I L S q 15))))]) (st' := [.int (nI (ers I S 15)), .ref hu3, .ref (ad 0)]) (cells' := 1) (slots' := 15) (pc' := 22) rfl rfl rfl rfl rfl ?_
    refine g_callV X hSB hAf (srcW) (hrc1 := (rfl : CL[8]? = some _)) (wm_mem (k := 0) (by decide)) rfl (As := [.ref hu3, .int (nI (ers I S 15))]) (wr := [(hu3, Sum.inl (g 0, 15, .inl (wA (rwd I L S q 15))))]) (n := 2) (c_X9_mendedNow l D g ad I L S (z4 (u2 Z 3 0 (nI 0)) R (Z 1) (Z 2)) Y hu3 (rwd I L S q 15) (ers I S 15) R (by assumption) (rfl) (ers_lt _ _ _)) rfl (src_sub (wt_mem (by simp))) (hrdT rfl (by simp)) w_1456 w_1453 w_1455 w_s33 w_6 (by decide +kernel) rfl ⟨Nat.le_of_ble_eq_true rfl, Nat.le_of_ble_eq_true rfl⟩ rfl rfl rfl (Nat.le_of_ble_eq_true rfl) ⟨Nat.le_of_ble_eq_true rfl, Nat.le_of_ble_eq_true rfl⟩ dX9_mended_22 (fun hu5 hp_hu5 => ?_)
    refine g_af (ws' := WM ad g I L S (z4 (u2 Z 3 0 (nI 0)) hu5.1 hu5.2 (mdA (Z 2) (mw (ers I S 15) (rwd I L S q 15)))) Y ++ [(hu3, Sum.inl (g 0, 15, .inl (wA (rwd I L S q 15))))]) (st' := [.int (mdO (rwd I L S q 15) (mw (ers I S 15) (rwd I L S q 15)))]) (cells' := 1) (slots' := 15) (pc' := 25) (congrArg (fun z => (WM ad g I L S z Y) ++ [(hu3, Sum.inl (g 0, 15, .inl (wA (rwd I L S q 15))))]) z4_z4.symm) rfl rfl rfl rfl ?_
    refine g_run X KX9_mended_25_4 KX9_mended_25_4_d 33 [(0, .ref (ad 0)), (1, .int (nI q))] [.int (mdO (rwd I L S q 15) (mw (ers I S 15) (rwd I L S q 15)))] rfl ?_
    exact g_iret X hr (hu5.1, hu5.2) (by show some (Value.int _) = some (Value.int _); rw [mdV_eq]) (by assumption) (rfl) (Nat.le_of_ble_eq_true rfl) (Nat.le_of_ble_eq_true rfl) dX9_mended_33

def KX9_data_0_0 : List (Nat × Instr × Nat) := [(0, .aload_n 0, 1), (1, .iconst 0, 1)]
theorem KX9_data_0_0_d : ∀ z ∈ KX9_data_0_0, decode cX9_data z.1 = .ok z.2 := by decide +kernel
def KX9_data_5_1 : List (Nat × Instr × Nat) := [(5, .iload_n 1, 1)]
theorem KX9_data_5_1_d : ∀ z ∈ KX9_data_5_1, decode cX9_data z.1 = .ok z.2 := by decide +kernel
def KX9_data_19_2 : List (Nat × Instr × Nat) := [(19, .aload_n 0, 1), (20, .aload_n 0, 1), (21, .iload_n 1, 1)]
theorem KX9_data_19_2_d : ∀ z ∈ KX9_data_19_2, decode cX9_data z.1 = .ok z.2 := by decide +kernel
def KX9_data_25_3 : List (Nat × Instr × Nat) := [(25, .aload_n 0, 1)]
theorem KX9_data_25_3_d : ∀ z ∈ KX9_data_25_3, decode cX9_data z.1 = .ok z.2 := by decide +kernel
def KX9_data_35_4 : List (Nat × Instr × Nat) := [(35, .aload_n 0, 1)]
theorem KX9_data_35_4_d : ∀ z ∈ KX9_data_35_4, decode cX9_data z.1 = .ok z.2 := by decide +kernel
def KX9_data_42_5 : List (Nat × Instr × Nat) := [(42, .goto 6, 3)]
theorem KX9_data_42_5_d : ∀ z ∈ KX9_data_42_5, decode cX9_data z.1 = .ok z.2 := by decide +kernel
set_option maxHeartbeats 4000000 in
set_option maxRecDepth 100000 in
theorem c_X9_data (l : Launch) (D : va_G) (g : Nat → ClassId) (ad : Nat → Nat) (I : Nat → Nat → Int32) (L : Nat → Nat → Int64) (S : Nat → Nat) (Z : Nat → Nat → Int32) (Y : Int64) (q : Nat) (R : Nat → Nat) (hR : R16 R) (hZ : Z 0 = fun j => nI (R j)) (hS18 : ∀ p, p < 15 → S p < 18) (hK : kOK I) (hq : q < 16) : CT l yX9_data cX9_data 2 ((Option.some FieldType.long)) ({ frames := 4, cells := 1, slots := 15, locals := 101 } : Room) [.ref (ad 0), .int (nI q)] D CL (TYS g) ([]) (WM ad g I L S Z Y) (S := (Nat → Nat) × (Nat → Int32)) (fun _ => some (.long (dtO (oL (mwd I L S q))))) (fun u => WM ad g I L S (z4 (u2 Z 3 0 (nI 0)) u.1 u.2 (mdA (Z 2) (mw (ers I S 15) (rwd I L S q 15)))) Y) (fun u => R16 u.1) 1 15 := by
  refine ct_of (by decide +kernel) (Nat.le_of_ble_eq_true rfl) ?_
  intro p e s m below meth c A X hr hnm hSB hRO hAf
  refine g_cs (ws' := WM ad g I L S (z4 Z R (Z 1) (Z 2)) Y ++ []) (lv' := [(0, .ref (ad 0)), (1, .int (nI q))]) (by rw [z4_e hZ]; exact List.append_nil _) rfl ?_
  refine g_run X KX9_data_0_0 KX9_data_0_0_d 2 [(0, .ref (ad 0)), (1, .int (nI q))] [.int (nI 0), .ref (ad 0)] rfl ?_
  refine g_put X (ws' := WM ad g I L S (z4 (u2 Z 3 0 (nI 0)) R (Z 1) (Z 2)) Y ++ []) hinX9 tyX9 tyX9_ok nmX9 rfl 0 (by decide) w_1180 rfl rfl (ty := .int) rfl rfl rfl (0) (wm_get (k := 0) (by decide)) (Nat.le_of_ble_eq_true rfl) (wm_so0) dX9_data_2 ?_
  refine g_run X KX9_data_5_1 KX9_data_5_1_d 6 [(0, .ref (ad 0)), (1, .int (nI q))] [.int (nI q)] rfl ?_
  refine g_callS X hSB hAf (As := [.int (nI q)]) (wr := WM ad g I L S (z4 (u2 Z 3 0 (nI 0)) R (Z 1) (Z 2)) Y ++ []) (n := 1) (c_X9_isLine_t l D g q (by omega)) rfl srcN hrdN w_1257 w_1255 w_1256 w_6 (by decide +kernel) rfl ⟨Nat.le_of_ble_eq_true rfl, Nat.le_of_ble_eq_true rfl⟩ rfl rfl rfl (Nat.le_of_ble_eq_true rfl) ⟨Nat.le_of_ble_eq_true rfl, Nat.le_of_ble_eq_true rfl⟩ dX9_data_6 (fun hu1 _ => ?_)
  refine g_af (ws' := WM ad g I L S (z4 (u2 Z 3 0 (nI 0)) R (Z 1) (Z 2)) Y ++ []) (st' := [.int (nI 1)]) (cells' := 0) (slots' := 0) (pc' := 9) rfl rfl rfl rfl rfl ?_
  refine g_if_ne X 19 dX9_data_9 (by decide) (fun hc2 => ?_) (fun hc2 => ?_)
  · refine g_run X KX9_data_19_2 KX9_data_19_2_d 22 [(0, .ref (ad 0)), (1, .int (nI q))] [.int (nI q), .ref (ad 0), .ref (ad 0)] rfl ?_
    refine g_callV X hSB hAf (srcW) (hrc1 := (rfl : CL[8]? = some _)) (wm_mem (k := 0) (by decide)) rfl (As := [.int (nI q)]) (wr := []) (n := 1) (c_X9_read l D g ad I L S (z4 (u2 Z 3 0 (nI 0)) R (Z 1) (Z 2)) Y q (hS18) (hK) (by omega)) rfl srcN hrdN w_1272 w_1269 w_1271 w_s13 w_6 (by decide +kernel) rfl ⟨Nat.le_of_ble_eq_true rfl, Nat.le_of_ble_eq_true rfl⟩ rfl rfl rfl (Nat.le_of_ble_eq_true rfl) ⟨Nat.le_of_ble_eq_true rfl, Nat.le_of_ble_eq_true rfl⟩ dX9_data_22 (fun hu3 _ => ?_)
    refine g_af (ws' := WM ad g I L S (z4 (u2 Z 3 0 (nI 0)) R (Z 1) (Z 2)) Y ++ [(hu3, Sum.inl (g 0, 15, .inl (wA (rwd I L S q 15))))]) (st' := [.ref hu3, .ref (ad 0)]) (cells' := 1) (slots' := 15) (pc' := 25) ((List.append_assoc _ ([(hu3, Sum.inl (g 0, 15, .inl (wA (rwd I L S q 15))))] : va_W) []).symm) rfl rfl rfl rfl ?_
    refine g_run X KX9_data_25_3 KX9_data_25_3_d 26 [(0, .ref (ad 0)), (1, .int (nI q))] [.ref (ad 0), .ref hu3, .ref (ad 0)] rfl ?_
    refine g_callV X hSB hAf (srcW) (hrc1 := (rfl : CL[8]? = some _)) (wm_mem (k := 0) (by decide)) rfl (As := []) (wr := [(hu3, Sum.inl (g 0, 15, .inl (wA (rwd I L S q 15))))]) (n := 0) (c_X9_erased l D g ad I L S (z4 (u2 Z 3 0 (nI 0)) R (Z 1) (Z 2)) Y (hS18)) rfl srcN hrdN w_1339 w_1336 w_1338 w_s23 w_6 (by decide +kernel) rfl ⟨Nat.le_of_ble_eq_true rfl, Nat.le_of_ble_eq_true rfl⟩ rfl rfl rfl (Nat.le_of_ble_eq_true rfl) ⟨Nat.le_of_ble_eq_true rfl, Nat.le_of_ble_eq_true rfl⟩ dX9_data_26 (fun hu4 _ => ?_)
    refine g_af (ws' := WM ad g I L S (z4 (u2 Z 3 0 (nI 0)) R (Z 1) (Z 2)) Y ++ [(hu3, Sum.inl (g 0, 15, .inl (wA (rwd I L S q 15))))]) (st' := [.int (nI (ers I S 15)), .ref hu3, .ref (ad 0)]) (cells' := 1) (slots' := 15) (pc' := 29) rfl rfl rfl rfl rfl ?_
    refine g_callV X hSB hAf (srcW) (hrc1 := (rfl : CL[8]? = some _)) (wm_mem (k := 0) (by decide)) rfl (As := [.ref hu3, .int (nI (ers I S 15))]) (wr := [(hu3, Sum.inl (g 0, 15, .inl (wA (rwd I L S q 15))))]) (n := 2) (c_X9_mend l D g ad I L S (z4 (u2 Z 3 0 (nI 0)) R (Z 1) (Z 2)) Y hu3 (rwd I L S q 15) (ers I S 15) R (by assumption) (rfl) (ers_lt _ _ _)) rfl (src_sub (wt_mem (by simp))) (hrdT rfl (by simp)) w_1352 w_1349 w_1351 w_s25 w_6 (by decide +kernel) rfl ⟨Nat.le_of_ble_eq_true rfl, Nat.le_of_ble_eq_true rfl⟩ rfl rfl rfl (Nat.le_of_ble_eq_true rfl) ⟨Nat.le_of_ble_eq_true rfl, Nat.le_of_ble_eq_true rfl⟩ dX9_data_29 (fun hu5 hp_hu5 => ?_)
    refine g_af (ws' := WM ad g I L S (z4 (u2 Z 3 0 (nI 0)) hu5.1 hu5.2 (mdA (Z 2) (mw (ers I S 15) (rwd I L S q 15)))) Y ++ [(hu3, Sum.inl (g 0, 15, .inl (wA (rwd I L S q 15))))]) (st' := [.int (nI (sB (mw (ers I S 15) (rwd I L S q 15))))]) (cells' := 1) (slots' := 15) (pc' := 32) (congrArg (fun z => (WM ad g I L S z Y) ++ [(hu3, Sum.inl (g 0, 15, .inl (wA (rwd I L S q 15))))]) z4_z4.symm) rfl rfl rfl rfl ?_
    refine g_if_eq X 45 dX9_data_32 (by decide) (fun hc6 => ?_) (fun hc6 => ?_)
    · rw [sB_0] at hc6; have hn := hc6
      refine g_ldc2 X (v := (-1 : Int64)) w_1397 dX9_data_45 ?_
      exact g_lret X hr (hu5.1, hu5.2) (by show some (Value.long _) = some (Value.long _); rw [mwd, hn, dtO_n]) (by assumption) (rfl) (Nat.le_of_ble_eq_true rfl) (Nat.le_of_ble_eq_true rfl) dX9_data_48
    · rw [sB_0] at hc6; obtain ⟨y, hy⟩ := sB_1 hc6
      refine g_ws (ws' := WM ad g I L S (z4 (u2 Z 3 0 (nI 0)) hu5.1 hu5.2 (wA y)) Y ++ [(hu3, Sum.inl (g 0, 15, .inl (wA (rwd I L S q 15))))]) (by rw [hy]; rfl) ?_
      refine g_run X KX9_data_35_4 KX9_data_35_4_d 36 [(0, .ref (ad 0)), (1, .int (nI q))] [.ref (ad 0)] rfl ?_
      refine g_get X srcW (v := .ref (ad 10)) hinX9 rfl 18 (by decide) w_1198 rfl (wm_mem (k := 0) (by decide)) rfl dX9_data_36 ?_
      refine g_callS X hSB hAf (As := [.ref (ad 10)]) (wr := WM ad g I L S (z4 (u2 Z 3 0 (nI 0)) hu5.1 hu5.2 (wA y)) Y ++ [(hu3, Sum.inl (g 0, 15, .inl (wA (rwd I L S q 15))))]) (n := 1) (c_X9_dataOf l D g (ad 10) y (mw_15 (rwd_15 _ _ _ _ _ (Nat.le_refl _)) hy)) rfl (src_sub (wm_mem (k := 10) (by decide))) hrdC w_1400 w_1398 w_1399 w_6 (by decide +kernel) rfl ⟨Nat.le_of_ble_eq_true rfl, Nat.le_of_ble_eq_true rfl⟩ rfl rfl rfl (Nat.le_of_ble_eq_true rfl) ⟨Nat.le_of_ble_eq_true rfl, Nat.le_of_ble_eq_true rfl⟩ dX9_data_39 (fun hu7 _ => ?_)
      refine g_af (ws' := WM ad g I L S (z4 (u2 Z 3 0 (nI 0)) hu5.1 hu5.2 (wA y)) Y ++ [(hu3, Sum.inl (g 0, 15, .inl (wA (rwd I L S q 15))))]) (st' := [.long (dtW y)]) (cells' := 1) (slots' := 15) (pc' := 42) rfl rfl rfl rfl rfl ?_
      refine g_run X KX9_data_42_5 KX9_data_42_5_d 48 [(0, .ref (ad 0)), (1, .int (nI q))] [.long (dtW y)] rfl ?_
      exact g_lret X hr (hu5.1, hu5.2) (by show some (Value.long _) = some (Value.long _); rw [mwd, hy, dtO_s (mw_15 (rwd_15 _ _ _ _ _ (Nat.le_refl _)) hy)]) (by assumption) (by first | (rw [hy]; done) | (rw [hy]; rfl)) (Nat.le_of_ble_eq_true rfl) (Nat.le_of_ble_eq_true rfl) dX9_data_48
  · rw [nz_eq (by omega)] at hc2; first | omega | (simp at hc2)

def KX9_mended_28_5 : List (Nat × Instr × Nat) := [(28, .aload_n 0, 1), (29, .iconst 1, 1)]
theorem KX9_mended_28_5_d : ∀ z ∈ KX9_mended_28_5, decode cX9_mended z.1 = .ok z.2 := by decide +kernel
set_option maxHeartbeats 4000000 in
set_option maxRecDepth 100000 in
theorem c_X9_mended_1 (l : Launch) (D : va_G) (g : Nat → ClassId) (ad : Nat → Nat) (I : Nat → Nat → Int32) (L : Nat → Nat → Int64) (S : Nat → Nat) (Z : Nat → Nat → Int32) (Y : Int64) (x : Int32) (hx : x < 0 ∨ ¬ x ≤ nI 15) : CT l yX9_mended cX9_mended 2 ((Option.some FieldType.int)) ({ frames := 2, cells := 0, slots := 0, locals := 42 } : Room) [.ref (ad 0), .int x] D CL (TYS g) ([]) (WM ad g I L S Z Y) (S := Unit) (fun _ => some (.int (nI 0))) (fun _ => WM ad g I L S (u2 (u2 Z 3 0 (nI 0)) 3 0 (nI 1)) Y) (fun _ => True) 0 0 := by
  refine ct_of (by decide +kernel) (Nat.le_of_ble_eq_true rfl) ?_
  intro p e s m below meth c A X hr hnm hSB hRO hAf
  refine g_cs (ws' := WM ad g I L S Z Y ++ []) (lv' := [(0, .ref (ad 0)), (1, .int x)]) (List.append_nil _) rfl ?_
  refine g_run X KX9_mended_0_0 KX9_mended_0_0_d 2 [(0, .ref (ad 0)), (1, .int x)] [.int (nI 0), .ref (ad 0)] rfl ?_
  refine g_put X (ws' := WM ad g I L S (u2 Z 3 0 (nI 0)) Y ++ []) hinX9 tyX9 tyX9_ok nmX9 rfl 0 (by decide) w_1180 rfl rfl (ty := .int) rfl rfl rfl (0) (wm_get (k := 0) (by decide)) (Nat.le_of_ble_eq_true rfl) (wm_mo0) dX9_mended_2 ?_
  refine g_run X KX9_mended_5_1 KX9_mended_5_1_d 6 [(0, .ref (ad 0)), (1, .int x)] [.int x] rfl ?_
  refine g_callS X hSB hAf (As := [.int x]) (wr := WM ad g I L S (u2 Z 3 0 (nI 0)) Y ++ []) (n := 1) (c_X9_isLine_f l D g x (hx)) rfl srcN hrdN w_1257 w_1255 w_1256 w_6 (by decide +kernel) rfl ⟨Nat.le_of_ble_eq_true rfl, Nat.le_of_ble_eq_true rfl⟩ rfl rfl rfl (Nat.le_of_ble_eq_true rfl) ⟨Nat.le_of_ble_eq_true rfl, Nat.le_of_ble_eq_true rfl⟩ dX9_mended_6 (fun hu1 _ => ?_)
  refine g_af (ws' := WM ad g I L S (u2 Z 3 0 (nI 0)) Y ++ []) (st' := [.int (nI 0)]) (cells' := 0) (slots' := 0) (pc' := 9) rfl rfl rfl rfl rfl ?_
  refine g_if_eq X 28 dX9_mended_9 (by decide) (fun hc2 => ?_) (fun hc2 => ?_)
  · refine g_run X KX9_mended_28_5 KX9_mended_28_5_d 30 [(0, .ref (ad 0)), (1, .int x)] [.int (nI 1), .ref (ad 0)] rfl ?_
    refine g_callV X hSB hAf (srcW) (hrc1 := (rfl : CL[8]? = some _)) (wm_mem (k := 0) (by decide)) rfl (As := [.int (nI 1)]) (wr := []) (n := 1) (c_X9_refuse l D g ad I L S (u2 Z 3 0 (nI 0)) Y 1 ) rfl srcN hrdN w_1264 w_1261 w_1263 w_s12 w_6 (by decide +kernel) rfl ⟨Nat.le_of_ble_eq_true rfl, Nat.le_of_ble_eq_true rfl⟩ rfl rfl rfl (Nat.le_of_ble_eq_true rfl) ⟨Nat.le_of_ble_eq_true rfl, Nat.le_of_ble_eq_true rfl⟩ dX9_mended_30 (fun hu3 _ => ?_)
    refine g_af (ws' := WM ad g I L S (u2 (u2 Z 3 0 (nI 0)) 3 0 (nI 1)) Y ++ []) (st' := [.int (nI 0)]) (cells' := 0) (slots' := 0) (pc' := 33) rfl rfl rfl rfl rfl ?_
    exact g_iret X hr () (rfl) (trivial) (rfl) (Nat.le_of_ble_eq_true rfl) (Nat.le_of_ble_eq_true rfl) dX9_mended_33
  · rw [nz_eq (by omega)] at hc2; first | omega | (simp at hc2)

def KX9_data_12_6 : List (Nat × Instr × Nat) := [(12, .aload_n 0, 1), (13, .iconst 1, 1)]
theorem KX9_data_12_6_d : ∀ z ∈ KX9_data_12_6, decode cX9_data z.1 = .ok z.2 := by decide +kernel
def KX9_data_17_7 : List (Nat × Instr × Nat) := [(17, .i2l, 1)]
theorem KX9_data_17_7_d : ∀ z ∈ KX9_data_17_7, decode cX9_data z.1 = .ok z.2 := by decide +kernel
set_option maxHeartbeats 4000000 in
set_option maxRecDepth 100000 in
theorem c_X9_data_1 (l : Launch) (D : va_G) (g : Nat → ClassId) (ad : Nat → Nat) (I : Nat → Nat → Int32) (L : Nat → Nat → Int64) (S : Nat → Nat) (Z : Nat → Nat → Int32) (Y : Int64) (x : Int32) (hx : x < 0 ∨ ¬ x ≤ nI 15) : CT l yX9_data cX9_data 2 ((Option.some FieldType.long)) ({ frames := 2, cells := 0, slots := 0, locals := 42 } : Room) [.ref (ad 0), .int x] D CL (TYS g) ([]) (WM ad g I L S Z Y) (S := Unit) (fun _ => some (.long ((nI 0).toInt64))) (fun _ => WM ad g I L S (u2 (u2 Z 3 0 (nI 0)) 3 0 (nI 1)) Y) (fun _ => True) 0 0 := by
  refine ct_of (by decide +kernel) (Nat.le_of_ble_eq_true rfl) ?_
  intro p e s m below meth c A X hr hnm hSB hRO hAf
  refine g_cs (ws' := WM ad g I L S Z Y ++ []) (lv' := [(0, .ref (ad 0)), (1, .int x)]) (List.append_nil _) rfl ?_
  refine g_run X KX9_data_0_0 KX9_data_0_0_d 2 [(0, .ref (ad 0)), (1, .int x)] [.int (nI 0), .ref (ad 0)] rfl ?_
  refine g_put X (ws' := WM ad g I L S (u2 Z 3 0 (nI 0)) Y ++ []) hinX9 tyX9 tyX9_ok nmX9 rfl 0 (by decide) w_1180 rfl rfl (ty := .int) rfl rfl rfl (0) (wm_get (k := 0) (by decide)) (Nat.le_of_ble_eq_true rfl) (wm_mo0) dX9_data_2 ?_
  refine g_run X KX9_data_5_1 KX9_data_5_1_d 6 [(0, .ref (ad 0)), (1, .int x)] [.int x] rfl ?_
  refine g_callS X hSB hAf (As := [.int x]) (wr := WM ad g I L S (u2 Z 3 0 (nI 0)) Y ++ []) (n := 1) (c_X9_isLine_f l D g x (hx)) rfl srcN hrdN w_1257 w_1255 w_1256 w_6 (by decide +kernel) rfl ⟨Nat.le_of_ble_eq_true rfl, Nat.le_of_ble_eq_true rfl⟩ rfl rfl rfl (Nat.le_of_ble_eq_true rfl) ⟨Nat.le_of_ble_eq_true rfl, Nat.le_of_ble_eq_true rfl⟩ dX9_data_6 (fun hu1 _ => ?_)
  refine g_af (ws' := WM ad g I L S (u2 Z 3 0 (nI 0)) Y ++ []) (st' := [.int (nI 0)]) (cells' := 0) (slots' := 0) (pc' := 9) rfl rfl rfl rfl rfl ?_
  refine g_if_ne X 19 dX9_data_9 (by decide) (fun hc2 => ?_) (fun hc2 => ?_)
  · rw [nz_eq (by omega)] at hc2; first | omega | (simp at hc2)
  · refine g_run X KX9_data_12_6 KX9_data_12_6_d 14 [(0, .ref (ad 0)), (1, .int x)] [.int (nI 1), .ref (ad 0)] rfl ?_
    refine g_callV X hSB hAf (srcW) (hrc1 := (rfl : CL[8]? = some _)) (wm_mem (k := 0) (by decide)) rfl (As := [.int (nI 1)]) (wr := []) (n := 1) (c_X9_refuse l D g ad I L S (u2 Z 3 0 (nI 0)) Y 1 ) rfl srcN hrdN w_1264 w_1261 w_1263 w_s12 w_6 (by decide +kernel) rfl ⟨Nat.le_of_ble_eq_true rfl, Nat.le_of_ble_eq_true rfl⟩ rfl rfl rfl (Nat.le_of_ble_eq_true rfl) ⟨Nat.le_of_ble_eq_true rfl, Nat.le_of_ble_eq_true rfl⟩ dX9_data_14 (fun hu3 _ => ?_)
    refine g_af (ws' := WM ad g I L S (u2 (u2 Z 3 0 (nI 0)) 3 0 (nI 1)) Y ++ []) (st' := [.int (nI 0)]) (cells' := 0) (slots' := 0) (pc' := 17) rfl rfl rfl rfl rfl ?_
    refine g_run X KX9_data_17_7 KX9_data_17_7_d 18 [(0, .ref (ad 0)), (1, .int x)] [.long ((nI 0).toInt64)] rfl ?_
    exact g_lret X hr () (rfl) (trivial) (rfl) (Nat.le_of_ble_eq_true rfl) (Nat.le_of_ble_eq_true rfl) dX9_data_18

def KX9_symbol_12_6 : List (Nat × Instr × Nat) := [(12, .aload_n 0, 1), (13, .iconst 1, 1)]
theorem KX9_symbol_12_6_d : ∀ z ∈ KX9_symbol_12_6, decode cX9_symbol z.1 = .ok z.2 := by decide +kernel
set_option maxHeartbeats 4000000 in
set_option maxRecDepth 100000 in
theorem c_X9_symbol_1 (l : Launch) (D : va_G) (g : Nat → ClassId) (ad : Nat → Nat) (I : Nat → Nat → Int32) (L : Nat → Nat → Int64) (S : Nat → Nat) (Z : Nat → Nat → Int32) (Y : Int64) (y : Int64) (x : Int32) (hx : x < 0 ∨ ¬ x ≤ nI 14) : CT l yX9_symbol cX9_symbol 4 ((Option.some FieldType.int)) ({ frames := 2, cells := 0, slots := 0, locals := 42 } : Room) [.ref (ad 0), .long y, .int x] D CL (TYS g) ([]) (WM ad g I L S Z Y) (S := Unit) (fun _ => some (.int (nI 0))) (fun _ => WM ad g I L S (u2 (u2 Z 3 0 (nI 0)) 3 0 (nI 1)) Y) (fun _ => True) 0 0 := by
  refine ct_of (by decide +kernel) (Nat.le_of_ble_eq_true rfl) ?_
  intro p e s m below meth c A X hr hnm hSB hRO hAf
  refine g_cs (ws' := WM ad g I L S Z Y ++ []) (lv' := [(0, .ref (ad 0)), (1, .long y), (3, .int x)]) (List.append_nil _) rfl ?_
  refine g_run X KX9_symbol_0_0 KX9_symbol_0_0_d 2 [(0, .ref (ad 0)), (1, .long y), (3, .int x)] [.int (nI 0), .ref (ad 0)] rfl ?_
  refine g_put X (ws' := WM ad g I L S (u2 Z 3 0 (nI 0)) Y ++ []) hinX9 tyX9 tyX9_ok nmX9 rfl 0 (by decide) w_1180 rfl rfl (ty := .int) rfl rfl rfl (0) (wm_get (k := 0) (by decide)) (Nat.le_of_ble_eq_true rfl) (wm_mo0) dX9_symbol_2 ?_
  refine g_run X KX9_symbol_5_1 KX9_symbol_5_1_d 6 [(0, .ref (ad 0)), (1, .long y), (3, .int x)] [.int x] rfl ?_
  refine g_callS X hSB hAf (As := [.int x]) (wr := WM ad g I L S (u2 Z 3 0 (nI 0)) Y ++ []) (n := 1) (c_X9_isPlace_f l D g x (hx)) rfl srcN hrdN w_1335 w_1333 w_1334 w_6 (by decide +kernel) rfl ⟨Nat.le_of_ble_eq_true rfl, Nat.le_of_ble_eq_true rfl⟩ rfl rfl rfl (Nat.le_of_ble_eq_true rfl) ⟨Nat.le_of_ble_eq_true rfl, Nat.le_of_ble_eq_true rfl⟩ dX9_symbol_6 (fun hu1 _ => ?_)
  refine g_af (ws' := WM ad g I L S (u2 Z 3 0 (nI 0)) Y ++ []) (st' := [.int (nI 0)]) (cells' := 0) (slots' := 0) (pc' := 9) rfl rfl rfl rfl rfl ?_
  refine g_if_ne X 18 dX9_symbol_9 (by decide) (fun hc2 => ?_) (fun hc2 => ?_)
  · rw [nz_eq (by omega)] at hc2; first | omega | (simp at hc2)
  · refine g_run X KX9_symbol_12_6 KX9_symbol_12_6_d 14 [(0, .ref (ad 0)), (1, .long y), (3, .int x)] [.int (nI 1), .ref (ad 0)] rfl ?_
    refine g_callV X hSB hAf (srcW) (hrc1 := (rfl : CL[8]? = some _)) (wm_mem (k := 0) (by decide)) rfl (As := [.int (nI 1)]) (wr := []) (n := 1) (c_X9_refuse l D g ad I L S (u2 Z 3 0 (nI 0)) Y 1 ) rfl srcN hrdN w_1264 w_1261 w_1263 w_s12 w_6 (by decide +kernel) rfl ⟨Nat.le_of_ble_eq_true rfl, Nat.le_of_ble_eq_true rfl⟩ rfl rfl rfl (Nat.le_of_ble_eq_true rfl) ⟨Nat.le_of_ble_eq_true rfl, Nat.le_of_ble_eq_true rfl⟩ dX9_symbol_14 (fun hu3 _ => ?_)
    refine g_af (ws' := WM ad g I L S (u2 (u2 Z 3 0 (nI 0)) 3 0 (nI 1)) Y ++ []) (st' := [.int (nI 0)]) (cells' := 0) (slots' := 0) (pc' := 17) rfl rfl rfl rfl rfl ?_
    exact g_iret X hr () (rfl) (trivial) (rfl) (Nat.le_of_ble_eq_true rfl) (Nat.le_of_ble_eq_true rfl) dX9_symbol_17

def KX9_symbol_35_7 : List (Nat × Instr × Nat) := [(35, .aload_n 0, 1), (36, .iconst 2, 1)]
theorem KX9_symbol_35_7_d : ∀ z ∈ KX9_symbol_35_7, decode cX9_symbol z.1 = .ok z.2 := by decide +kernel
set_option maxHeartbeats 4000000 in
set_option maxRecDepth 100000 in
theorem c_X9_symbol_2 (l : Launch) (D : va_G) (g : Nat → ClassId) (ad : Nat → Nat) (I : Nat → Nat → Int32) (L : Nat → Nat → Int64) (S : Nat → Nat) (Z : Nat → Nat → Int32) (Y : Int64) (x : Int64) (q : Nat) (hq : q < 15) (hx : ¬ dOK x) : CT l yX9_symbol cX9_symbol 4 ((Option.some FieldType.int)) ({ frames := 2, cells := 0, slots := 0, locals := 42 } : Room) [.ref (ad 0), .long x, .int (nI q)] D CL (TYS g) ([]) (WM ad g I L S Z Y) (S := Unit) (fun _ => some (.int (nI 0))) (fun _ => WM ad g I L S (u2 (u2 Z 3 0 (nI 0)) 3 0 (nI 2)) Y) (fun _ => True) 0 0 := by
  refine ct_of (by decide +kernel) (Nat.le_of_ble_eq_true rfl) ?_
  intro p e s m below meth c A X hr hnm hSB hRO hAf
  refine g_cs (ws' := WM ad g I L S Z Y ++ []) (lv' := [(0, .ref (ad 0)), (1, .long x), (3, .int (nI q))]) (List.append_nil _) rfl ?_
  refine g_run X KX9_symbol_0_0 KX9_symbol_0_0_d 2 [(0, .ref (ad 0)), (1, .long x), (3, .int (nI q))] [.int (nI 0), .ref (ad 0)] rfl ?_
  refine g_put X (ws' := WM ad g I L S (u2 Z 3 0 (nI 0)) Y ++ []) hinX9 tyX9 tyX9_ok nmX9 rfl 0 (by decide) w_1180 rfl rfl (ty := .int) rfl rfl rfl (0) (wm_get (k := 0) (by decide)) (Nat.le_of_ble_eq_true rfl) (wm_mo0) dX9_symbol_2 ?_
  refine g_run X KX9_symbol_5_1 KX9_symbol_5_1_d 6 [(0, .ref (ad 0)), (1, .long x), (3, .int (nI q))] [.int (nI q)] rfl ?_
  refine g_callS X hSB hAf (As := [.int (nI q)]) (wr := WM ad g I L S (u2 Z 3 0 (nI 0)) Y ++ []) (n := 1) (c_X9_isPlace_t l D g q (by omega)) rfl srcN hrdN w_1335 w_1333 w_1334 w_6 (by decide +kernel) rfl ⟨Nat.le_of_ble_eq_true rfl, Nat.le_of_ble_eq_true rfl⟩ rfl rfl rfl (Nat.le_of_ble_eq_true rfl) ⟨Nat.le_of_ble_eq_true rfl, Nat.le_of_ble_eq_true rfl⟩ dX9_symbol_6 (fun hu1 _ => ?_)
  refine g_af (ws' := WM ad g I L S (u2 Z 3 0 (nI 0)) Y ++ []) (st' := [.int (nI 1)]) (cells' := 0) (slots' := 0) (pc' := 9) rfl rfl rfl rfl rfl ?_
  refine g_if_ne X 18 dX9_symbol_9 (by decide) (fun hc2 => ?_) (fun hc2 => ?_)
  · refine g_run X KX9_symbol_18_2 KX9_symbol_18_2_d 19 [(0, .ref (ad 0)), (1, .long x), (3, .int (nI q))] [.long x] rfl ?_
    refine g_callS X hSB hAf (As := [.long x]) (wr := WM ad g I L S (u2 Z 3 0 (nI 0)) Y ++ []) (n := 1) (c_X9_isData_f l D g x (hx)) rfl srcN hrdN w_1267 w_1265 w_1266 w_6 (by decide +kernel) rfl ⟨Nat.le_of_ble_eq_true rfl, Nat.le_of_ble_eq_true rfl⟩ rfl rfl rfl (Nat.le_of_ble_eq_true rfl) ⟨Nat.le_of_ble_eq_true rfl, Nat.le_of_ble_eq_true rfl⟩ dX9_symbol_19 (fun hu3 _ => ?_)
    refine g_af (ws' := WM ad g I L S (u2 Z 3 0 (nI 0)) Y ++ []) (st' := [.int (nI 0)]) (cells' := 0) (slots' := 0) (pc' := 22) rfl rfl rfl rfl rfl ?_
    refine g_if_eq X 35 dX9_symbol_22 (by decide) (fun hc4 => ?_) (fun hc4 => ?_)
    · refine g_run X KX9_symbol_35_7 KX9_symbol_35_7_d 37 [(0, .ref (ad 0)), (1, .long x), (3, .int (nI q))] [.int (nI 2), .ref (ad 0)] rfl ?_
      refine g_callV X hSB hAf (srcW) (hrc1 := (rfl : CL[8]? = some _)) (wm_mem (k := 0) (by decide)) rfl (As := [.int (nI 2)]) (wr := []) (n := 1) (c_X9_refuse l D g ad I L S (u2 Z 3 0 (nI 0)) Y 2 ) rfl srcN hrdN w_1264 w_1261 w_1263 w_s12 w_6 (by decide +kernel) rfl ⟨Nat.le_of_ble_eq_true rfl, Nat.le_of_ble_eq_true rfl⟩ rfl rfl rfl (Nat.le_of_ble_eq_true rfl) ⟨Nat.le_of_ble_eq_true rfl, Nat.le_of_ble_eq_true rfl⟩ dX9_symbol_37 (fun hu5 _ => ?_)
      refine g_af (ws' := WM ad g I L S (u2 (u2 Z 3 0 (nI 0)) 3 0 (nI 2)) Y ++ []) (st' := [.int (nI 0)]) (cells' := 0) (slots' := 0) (pc' := 40) rfl rfl rfl rfl rfl ?_
      exact g_iret X hr () (rfl) (trivial) (rfl) (Nat.le_of_ble_eq_true rfl) (Nat.le_of_ble_eq_true rfl) dX9_symbol_40
    · rw [nz_eq (by omega)] at hc4; first | omega | (simp at hc4)
  · rw [nz_eq (by omega)] at hc2; first | omega | (simp at hc2)

