
theorem mw_or (b : Nat) (x : Int64) : mw b x = none ∨ ∃ y, mw b x = some y := by
  cases mw b x with
  | none => exact Or.inl rfl
  | some y => exact Or.inr ⟨y, rfl⟩

def KX9_spareNow_0_0 : List (Nat × Instr × Nat) := [(0, .iload_n 1, 1), (1, .iconst (-1), 1)]
theorem KX9_spareNow_0_0_d : ∀ z ∈ KX9_spareNow_0_0, decode cX9_spareNow z.1 = .ok z.2 := by decide +kernel
def KX9_spareNow_9_1 : List (Nat × Instr × Nat) := [(9, .iconst 4, 1), (10, .iload_n 2, 1)]
theorem KX9_spareNow_9_1_d : ∀ z ∈ KX9_spareNow_9_1, decode cX9_spareNow z.1 = .ok z.2 := by decide +kernel
def KX9_spareNow_14_2 : List (Nat × Instr × Nat) := [(14, .isub, 1), (15, .iconst 2, 1), (16, .iload_n 1, 1), (17, .iload_n 2, 1), (18, .iconst (-1), 1), (19, .ixor, 1), (20, .iand, 1)]
theorem KX9_spareNow_14_2_d : ∀ z ∈ KX9_spareNow_14_2, decode cX9_spareNow z.1 = .ok z.2 := by decide +kernel
def KX9_spareNow_24_3 : List (Nat × Instr × Nat) := [(24, .imul, 1), (25, .isub, 1)]
theorem KX9_spareNow_24_3_d : ∀ z ∈ KX9_spareNow_24_3, decode cX9_spareNow z.1 = .ok z.2 := by decide +kernel
set_option maxHeartbeats 4000000 in
set_option maxRecDepth 100000 in
theorem c_X9_spareNow (l : Launch) (D : va_G) (g : Nat → ClassId) (ad : Nat → Nat) (I : Nat → Nat → Int32) (L : Nat → Nat → Int64) (S : Nat → Nat) (Z : Nat → Nat → Int32) (Y : Int64) (v : Nat) (b : Nat) (hv : v < 2 ^ 15) (hb : b < 2 ^ 15) : CT l yX9_spareNow cX9_spareNow 3 ((Option.some FieldType.int)) ({ frames := 1, cells := 0, slots := 0, locals := 20 } : Room) [.ref (ad 0), .int (nI v), .int (nI b)] D CL (TYS g) ([]) (WM ad g I L S Z Y) (S := Unit) (fun _ => some (.int ((nI 4 - nI (pcn b 15)) - nI (2 * pcn (v &&& (32767 ^^^ b)) 15)))) (fun _ => WM ad g I L S Z Y) (fun _ => True) 0 0 := by
  refine ct_of (by decide +kernel) (Nat.le_of_ble_eq_true rfl) ?_
  intro p e s m below meth c A X hr hnm hSB hRO hAf
  refine g_cs (ws' := WM ad g I L S Z Y ++ []) (lv' := [(0, .ref (ad 0)), (1, .int (nI v)), (2, .int (nI b))]) (List.append_nil _) rfl ?_
  refine g_run X KX9_spareNow_0_0 KX9_spareNow_0_0_d 2 [(0, .ref (ad 0)), (1, .int (nI v)), (2, .int (nI b))] [.int (-nI 1), .int (nI v)] rfl ?_
  refine g_icmp_ne X 9 dX9_spareNow_2 (by decide) (fun hc1 => ?_) (fun hc1 => ?_)
  · refine g_run X KX9_spareNow_9_1 KX9_spareNow_9_1_d 11 [(0, .ref (ad 0)), (1, .int (nI v)), (2, .int (nI b))] [.int (nI b), .int (nI 4)] rfl ?_
    refine g_callS X hSB hAf (As := [.int (nI b)]) (wr := WM ad g I L S Z Y ++ []) (n := 1) (c_J6_bitCount_0f7a4 l D g b (hb)) rfl srcN hrdN w_259 w_1340 w_258 w_24 (by decide +kernel) rfl ⟨Nat.le_of_ble_eq_true rfl, Nat.le_of_ble_eq_true rfl⟩ rfl rfl rfl (Nat.le_of_ble_eq_true rfl) ⟨Nat.le_of_ble_eq_true rfl, Nat.le_of_ble_eq_true rfl⟩ dX9_spareNow_11 (fun hu2 _ => ?_)
    refine g_af (ws' := WM ad g I L S Z Y ++ []) (st' := [.int (nI (pcn b 15)), .int (nI 4)]) (cells' := 0) (slots' := 0) (pc' := 14) rfl rfl rfl rfl rfl ?_
    refine g_run X KX9_spareNow_14_2 KX9_spareNow_14_2_d 21 [(0, .ref (ad 0)), (1, .int (nI v)), (2, .int (nI b))] [.int ((nI v) &&& ((nI b) ^^^ (-nI 1))), .int (nI 2), .int ((nI 4) - (nI (pcn b 15)))] rfl ?_
    refine g_st (st' := [.int (nI (v &&& (32767 ^^^ b))), .int (nI 2), .int ((nI 4) - (nI (pcn b 15)))]) (by rw [an15 hb hv]) ?_
    refine g_callS X hSB hAf (As := [.int (nI (v &&& (32767 ^^^ b)))]) (wr := WM ad g I L S Z Y ++ []) (n := 1) (c_J6_bitCount_0f7a4 l D g (v &&& (32767 ^^^ b)) (an_lt hv)) rfl srcN hrdN w_259 w_1340 w_258 w_24 (by decide +kernel) rfl ⟨Nat.le_of_ble_eq_true rfl, Nat.le_of_ble_eq_true rfl⟩ rfl rfl rfl (Nat.le_of_ble_eq_true rfl) ⟨Nat.le_of_ble_eq_true rfl, Nat.le_of_ble_eq_true rfl⟩ dX9_spareNow_21 (fun hu3 _ => ?_)
    refine g_af (ws' := WM ad g I L S Z Y ++ []) (st' := [.int (nI (pcn (v &&& (32767 ^^^ b)) 15)), .int (nI 2), .int ((nI 4) - (nI (pcn b 15)))]) (cells' := 0) (slots' := 0) (pc' := 24) rfl rfl rfl rfl rfl ?_
    refine g_run X KX9_spareNow_24_3 KX9_spareNow_24_3_d 26 [(0, .ref (ad 0)), (1, .int (nI v)), (2, .int (nI b))] [.int (((nI 4) - (nI (pcn b 15))) - ((nI 2) * (nI (pcn (v &&& (32767 ^^^ b)) 15))))] rfl ?_
    exact g_iret X hr () (by show some (Value.int _) = some (Value.int _); rw [← pk_mul]) (trivial) (rfl) (Nat.le_of_ble_eq_true rfl) (Nat.le_of_ble_eq_true rfl) dX9_spareNow_26
  · exact (m1_ne (by omega) hc1).elim

def KX9_spareNow_5_4 : List (Nat × Instr × Nat) := [(5, .iconst (-1), 1), (6, .goto 20, 3)]
theorem KX9_spareNow_5_4_d : ∀ z ∈ KX9_spareNow_5_4, decode cX9_spareNow z.1 = .ok z.2 := by decide +kernel
set_option maxHeartbeats 4000000 in
set_option maxRecDepth 100000 in
theorem c_X9_spareNow_n (l : Launch) (D : va_G) (g : Nat → ClassId) (ad : Nat → Nat) (I : Nat → Nat → Int32) (L : Nat → Nat → Int64) (S : Nat → Nat) (Z : Nat → Nat → Int32) (Y : Int64) (y : Int32) : CT l yX9_spareNow cX9_spareNow 3 ((Option.some FieldType.int)) ({ frames := 0, cells := 0, slots := 0, locals := 0 } : Room) [.ref (ad 0), .int (-nI 1), .int y] D CL (TYS g) ([]) (WM ad g I L S Z Y) (S := Unit) (fun _ => some (.int (-nI 1))) (fun _ => WM ad g I L S Z Y) (fun _ => True) 0 0 := by
  refine ct_of (by decide +kernel) (Nat.le_of_ble_eq_true rfl) ?_
  intro p e s m below meth c A X hr hnm hSB hRO hAf
  refine g_cs (ws' := WM ad g I L S Z Y ++ []) (lv' := [(0, .ref (ad 0)), (1, .int (-nI 1)), (2, .int y)]) (List.append_nil _) rfl ?_
  refine g_run X KX9_spareNow_0_0 KX9_spareNow_0_0_d 2 [(0, .ref (ad 0)), (1, .int (-nI 1)), (2, .int y)] [.int (-nI 1), .int (-nI 1)] rfl ?_
  refine g_icmp_ne X 9 dX9_spareNow_2 (by decide) (fun hc1 => ?_) (fun hc1 => ?_)
  · exact (hc1 rfl).elim
  · refine g_run X KX9_spareNow_5_4 KX9_spareNow_5_4_d 26 [(0, .ref (ad 0)), (1, .int (-nI 1)), (2, .int y)] [.int (-nI 1)] rfl ?_
    exact g_iret X hr () (rfl) (trivial) (rfl) (Nat.le_of_ble_eq_true rfl) (Nat.le_of_ble_eq_true rfl) dX9_spareNow_26

def KX9_spare_0_0 : List (Nat × Instr × Nat) := [(0, .aload_n 0, 1), (1, .iconst 0, 1)]
theorem KX9_spare_0_0_d : ∀ z ∈ KX9_spare_0_0, decode cX9_spare z.1 = .ok z.2 := by decide +kernel
def KX9_spare_5_1 : List (Nat × Instr × Nat) := [(5, .iload_n 1, 1)]
theorem KX9_spare_5_1_d : ∀ z ∈ KX9_spare_5_1, decode cX9_spare z.1 = .ok z.2 := by decide +kernel
def KX9_spare_12_2 : List (Nat × Instr × Nat) := [(12, .aload_n 0, 1), (13, .aload_n 0, 1), (14, .aload_n 0, 1), (15, .iload_n 1, 1)]
theorem KX9_spare_12_2_d : ∀ z ∈ KX9_spare_12_2, decode cX9_spare z.1 = .ok z.2 := by decide +kernel
def KX9_spare_19_3 : List (Nat × Instr × Nat) := [(19, .aload_n 0, 1)]
theorem KX9_spare_19_3_d : ∀ z ∈ KX9_spare_19_3, decode cX9_spare z.1 = .ok z.2 := by decide +kernel
def KX9_spare_26_4 : List (Nat × Instr × Nat) := [(26, .aload_n 0, 1)]
theorem KX9_spare_26_4_d : ∀ z ∈ KX9_spare_26_4, decode cX9_spare z.1 = .ok z.2 := by decide +kernel
def KX9_spare_33_5 : List (Nat × Instr × Nat) := [(33, .goto 8, 3)]
theorem KX9_spare_33_5_d : ∀ z ∈ KX9_spare_33_5, decode cX9_spare z.1 = .ok z.2 := by decide +kernel
set_option maxHeartbeats 4000000 in
set_option maxRecDepth 100000 in
theorem c_X9_spare (l : Launch) (D : va_G) (g : Nat → ClassId) (ad : Nat → Nat) (I : Nat → Nat → Int32) (L : Nat → Nat → Int64) (S : Nat → Nat) (Z : Nat → Nat → Int32) (Y : Int64) (q : Nat) (R : Nat → Nat) (hR : R16 R) (hZ : Z 0 = fun j => nI (R j)) (hS18 : ∀ p, p < 15 → S p < 18) (hK : kOK I) (hq : q < 16) : CT l yX9_spare cX9_spare 2 ((Option.some FieldType.int)) ({ frames := 5, cells := 1, slots := 15, locals := 123 } : Room) [.ref (ad 0), .int (nI q)] D CL (TYS g) ([]) (WM ad g I L S Z Y) (S := (Nat → Nat) × (Nat → Int32)) (fun _ => some (.int (spV I L S q))) (fun u => WM ad g I L S (z4 (u2 Z 3 0 (nI 0)) u.1 u.2 (mdA (Z 2) (mw (ers I S 15) (rwd I L S q 15)))) Y) (fun u => R16 u.1) 1 15 := by
  refine ct_of (by decide +kernel) (Nat.le_of_ble_eq_true rfl) ?_
  intro p e s m below meth c A X hr hnm hSB hRO hAf
  refine g_cs (ws' := WM ad g I L S (z4 Z R (Z 1) (Z 2)) Y ++ []) (lv' := [(0, .ref (ad 0)), (1, .int (nI q))]) (by rw [z4_e hZ]; exact List.append_nil _) rfl ?_
  refine g_run X KX9_spare_0_0 KX9_spare_0_0_d 2 [(0, .ref (ad 0)), (1, .int (nI q))] [.int (nI 0), .ref (ad 0)] rfl ?_
  refine g_put X (ws' := WM ad g I L S (z4 (u2 Z 3 0 (nI 0)) R (Z 1) (Z 2)) Y ++ []) hinX9 tyX9 tyX9_ok nmX9 rfl 0 (by decide) w_1180 rfl rfl (ty := .int) rfl rfl rfl (0) (wm_get (k := 0) (by decide)) (Nat.le_of_ble_eq_true rfl) (wm_so0) dX9_spare_2 ?_
  refine g_run X KX9_spare_5_1 KX9_spare_5_1_d 6 [(0, .ref (ad 0)), (1, .int (nI q))] [.int (nI q)] rfl ?_
  refine g_callS X hSB hAf (As := [.int (nI q)]) (wr := WM ad g I L S (z4 (u2 Z 3 0 (nI 0)) R (Z 1) (Z 2)) Y ++ []) (n := 1) (c_X9_isLine_t l D g q (by omega)) rfl srcN hrdN w_1257 w_1255 w_1256 w_6 (by decide +kernel) rfl ⟨Nat.le_of_ble_eq_true rfl, Nat.le_of_ble_eq_true rfl⟩ rfl rfl rfl (Nat.le_of_ble_eq_true rfl) ⟨Nat.le_of_ble_eq_true rfl, Nat.le_of_ble_eq_true rfl⟩ dX9_spare_6 (fun hu1 _ => ?_)
  refine g_af (ws' := WM ad g I L S (z4 (u2 Z 3 0 (nI 0)) R (Z 1) (Z 2)) Y ++ []) (st' := [.int (nI 1)]) (cells' := 0) (slots' := 0) (pc' := 9) rfl rfl rfl rfl rfl ?_
  refine g_if_eq X 36 dX9_spare_9 (by decide) (fun hc2 => ?_) (fun hc2 => ?_)
  · rw [nz_eq (by omega)] at hc2; first | omega | (simp at hc2)
  · refine g_run X KX9_spare_12_2 KX9_spare_12_2_d 16 [(0, .ref (ad 0)), (1, .int (nI q))] [.int (nI q), .ref (ad 0), .ref (ad 0), .ref (ad 0)] rfl ?_
    refine g_callV X hSB hAf (srcW) (hrc1 := (rfl : CL[8]? = some _)) (wm_mem (k := 0) (by decide)) rfl (As := [.int (nI q)]) (wr := []) (n := 1) (c_X9_read l D g ad I L S (z4 (u2 Z 3 0 (nI 0)) R (Z 1) (Z 2)) Y q (hS18) (hK) (by omega)) rfl srcN hrdN w_1272 w_1269 w_1271 w_s13 w_6 (by decide +kernel) rfl ⟨Nat.le_of_ble_eq_true rfl, Nat.le_of_ble_eq_true rfl⟩ rfl rfl rfl (Nat.le_of_ble_eq_true rfl) ⟨Nat.le_of_ble_eq_true rfl, Nat.le_of_ble_eq_true rfl⟩ dX9_spare_16 (fun hu3 _ => ?_)
    refine g_af (ws' := WM ad g I L S (z4 (u2 Z 3 0 (nI 0)) R (Z 1) (Z 2)) Y ++ [(hu3, Sum.inl (g 0, 15, .inl (wA (rwd I L S q 15))))]) (st' := [.ref hu3, .ref (ad 0), .ref (ad 0)]) (cells' := 1) (slots' := 15) (pc' := 19) ((List.append_assoc _ ([(hu3, Sum.inl (g 0, 15, .inl (wA (rwd I L S q 15))))] : va_W) []).symm) rfl rfl rfl rfl ?_
    refine g_run X KX9_spare_19_3 KX9_spare_19_3_d 20 [(0, .ref (ad 0)), (1, .int (nI q))] [.ref (ad 0), .ref hu3, .ref (ad 0), .ref (ad 0)] rfl ?_
    refine g_callV X hSB hAf (srcW) (hrc1 := (rfl : CL[8]? = some _)) (wm_mem (k := 0) (by decide)) rfl (As := []) (wr := [(hu3, Sum.inl (g 0, 15, .inl (wA (rwd I L S q 15))))]) (n := 0) (c_X9_erased l D g ad I L S (z4 (u2 Z 3 0 (nI 0)) R (Z 1) (Z 2)) Y (hS18)) rfl srcN hrdN w_1339 w_1336 w_1338 w_s23 w_6 (by decide +kernel) rfl ⟨Nat.le_of_ble_eq_true rfl, Nat.le_of_ble_eq_true rfl⟩ rfl rfl rfl (Nat.le_of_ble_eq_true rfl) ⟨Nat.le_of_ble_eq_true rfl, Nat.le_of_ble_eq_true rfl⟩ dX9_spare_20 (fun hu4 _ => ?_)
    refine g_af (ws' := WM ad g I L S (z4 (u2 Z 3 0 (nI 0)) R (Z 1) (Z 2)) Y ++ [(hu3, Sum.inl (g 0, 15, .inl (wA (rwd I L S q 15))))]) (st' := [.int (nI (ers I S 15)), .ref hu3, .ref (ad 0), .ref (ad 0)]) (cells' := 1) (slots' := 15) (pc' := 23) rfl rfl rfl rfl rfl ?_
    refine g_callV X hSB hAf (srcW) (hrc1 := (rfl : CL[8]? = some _)) (wm_mem (k := 0) (by decide)) rfl (As := [.ref hu3, .int (nI (ers I S 15))]) (wr := [(hu3, Sum.inl (g 0, 15, .inl (wA (rwd I L S q 15))))]) (n := 2) (c_X9_mendedNow l D g ad I L S (z4 (u2 Z 3 0 (nI 0)) R (Z 1) (Z 2)) Y hu3 (rwd I L S q 15) (ers I S 15) R (by assumption) (rfl) (ers_lt _ _ _)) rfl (src_sub (wt_mem (by simp))) (hrdT rfl (by simp)) w_1456 w_1453 w_1455 w_s33 w_6 (by decide +kernel) rfl ⟨Nat.le_of_ble_eq_true rfl, Nat.le_of_ble_eq_true rfl⟩ rfl rfl rfl (Nat.le_of_ble_eq_true rfl) ⟨Nat.le_of_ble_eq_true rfl, Nat.le_of_ble_eq_true rfl⟩ dX9_spare_23 (fun hu5 hp_hu5 => ?_)
    refine g_af (ws' := WM ad g I L S (z4 (u2 Z 3 0 (nI 0)) hu5.1 hu5.2 (mdA (Z 2) (mw (ers I S 15) (rwd I L S q 15)))) Y ++ [(hu3, Sum.inl (g 0, 15, .inl (wA (rwd I L S q 15))))]) (st' := [.int (mdO (rwd I L S q 15) (mw (ers I S 15) (rwd I L S q 15))), .ref (ad 0)]) (cells' := 1) (slots' := 15) (pc' := 26) (congrArg (fun z => (WM ad g I L S z Y) ++ [(hu3, Sum.inl (g 0, 15, .inl (wA (rwd I L S q 15))))]) z4_z4.symm) rfl rfl rfl rfl ?_
    rcases mw_or (ers I S 15) (rwd I L S q 15) with hn | ⟨y, hy⟩
    · refine g_st (st' := [.int (-nI 1), .ref (ad 0)]) (by rw [hn]; rfl) ?_
      refine g_run X KX9_spare_26_4 KX9_spare_26_4_d 27 [(0, .ref (ad 0)), (1, .int (nI q))] [.ref (ad 0), .int (-nI 1), .ref (ad 0)] rfl ?_
      refine g_callV X hSB hAf (srcW) (hrc1 := (rfl : CL[8]? = some _)) (wm_mem (k := 0) (by decide)) rfl (As := []) (wr := [(hu3, Sum.inl (g 0, 15, .inl (wA (rwd I L S q 15))))]) (n := 0) (c_X9_erased l D g ad I L S (z4 (u2 Z 3 0 (nI 0)) hu5.1 hu5.2 (mdA (Z 2) (mw (ers I S 15) (rwd I L S q 15)))) Y (hS18)) rfl srcN hrdN w_1339 w_1336 w_1338 w_s23 w_6 (by decide +kernel) rfl ⟨Nat.le_of_ble_eq_true rfl, Nat.le_of_ble_eq_true rfl⟩ rfl rfl rfl (Nat.le_of_ble_eq_true rfl) ⟨Nat.le_of_ble_eq_true rfl, Nat.le_of_ble_eq_true rfl⟩ dX9_spare_27 (fun hu6 _ => ?_)
      refine g_af (ws' := WM ad g I L S (z4 (u2 Z 3 0 (nI 0)) hu5.1 hu5.2 (mdA (Z 2) (mw (ers I S 15) (rwd I L S q 15)))) Y ++ [(hu3, Sum.inl (g 0, 15, .inl (wA (rwd I L S q 15))))]) (st' := [.int (nI (ers I S 15)), .int (-nI 1), .ref (ad 0)]) (cells' := 1) (slots' := 15) (pc' := 30) rfl rfl rfl rfl rfl ?_
      refine g_callV X hSB hAf (srcW) (hrc1 := (rfl : CL[8]? = some _)) (wm_mem (k := 0) (by decide)) rfl (As := [.int (-nI 1), .int (nI (ers I S 15))]) (wr := [(hu3, Sum.inl (g 0, 15, .inl (wA (rwd I L S q 15))))]) (n := 2) (c_X9_spareNow_n l D g ad I L S (z4 (u2 Z 3 0 (nI 0)) hu5.1 hu5.2 (mdA (Z 2) (mw (ers I S 15) (rwd I L S q 15)))) Y (nI (ers I S 15)) ) rfl srcN hrdN w_1525 w_1522 w_1524 w_s40 w_6 (by decide +kernel) rfl ⟨Nat.le_of_ble_eq_true rfl, Nat.le_of_ble_eq_true rfl⟩ rfl rfl rfl (Nat.le_of_ble_eq_true rfl) ⟨Nat.le_of_ble_eq_true rfl, Nat.le_of_ble_eq_true rfl⟩ dX9_spare_30 (fun hu7 _ => ?_)
      refine g_af (ws' := WM ad g I L S (z4 (u2 Z 3 0 (nI 0)) hu5.1 hu5.2 (mdA (Z 2) (mw (ers I S 15) (rwd I L S q 15)))) Y ++ [(hu3, Sum.inl (g 0, 15, .inl (wA (rwd I L S q 15))))]) (st' := [.int (-nI 1)]) (cells' := 1) (slots' := 15) (pc' := 33) rfl rfl rfl rfl rfl ?_
      refine g_run X KX9_spare_33_5 KX9_spare_33_5_d 41 [(0, .ref (ad 0)), (1, .int (nI q))] [.int (-nI 1)] rfl ?_
      exact g_iret X hr (hu5.1, hu5.2) (by show some (Value.int _) = some (Value.int _); rw [spV, mwd, hn, if_pos (by rfl)]) (by assumption) (rfl) (Nat.le_of_ble_eq_true rfl) (Nat.le_of_ble_eq_true rfl) dX9_spare_41
    · refine g_st (st' := [.int (nI (pl (rwd I L S q 15 ^^^ y) 15)), .ref (ad 0)]) (by rw [hy]; rfl) ?_
      have hpl := pl_lt (rwd I L S q 15 ^^^ y) 15
      refine g_run X KX9_spare_26_4 KX9_spare_26_4_d 27 [(0, .ref (ad 0)), (1, .int (nI q))] [.ref (ad 0), .int (nI (pl (rwd I L S q 15 ^^^ y) 15)), .ref (ad 0)] rfl ?_
      refine g_callV X hSB hAf (srcW) (hrc1 := (rfl : CL[8]? = some _)) (wm_mem (k := 0) (by decide)) rfl (As := []) (wr := [(hu3, Sum.inl (g 0, 15, .inl (wA (rwd I L S q 15))))]) (n := 0) (c_X9_erased l D g ad I L S (z4 (u2 Z 3 0 (nI 0)) hu5.1 hu5.2 (mdA (Z 2) (mw (ers I S 15) (rwd I L S q 15)))) Y (hS18)) rfl srcN hrdN w_1339 w_1336 w_1338 w_s23 w_6 (by decide +kernel) rfl ⟨Nat.le_of_ble_eq_true rfl, Nat.le_of_ble_eq_true rfl⟩ rfl rfl rfl (Nat.le_of_ble_eq_true rfl) ⟨Nat.le_of_ble_eq_true rfl, Nat.le_of_ble_eq_true rfl⟩ dX9_spare_27 (fun hu8 _ => ?_)
      refine g_af (ws' := WM ad g I L S (z4 (u2 Z 3 0 (nI 0)) hu5.1 hu5.2 (mdA (Z 2) (mw (ers I S 15) (rwd I L S q 15)))) Y ++ [(hu3, Sum.inl (g 0, 15, .inl (wA (rwd I L S q 15))))]) (st' := [.int (nI (ers I S 15)), .int (nI (pl (rwd I L S q 15 ^^^ y) 15)), .ref (ad 0)]) (cells' := 1) (slots' := 15) (pc' := 30) rfl rfl rfl rfl rfl ?_
      refine g_callV X hSB hAf (srcW) (hrc1 := (rfl : CL[8]? = some _)) (wm_mem (k := 0) (by decide)) rfl (As := [.int (nI (pl (rwd I L S q 15 ^^^ y) 15)), .int (nI (ers I S 15))]) (wr := [(hu3, Sum.inl (g 0, 15, .inl (wA (rwd I L S q 15))))]) (n := 2) (c_X9_spareNow l D g ad I L S (z4 (u2 Z 3 0 (nI 0)) hu5.1 hu5.2 (mdA (Z 2) (mw (ers I S 15) (rwd I L S q 15)))) Y (pl (rwd I L S q 15 ^^^ y) 15) (ers I S 15) (hpl) (ers_lt _ _ _)) rfl srcN hrdN w_1525 w_1522 w_1524 w_s40 w_6 (by decide +kernel) rfl ⟨Nat.le_of_ble_eq_true rfl, Nat.le_of_ble_eq_true rfl⟩ rfl rfl rfl (Nat.le_of_ble_eq_true rfl) ⟨Nat.le_of_ble_eq_true rfl, Nat.le_of_ble_eq_true rfl⟩ dX9_spare_30 (fun hu9 _ => ?_)
      refine g_af (ws' := WM ad g I L S (z4 (u2 Z 3 0 (nI 0)) hu5.1 hu5.2 (mdA (Z 2) (mw (ers I S 15) (rwd I L S q 15)))) Y ++ [(hu3, Sum.inl (g 0, 15, .inl (wA (rwd I L S q 15))))]) (st' := [.int ((nI 4 - nI (pcn (ers I S 15) 15)) - nI (2 * pcn ((pl (rwd I L S q 15 ^^^ y) 15) &&& (32767 ^^^ (ers I S 15))) 15))]) (cells' := 1) (slots' := 15) (pc' := 33) rfl rfl rfl rfl rfl ?_
      refine g_run X KX9_spare_33_5 KX9_spare_33_5_d 41 [(0, .ref (ad 0)), (1, .int (nI q))] [.int ((nI 4 - nI (pcn (ers I S 15) 15)) - nI (2 * pcn ((pl (rwd I L S q 15 ^^^ y) 15) &&& (32767 ^^^ (ers I S 15))) 15))] rfl ?_
      exact g_iret X hr (hu5.1, hu5.2) (by show some (Value.int _) = some (Value.int _); rw [spV, mwd, hy, show oL (some y) = y from rfl, if_neg (ne_m1 (mw_15 (rwd_15 _ _ _ _ _ (Nat.le_refl _)) hy))]) (by assumption) (rfl) (Nat.le_of_ble_eq_true rfl) (Nat.le_of_ble_eq_true rfl) dX9_spare_41

def KX9_spare_36_6 : List (Nat × Instr × Nat) := [(36, .aload_n 0, 1), (37, .iconst 1, 1)]
theorem KX9_spare_36_6_d : ∀ z ∈ KX9_spare_36_6, decode cX9_spare z.1 = .ok z.2 := by decide +kernel
set_option maxHeartbeats 4000000 in
set_option maxRecDepth 100000 in
theorem c_X9_spare_1 (l : Launch) (D : va_G) (g : Nat → ClassId) (ad : Nat → Nat) (I : Nat → Nat → Int32) (L : Nat → Nat → Int64) (S : Nat → Nat) (Z : Nat → Nat → Int32) (Y : Int64) (x : Int32) (hx : x < 0 ∨ ¬ x ≤ nI 15) : CT l yX9_spare cX9_spare 2 ((Option.some FieldType.int)) ({ frames := 2, cells := 0, slots := 0, locals := 42 } : Room) [.ref (ad 0), .int x] D CL (TYS g) ([]) (WM ad g I L S Z Y) (S := Unit) (fun _ => some (.int (nI 0))) (fun _ => WM ad g I L S (u2 (u2 Z 3 0 (nI 0)) 3 0 (nI 1)) Y) (fun _ => True) 0 0 := by
  refine ct_of (by decide +kernel) (Nat.le_of_ble_eq_true rfl) ?_
  intro p e s m below meth c A X hr hnm hSB hRO hAf
  refine g_cs (ws' := WM ad g I L S Z Y ++ []) (lv' := [(0, .ref (ad 0)), (1, .int x)]) (List.append_nil _) rfl ?_
  refine g_run X KX9_spare_0_0 KX9_spare_0_0_d 2 [(0, .ref (ad 0)), (1, .int x)] [.int (nI 0), .ref (ad 0)] rfl ?_
  refine g_put X (ws' := WM ad g I L S (u2 Z 3 0 (nI 0)) Y ++ []) hinX9 tyX9 tyX9_ok nmX9 rfl 0 (by decide) w_1180 rfl rfl (ty := .int) rfl rfl rfl (0) (wm_get (k := 0) (by decide)) (Nat.le_of_ble_eq_true rfl) (wm_mo0) dX9_spare_2 ?_
  refine g_run X KX9_spare_5_1 KX9_spare_5_1_d 6 [(0, .ref (ad 0)), (1, .int x)] [.int x] rfl ?_
  refine g_callS X hSB hAf (As := [.int x]) (wr := WM ad g I L S (u2 Z 3 0 (nI 0)) Y ++ []) (n := 1) (c_X9_isLine_f l D g x (hx)) rfl srcN hrdN w_1257 w_1255 w_1256 w_6 (by decide +kernel) rfl ⟨Nat.le_of_ble_eq_true rfl, Nat.le_of_ble_eq_true rfl⟩ rfl rfl rfl (Nat.le_of_ble_eq_true rfl) ⟨Nat.le_of_ble_eq_true rfl, Nat.le_of_ble_eq_true rfl⟩ dX9_spare_6 (fun hu1 _ => ?_)
  refine g_af (ws' := WM ad g I L S (u2 Z 3 0 (nI 0)) Y ++ []) (st' := [.int (nI 0)]) (cells' := 0) (slots' := 0) (pc' := 9) rfl rfl rfl rfl rfl ?_
  refine g_if_eq X 36 dX9_spare_9 (by decide) (fun hc2 => ?_) (fun hc2 => ?_)
  · refine g_run X KX9_spare_36_6 KX9_spare_36_6_d 38 [(0, .ref (ad 0)), (1, .int x)] [.int (nI 1), .ref (ad 0)] rfl ?_
    refine g_callV X hSB hAf (srcW) (hrc1 := (rfl : CL[8]? = some _)) (wm_mem (k := 0) (by decide)) rfl (As := [.int (nI 1)]) (wr := []) (n := 1) (c_X9_refuse l D g ad I L S (u2 Z 3 0 (nI 0)) Y 1 ) rfl srcN hrdN w_1264 w_1261 w_1263 w_s12 w_6 (by decide +kernel) rfl ⟨Nat.le_of_ble_eq_true rfl, Nat.le_of_ble_eq_true rfl⟩ rfl rfl rfl (Nat.le_of_ble_eq_true rfl) ⟨Nat.le_of_ble_eq_true rfl, Nat.le_of_ble_eq_true rfl⟩ dX9_spare_38 (fun hu3 _ => ?_)
    refine g_af (ws' := WM ad g I L S (u2 (u2 Z 3 0 (nI 0)) 3 0 (nI 1)) Y ++ []) (st' := [.int (nI 0)]) (cells' := 0) (slots' := 0) (pc' := 41) rfl rfl rfl rfl rfl ?_
    exact g_iret X hr () (rfl) (trivial) (rfl) (Nat.le_of_ble_eq_true rfl) (Nat.le_of_ble_eq_true rfl) dX9_spare_41
  · rw [nz_eq (by omega)] at hc2; first | omega | (simp at hc2)

def KX9_wouldMend_0_0 : List (Nat × Instr × Nat) := [(0, .aload_n 0, 1), (1, .iconst 0, 1)]
theorem KX9_wouldMend_0_0_d : ∀ z ∈ KX9_wouldMend_0_0, decode cX9_wouldMend z.1 = .ok z.2 := by decide +kernel
def KX9_wouldMend_5_1 : List (Nat × Instr × Nat) := [(5, .iload_n 1, 1)]
theorem KX9_wouldMend_5_1_d : ∀ z ∈ KX9_wouldMend_5_1, decode cX9_wouldMend z.1 = .ok z.2 := by decide +kernel
def KX9_wouldMend_18_2 : List (Nat × Instr × Nat) := [(18, .iload_n 2, 1), (19, .iconst 0, 1), (20, .sipush 32767, 3)]
theorem KX9_wouldMend_18_2_d : ∀ z ∈ KX9_wouldMend_18_2, decode cX9_wouldMend z.1 = .ok z.2 := by decide +kernel
def KX9_wouldMend_35_3 : List (Nat × Instr × Nat) := [(35, .aload_n 0, 1), (36, .aload_n 0, 1), (37, .iload_n 1, 1)]
theorem KX9_wouldMend_35_3_d : ∀ z ∈ KX9_wouldMend_35_3, decode cX9_wouldMend z.1 = .ok z.2 := by decide +kernel
def KX9_wouldMend_41_4 : List (Nat × Instr × Nat) := [(41, .aload_n 0, 1)]
theorem KX9_wouldMend_41_4_d : ∀ z ∈ KX9_wouldMend_41_4, decode cX9_wouldMend z.1 = .ok z.2 := by decide +kernel
def KX9_wouldMend_45_5 : List (Nat × Instr × Nat) := [(45, .iload_n 2, 1), (46, .ior, 1)]
theorem KX9_wouldMend_45_5_d : ∀ z ∈ KX9_wouldMend_45_5, decode cX9_wouldMend z.1 = .ok z.2 := by decide +kernel
def KX9_wouldMend_50_6 : List (Nat × Instr × Nat) := [(50, .istore_n 3, 1), (51, .iload_n 3, 1), (52, .iconst (-1), 1)]
theorem KX9_wouldMend_50_6_d : ∀ z ∈ KX9_wouldMend_50_6, decode cX9_wouldMend z.1 = .ok z.2 := by decide +kernel
def KX9_wouldMend_56_7 : List (Nat × Instr × Nat) := [(56, .iconst (-1), 1), (57, .goto 7, 3)]
theorem KX9_wouldMend_56_7_d : ∀ z ∈ KX9_wouldMend_56_7, decode cX9_wouldMend z.1 = .ok z.2 := by decide +kernel
def KX9_wouldMend_60_8 : List (Nat × Instr × Nat) := [(60, .iload_n 3, 1)]
theorem KX9_wouldMend_60_8_d : ∀ z ∈ KX9_wouldMend_60_8, decode cX9_wouldMend z.1 = .ok z.2 := by decide +kernel
set_option maxHeartbeats 4000000 in
set_option maxRecDepth 100000 in
theorem c_X9_wouldMend (l : Launch) (D : va_G) (g : Nat → ClassId) (ad : Nat → Nat) (I : Nat → Nat → Int32) (L : Nat → Nat → Int64) (S : Nat → Nat) (Z : Nat → Nat → Int32) (Y : Int64) (q : Nat) (b : Nat) (R : Nat → Nat) (hR : R16 R) (hZ : Z 0 = fun j => nI (R j)) (hS18 : ∀ p, p < 15 → S p < 18) (hK : kOK I) (hq : q < 16) (hb : b < 2 ^ 15) : CT l yX9_wouldMend cX9_wouldMend 4 ((Option.some FieldType.int)) ({ frames := 5, cells := 1, slots := 15, locals := 123 } : Room) [.ref (ad 0), .int (nI q), .int (nI b)] D CL (TYS g) ([]) (WM ad g I L S Z Y) (S := (Nat → Nat) × (Nat → Int32)) (fun _ => some (.int (wrO (rwd I L S q 15) (oL (mw (ers I S 15 ||| b) (rwd I L S q 15)))))) (fun u => WM ad g I L S (z4 (u2 Z 3 0 (nI 0)) u.1 u.2 (mdA (Z 2) (mw (ers I S 15 ||| b) (rwd I L S q 15)))) Y) (fun u => R16 u.1) 1 15 := by
  refine ct_of (by decide +kernel) (Nat.le_of_ble_eq_true rfl) ?_
  intro p e s m below meth c A X hr hnm hSB hRO hAf
  refine g_cs (ws' := WM ad g I L S (z4 Z R (Z 1) (Z 2)) Y ++ []) (lv' := [(0, .ref (ad 0)), (1, .int (nI q)), (2, .int (nI b))]) (by rw [z4_e hZ]; exact List.append_nil _) rfl ?_
  refine g_run X KX9_wouldMend_0_0 KX9_wouldMend_0_0_d 2 [(0, .ref (ad 0)), (1, .int (nI q)), (2, .int (nI b))] [.int (nI 0), .ref (ad 0)] rfl ?_
  refine g_put X (ws' := WM ad g I L S (z4 (u2 Z 3 0 (nI 0)) R (Z 1) (Z 2)) Y ++ []) hinX9 tyX9 tyX9_ok nmX9 rfl 0 (by decide) w_1180 rfl rfl (ty := .int) rfl rfl rfl (0) (wm_get (k := 0) (by decide)) (Nat.le_of_ble_eq_true rfl) (wm_so0) dX9_wouldMend_2 ?_
  refine g_run X KX9_wouldMend_5_1 KX9_wouldMend_5_1_d 6 [(0, .ref (ad 0)), (1, .int (nI q)), (2, .int (nI b))] [.int (nI q)] rfl ?_
  refine g_callS X hSB hAf (As := [.int (nI q)]) (wr := WM ad g I L S (z4 (u2 Z 3 0 (nI 0)) R (Z 1) (Z 2)) Y ++ []) (n := 1) (c_X9_isLine_t l D g q (by omega)) rfl srcN hrdN w_1257 w_1255 w_1256 w_6 (by decide +kernel) rfl ⟨Nat.le_of_ble_eq_true rfl, Nat.le_of_ble_eq_true rfl⟩ rfl rfl rfl (Nat.le_of_ble_eq_true rfl) ⟨Nat.le_of_ble_eq_true rfl, Nat.le_of_ble_eq_true rfl⟩ dX9_wouldMend_6 (fun hu1 _ => ?_)
  refine g_af (ws' := WM ad g I L S (z4 (u2 Z 3 0 (nI 0)) R (Z 1) (Z 2)) Y ++ []) (st' := [.int (nI 1)]) (cells' := 0) (slots' := 0) (pc' := 9) rfl rfl rfl rfl rfl ?_
  refine g_if_ne X 18 dX9_wouldMend_9 (by decide) (fun hc2 => ?_) (fun hc2 => ?_)
  · refine g_run X KX9_wouldMend_18_2 KX9_wouldMend_18_2_d 23 [(0, .ref (ad 0)), (1, .int (nI q)), (2, .int (nI b))] [.int (nI 32767), .int (nI 0), .int (nI b)] rfl ?_
    refine g_callS X hSB hAf (As := [.int (nI b), .int (nI 0), .int (nI 32767)]) (wr := WM ad g I L S (z4 (u2 Z 3 0 (nI 0)) R (Z 1) (Z 2)) Y ++ []) (n := 3) (c_X9_is_t l D g b 0 32767 (by omega) (by omega) (by omega)) rfl srcN hrdN w_1260 w_1258 w_1259 w_6 (by decide +kernel) rfl ⟨Nat.le_of_ble_eq_true rfl, Nat.le_of_ble_eq_true rfl⟩ rfl rfl rfl (Nat.le_of_ble_eq_true rfl) ⟨Nat.le_of_ble_eq_true rfl, Nat.le_of_ble_eq_true rfl⟩ dX9_wouldMend_23 (fun hu3 _ => ?_)
    refine g_af (ws' := WM ad g I L S (z4 (u2 Z 3 0 (nI 0)) R (Z 1) (Z 2)) Y ++ []) (st' := [.int (nI 1)]) (cells' := 0) (slots' := 0) (pc' := 26) rfl rfl rfl rfl rfl ?_
    refine g_if_ne X 35 dX9_wouldMend_26 (by decide) (fun hc4 => ?_) (fun hc4 => ?_)
    · refine g_run X KX9_wouldMend_35_3 KX9_wouldMend_35_3_d 38 [(0, .ref (ad 0)), (1, .int (nI q)), (2, .int (nI b))] [.int (nI q), .ref (ad 0), .ref (ad 0)] rfl ?_
      refine g_callV X hSB hAf (srcW) (hrc1 := (rfl : CL[8]? = some _)) (wm_mem (k := 0) (by decide)) rfl (As := [.int (nI q)]) (wr := []) (n := 1) (c_X9_read l D g ad I L S (z4 (u2 Z 3 0 (nI 0)) R (Z 1) (Z 2)) Y q (hS18) (hK) (by omega)) rfl srcN hrdN w_1272 w_1269 w_1271 w_s13 w_6 (by decide +kernel) rfl ⟨Nat.le_of_ble_eq_true rfl, Nat.le_of_ble_eq_true rfl⟩ rfl rfl rfl (Nat.le_of_ble_eq_true rfl) ⟨Nat.le_of_ble_eq_true rfl, Nat.le_of_ble_eq_true rfl⟩ dX9_wouldMend_38 (fun hu5 _ => ?_)
      refine g_af (ws' := WM ad g I L S (z4 (u2 Z 3 0 (nI 0)) R (Z 1) (Z 2)) Y ++ [(hu5, Sum.inl (g 0, 15, .inl (wA (rwd I L S q 15))))]) (st' := [.ref hu5, .ref (ad 0)]) (cells' := 1) (slots' := 15) (pc' := 41) ((List.append_assoc _ ([(hu5, Sum.inl (g 0, 15, .inl (wA (rwd I L S q 15))))] : va_W) []).symm) rfl rfl rfl rfl ?_
      refine g_run X KX9_wouldMend_41_4 KX9_wouldMend_41_4_d 42 [(0, .ref (ad 0)), (1, .int (nI q)), (2, .int (nI b))] [.ref (ad 0), .ref hu5, .ref (ad 0)] rfl ?_
      refine g_callV X hSB hAf (srcW) (hrc1 := (rfl : CL[8]? = some _)) (wm_mem (k := 0) (by decide)) rfl (As := []) (wr := [(hu5, Sum.inl (g 0, 15, .inl (wA (rwd I L S q 15))))]) (n := 0) (c_X9_erased l D g ad I L S (z4 (u2 Z 3 0 (nI 0)) R (Z 1) (Z 2)) Y (hS18)) rfl srcN hrdN w_1339 w_1336 w_1338 w_s23 w_6 (by decide +kernel) rfl ⟨Nat.le_of_ble_eq_true rfl, Nat.le_of_ble_eq_true rfl⟩ rfl rfl rfl (Nat.le_of_ble_eq_true rfl) ⟨Nat.le_of_ble_eq_true rfl, Nat.le_of_ble_eq_true rfl⟩ dX9_wouldMend_42 (fun hu6 _ => ?_)
      refine g_af (ws' := WM ad g I L S (z4 (u2 Z 3 0 (nI 0)) R (Z 1) (Z 2)) Y ++ [(hu5, Sum.inl (g 0, 15, .inl (wA (rwd I L S q 15))))]) (st' := [.int (nI (ers I S 15)), .ref hu5, .ref (ad 0)]) (cells' := 1) (slots' := 15) (pc' := 45) rfl rfl rfl rfl rfl ?_
      refine g_run X KX9_wouldMend_45_5 KX9_wouldMend_45_5_d 47 [(0, .ref (ad 0)), (1, .int (nI q)), (2, .int (nI b))] [.int ((nI (ers I S 15)) ||| (nI b)), .ref hu5, .ref (ad 0)] rfl ?_
      refine g_nm (lv' := [(0, .ref (ad 0)), (1, .int (nI q)), (2, .int (nI b))]) (st' := [.int (nI ((ers I S 15) ||| b)), .ref hu5, .ref (ad 0)]) (by simp only [nx_or]) (by simp only [nx_or]) ?_
      refine g_callV X hSB hAf (srcW) (hrc1 := (rfl : CL[8]? = some _)) (wm_mem (k := 0) (by decide)) rfl (As := [.ref hu5, .int (nI ((ers I S 15) ||| b))]) (wr := [(hu5, Sum.inl (g 0, 15, .inl (wA (rwd I L S q 15))))]) (n := 2) (c_X9_mendedNow l D g ad I L S (z4 (u2 Z 3 0 (nI 0)) R (Z 1) (Z 2)) Y hu5 (rwd I L S q 15) ((ers I S 15) ||| b) R (by assumption) (rfl) (or_lt (n := 15) (ers_lt _ _ _) hb)) rfl (src_sub (wt_mem (by simp))) (hrdT rfl (by simp)) w_1456 w_1453 w_1455 w_s33 w_6 (by decide +kernel) rfl ⟨Nat.le_of_ble_eq_true rfl, Nat.le_of_ble_eq_true rfl⟩ rfl rfl rfl (Nat.le_of_ble_eq_true rfl) ⟨Nat.le_of_ble_eq_true rfl, Nat.le_of_ble_eq_true rfl⟩ dX9_wouldMend_47 (fun hu7 hp_hu7 => ?_)
      refine g_af (ws' := WM ad g I L S (z4 (u2 Z 3 0 (nI 0)) hu7.1 hu7.2 (mdA (Z 2) (mw ((ers I S 15) ||| b) (rwd I L S q 15)))) Y ++ [(hu5, Sum.inl (g 0, 15, .inl (wA (rwd I L S q 15))))]) (st' := [.int (mdO (rwd I L S q 15) (mw ((ers I S 15) ||| b) (rwd I L S q 15)))]) (cells' := 1) (slots' := 15) (pc' := 50) (congrArg (fun z => (WM ad g I L S z Y) ++ [(hu5, Sum.inl (g 0, 15, .inl (wA (rwd I L S q 15))))]) z4_z4.symm) rfl rfl rfl rfl ?_
      rcases mw_or (ers I S 15 ||| b) (rwd I L S q 15) with hn | ⟨y, hy⟩
      · refine g_st (st' := [.int (-nI 1)]) (by rw [hn]; rfl) ?_
        refine g_run X KX9_wouldMend_50_6 KX9_wouldMend_50_6_d 53 [(3, .int (-nI 1)), (0, .ref (ad 0)), (1, .int (nI q)), (2, .int (nI b))] [.int (-nI 1), .int (-nI 1)] rfl ?_
        refine g_icmp_ne X 60 dX9_wouldMend_53 (by decide) (fun hc8 => ?_) (fun hc8 => ?_)
        · exact (hc8 rfl).elim
        · refine g_run X KX9_wouldMend_56_7 KX9_wouldMend_56_7_d 64 [(3, .int (-nI 1)), (0, .ref (ad 0)), (1, .int (nI q)), (2, .int (nI b))] [.int (-nI 1)] rfl ?_
          exact g_iret X hr (hu7.1, hu7.2) (by show some (Value.int _) = some (Value.int _); rw [hn, wrO, if_pos (by rfl)]) (by assumption) (rfl) (Nat.le_of_ble_eq_true rfl) (Nat.le_of_ble_eq_true rfl) dX9_wouldMend_64
      · refine g_st (st' := [.int (nI (pl (rwd I L S q 15 ^^^ y) 15))]) (by rw [hy]; rfl) ?_
        have hpl := pl_lt (rwd I L S q 15 ^^^ y) 15
        refine g_run X KX9_wouldMend_50_6 KX9_wouldMend_50_6_d 53 [(3, .int (nI (pl (rwd I L S q 15 ^^^ y) 15))), (0, .ref (ad 0)), (1, .int (nI q)), (2, .int (nI b))] [.int (-nI 1), .int (nI (pl (rwd I L S q 15 ^^^ y) 15))] rfl ?_
        refine g_icmp_ne X 60 dX9_wouldMend_53 (by decide) (fun hc9 => ?_) (fun hc9 => ?_)
        · refine g_run X KX9_wouldMend_60_8 KX9_wouldMend_60_8_d 61 [(3, .int (nI (pl (rwd I L S q 15 ^^^ y) 15))), (0, .ref (ad 0)), (1, .int (nI q)), (2, .int (nI b))] [.int (nI (pl (rwd I L S q 15 ^^^ y) 15))] rfl ?_
          refine g_callS X hSB hAf (As := [.int (nI (pl (rwd I L S q 15 ^^^ y) 15))]) (wr := WM ad g I L S (z4 (u2 Z 3 0 (nI 0)) hu7.1 hu7.2 (mdA (Z 2) (mw ((ers I S 15) ||| b) (rwd I L S q 15)))) Y ++ [(hu5, Sum.inl (g 0, 15, .inl (wA (rwd I L S q 15))))]) (n := 1) (c_J6_bitCount_0f7a4 l D g (pl (rwd I L S q 15 ^^^ y) 15) (hpl)) rfl srcN hrdN w_259 w_1340 w_258 w_24 (by decide +kernel) rfl ⟨Nat.le_of_ble_eq_true rfl, Nat.le_of_ble_eq_true rfl⟩ rfl rfl rfl (Nat.le_of_ble_eq_true rfl) ⟨Nat.le_of_ble_eq_true rfl, Nat.le_of_ble_eq_true rfl⟩ dX9_wouldMend_61 (fun hu10 _ => ?_)
          refine g_af (ws' := WM ad g I L S (z4 (u2 Z 3 0 (nI 0)) hu7.1 hu7.2 (mdA (Z 2) (mw ((ers I S 15) ||| b) (rwd I L S q 15)))) Y ++ [(hu5, Sum.inl (g 0, 15, .inl (wA (rwd I L S q 15))))]) (st' := [.int (nI (pcn (pl (rwd I L S q 15 ^^^ y) 15) 15))]) (cells' := 1) (slots' := 15) (pc' := 64) rfl rfl rfl rfl rfl ?_
          exact g_iret X hr (hu7.1, hu7.2) (by show some (Value.int _) = some (Value.int _); rw [hy, show oL (some y) = y from rfl, wrO, if_neg (ne_m1 (mw_15 (rwd_15 _ _ _ _ _ (Nat.le_refl _)) hy))]) (by assumption) (rfl) (Nat.le_of_ble_eq_true rfl) (Nat.le_of_ble_eq_true rfl) dX9_wouldMend_64
        · exact (m1_ne (by omega) hc9).elim
    · rw [nz_eq (by omega)] at hc4; first | omega | (simp at hc4)
  · rw [nz_eq (by omega)] at hc2; first | omega | (simp at hc2)

def KX9_wouldMend_12_9 : List (Nat × Instr × Nat) := [(12, .aload_n 0, 1), (13, .iconst 1, 1)]
theorem KX9_wouldMend_12_9_d : ∀ z ∈ KX9_wouldMend_12_9, decode cX9_wouldMend z.1 = .ok z.2 := by decide +kernel
set_option maxHeartbeats 4000000 in
set_option maxRecDepth 100000 in
theorem c_X9_wouldMend_1 (l : Launch) (D : va_G) (g : Nat → ClassId) (ad : Nat → Nat) (I : Nat → Nat → Int32) (L : Nat → Nat → Int64) (S : Nat → Nat) (Z : Nat → Nat → Int32) (Y : Int64) (x : Int32) (y1 : Int32) (hx : x < 0 ∨ ¬ x ≤ nI 15) : CT l yX9_wouldMend cX9_wouldMend 4 ((Option.some FieldType.int)) ({ frames := 2, cells := 0, slots := 0, locals := 42 } : Room) [.ref (ad 0), .int x, .int y1] D CL (TYS g) ([]) (WM ad g I L S Z Y) (S := Unit) (fun _ => some (.int (nI 0))) (fun _ => WM ad g I L S (u2 (u2 Z 3 0 (nI 0)) 3 0 (nI 1)) Y) (fun _ => True) 0 0 := by
  refine ct_of (by decide +kernel) (Nat.le_of_ble_eq_true rfl) ?_
  intro p e s m below meth c A X hr hnm hSB hRO hAf
  refine g_cs (ws' := WM ad g I L S Z Y ++ []) (lv' := [(0, .ref (ad 0)), (1, .int x), (2, .int y1)]) (List.append_nil _) rfl ?_
  refine g_run X KX9_wouldMend_0_0 KX9_wouldMend_0_0_d 2 [(0, .ref (ad 0)), (1, .int x), (2, .int y1)] [.int (nI 0), .ref (ad 0)] rfl ?_
  refine g_put X (ws' := WM ad g I L S (u2 Z 3 0 (nI 0)) Y ++ []) hinX9 tyX9 tyX9_ok nmX9 rfl 0 (by decide) w_1180 rfl rfl (ty := .int) rfl rfl rfl (0) (wm_get (k := 0) (by decide)) (Nat.le_of_ble_eq_true rfl) (wm_mo0) dX9_wouldMend_2 ?_
  refine g_run X KX9_wouldMend_5_1 KX9_wouldMend_5_1_d 6 [(0, .ref (ad 0)), (1, .int x), (2, .int y1)] [.int x] rfl ?_
  refine g_callS X hSB hAf (As := [.int x]) (wr := WM ad g I L S (u2 Z 3 0 (nI 0)) Y ++ []) (n := 1) (c_X9_isLine_f l D g x (hx)) rfl srcN hrdN w_1257 w_1255 w_1256 w_6 (by decide +kernel) rfl ⟨Nat.le_of_ble_eq_true rfl, Nat.le_of_ble_eq_true rfl⟩ rfl rfl rfl (Nat.le_of_ble_eq_true rfl) ⟨Nat.le_of_ble_eq_true rfl, Nat.le_of_ble_eq_true rfl⟩ dX9_wouldMend_6 (fun hu1 _ => ?_)
  refine g_af (ws' := WM ad g I L S (u2 Z 3 0 (nI 0)) Y ++ []) (st' := [.int (nI 0)]) (cells' := 0) (slots' := 0) (pc' := 9) rfl rfl rfl rfl rfl ?_
  refine g_if_ne X 18 dX9_wouldMend_9 (by decide) (fun hc2 => ?_) (fun hc2 => ?_)
  · rw [nz_eq (by omega)] at hc2; first | omega | (simp at hc2)
  · refine g_run X KX9_wouldMend_12_9 KX9_wouldMend_12_9_d 14 [(0, .ref (ad 0)), (1, .int x), (2, .int y1)] [.int (nI 1), .ref (ad 0)] rfl ?_
    refine g_callV X hSB hAf (srcW) (hrc1 := (rfl : CL[8]? = some _)) (wm_mem (k := 0) (by decide)) rfl (As := [.int (nI 1)]) (wr := []) (n := 1) (c_X9_refuse l D g ad I L S (u2 Z 3 0 (nI 0)) Y 1 ) rfl srcN hrdN w_1264 w_1261 w_1263 w_s12 w_6 (by decide +kernel) rfl ⟨Nat.le_of_ble_eq_true rfl, Nat.le_of_ble_eq_true rfl⟩ rfl rfl rfl (Nat.le_of_ble_eq_true rfl) ⟨Nat.le_of_ble_eq_true rfl, Nat.le_of_ble_eq_true rfl⟩ dX9_wouldMend_14 (fun hu3 _ => ?_)
    refine g_af (ws' := WM ad g I L S (u2 (u2 Z 3 0 (nI 0)) 3 0 (nI 1)) Y ++ []) (st' := [.int (nI 0)]) (cells' := 0) (slots' := 0) (pc' := 17) rfl rfl rfl rfl rfl ?_
    exact g_iret X hr () (rfl) (trivial) (rfl) (Nat.le_of_ble_eq_true rfl) (Nat.le_of_ble_eq_true rfl) dX9_wouldMend_17

def KX9_wouldMend_29_10 : List (Nat × Instr × Nat) := [(29, .aload_n 0, 1), (30, .iconst 2, 1)]
theorem KX9_wouldMend_29_10_d : ∀ z ∈ KX9_wouldMend_29_10, decode cX9_wouldMend z.1 = .ok z.2 := by decide +kernel
set_option maxHeartbeats 4000000 in
set_option maxRecDepth 100000 in
theorem c_X9_wouldMend_2 (l : Launch) (D : va_G) (g : Nat → ClassId) (ad : Nat → Nat) (I : Nat → Nat → Int32) (L : Nat → Nat → Int64) (S : Nat → Nat) (Z : Nat → Nat → Int32) (Y : Int64) (q : Nat) (x : Int32) (hq : q < 16) (hx : x < nI 0 ∨ ¬ x ≤ nI 32767) : CT l yX9_wouldMend cX9_wouldMend 4 ((Option.some FieldType.int)) ({ frames := 2, cells := 0, slots := 0, locals := 42 } : Room) [.ref (ad 0), .int (nI q), .int x] D CL (TYS g) ([]) (WM ad g I L S Z Y) (S := Unit) (fun _ => some (.int (nI 0))) (fun _ => WM ad g I L S (u2 (u2 Z 3 0 (nI 0)) 3 0 (nI 2)) Y) (fun _ => True) 0 0 := by
  refine ct_of (by decide +kernel) (Nat.le_of_ble_eq_true rfl) ?_
  intro p e s m below meth c A X hr hnm hSB hRO hAf
  refine g_cs (ws' := WM ad g I L S Z Y ++ []) (lv' := [(0, .ref (ad 0)), (1, .int (nI q)), (2, .int x)]) (List.append_nil _) rfl ?_
  refine g_run X KX9_wouldMend_0_0 KX9_wouldMend_0_0_d 2 [(0, .ref (ad 0)), (1, .int (nI q)), (2, .int x)] [.int (nI 0), .ref (ad 0)] rfl ?_
  refine g_put X (ws' := WM ad g I L S (u2 Z 3 0 (nI 0)) Y ++ []) hinX9 tyX9 tyX9_ok nmX9 rfl 0 (by decide) w_1180 rfl rfl (ty := .int) rfl rfl rfl (0) (wm_get (k := 0) (by decide)) (Nat.le_of_ble_eq_true rfl) (wm_mo0) dX9_wouldMend_2 ?_
  refine g_run X KX9_wouldMend_5_1 KX9_wouldMend_5_1_d 6 [(0, .ref (ad 0)), (1, .int (nI q)), (2, .int x)] [.int (nI q)] rfl ?_
  refine g_callS X hSB hAf (As := [.int (nI q)]) (wr := WM ad g I L S (u2 Z 3 0 (nI 0)) Y ++ []) (n := 1) (c_X9_isLine_t l D g q (by omega)) rfl srcN hrdN w_1257 w_1255 w_1256 w_6 (by decide +kernel) rfl ⟨Nat.le_of_ble_eq_true rfl, Nat.le_of_ble_eq_true rfl⟩ rfl rfl rfl (Nat.le_of_ble_eq_true rfl) ⟨Nat.le_of_ble_eq_true rfl, Nat.le_of_ble_eq_true rfl⟩ dX9_wouldMend_6 (fun hu1 _ => ?_)
  refine g_af (ws' := WM ad g I L S (u2 Z 3 0 (nI 0)) Y ++ []) (st' := [.int (nI 1)]) (cells' := 0) (slots' := 0) (pc' := 9) rfl rfl rfl rfl rfl ?_
  refine g_if_ne X 18 dX9_wouldMend_9 (by decide) (fun hc2 => ?_) (fun hc2 => ?_)
  · refine g_run X KX9_wouldMend_18_2 KX9_wouldMend_18_2_d 23 [(0, .ref (ad 0)), (1, .int (nI q)), (2, .int x)] [.int (nI 32767), .int (nI 0), .int x] rfl ?_
    refine g_callS X hSB hAf (As := [.int x, .int (nI 0), .int (nI 32767)]) (wr := WM ad g I L S (u2 Z 3 0 (nI 0)) Y ++ []) (n := 3) (c_X9_is_f l D g x (nI 0) (nI 32767) (hx)) rfl srcN hrdN w_1260 w_1258 w_1259 w_6 (by decide +kernel) rfl ⟨Nat.le_of_ble_eq_true rfl, Nat.le_of_ble_eq_true rfl⟩ rfl rfl rfl (Nat.le_of_ble_eq_true rfl) ⟨Nat.le_of_ble_eq_true rfl, Nat.le_of_ble_eq_true rfl⟩ dX9_wouldMend_23 (fun hu3 _ => ?_)
    refine g_af (ws' := WM ad g I L S (u2 Z 3 0 (nI 0)) Y ++ []) (st' := [.int (nI 0)]) (cells' := 0) (slots' := 0) (pc' := 26) rfl rfl rfl rfl rfl ?_
    refine g_if_ne X 35 dX9_wouldMend_26 (by decide) (fun hc4 => ?_) (fun hc4 => ?_)
    · rw [nz_eq (by omega)] at hc4; first | omega | (simp at hc4)
    · refine g_run X KX9_wouldMend_29_10 KX9_wouldMend_29_10_d 31 [(0, .ref (ad 0)), (1, .int (nI q)), (2, .int x)] [.int (nI 2), .ref (ad 0)] rfl ?_
      refine g_callV X hSB hAf (srcW) (hrc1 := (rfl : CL[8]? = some _)) (wm_mem (k := 0) (by decide)) rfl (As := [.int (nI 2)]) (wr := []) (n := 1) (c_X9_refuse l D g ad I L S (u2 Z 3 0 (nI 0)) Y 2 ) rfl srcN hrdN w_1264 w_1261 w_1263 w_s12 w_6 (by decide +kernel) rfl ⟨Nat.le_of_ble_eq_true rfl, Nat.le_of_ble_eq_true rfl⟩ rfl rfl rfl (Nat.le_of_ble_eq_true rfl) ⟨Nat.le_of_ble_eq_true rfl, Nat.le_of_ble_eq_true rfl⟩ dX9_wouldMend_31 (fun hu5 _ => ?_)
      refine g_af (ws' := WM ad g I L S (u2 (u2 Z 3 0 (nI 0)) 3 0 (nI 2)) Y ++ []) (st' := [.int (nI 0)]) (cells' := 0) (slots' := 0) (pc' := 34) rfl rfl rfl rfl rfl ?_
      exact g_iret X hr () (rfl) (trivial) (rfl) (Nat.le_of_ble_eq_true rfl) (Nat.le_of_ble_eq_true rfl) dX9_wouldMend_34
  · rw [nz_eq (by omega)] at hc2; first | omega | (simp at hc2)

