def KL_law_1559_221 : List (Nat × Instr × Nat) := [(1559, .aload_n 1, 1), (1560, .aload_n 0, 1), (1561, .iload 4, 2), (1563, .iconst 1, 1), (1564, .iadd, 1)]
theorem KL_law_1559_221_d : ∀ z ∈ KL_law_1559_221, decode cL_law z.1 = .ok z.2 := by decide +kernel
def KL_law_1566_222 : List (Nat × Instr × Nat) := [(1566, .aload_n 3, 1)]
theorem KL_law_1566_222_d : ∀ z ∈ KL_law_1566_222, decode cL_law z.1 = .ok z.2 := by decide +kernel
def KL_law_1570_223 : List (Nat × Instr × Nat) := [(1570, .istore 5, 2), (1572, .aload_n 2, 1), (1573, .aload_n 0, 1), (1574, .iload 4, 2), (1576, .iconst 1, 1), (1577, .iadd, 1)]
theorem KL_law_1570_223_d : ∀ z ∈ KL_law_1570_223, decode cL_law z.1 = .ok z.2 := by decide +kernel
def KL_law_1582_224 : List (Nat × Instr × Nat) := [(1582, .lstore 6, 2), (1584, .aload_n 2, 1)]
theorem KL_law_1582_224_d : ∀ z ∈ KL_law_1582_224, decode cL_law z.1 = .ok z.2 := by decide +kernel
def KL_law_1588_225 : List (Nat × Instr × Nat) := [(1588, .iload 5, 2)]
theorem KL_law_1588_225_d : ∀ z ∈ KL_law_1588_225, decode cL_law z.1 = .ok z.2 := by decide +kernel
def KL_law_1595_226 : List (Nat × Instr × Nat) := [(1595, .iload 5, 2)]
theorem KL_law_1595_226_d : ∀ z ∈ KL_law_1595_226, decode cL_law z.1 = .ok z.2 := by decide +kernel
def KL_law_1600_227 : List (Nat × Instr × Nat) := [(1600, .aload_n 3, 1)]
theorem KL_law_1600_227_d : ∀ z ∈ KL_law_1600_227, decode cL_law z.1 = .ok z.2 := by decide +kernel
def KL_law_1604_228 : List (Nat × Instr × Nat) := [(1604, .lload 6, 2), (1606, .lcmp, 1)]
theorem KL_law_1604_228_d : ∀ z ∈ KL_law_1604_228, decode cL_law z.1 = .ok z.2 := by decide +kernel
def KL_law_1612_229 : List (Nat × Instr × Nat) := [(1612, .goto 644, 3)]
theorem KL_law_1612_229_d : ∀ z ∈ KL_law_1612_229, decode cL_law z.1 = .ok z.2 := by decide +kernel
set_option maxHeartbeats 4000000 in
set_option maxRecDepth 100000 in
theorem lq20_0 {p : Program} {l : Launch} {e : Env} {s : State} {m : MethodId} {below : List Frame} {meth : Method} {c : Code} {Q : State → Prop} {D : va_G} {A : Nat → Prop} {b N : Nat} {xs : Nat → Int32} {adC adM : Nat → Nat} {g : Nat → ClassId} {ao k cells slots : Nat} {I : Nat → Nat → Int32} {L : Nat → Nat → Int64} {S : Nat → Nat} {n : Nat} {Z : Nat → Nat → Int32} {Y : Int64} {R : Nat → Nat} {on : Int64} {ov : Value} (HX : LX p l s m meth c A b N xs) (hk : 6 * k + 6 ≤ N) (hroom : cells + 60 ≤ 600002 ∧ slots + 1200 ≤ 7302232) (hI : Inv I L S n) (hR : R16 R) (hZ : Z 0 = fun j => nI (R j)) (a1 : Nat) (hl1 : 0 ≤ a1) (hu1 : a1 < 16) (e1 : xs (6 * k + 1) = nI a1) (kk : LK p l e s m below meth c Q D A b adC adM g ao k cells slots 2256) : GL p l e room_1 s m #[.ref b] below meth c Q D CL (TYS g) A 9 (WL adC adM g ao I L S Z Y on ov) cells slots 1559 [(0, .ref b), (1, .ref (adC 0)), (2, .ref (adM 0)), (3, .ref ao), (4, .int (nI (6 * k)))] [] := by
  obtain ⟨X, hSB, hAf, hNC, hfl, hX, hbl, hbA, hN⟩ := HX
  refine g_run X KL_law_1559_221 KL_law_1559_221_d 1565 [(0, .ref b), (1, .ref (adC 0)), (2, .ref (adM 0)), (3, .ref ao), (4, .int (nI (6 * k)))] [.int ((nI (6 * k)) + (nI 1)), .ref b, .ref (adC 0)] rfl ?_
  refine g_nm (lv' := [(0, .ref b), (1, .ref (adC 0)), (2, .ref (adM 0)), (3, .ref ao), (4, .int (nI (6 * k)))]) (st' := [.int (nI ((6 * k) + 1)), .ref b, .ref (adC 0)]) (by simp only [nI_add]) (by simp only [nI_add]) ?_
  refine g_sld X hX hbl hbA hN (v := nI a1) (by omega) e1 dL_law_1565 ?_
  refine g_run X KL_law_1566_222 KL_law_1566_222_d 1567 [(0, .ref b), (1, .ref (adC 0)), (2, .ref (adM 0)), (3, .ref ao), (4, .int (nI (6 * k)))] [.ref ao, .int (nI a1), .ref (adC 0)] rfl ?_
  refine g_callSW X hSB hAf hNC (As := [.ref (adC 0), .int (nI a1), .ref ao]) (wr := WM adM g I L S Z Y) (n := 3) (hc_data l D g adC I L S a1 ao on ov (hI.s18) (by first | assumption | omega)) rfl w_737 w_735 w_736 w_0 (by decide +kernel) rfl ⟨Nat.le_of_ble_eq_true rfl, Nat.le_of_ble_eq_true rfl⟩ rfl rfl rfl (Nat.le_of_ble_eq_true rfl) ⟨by show cells + 0 ≤ 600002; omega, by show slots + 0 ≤ 7302232; omega⟩ dL_law_1567 (fun hu1 _ => ?_)
  refine g_af (ws' := (WC adC g I L S ++ ([OUT ao (dtO (oL (mwd I L S a1))) ov] : va_W)) ++ WM adM g I L S Z Y) (st' := [.int (nI 0)]) (cells' := cells + 0) (slots' := slots + 0) (pc' := 1570) rfl rfl rfl rfl rfl ?_
  refine g_run X KL_law_1570_223 KL_law_1570_223_d 1578 [(5, .int (nI 0)), (0, .ref b), (1, .ref (adC 0)), (2, .ref (adM 0)), (3, .ref ao), (4, .int (nI (6 * k)))] [.int ((nI (6 * k)) + (nI 1)), .ref b, .ref (adM 0)] rfl ?_
  refine g_nm (lv' := [(5, .int (nI 0)), (0, .ref b), (1, .ref (adC 0)), (2, .ref (adM 0)), (3, .ref ao), (4, .int (nI (6 * k)))]) (st' := [.int (nI ((6 * k) + 1)), .ref b, .ref (adM 0)]) (by simp only [nI_add]) (by simp only [nI_add]) ?_
  refine g_sld X hX hbl hbA hN (v := nI a1) (by omega) e1 dL_law_1578 ?_
  refine g_perm (ws' := WM adM g I L S Z Y ++ (WC adC g I L S ++ ([OUT ao (dtO (oL (mwd I L S a1))) ov] : va_W))) (List.perm_append_comm (l₁ := WM adM g I L S Z Y) (l₂ := (WC adC g I L S ++ ([OUT ao (dtO (oL (mwd I L S a1))) ov] : va_W)))) ?_
  refine g_callV X hSB hAf srcW (hrc1 := (rfl : CL[8]? = some _)) (wm_mem (k := 0) (by decide)) rfl (As := [.int (nI a1)]) (wr := WC adC g I L S ++ ([OUT ao (dtO (oL (mwd I L S a1))) ov] : va_W)) (n := 1) (c_X9_data l D g adM I L S Z Y a1 R (hR) (hZ) (hI.s18) (hI.ky) (by first | assumption | omega)) rfl srcN hrdN w_1460 w_1457 w_1458 w_1459 w_6 (by decide +kernel) rfl ⟨Nat.le_of_ble_eq_true rfl, Nat.le_of_ble_eq_true rfl⟩ rfl rfl rfl (Nat.le_of_ble_eq_true rfl) ⟨by show cells + 0 + 1 ≤ 600002; omega, by show slots + 0 + 15 ≤ 7302232; omega⟩ dL_law_1579 (fun hu2 hp_hu2 => ?_)
  refine g_af (ws' := WM adM g I L S (z4 (u2 Z 3 0 (nI 0)) hu2.1 hu2.2 (mdA (Z 2) (mw (ers I S 15) (rwd I L S a1 15)))) Y ++ (WC adC g I L S ++ ([OUT ao (dtO (oL (mwd I L S a1))) ov] : va_W))) (st' := [.long (dtO (oL (mwd I L S a1)))]) (cells' := cells + 0 + 1) (slots' := slots + 0 + 15) (pc' := 1582) rfl rfl rfl rfl rfl ?_
  refine g_run X KL_law_1582_224 KL_law_1582_224_d 1585 [(6, .long (dtO (oL (mwd I L S a1)))), (5, .int (nI 0)), (0, .ref b), (1, .ref (adC 0)), (2, .ref (adM 0)), (3, .ref ao), (4, .int (nI (6 * k)))] [.ref (adM 0)] rfl ?_
  refine g_callV X hSB hAf srcW (hrc1 := (rfl : CL[8]? = some _)) (wm_mem (k := 0) (by decide)) rfl (As := []) (wr := WC adC g I L S ++ ([OUT ao (dtO (oL (mwd I L S a1))) ov] : va_W)) (n := 0) (c_X9_thrown l D g adM I L S (z4 (u2 Z 3 0 (nI 0)) hu2.1 hu2.2 (mdA (Z 2) (mw (ers I S 15) (rwd I L S a1 15)))) Y ) rfl srcN hrdN w_1250 w_1247 w_1248 w_1249 w_6 (by decide +kernel) rfl ⟨Nat.le_of_ble_eq_true rfl, Nat.le_of_ble_eq_true rfl⟩ rfl rfl rfl (Nat.le_of_ble_eq_true rfl) ⟨by show cells + 0 + 1 + 0 ≤ 600002; omega, by show slots + 0 + 15 + 0 ≤ 7302232; omega⟩ dL_law_1585 (fun hu3 hp_hu3 => ?_)
  refine g_af (ws' := WM adM g I L S (z4 (u2 Z 3 0 (nI 0)) hu2.1 hu2.2 (mdA (Z 2) (mw (ers I S 15) (rwd I L S a1 15)))) Y ++ (WC adC g I L S ++ ([OUT ao (dtO (oL (mwd I L S a1))) ov] : va_W))) (st' := [.int ((z4 (u2 Z 3 0 (nI 0)) hu2.1 hu2.2 (mdA (Z 2) (mw (ers I S 15) (rwd I L S a1 15)))) 3 0)]) (cells' := cells + 0 + 1 + 0) (slots' := slots + 0 + 15 + 0) (pc' := 1588) rfl rfl rfl rfl rfl ?_
  refine g_st (st' := [.int (nI 0)]) (by first | rfl | (simp [z4, u2]; done)) ?_
  refine g_run X KL_law_1588_225 KL_law_1588_225_d 1590 [(6, .long (dtO (oL (mwd I L S a1)))), (5, .int (nI 0)), (0, .ref b), (1, .ref (adC 0)), (2, .ref (adM 0)), (3, .ref ao), (4, .int (nI (6 * k)))] [.int (nI 0), .int (nI 0)] rfl ?_
  refine g_icmp_eq X 1595 dL_law_1590 (by decide) (fun hc4 => ?_) (fun hc4 => ?_)
  · refine g_run X KL_law_1595_226 KL_law_1595_226_d 1597 [(6, .long (dtO (oL (mwd I L S a1)))), (5, .int (nI 0)), (0, .ref b), (1, .ref (adC 0)), (2, .ref (adM 0)), (3, .ref ao), (4, .int (nI (6 * k)))] [.int (nI 0)] rfl ?_
    refine g_if_ne X 1612 dL_law_1597 (by decide) (fun hc5 => ?_) (fun hc5 => ?_)
    · rw [nz_eq (by omega)] at hc5; first | omega | (simp at hc5)
    · refine g_run X KL_law_1600_227 KL_law_1600_227_d 1601 [(6, .long (dtO (oL (mwd I L S a1)))), (5, .int (nI 0)), (0, .ref b), (1, .ref (adC 0)), (2, .ref (adM 0)), (3, .ref ao), (4, .int (nI (6 * k)))] [.ref ao] rfl ?_
      refine g_getN X srcW (host := "ChipfieldLaw") (v := .long (dtO (oL (mwd I L S a1)))) hinX6 rfl 0 (by decide) (nw_in n_489 rfl) rfl (List.mem_append_right _ (List.mem_append_right _ List.mem_cons_self)) rfl dL_law_1601 ?_
      refine g_run X KL_law_1604_228 KL_law_1604_228_d 1607 [(6, .long (dtO (oL (mwd I L S a1)))), (5, .int (nI 0)), (0, .ref b), (1, .ref (adC 0)), (2, .ref (adM 0)), (3, .ref ao), (4, .int (nI (6 * k)))] [.int (lg_cmp (dtO (oL (mwd I L S a1))) (dtO (oL (mwd I L S a1))))] rfl ?_
      refine g_if_eq X 1612 dL_law_1607 (by decide) (fun hc6 => ?_) (fun hc6 => ?_)
      · refine g_run X KL_law_1612_229 KL_law_1612_229_d 2256 [(6, .long (dtO (oL (mwd I L S a1)))), (5, .int (nI 0)), (0, .ref b), (1, .ref (adC 0)), (2, .ref (adM 0)), (3, .ref ao), (4, .int (nI (6 * k)))] [] rfl ?_
        refine g_lv (lv' := [(0, .ref b), (1, .ref (adC 0)), (2, .ref (adM 0)), (3, .ref ao), (4, .int (nI (6 * k)))]) (lsub_c 2 rfl (lsub_c 3 rfl (lsub_c 4 rfl (lsub_c 5 rfl (lsub_c 6 rfl (lsub_n)))))) ?_
        refine g_perm (ws' := (WC adC g I L S ++ ([OUT ao (dtO (oL (mwd I L S a1))) ov] : va_W)) ++ WM adM g I L S (z4 (u2 Z 3 0 (nI 0)) hu2.1 hu2.2 (mdA (Z 2) (mw (ers I S 15) (rwd I L S a1 15)))) Y) (List.perm_append_comm (l₁ := (WC adC g I L S ++ ([OUT ao (dtO (oL (mwd I L S a1))) ov] : va_W))) (l₂ := WM adM g I L S (z4 (u2 Z 3 0 (nI 0)) hu2.1 hu2.2 (mdA (Z 2) (mw (ers I S 15) (rwd I L S a1 15)))) Y)) ?_
        refine g_widen (k := cells + 60) (n := slots + 1200) (by omega) (by omega) ?_
        exact kk I L S n (z4 (u2 Z 3 0 (nI 0)) hu2.1 hu2.2 (mdA (Z 2) (mw (ers I S 15) (rwd I L S a1 15)))) Y hu2.1 (dtO (oL (mwd I L S a1))) ov (hI) (hp_hu2) (rfl)
      · exact absurd lg_self hc6
  · rw [nI_eq (by omega) (by omega)] at hc4; first | omega | (simp at hc4)

set_option maxHeartbeats 4000000 in
set_option maxRecDepth 100000 in
theorem lq20_1 {p : Program} {l : Launch} {e : Env} {s : State} {m : MethodId} {below : List Frame} {meth : Method} {c : Code} {Q : State → Prop} {D : va_G} {A : Nat → Prop} {b N : Nat} {xs : Nat → Int32} {adC adM : Nat → Nat} {g : Nat → ClassId} {ao k cells slots : Nat} {I : Nat → Nat → Int32} {L : Nat → Nat → Int64} {S : Nat → Nat} {n : Nat} {Z : Nat → Nat → Int32} {Y : Int64} {R : Nat → Nat} {on : Int64} {ov : Value} (HX : LX p l s m meth c A b N xs) (hk : 6 * k + 6 ≤ N) (hroom : cells + 60 ≤ 600002 ∧ slots + 1200 ≤ 7302232) (hI : Inv I L S n) (hR : R16 R) (hZ : Z 0 = fun j => nI (R j)) (hw : (xs (6 * k + 1)).toInt < (0 : Nat) ∨ ((16 : Nat) : Int) ≤ (xs (6 * k + 1)).toInt) (kk : LK p l e s m below meth c Q D A b adC adM g ao k cells slots 2256) : GL p l e room_1 s m #[.ref b] below meth c Q D CL (TYS g) A 9 (WL adC adM g ao I L S Z Y on ov) cells slots 1559 [(0, .ref b), (1, .ref (adC 0)), (2, .ref (adM 0)), (3, .ref ao), (4, .int (nI (6 * k)))] [] := by
  obtain ⟨X, hSB, hAf, hNC, hfl, hX, hbl, hbA, hN⟩ := HX
  refine g_run X KL_law_1559_221 KL_law_1559_221_d 1565 [(0, .ref b), (1, .ref (adC 0)), (2, .ref (adM 0)), (3, .ref ao), (4, .int (nI (6 * k)))] [.int ((nI (6 * k)) + (nI 1)), .ref b, .ref (adC 0)] rfl ?_
  refine g_nm (lv' := [(0, .ref b), (1, .ref (adC 0)), (2, .ref (adM 0)), (3, .ref ao), (4, .int (nI (6 * k)))]) (st' := [.int (nI ((6 * k) + 1)), .ref b, .ref (adC 0)]) (by simp only [nI_add]) (by simp only [nI_add]) ?_
  refine g_sld X hX hbl hbA hN (v := xs (6 * k + 1)) (by omega) rfl dL_law_1565 ?_
  refine g_run X KL_law_1566_222 KL_law_1566_222_d 1567 [(0, .ref b), (1, .ref (adC 0)), (2, .ref (adM 0)), (3, .ref ao), (4, .int (nI (6 * k)))] [.ref ao, .int (xs (6 * k + 1)), .ref (adC 0)] rfl ?_
  refine g_callSW X hSB hAf hNC (As := [.ref (adC 0), .int (xs (6 * k + 1)), .ref ao]) (wr := WM adM g I L S Z Y) (n := 3) (hx_data_1 l hfl D g adC I L S (xs (6 * k + 1)) ao on ov (out_lt (by decide) hw)) rfl w_737 w_735 w_736 w_0 (by decide +kernel) rfl ⟨Nat.le_of_ble_eq_true rfl, Nat.le_of_ble_eq_true rfl⟩ rfl rfl rfl (Nat.le_of_ble_eq_true rfl) ⟨by show cells + 1 ≤ 600002; omega, by show slots + 6 ≤ 7302232; omega⟩ dL_law_1567 (fun hu1 _ => ?_)
  refine g_af (ws' := (WC adC g I L S ++ ([OUT ao on ov] : va_W)) ++ WM adM g I L S Z Y) (st' := [.int (nI 1)]) (cells' := cells + 1) (slots' := slots + 6) (pc' := 1570) rfl rfl rfl rfl rfl ?_
  refine g_run X KL_law_1570_223 KL_law_1570_223_d 1578 [(5, .int (nI 1)), (0, .ref b), (1, .ref (adC 0)), (2, .ref (adM 0)), (3, .ref ao), (4, .int (nI (6 * k)))] [.int ((nI (6 * k)) + (nI 1)), .ref b, .ref (adM 0)] rfl ?_
  refine g_nm (lv' := [(5, .int (nI 1)), (0, .ref b), (1, .ref (adC 0)), (2, .ref (adM 0)), (3, .ref ao), (4, .int (nI (6 * k)))]) (st' := [.int (nI ((6 * k) + 1)), .ref b, .ref (adM 0)]) (by simp only [nI_add]) (by simp only [nI_add]) ?_
  refine g_sld X hX hbl hbA hN (v := xs (6 * k + 1)) (by omega) rfl dL_law_1578 ?_
  refine g_perm (ws' := WM adM g I L S Z Y ++ (WC adC g I L S ++ ([OUT ao on ov] : va_W))) (List.perm_append_comm (l₁ := WM adM g I L S Z Y) (l₂ := (WC adC g I L S ++ ([OUT ao on ov] : va_W)))) ?_
  refine g_callV X hSB hAf srcW (hrc1 := (rfl : CL[8]? = some _)) (wm_mem (k := 0) (by decide)) rfl (As := [.int (xs (6 * k + 1))]) (wr := WC adC g I L S ++ ([OUT ao on ov] : va_W)) (n := 1) (c_X9_data_1 l D g adM I L S Z Y (xs (6 * k + 1)) (out_le (by decide) hw)) rfl srcN hrdN w_1460 w_1457 w_1458 w_1459 w_6 (by decide +kernel) rfl ⟨Nat.le_of_ble_eq_true rfl, Nat.le_of_ble_eq_true rfl⟩ rfl rfl rfl (Nat.le_of_ble_eq_true rfl) ⟨by show cells + 1 + 0 ≤ 600002; omega, by show slots + 6 + 0 ≤ 7302232; omega⟩ dL_law_1579 (fun hu2 hp_hu2 => ?_)
  refine g_af (ws' := WM adM g I L S (u2 (u2 Z 3 0 (nI 0)) 3 0 (nI 1)) Y ++ (WC adC g I L S ++ ([OUT ao on ov] : va_W))) (st' := [.long ((nI 0).toInt64)]) (cells' := cells + 1 + 0) (slots' := slots + 6 + 0) (pc' := 1582) rfl rfl rfl rfl rfl ?_
  refine g_run X KL_law_1582_224 KL_law_1582_224_d 1585 [(6, .long ((nI 0).toInt64)), (5, .int (nI 1)), (0, .ref b), (1, .ref (adC 0)), (2, .ref (adM 0)), (3, .ref ao), (4, .int (nI (6 * k)))] [.ref (adM 0)] rfl ?_
  refine g_callV X hSB hAf srcW (hrc1 := (rfl : CL[8]? = some _)) (wm_mem (k := 0) (by decide)) rfl (As := []) (wr := WC adC g I L S ++ ([OUT ao on ov] : va_W)) (n := 0) (c_X9_thrown l D g adM I L S (u2 (u2 Z 3 0 (nI 0)) 3 0 (nI 1)) Y ) rfl srcN hrdN w_1250 w_1247 w_1248 w_1249 w_6 (by decide +kernel) rfl ⟨Nat.le_of_ble_eq_true rfl, Nat.le_of_ble_eq_true rfl⟩ rfl rfl rfl (Nat.le_of_ble_eq_true rfl) ⟨by show cells + 1 + 0 + 0 ≤ 600002; omega, by show slots + 6 + 0 + 0 ≤ 7302232; omega⟩ dL_law_1585 (fun hu3 hp_hu3 => ?_)
  refine g_af (ws' := WM adM g I L S (u2 (u2 Z 3 0 (nI 0)) 3 0 (nI 1)) Y ++ (WC adC g I L S ++ ([OUT ao on ov] : va_W))) (st' := [.int ((u2 (u2 Z 3 0 (nI 0)) 3 0 (nI 1)) 3 0)]) (cells' := cells + 1 + 0 + 0) (slots' := slots + 6 + 0 + 0) (pc' := 1588) rfl rfl rfl rfl rfl ?_
  refine g_st (st' := [.int (nI 1)]) (by first | rfl | (simp [z4, u2]; done)) ?_
  refine g_run X KL_law_1588_225 KL_law_1588_225_d 1590 [(6, .long ((nI 0).toInt64)), (5, .int (nI 1)), (0, .ref b), (1, .ref (adC 0)), (2, .ref (adM 0)), (3, .ref ao), (4, .int (nI (6 * k)))] [.int (nI 1), .int (nI 1)] rfl ?_
  refine g_icmp_eq X 1595 dL_law_1590 (by decide) (fun hc4 => ?_) (fun hc4 => ?_)
  · refine g_run X KL_law_1595_226 KL_law_1595_226_d 1597 [(6, .long ((nI 0).toInt64)), (5, .int (nI 1)), (0, .ref b), (1, .ref (adC 0)), (2, .ref (adM 0)), (3, .ref ao), (4, .int (nI (6 * k)))] [.int (nI 1)] rfl ?_
    refine g_if_ne X 1612 dL_law_1597 (by decide) (fun hc5 => ?_) (fun hc5 => ?_)
    · refine g_run X KL_law_1612_229 KL_law_1612_229_d 2256 [(6, .long ((nI 0).toInt64)), (5, .int (nI 1)), (0, .ref b), (1, .ref (adC 0)), (2, .ref (adM 0)), (3, .ref ao), (4, .int (nI (6 * k)))] [] rfl ?_
      refine g_lv (lv' := [(0, .ref b), (1, .ref (adC 0)), (2, .ref (adM 0)), (3, .ref ao), (4, .int (nI (6 * k)))]) (lsub_c 2 rfl (lsub_c 3 rfl (lsub_c 4 rfl (lsub_c 5 rfl (lsub_c 6 rfl (lsub_n)))))) ?_
      refine g_perm (ws' := (WC adC g I L S ++ ([OUT ao on ov] : va_W)) ++ WM adM g I L S (u2 (u2 Z 3 0 (nI 0)) 3 0 (nI 1)) Y) (List.perm_append_comm (l₁ := (WC adC g I L S ++ ([OUT ao on ov] : va_W))) (l₂ := WM adM g I L S (u2 (u2 Z 3 0 (nI 0)) 3 0 (nI 1)) Y)) ?_
      refine g_widen (k := cells + 60) (n := slots + 1200) (by omega) (by omega) ?_
      exact kk I L S n (u2 (u2 Z 3 0 (nI 0)) 3 0 (nI 1)) Y R on ov (hI) (hR) (by first | exact hZ | (rw [zrow]; exact hZ) | (rw [zrow, zrow]; exact hZ))
    · rw [nz_eq (by omega)] at hc5; first | omega | (simp at hc5)
  · rw [nI_eq (by omega) (by omega)] at hc4; first | omega | (simp at hc4)

theorem lq20 {p : Program} {l : Launch} {e : Env} {s : State} {m : MethodId} {below : List Frame} {meth : Method} {c : Code} {Q : State → Prop} {D : va_G} {A : Nat → Prop} {b N : Nat} {xs : Nat → Int32} {adC adM : Nat → Nat} {g : Nat → ClassId} {ao k cells slots : Nat} {I : Nat → Nat → Int32} {L : Nat → Nat → Int64} {S : Nat → Nat} {n : Nat} {Z : Nat → Nat → Int32} {Y : Int64} {R : Nat → Nat} {on : Int64} {ov : Value} (HX : LX p l s m meth c A b N xs) (hk : 6 * k + 6 ≤ N) (hroom : cells + 60 ≤ 600002 ∧ slots + 1200 ≤ 7302232) (hI : Inv I L S n) (hR : R16 R) (hZ : Z 0 = fun j => nI (R j)) (kk : LK p l e s m below meth c Q D A b adC adM g ao k cells slots 2256) : GL p l e room_1 s m #[.ref b] below meth c Q D CL (TYS g) A 9 (WL adC adM g ao I L S Z Y on ov) cells slots 1559 [(0, .ref b), (1, .ref (adC 0)), (2, .ref (adM 0)), (3, .ref ao), (4, .int (nI (6 * k)))] [] := by
  rcases rg (xs (6 * k + 1)) 0 16 with ⟨a1, hl1, hu1, e1⟩ | hw
  · exact lq20_0 HX hk hroom hI hR hZ  a1 hl1 hu1 e1 kk
  · exact lq20_1 HX hk hroom hI hR hZ  hw kk

def KL_law_1615_230 : List (Nat × Instr × Nat) := [(1615, .aload_n 1, 1), (1616, .aload_n 0, 1), (1617, .iload 4, 2), (1619, .iconst 1, 1), (1620, .iadd, 1)]
theorem KL_law_1615_230_d : ∀ z ∈ KL_law_1615_230, decode cL_law z.1 = .ok z.2 := by decide +kernel
def KL_law_1622_231 : List (Nat × Instr × Nat) := [(1622, .aload_n 0, 1), (1623, .iload 4, 2), (1625, .iconst 2, 1), (1626, .iadd, 1)]
theorem KL_law_1622_231_d : ∀ z ∈ KL_law_1622_231, decode cL_law z.1 = .ok z.2 := by decide +kernel
def KL_law_1628_232 : List (Nat × Instr × Nat) := [(1628, .aload_n 3, 1)]
theorem KL_law_1628_232_d : ∀ z ∈ KL_law_1628_232, decode cL_law z.1 = .ok z.2 := by decide +kernel
def KL_law_1632_233 : List (Nat × Instr × Nat) := [(1632, .istore 5, 2), (1634, .aload_n 2, 1), (1635, .aload_n 0, 1), (1636, .iload 4, 2), (1638, .iconst 1, 1), (1639, .iadd, 1)]
theorem KL_law_1632_233_d : ∀ z ∈ KL_law_1632_233, decode cL_law z.1 = .ok z.2 := by decide +kernel
def KL_law_1641_234 : List (Nat × Instr × Nat) := [(1641, .aload_n 0, 1), (1642, .iload 4, 2), (1644, .iconst 2, 1), (1645, .iadd, 1)]
theorem KL_law_1641_234_d : ∀ z ∈ KL_law_1641_234, decode cL_law z.1 = .ok z.2 := by decide +kernel
def KL_law_1650_235 : List (Nat × Instr × Nat) := [(1650, .istore 6, 2), (1652, .aload_n 2, 1)]
theorem KL_law_1650_235_d : ∀ z ∈ KL_law_1650_235, decode cL_law z.1 = .ok z.2 := by decide +kernel
def KL_law_1656_236 : List (Nat × Instr × Nat) := [(1656, .iload 5, 2)]
theorem KL_law_1656_236_d : ∀ z ∈ KL_law_1656_236, decode cL_law z.1 = .ok z.2 := by decide +kernel
def KL_law_1663_237 : List (Nat × Instr × Nat) := [(1663, .iload 5, 2)]
theorem KL_law_1663_237_d : ∀ z ∈ KL_law_1663_237, decode cL_law z.1 = .ok z.2 := by decide +kernel
def KL_law_1668_238 : List (Nat × Instr × Nat) := [(1668, .aload_n 3, 1)]
theorem KL_law_1668_238_d : ∀ z ∈ KL_law_1668_238, decode cL_law z.1 = .ok z.2 := by decide +kernel
def KL_law_1672_239 : List (Nat × Instr × Nat) := [(1672, .iload 6, 2), (1674, .i2l, 1), (1675, .lcmp, 1)]
theorem KL_law_1672_239_d : ∀ z ∈ KL_law_1672_239, decode cL_law z.1 = .ok z.2 := by decide +kernel
def KL_law_1681_240 : List (Nat × Instr × Nat) := [(1681, .goto 575, 3)]
theorem KL_law_1681_240_d : ∀ z ∈ KL_law_1681_240, decode cL_law z.1 = .ok z.2 := by decide +kernel
set_option maxHeartbeats 4000000 in
set_option maxRecDepth 100000 in
theorem lq21_0d {p : Program} {l : Launch} {e : Env} {s : State} {m : MethodId} {below : List Frame} {meth : Method} {c : Code} {Q : State → Prop} {D : va_G} {A : Nat → Prop} {b N : Nat} {xs : Nat → Int32} {adC adM : Nat → Nat} {g : Nat → ClassId} {ao k cells slots : Nat} {I : Nat → Nat → Int32} {L : Nat → Nat → Int64} {S : Nat → Nat} {n : Nat} {Z : Nat → Nat → Int32} {Y : Int64} {R : Nat → Nat} {on : Int64} {ov : Value} (HX : LX p l s m meth c A b N xs) (hk : 6 * k + 6 ≤ N) (hroom : cells + 60 ≤ 600002 ∧ slots + 1200 ≤ 7302232) (hI : Inv I L S n) (hR : R16 R) (hZ : Z 0 = fun j => nI (R j)) (a1 : Nat) (hl1 : 0 ≤ a1) (hu1 : a1 < 18) (e1 : xs (6 * k + 1) = nI a1) (e2 : xs (6 * k + 2) = nI 5) (kk : LK p l e s m below meth c Q D A b adC adM g ao k cells slots 2256) : GL p l e room_1 s m #[.ref b] below meth c Q D CL (TYS g) A 9 (WL adC adM g ao I L S Z Y on ov) cells slots 1615 [(0, .ref b), (1, .ref (adC 0)), (2, .ref (adM 0)), (3, .ref ao), (4, .int (nI (6 * k)))] [] := by
  obtain ⟨X, hSB, hAf, hNC, hfl, hX, hbl, hbA, hN⟩ := HX
  refine g_run X KL_law_1615_230 KL_law_1615_230_d 1621 [(0, .ref b), (1, .ref (adC 0)), (2, .ref (adM 0)), (3, .ref ao), (4, .int (nI (6 * k)))] [.int ((nI (6 * k)) + (nI 1)), .ref b, .ref (adC 0)] rfl ?_
  refine g_nm (lv' := [(0, .ref b), (1, .ref (adC 0)), (2, .ref (adM 0)), (3, .ref ao), (4, .int (nI (6 * k)))]) (st' := [.int (nI ((6 * k) + 1)), .ref b, .ref (adC 0)]) (by simp only [nI_add]) (by simp only [nI_add]) ?_
  refine g_sld X hX hbl hbA hN (v := nI a1) (by omega) e1 dL_law_1621 ?_
  refine g_run X KL_law_1622_231 KL_law_1622_231_d 1627 [(0, .ref b), (1, .ref (adC 0)), (2, .ref (adM 0)), (3, .ref ao), (4, .int (nI (6 * k)))] [.int ((nI (6 * k)) + (nI 2)), .ref b, .int (nI a1), .ref (adC 0)] rfl ?_
  refine g_nm (lv' := [(0, .ref b), (1, .ref (adC 0)), (2, .ref (adM 0)), (3, .ref ao), (4, .int (nI (6 * k)))]) (st' := [.int (nI ((6 * k) + 2)), .ref b, .int (nI a1), .ref (adC 0)]) (by simp only [nI_add]) (by simp only [nI_add]) ?_
  refine g_sld X hX hbl hbA hN (v := nI 5) (by omega) e2 dL_law_1627 ?_
  refine g_run X KL_law_1628_232 KL_law_1628_232_d 1629 [(0, .ref b), (1, .ref (adC 0)), (2, .ref (adM 0)), (3, .ref ao), (4, .int (nI (6 * k)))] [.ref ao, .int (nI 5), .int (nI a1), .ref (adC 0)] rfl ?_
  refine g_callSW X hSB hAf hNC (As := [.ref (adC 0), .int (nI a1), .int (nI 5), .ref ao]) (wr := WM adM g I L S Z Y) (n := 4) (hc_ofChip l D g adC I L S a1 5 ao on ov (by first | assumption | omega) (by first | assumption | omega)) rfl w_741 w_739 w_740 w_0 (by decide +kernel) rfl ⟨Nat.le_of_ble_eq_true rfl, Nat.le_of_ble_eq_true rfl⟩ rfl rfl rfl (Nat.le_of_ble_eq_true rfl) ⟨by show cells + 0 ≤ 600002; omega, by show slots + 0 ≤ 7302232; omega⟩ dL_law_1629 (fun hu1 _ => ?_)
  refine g_af (ws' := (WC adC g I L S ++ ([OUT ao ((ocV I L a1 5).toInt64) ov] : va_W)) ++ WM adM g I L S Z Y) (st' := [.int (nI 0)]) (cells' := cells + 0) (slots' := slots + 0) (pc' := 1632) rfl rfl rfl rfl rfl ?_
  refine g_run X KL_law_1632_233 KL_law_1632_233_d 1640 [(5, .int (nI 0)), (0, .ref b), (1, .ref (adC 0)), (2, .ref (adM 0)), (3, .ref ao), (4, .int (nI (6 * k)))] [.int ((nI (6 * k)) + (nI 1)), .ref b, .ref (adM 0)] rfl ?_
  refine g_nm (lv' := [(5, .int (nI 0)), (0, .ref b), (1, .ref (adC 0)), (2, .ref (adM 0)), (3, .ref ao), (4, .int (nI (6 * k)))]) (st' := [.int (nI ((6 * k) + 1)), .ref b, .ref (adM 0)]) (by simp only [nI_add]) (by simp only [nI_add]) ?_
  refine g_sld X hX hbl hbA hN (v := nI a1) (by omega) e1 dL_law_1640 ?_
  refine g_run X KL_law_1641_234 KL_law_1641_234_d 1646 [(5, .int (nI 0)), (0, .ref b), (1, .ref (adC 0)), (2, .ref (adM 0)), (3, .ref ao), (4, .int (nI (6 * k)))] [.int ((nI (6 * k)) + (nI 2)), .ref b, .int (nI a1), .ref (adM 0)] rfl ?_
  refine g_nm (lv' := [(5, .int (nI 0)), (0, .ref b), (1, .ref (adC 0)), (2, .ref (adM 0)), (3, .ref ao), (4, .int (nI (6 * k)))]) (st' := [.int (nI ((6 * k) + 2)), .ref b, .int (nI a1), .ref (adM 0)]) (by simp only [nI_add]) (by simp only [nI_add]) ?_
  refine g_sld X hX hbl hbA hN (v := nI 5) (by omega) e2 dL_law_1646 ?_
  refine g_perm (ws' := WM adM g I L S Z Y ++ (WC adC g I L S ++ ([OUT ao ((ocV I L a1 5).toInt64) ov] : va_W))) (List.perm_append_comm (l₁ := WM adM g I L S Z Y) (l₂ := (WC adC g I L S ++ ([OUT ao ((ocV I L a1 5).toInt64) ov] : va_W)))) ?_
  refine g_callV X hSB hAf srcW (hrc1 := (rfl : CL[8]? = some _)) (wm_mem (k := 0) (by decide)) rfl (As := [.int (nI a1), .int (nI 5)]) (wr := WC adC g I L S ++ ([OUT ao ((ocV I L a1 5).toInt64) ov] : va_W)) (n := 2) (c_X9_ofChip_d l D g adM I L S Z Y a1 (by first | assumption | omega)) rfl srcN hrdN w_1464 w_1461 w_1462 w_1463 w_6 (by decide +kernel) rfl ⟨Nat.le_of_ble_eq_true rfl, Nat.le_of_ble_eq_true rfl⟩ rfl rfl rfl (Nat.le_of_ble_eq_true rfl) ⟨by show cells + 0 + 0 ≤ 600002; omega, by show slots + 0 + 0 ≤ 7302232; omega⟩ dL_law_1647 (fun hu2 hp_hu2 => ?_)
  refine g_af (ws' := WM adM g I L S (u2 Z 3 0 (nI 0)) Y ++ (WC adC g I L S ++ ([OUT ao ((ocV I L a1 5).toInt64) ov] : va_W))) (st' := [.int (ocV I L a1 5)]) (cells' := cells + 0 + 0) (slots' := slots + 0 + 0) (pc' := 1650) rfl rfl rfl rfl rfl ?_
  refine g_run X KL_law_1650_235 KL_law_1650_235_d 1653 [(6, .int (ocV I L a1 5)), (5, .int (nI 0)), (0, .ref b), (1, .ref (adC 0)), (2, .ref (adM 0)), (3, .ref ao), (4, .int (nI (6 * k)))] [.ref (adM 0)] rfl ?_
  refine g_callV X hSB hAf srcW (hrc1 := (rfl : CL[8]? = some _)) (wm_mem (k := 0) (by decide)) rfl (As := []) (wr := WC adC g I L S ++ ([OUT ao ((ocV I L a1 5).toInt64) ov] : va_W)) (n := 0) (c_X9_thrown l D g adM I L S (u2 Z 3 0 (nI 0)) Y ) rfl srcN hrdN w_1250 w_1247 w_1248 w_1249 w_6 (by decide +kernel) rfl ⟨Nat.le_of_ble_eq_true rfl, Nat.le_of_ble_eq_true rfl⟩ rfl rfl rfl (Nat.le_of_ble_eq_true rfl) ⟨by show cells + 0 + 0 + 0 ≤ 600002; omega, by show slots + 0 + 0 + 0 ≤ 7302232; omega⟩ dL_law_1653 (fun hu3 hp_hu3 => ?_)
  refine g_af (ws' := WM adM g I L S (u2 Z 3 0 (nI 0)) Y ++ (WC adC g I L S ++ ([OUT ao ((ocV I L a1 5).toInt64) ov] : va_W))) (st' := [.int ((u2 Z 3 0 (nI 0)) 3 0)]) (cells' := cells + 0 + 0 + 0) (slots' := slots + 0 + 0 + 0) (pc' := 1656) rfl rfl rfl rfl rfl ?_
  refine g_st (st' := [.int (nI 0)]) (by first | rfl | (simp [z4, u2]; done)) ?_
  refine g_run X KL_law_1656_236 KL_law_1656_236_d 1658 [(6, .int (ocV I L a1 5)), (5, .int (nI 0)), (0, .ref b), (1, .ref (adC 0)), (2, .ref (adM 0)), (3, .ref ao), (4, .int (nI (6 * k)))] [.int (nI 0), .int (nI 0)] rfl ?_
  refine g_icmp_eq X 1663 dL_law_1658 (by decide) (fun hc4 => ?_) (fun hc4 => ?_)
  · refine g_run X KL_law_1663_237 KL_law_1663_237_d 1665 [(6, .int (ocV I L a1 5)), (5, .int (nI 0)), (0, .ref b), (1, .ref (adC 0)), (2, .ref (adM 0)), (3, .ref ao), (4, .int (nI (6 * k)))] [.int (nI 0)] rfl ?_
    refine g_if_ne X 1681 dL_law_1665 (by decide) (fun hc5 => ?_) (fun hc5 => ?_)
    · rw [nz_eq (by omega)] at hc5; first | omega | (simp at hc5)
    · refine g_run X KL_law_1668_238 KL_law_1668_238_d 1669 [(6, .int (ocV I L a1 5)), (5, .int (nI 0)), (0, .ref b), (1, .ref (adC 0)), (2, .ref (adM 0)), (3, .ref ao), (4, .int (nI (6 * k)))] [.ref ao] rfl ?_
      refine g_getN X srcW (host := "ChipfieldLaw") (v := .long ((ocV I L a1 5).toInt64)) hinX6 rfl 0 (by decide) (nw_in n_489 rfl) rfl (List.mem_append_right _ (List.mem_append_right _ List.mem_cons_self)) rfl dL_law_1669 ?_
      refine g_run X KL_law_1672_239 KL_law_1672_239_d 1676 [(6, .int (ocV I L a1 5)), (5, .int (nI 0)), (0, .ref b), (1, .ref (adC 0)), (2, .ref (adM 0)), (3, .ref ao), (4, .int (nI (6 * k)))] [.int (lg_cmp ((ocV I L a1 5).toInt64) ((ocV I L a1 5).toInt64))] rfl ?_
      refine g_if_eq X 1681 dL_law_1676 (by decide) (fun hc6 => ?_) (fun hc6 => ?_)
      · refine g_run X KL_law_1681_240 KL_law_1681_240_d 2256 [(6, .int (ocV I L a1 5)), (5, .int (nI 0)), (0, .ref b), (1, .ref (adC 0)), (2, .ref (adM 0)), (3, .ref ao), (4, .int (nI (6 * k)))] [] rfl ?_
        refine g_lv (lv' := [(0, .ref b), (1, .ref (adC 0)), (2, .ref (adM 0)), (3, .ref ao), (4, .int (nI (6 * k)))]) (lsub_c 2 rfl (lsub_c 3 rfl (lsub_c 4 rfl (lsub_c 5 rfl (lsub_c 6 rfl (lsub_n)))))) ?_
        refine g_perm (ws' := (WC adC g I L S ++ ([OUT ao ((ocV I L a1 5).toInt64) ov] : va_W)) ++ WM adM g I L S (u2 Z 3 0 (nI 0)) Y) (List.perm_append_comm (l₁ := (WC adC g I L S ++ ([OUT ao ((ocV I L a1 5).toInt64) ov] : va_W))) (l₂ := WM adM g I L S (u2 Z 3 0 (nI 0)) Y)) ?_
        refine g_widen (k := cells + 60) (n := slots + 1200) (by omega) (by omega) ?_
        exact kk I L S n (u2 Z 3 0 (nI 0)) Y R ((ocV I L a1 5).toInt64) ov (hI) (hR) (by first | exact hZ | (rw [zrow]; exact hZ) | (rw [zrow, zrow]; exact hZ))
      · exact absurd lg_self hc6
  · rw [nI_eq (by omega) (by omega)] at hc4; first | omega | (simp at hc4)

set_option maxHeartbeats 4000000 in
set_option maxRecDepth 100000 in
theorem lq21_0 {p : Program} {l : Launch} {e : Env} {s : State} {m : MethodId} {below : List Frame} {meth : Method} {c : Code} {Q : State → Prop} {D : va_G} {A : Nat → Prop} {b N : Nat} {xs : Nat → Int32} {adC adM : Nat → Nat} {g : Nat → ClassId} {ao k cells slots : Nat} {I : Nat → Nat → Int32} {L : Nat → Nat → Int64} {S : Nat → Nat} {n : Nat} {Z : Nat → Nat → Int32} {Y : Int64} {R : Nat → Nat} {on : Int64} {ov : Value} (HX : LX p l s m meth c A b N xs) (hk : 6 * k + 6 ≤ N) (hroom : cells + 60 ≤ 600002 ∧ slots + 1200 ≤ 7302232) (hI : Inv I L S n) (hR : R16 R) (hZ : Z 0 = fun j => nI (R j)) (a1 : Nat) (hl1 : 0 ≤ a1) (hu1 : a1 < 18) (e1 : xs (6 * k + 1) = nI a1) (a2 : Nat) (hl2 : 0 ≤ a2) (hu2 : a2 < 6) (e2 : xs (6 * k + 2) = nI a2) (hx1 : a2 < 5) (hx2 : a2 ≠ 5) (kk : LK p l e s m below meth c Q D A b adC adM g ao k cells slots 2256) : GL p l e room_1 s m #[.ref b] below meth c Q D CL (TYS g) A 9 (WL adC adM g ao I L S Z Y on ov) cells slots 1615 [(0, .ref b), (1, .ref (adC 0)), (2, .ref (adM 0)), (3, .ref ao), (4, .int (nI (6 * k)))] [] := by
  obtain ⟨X, hSB, hAf, hNC, hfl, hX, hbl, hbA, hN⟩ := HX
  refine g_run X KL_law_1615_230 KL_law_1615_230_d 1621 [(0, .ref b), (1, .ref (adC 0)), (2, .ref (adM 0)), (3, .ref ao), (4, .int (nI (6 * k)))] [.int ((nI (6 * k)) + (nI 1)), .ref b, .ref (adC 0)] rfl ?_
  refine g_nm (lv' := [(0, .ref b), (1, .ref (adC 0)), (2, .ref (adM 0)), (3, .ref ao), (4, .int (nI (6 * k)))]) (st' := [.int (nI ((6 * k) + 1)), .ref b, .ref (adC 0)]) (by simp only [nI_add]) (by simp only [nI_add]) ?_
  refine g_sld X hX hbl hbA hN (v := nI a1) (by omega) e1 dL_law_1621 ?_
  refine g_run X KL_law_1622_231 KL_law_1622_231_d 1627 [(0, .ref b), (1, .ref (adC 0)), (2, .ref (adM 0)), (3, .ref ao), (4, .int (nI (6 * k)))] [.int ((nI (6 * k)) + (nI 2)), .ref b, .int (nI a1), .ref (adC 0)] rfl ?_
  refine g_nm (lv' := [(0, .ref b), (1, .ref (adC 0)), (2, .ref (adM 0)), (3, .ref ao), (4, .int (nI (6 * k)))]) (st' := [.int (nI ((6 * k) + 2)), .ref b, .int (nI a1), .ref (adC 0)]) (by simp only [nI_add]) (by simp only [nI_add]) ?_
  refine g_sld X hX hbl hbA hN (v := nI a2) (by omega) e2 dL_law_1627 ?_
  refine g_run X KL_law_1628_232 KL_law_1628_232_d 1629 [(0, .ref b), (1, .ref (adC 0)), (2, .ref (adM 0)), (3, .ref ao), (4, .int (nI (6 * k)))] [.ref ao, .int (nI a2), .int (nI a1), .ref (adC 0)] rfl ?_
  refine g_callSW X hSB hAf hNC (As := [.ref (adC 0), .int (nI a1), .int (nI a2), .ref ao]) (wr := WM adM g I L S Z Y) (n := 4) (hc_ofChip l D g adC I L S a1 a2 ao on ov (by first | assumption | omega) (by first | assumption | omega)) rfl w_741 w_739 w_740 w_0 (by decide +kernel) rfl ⟨Nat.le_of_ble_eq_true rfl, Nat.le_of_ble_eq_true rfl⟩ rfl rfl rfl (Nat.le_of_ble_eq_true rfl) ⟨by show cells + 0 ≤ 600002; omega, by show slots + 0 ≤ 7302232; omega⟩ dL_law_1629 (fun hu1 _ => ?_)
  refine g_af (ws' := (WC adC g I L S ++ ([OUT ao ((ocV I L a1 a2).toInt64) ov] : va_W)) ++ WM adM g I L S Z Y) (st' := [.int (nI 0)]) (cells' := cells + 0) (slots' := slots + 0) (pc' := 1632) rfl rfl rfl rfl rfl ?_
  refine g_run X KL_law_1632_233 KL_law_1632_233_d 1640 [(5, .int (nI 0)), (0, .ref b), (1, .ref (adC 0)), (2, .ref (adM 0)), (3, .ref ao), (4, .int (nI (6 * k)))] [.int ((nI (6 * k)) + (nI 1)), .ref b, .ref (adM 0)] rfl ?_
  refine g_nm (lv' := [(5, .int (nI 0)), (0, .ref b), (1, .ref (adC 0)), (2, .ref (adM 0)), (3, .ref ao), (4, .int (nI (6 * k)))]) (st' := [.int (nI ((6 * k) + 1)), .ref b, .ref (adM 0)]) (by simp only [nI_add]) (by simp only [nI_add]) ?_
  refine g_sld X hX hbl hbA hN (v := nI a1) (by omega) e1 dL_law_1640 ?_
  refine g_run X KL_law_1641_234 KL_law_1641_234_d 1646 [(5, .int (nI 0)), (0, .ref b), (1, .ref (adC 0)), (2, .ref (adM 0)), (3, .ref ao), (4, .int (nI (6 * k)))] [.int ((nI (6 * k)) + (nI 2)), .ref b, .int (nI a1), .ref (adM 0)] rfl ?_
  refine g_nm (lv' := [(5, .int (nI 0)), (0, .ref b), (1, .ref (adC 0)), (2, .ref (adM 0)), (3, .ref ao), (4, .int (nI (6 * k)))]) (st' := [.int (nI ((6 * k) + 2)), .ref b, .int (nI a1), .ref (adM 0)]) (by simp only [nI_add]) (by simp only [nI_add]) ?_
  refine g_sld X hX hbl hbA hN (v := nI a2) (by omega) e2 dL_law_1646 ?_
  refine g_perm (ws' := WM adM g I L S Z Y ++ (WC adC g I L S ++ ([OUT ao ((ocV I L a1 a2).toInt64) ov] : va_W))) (List.perm_append_comm (l₁ := WM adM g I L S Z Y) (l₂ := (WC adC g I L S ++ ([OUT ao ((ocV I L a1 a2).toInt64) ov] : va_W)))) ?_
  refine g_callV X hSB hAf srcW (hrc1 := (rfl : CL[8]? = some _)) (wm_mem (k := 0) (by decide)) rfl (As := [.int (nI a1), .int (nI a2)]) (wr := WC adC g I L S ++ ([OUT ao ((ocV I L a1 a2).toInt64) ov] : va_W)) (n := 2) (c_X9_ofChip l D g adM I L S Z Y a1 a2 (by first | assumption | omega) (by first | assumption | omega)) rfl srcN hrdN w_1464 w_1461 w_1462 w_1463 w_6 (by decide +kernel) rfl ⟨Nat.le_of_ble_eq_true rfl, Nat.le_of_ble_eq_true rfl⟩ rfl rfl rfl (Nat.le_of_ble_eq_true rfl) ⟨by show cells + 0 + 0 ≤ 600002; omega, by show slots + 0 + 0 ≤ 7302232; omega⟩ dL_law_1647 (fun hu2 hp_hu2 => ?_)
  refine g_af (ws' := WM adM g I L S (u2 Z 3 0 (nI 0)) Y ++ (WC adC g I L S ++ ([OUT ao ((ocV I L a1 a2).toInt64) ov] : va_W))) (st' := [.int (ocV I L a1 a2)]) (cells' := cells + 0 + 0) (slots' := slots + 0 + 0) (pc' := 1650) rfl rfl rfl rfl rfl ?_
  refine g_run X KL_law_1650_235 KL_law_1650_235_d 1653 [(6, .int (ocV I L a1 a2)), (5, .int (nI 0)), (0, .ref b), (1, .ref (adC 0)), (2, .ref (adM 0)), (3, .ref ao), (4, .int (nI (6 * k)))] [.ref (adM 0)] rfl ?_
  refine g_callV X hSB hAf srcW (hrc1 := (rfl : CL[8]? = some _)) (wm_mem (k := 0) (by decide)) rfl (As := []) (wr := WC adC g I L S ++ ([OUT ao ((ocV I L a1 a2).toInt64) ov] : va_W)) (n := 0) (c_X9_thrown l D g adM I L S (u2 Z 3 0 (nI 0)) Y ) rfl srcN hrdN w_1250 w_1247 w_1248 w_1249 w_6 (by decide +kernel) rfl ⟨Nat.le_of_ble_eq_true rfl, Nat.le_of_ble_eq_true rfl⟩ rfl rfl rfl (Nat.le_of_ble_eq_true rfl) ⟨by show cells + 0 + 0 + 0 ≤ 600002; omega, by show slots + 0 + 0 + 0 ≤ 7302232; omega⟩ dL_law_1653 (fun hu3 hp_hu3 => ?_)
  refine g_af (ws' := WM adM g I L S (u2 Z 3 0 (nI 0)) Y ++ (WC adC g I L S ++ ([OUT ao ((ocV I L a1 a2).toInt64) ov] : va_W))) (st' := [.int ((u2 Z 3 0 (nI 0)) 3 0)]) (cells' := cells + 0 + 0 + 0) (slots' := slots + 0 + 0 + 0) (pc' := 1656) rfl rfl rfl rfl rfl ?_
  refine g_st (st' := [.int (nI 0)]) (by first | rfl | (simp [z4, u2]; done)) ?_
  refine g_run X KL_law_1656_236 KL_law_1656_236_d 1658 [(6, .int (ocV I L a1 a2)), (5, .int (nI 0)), (0, .ref b), (1, .ref (adC 0)), (2, .ref (adM 0)), (3, .ref ao), (4, .int (nI (6 * k)))] [.int (nI 0), .int (nI 0)] rfl ?_
  refine g_icmp_eq X 1663 dL_law_1658 (by decide) (fun hc4 => ?_) (fun hc4 => ?_)
  · refine g_run X KL_law_1663_237 KL_law_1663_237_d 1665 [(6, .int (ocV I L a1 a2)), (5, .int (nI 0)), (0, .ref b), (1, .ref (adC 0)), (2, .ref (adM 0)), (3, .ref ao), (4, .int (nI (6 * k)))] [.int (nI 0)] rfl ?_
    refine g_if_ne X 1681 dL_law_1665 (by decide) (fun hc5 => ?_) (fun hc5 => ?_)
    · rw [nz_eq (by omega)] at hc5; first | omega | (simp at hc5)
    · refine g_run X KL_law_1668_238 KL_law_1668_238_d 1669 [(6, .int (ocV I L a1 a2)), (5, .int (nI 0)), (0, .ref b), (1, .ref (adC 0)), (2, .ref (adM 0)), (3, .ref ao), (4, .int (nI (6 * k)))] [.ref ao] rfl ?_
      refine g_getN X srcW (host := "ChipfieldLaw") (v := .long ((ocV I L a1 a2).toInt64)) hinX6 rfl 0 (by decide) (nw_in n_489 rfl) rfl (List.mem_append_right _ (List.mem_append_right _ List.mem_cons_self)) rfl dL_law_1669 ?_
      refine g_run X KL_law_1672_239 KL_law_1672_239_d 1676 [(6, .int (ocV I L a1 a2)), (5, .int (nI 0)), (0, .ref b), (1, .ref (adC 0)), (2, .ref (adM 0)), (3, .ref ao), (4, .int (nI (6 * k)))] [.int (lg_cmp ((ocV I L a1 a2).toInt64) ((ocV I L a1 a2).toInt64))] rfl ?_
      refine g_if_eq X 1681 dL_law_1676 (by decide) (fun hc6 => ?_) (fun hc6 => ?_)
      · refine g_run X KL_law_1681_240 KL_law_1681_240_d 2256 [(6, .int (ocV I L a1 a2)), (5, .int (nI 0)), (0, .ref b), (1, .ref (adC 0)), (2, .ref (adM 0)), (3, .ref ao), (4, .int (nI (6 * k)))] [] rfl ?_
        refine g_lv (lv' := [(0, .ref b), (1, .ref (adC 0)), (2, .ref (adM 0)), (3, .ref ao), (4, .int (nI (6 * k)))]) (lsub_c 2 rfl (lsub_c 3 rfl (lsub_c 4 rfl (lsub_c 5 rfl (lsub_c 6 rfl (lsub_n)))))) ?_
        refine g_perm (ws' := (WC adC g I L S ++ ([OUT ao ((ocV I L a1 a2).toInt64) ov] : va_W)) ++ WM adM g I L S (u2 Z 3 0 (nI 0)) Y) (List.perm_append_comm (l₁ := (WC adC g I L S ++ ([OUT ao ((ocV I L a1 a2).toInt64) ov] : va_W))) (l₂ := WM adM g I L S (u2 Z 3 0 (nI 0)) Y)) ?_
        refine g_widen (k := cells + 60) (n := slots + 1200) (by omega) (by omega) ?_
        exact kk I L S n (u2 Z 3 0 (nI 0)) Y R ((ocV I L a1 a2).toInt64) ov (hI) (hR) (by first | exact hZ | (rw [zrow]; exact hZ) | (rw [zrow, zrow]; exact hZ))
      · exact absurd lg_self hc6
  · rw [nI_eq (by omega) (by omega)] at hc4; first | omega | (simp at hc4)

set_option maxHeartbeats 4000000 in
set_option maxRecDepth 100000 in
theorem lq21_2 {p : Program} {l : Launch} {e : Env} {s : State} {m : MethodId} {below : List Frame} {meth : Method} {c : Code} {Q : State → Prop} {D : va_G} {A : Nat → Prop} {b N : Nat} {xs : Nat → Int32} {adC adM : Nat → Nat} {g : Nat → ClassId} {ao k cells slots : Nat} {I : Nat → Nat → Int32} {L : Nat → Nat → Int64} {S : Nat → Nat} {n : Nat} {Z : Nat → Nat → Int32} {Y : Int64} {R : Nat → Nat} {on : Int64} {ov : Value} (HX : LX p l s m meth c A b N xs) (hk : 6 * k + 6 ≤ N) (hroom : cells + 60 ≤ 600002 ∧ slots + 1200 ≤ 7302232) (hI : Inv I L S n) (hR : R16 R) (hZ : Z 0 = fun j => nI (R j)) (a1 : Nat) (hl1 : 0 ≤ a1) (hu1 : a1 < 18) (e1 : xs (6 * k + 1) = nI a1) (hw : (xs (6 * k + 2)).toInt < (0 : Nat) ∨ ((6 : Nat) : Int) ≤ (xs (6 * k + 2)).toInt) (kk : LK p l e s m below meth c Q D A b adC adM g ao k cells slots 2256) : GL p l e room_1 s m #[.ref b] below meth c Q D CL (TYS g) A 9 (WL adC adM g ao I L S Z Y on ov) cells slots 1615 [(0, .ref b), (1, .ref (adC 0)), (2, .ref (adM 0)), (3, .ref ao), (4, .int (nI (6 * k)))] [] := by
  obtain ⟨X, hSB, hAf, hNC, hfl, hX, hbl, hbA, hN⟩ := HX
  refine g_run X KL_law_1615_230 KL_law_1615_230_d 1621 [(0, .ref b), (1, .ref (adC 0)), (2, .ref (adM 0)), (3, .ref ao), (4, .int (nI (6 * k)))] [.int ((nI (6 * k)) + (nI 1)), .ref b, .ref (adC 0)] rfl ?_
  refine g_nm (lv' := [(0, .ref b), (1, .ref (adC 0)), (2, .ref (adM 0)), (3, .ref ao), (4, .int (nI (6 * k)))]) (st' := [.int (nI ((6 * k) + 1)), .ref b, .ref (adC 0)]) (by simp only [nI_add]) (by simp only [nI_add]) ?_
  refine g_sld X hX hbl hbA hN (v := nI a1) (by omega) e1 dL_law_1621 ?_
  refine g_run X KL_law_1622_231 KL_law_1622_231_d 1627 [(0, .ref b), (1, .ref (adC 0)), (2, .ref (adM 0)), (3, .ref ao), (4, .int (nI (6 * k)))] [.int ((nI (6 * k)) + (nI 2)), .ref b, .int (nI a1), .ref (adC 0)] rfl ?_
  refine g_nm (lv' := [(0, .ref b), (1, .ref (adC 0)), (2, .ref (adM 0)), (3, .ref ao), (4, .int (nI (6 * k)))]) (st' := [.int (nI ((6 * k) + 2)), .ref b, .int (nI a1), .ref (adC 0)]) (by simp only [nI_add]) (by simp only [nI_add]) ?_
  refine g_sld X hX hbl hbA hN (v := xs (6 * k + 2)) (by omega) rfl dL_law_1627 ?_
  refine g_run X KL_law_1628_232 KL_law_1628_232_d 1629 [(0, .ref b), (1, .ref (adC 0)), (2, .ref (adM 0)), (3, .ref ao), (4, .int (nI (6 * k)))] [.ref ao, .int (xs (6 * k + 2)), .int (nI a1), .ref (adC 0)] rfl ?_
  refine g_callSW X hSB hAf hNC (As := [.ref (adC 0), .int (nI a1), .int (xs (6 * k + 2)), .ref ao]) (wr := WM adM g I L S Z Y) (n := 4) (hx_ofChip_2 l hfl D g adC I L S a1 (xs (6 * k + 2)) ao on ov (by first | assumption | omega) (out_ti hw)) rfl w_741 w_739 w_740 w_0 (by decide +kernel) rfl ⟨Nat.le_of_ble_eq_true rfl, Nat.le_of_ble_eq_true rfl⟩ rfl rfl rfl (Nat.le_of_ble_eq_true rfl) ⟨by show cells + 1 ≤ 600002; omega, by show slots + 6 ≤ 7302232; omega⟩ dL_law_1629 (fun hu1 _ => ?_)
  refine g_af (ws' := (WC adC g I L S ++ ([OUT ao on ov] : va_W)) ++ WM adM g I L S Z Y) (st' := [.int (nI 2)]) (cells' := cells + 1) (slots' := slots + 6) (pc' := 1632) rfl rfl rfl rfl rfl ?_
  refine g_run X KL_law_1632_233 KL_law_1632_233_d 1640 [(5, .int (nI 2)), (0, .ref b), (1, .ref (adC 0)), (2, .ref (adM 0)), (3, .ref ao), (4, .int (nI (6 * k)))] [.int ((nI (6 * k)) + (nI 1)), .ref b, .ref (adM 0)] rfl ?_
  refine g_nm (lv' := [(5, .int (nI 2)), (0, .ref b), (1, .ref (adC 0)), (2, .ref (adM 0)), (3, .ref ao), (4, .int (nI (6 * k)))]) (st' := [.int (nI ((6 * k) + 1)), .ref b, .ref (adM 0)]) (by simp only [nI_add]) (by simp only [nI_add]) ?_
  refine g_sld X hX hbl hbA hN (v := nI a1) (by omega) e1 dL_law_1640 ?_
  refine g_run X KL_law_1641_234 KL_law_1641_234_d 1646 [(5, .int (nI 2)), (0, .ref b), (1, .ref (adC 0)), (2, .ref (adM 0)), (3, .ref ao), (4, .int (nI (6 * k)))] [.int ((nI (6 * k)) + (nI 2)), .ref b, .int (nI a1), .ref (adM 0)] rfl ?_
  refine g_nm (lv' := [(5, .int (nI 2)), (0, .ref b), (1, .ref (adC 0)), (2, .ref (adM 0)), (3, .ref ao), (4, .int (nI (6 * k)))]) (st' := [.int (nI ((6 * k) + 2)), .ref b, .int (nI a1), .ref (adM 0)]) (by simp only [nI_add]) (by simp only [nI_add]) ?_
  refine g_sld X hX hbl hbA hN (v := xs (6 * k + 2)) (by omega) rfl dL_law_1646 ?_
  refine g_perm (ws' := WM adM g I L S Z Y ++ (WC adC g I L S ++ ([OUT ao on ov] : va_W))) (List.perm_append_comm (l₁ := WM adM g I L S Z Y) (l₂ := (WC adC g I L S ++ ([OUT ao on ov] : va_W)))) ?_
  refine g_callV X hSB hAf srcW (hrc1 := (rfl : CL[8]? = some _)) (wm_mem (k := 0) (by decide)) rfl (As := [.int (nI a1), .int (xs (6 * k + 2))]) (wr := WC adC g I L S ++ ([OUT ao on ov] : va_W)) (n := 2) (c_X9_ofChip_2 l D g adM I L S Z Y a1 (xs (6 * k + 2)) (by first | assumption | omega) (out_lo (by decide) (by decide) hw)) rfl srcN hrdN w_1464 w_1461 w_1462 w_1463 w_6 (by decide +kernel) rfl ⟨Nat.le_of_ble_eq_true rfl, Nat.le_of_ble_eq_true rfl⟩ rfl rfl rfl (Nat.le_of_ble_eq_true rfl) ⟨by show cells + 1 + 0 ≤ 600002; omega, by show slots + 6 + 0 ≤ 7302232; omega⟩ dL_law_1647 (fun hu2 hp_hu2 => ?_)
  refine g_af (ws' := WM adM g I L S (u2 (u2 Z 3 0 (nI 0)) 3 0 (nI 2)) Y ++ (WC adC g I L S ++ ([OUT ao on ov] : va_W))) (st' := [.int (nI 0)]) (cells' := cells + 1 + 0) (slots' := slots + 6 + 0) (pc' := 1650) rfl rfl rfl rfl rfl ?_
  refine g_run X KL_law_1650_235 KL_law_1650_235_d 1653 [(6, .int (nI 0)), (5, .int (nI 2)), (0, .ref b), (1, .ref (adC 0)), (2, .ref (adM 0)), (3, .ref ao), (4, .int (nI (6 * k)))] [.ref (adM 0)] rfl ?_
  refine g_callV X hSB hAf srcW (hrc1 := (rfl : CL[8]? = some _)) (wm_mem (k := 0) (by decide)) rfl (As := []) (wr := WC adC g I L S ++ ([OUT ao on ov] : va_W)) (n := 0) (c_X9_thrown l D g adM I L S (u2 (u2 Z 3 0 (nI 0)) 3 0 (nI 2)) Y ) rfl srcN hrdN w_1250 w_1247 w_1248 w_1249 w_6 (by decide +kernel) rfl ⟨Nat.le_of_ble_eq_true rfl, Nat.le_of_ble_eq_true rfl⟩ rfl rfl rfl (Nat.le_of_ble_eq_true rfl) ⟨by show cells + 1 + 0 + 0 ≤ 600002; omega, by show slots + 6 + 0 + 0 ≤ 7302232; omega⟩ dL_law_1653 (fun hu3 hp_hu3 => ?_)
  refine g_af (ws' := WM adM g I L S (u2 (u2 Z 3 0 (nI 0)) 3 0 (nI 2)) Y ++ (WC adC g I L S ++ ([OUT ao on ov] : va_W))) (st' := [.int ((u2 (u2 Z 3 0 (nI 0)) 3 0 (nI 2)) 3 0)]) (cells' := cells + 1 + 0 + 0) (slots' := slots + 6 + 0 + 0) (pc' := 1656) rfl rfl rfl rfl rfl ?_
  refine g_st (st' := [.int (nI 2)]) (by first | rfl | (simp [z4, u2]; done)) ?_
  refine g_run X KL_law_1656_236 KL_law_1656_236_d 1658 [(6, .int (nI 0)), (5, .int (nI 2)), (0, .ref b), (1, .ref (adC 0)), (2, .ref (adM 0)), (3, .ref ao), (4, .int (nI (6 * k)))] [.int (nI 2), .int (nI 2)] rfl ?_
  refine g_icmp_eq X 1663 dL_law_1658 (by decide) (fun hc4 => ?_) (fun hc4 => ?_)
  · refine g_run X KL_law_1663_237 KL_law_1663_237_d 1665 [(6, .int (nI 0)), (5, .int (nI 2)), (0, .ref b), (1, .ref (adC 0)), (2, .ref (adM 0)), (3, .ref ao), (4, .int (nI (6 * k)))] [.int (nI 2)] rfl ?_
    refine g_if_ne X 1681 dL_law_1665 (by decide) (fun hc5 => ?_) (fun hc5 => ?_)
    · refine g_run X KL_law_1681_240 KL_law_1681_240_d 2256 [(6, .int (nI 0)), (5, .int (nI 2)), (0, .ref b), (1, .ref (adC 0)), (2, .ref (adM 0)), (3, .ref ao), (4, .int (nI (6 * k)))] [] rfl ?_
      refine g_lv (lv' := [(0, .ref b), (1, .ref (adC 0)), (2, .ref (adM 0)), (3, .ref ao), (4, .int (nI (6 * k)))]) (lsub_c 2 rfl (lsub_c 3 rfl (lsub_c 4 rfl (lsub_c 5 rfl (lsub_c 6 rfl (lsub_n)))))) ?_
      refine g_perm (ws' := (WC adC g I L S ++ ([OUT ao on ov] : va_W)) ++ WM adM g I L S (u2 (u2 Z 3 0 (nI 0)) 3 0 (nI 2)) Y) (List.perm_append_comm (l₁ := (WC adC g I L S ++ ([OUT ao on ov] : va_W))) (l₂ := WM adM g I L S (u2 (u2 Z 3 0 (nI 0)) 3 0 (nI 2)) Y)) ?_
      refine g_widen (k := cells + 60) (n := slots + 1200) (by omega) (by omega) ?_
      exact kk I L S n (u2 (u2 Z 3 0 (nI 0)) 3 0 (nI 2)) Y R on ov (hI) (hR) (by first | exact hZ | (rw [zrow]; exact hZ) | (rw [zrow, zrow]; exact hZ))
    · rw [nz_eq (by omega)] at hc5; first | omega | (simp at hc5)
  · rw [nI_eq (by omega) (by omega)] at hc4; first | omega | (simp at hc4)

set_option maxHeartbeats 4000000 in
set_option maxRecDepth 100000 in
theorem lq21_1 {p : Program} {l : Launch} {e : Env} {s : State} {m : MethodId} {below : List Frame} {meth : Method} {c : Code} {Q : State → Prop} {D : va_G} {A : Nat → Prop} {b N : Nat} {xs : Nat → Int32} {adC adM : Nat → Nat} {g : Nat → ClassId} {ao k cells slots : Nat} {I : Nat → Nat → Int32} {L : Nat → Nat → Int64} {S : Nat → Nat} {n : Nat} {Z : Nat → Nat → Int32} {Y : Int64} {R : Nat → Nat} {on : Int64} {ov : Value} (HX : LX p l s m meth c A b N xs) (hk : 6 * k + 6 ≤ N) (hroom : cells + 60 ≤ 600002 ∧ slots + 1200 ≤ 7302232) (hI : Inv I L S n) (hR : R16 R) (hZ : Z 0 = fun j => nI (R j)) (hw : (xs (6 * k + 1)).toInt < (0 : Nat) ∨ ((18 : Nat) : Int) ≤ (xs (6 * k + 1)).toInt) (kk : LK p l e s m below meth c Q D A b adC adM g ao k cells slots 2256) : GL p l e room_1 s m #[.ref b] below meth c Q D CL (TYS g) A 9 (WL adC adM g ao I L S Z Y on ov) cells slots 1615 [(0, .ref b), (1, .ref (adC 0)), (2, .ref (adM 0)), (3, .ref ao), (4, .int (nI (6 * k)))] [] := by
  obtain ⟨X, hSB, hAf, hNC, hfl, hX, hbl, hbA, hN⟩ := HX
  refine g_run X KL_law_1615_230 KL_law_1615_230_d 1621 [(0, .ref b), (1, .ref (adC 0)), (2, .ref (adM 0)), (3, .ref ao), (4, .int (nI (6 * k)))] [.int ((nI (6 * k)) + (nI 1)), .ref b, .ref (adC 0)] rfl ?_
  refine g_nm (lv' := [(0, .ref b), (1, .ref (adC 0)), (2, .ref (adM 0)), (3, .ref ao), (4, .int (nI (6 * k)))]) (st' := [.int (nI ((6 * k) + 1)), .ref b, .ref (adC 0)]) (by simp only [nI_add]) (by simp only [nI_add]) ?_
  refine g_sld X hX hbl hbA hN (v := xs (6 * k + 1)) (by omega) rfl dL_law_1621 ?_
  refine g_run X KL_law_1622_231 KL_law_1622_231_d 1627 [(0, .ref b), (1, .ref (adC 0)), (2, .ref (adM 0)), (3, .ref ao), (4, .int (nI (6 * k)))] [.int ((nI (6 * k)) + (nI 2)), .ref b, .int (xs (6 * k + 1)), .ref (adC 0)] rfl ?_
  refine g_nm (lv' := [(0, .ref b), (1, .ref (adC 0)), (2, .ref (adM 0)), (3, .ref ao), (4, .int (nI (6 * k)))]) (st' := [.int (nI ((6 * k) + 2)), .ref b, .int (xs (6 * k + 1)), .ref (adC 0)]) (by simp only [nI_add]) (by simp only [nI_add]) ?_
  refine g_sld X hX hbl hbA hN (v := xs (6 * k + 2)) (by omega) rfl dL_law_1627 ?_
  refine g_run X KL_law_1628_232 KL_law_1628_232_d 1629 [(0, .ref b), (1, .ref (adC 0)), (2, .ref (adM 0)), (3, .ref ao), (4, .int (nI (6 * k)))] [.ref ao, .int (xs (6 * k + 2)), .int (xs (6 * k + 1)), .ref (adC 0)] rfl ?_
  refine g_callSW X hSB hAf hNC (As := [.ref (adC 0), .int (xs (6 * k + 1)), .int (xs (6 * k + 2)), .ref ao]) (wr := WM adM g I L S Z Y) (n := 4) (hx_ofChip_1 l hfl D g adC I L S (xs (6 * k + 1)) (xs (6 * k + 2)) ao on ov (out_lt (by decide) hw)) rfl w_741 w_739 w_740 w_0 (by decide +kernel) rfl ⟨Nat.le_of_ble_eq_true rfl, Nat.le_of_ble_eq_true rfl⟩ rfl rfl rfl (Nat.le_of_ble_eq_true rfl) ⟨by show cells + 1 ≤ 600002; omega, by show slots + 6 ≤ 7302232; omega⟩ dL_law_1629 (fun hu1 _ => ?_)
  refine g_af (ws' := (WC adC g I L S ++ ([OUT ao on ov] : va_W)) ++ WM adM g I L S Z Y) (st' := [.int (nI 1)]) (cells' := cells + 1) (slots' := slots + 6) (pc' := 1632) rfl rfl rfl rfl rfl ?_
  refine g_run X KL_law_1632_233 KL_law_1632_233_d 1640 [(5, .int (nI 1)), (0, .ref b), (1, .ref (adC 0)), (2, .ref (adM 0)), (3, .ref ao), (4, .int (nI (6 * k)))] [.int ((nI (6 * k)) + (nI 1)), .ref b, .ref (adM 0)] rfl ?_
  refine g_nm (lv' := [(5, .int (nI 1)), (0, .ref b), (1, .ref (adC 0)), (2, .ref (adM 0)), (3, .ref ao), (4, .int (nI (6 * k)))]) (st' := [.int (nI ((6 * k) + 1)), .ref b, .ref (adM 0)]) (by simp only [nI_add]) (by simp only [nI_add]) ?_
  refine g_sld X hX hbl hbA hN (v := xs (6 * k + 1)) (by omega) rfl dL_law_1640 ?_
  refine g_run X KL_law_1641_234 KL_law_1641_234_d 1646 [(5, .int (nI 1)), (0, .ref b), (1, .ref (adC 0)), (2, .ref (adM 0)), (3, .ref ao), (4, .int (nI (6 * k)))] [.int ((nI (6 * k)) + (nI 2)), .ref b, .int (xs (6 * k + 1)), .ref (adM 0)] rfl ?_
  refine g_nm (lv' := [(5, .int (nI 1)), (0, .ref b), (1, .ref (adC 0)), (2, .ref (adM 0)), (3, .ref ao), (4, .int (nI (6 * k)))]) (st' := [.int (nI ((6 * k) + 2)), .ref b, .int (xs (6 * k + 1)), .ref (adM 0)]) (by simp only [nI_add]) (by simp only [nI_add]) ?_
  refine g_sld X hX hbl hbA hN (v := xs (6 * k + 2)) (by omega) rfl dL_law_1646 ?_
  refine g_perm (ws' := WM adM g I L S Z Y ++ (WC adC g I L S ++ ([OUT ao on ov] : va_W))) (List.perm_append_comm (l₁ := WM adM g I L S Z Y) (l₂ := (WC adC g I L S ++ ([OUT ao on ov] : va_W)))) ?_
  refine g_callV X hSB hAf srcW (hrc1 := (rfl : CL[8]? = some _)) (wm_mem (k := 0) (by decide)) rfl (As := [.int (xs (6 * k + 1)), .int (xs (6 * k + 2))]) (wr := WC adC g I L S ++ ([OUT ao on ov] : va_W)) (n := 2) (c_X9_ofChip_1 l D g adM I L S Z Y (xs (6 * k + 1)) (xs (6 * k + 2)) (out_le (by decide) hw)) rfl srcN hrdN w_1464 w_1461 w_1462 w_1463 w_6 (by decide +kernel) rfl ⟨Nat.le_of_ble_eq_true rfl, Nat.le_of_ble_eq_true rfl⟩ rfl rfl rfl (Nat.le_of_ble_eq_true rfl) ⟨by show cells + 1 + 0 ≤ 600002; omega, by show slots + 6 + 0 ≤ 7302232; omega⟩ dL_law_1647 (fun hu2 hp_hu2 => ?_)
  refine g_af (ws' := WM adM g I L S (u2 (u2 Z 3 0 (nI 0)) 3 0 (nI 1)) Y ++ (WC adC g I L S ++ ([OUT ao on ov] : va_W))) (st' := [.int (nI 0)]) (cells' := cells + 1 + 0) (slots' := slots + 6 + 0) (pc' := 1650) rfl rfl rfl rfl rfl ?_
  refine g_run X KL_law_1650_235 KL_law_1650_235_d 1653 [(6, .int (nI 0)), (5, .int (nI 1)), (0, .ref b), (1, .ref (adC 0)), (2, .ref (adM 0)), (3, .ref ao), (4, .int (nI (6 * k)))] [.ref (adM 0)] rfl ?_
  refine g_callV X hSB hAf srcW (hrc1 := (rfl : CL[8]? = some _)) (wm_mem (k := 0) (by decide)) rfl (As := []) (wr := WC adC g I L S ++ ([OUT ao on ov] : va_W)) (n := 0) (c_X9_thrown l D g adM I L S (u2 (u2 Z 3 0 (nI 0)) 3 0 (nI 1)) Y ) rfl srcN hrdN w_1250 w_1247 w_1248 w_1249 w_6 (by decide +kernel) rfl ⟨Nat.le_of_ble_eq_true rfl, Nat.le_of_ble_eq_true rfl⟩ rfl rfl rfl (Nat.le_of_ble_eq_true rfl) ⟨by show cells + 1 + 0 + 0 ≤ 600002; omega, by show slots + 6 + 0 + 0 ≤ 7302232; omega⟩ dL_law_1653 (fun hu3 hp_hu3 => ?_)
  refine g_af (ws' := WM adM g I L S (u2 (u2 Z 3 0 (nI 0)) 3 0 (nI 1)) Y ++ (WC adC g I L S ++ ([OUT ao on ov] : va_W))) (st' := [.int ((u2 (u2 Z 3 0 (nI 0)) 3 0 (nI 1)) 3 0)]) (cells' := cells + 1 + 0 + 0) (slots' := slots + 6 + 0 + 0) (pc' := 1656) rfl rfl rfl rfl rfl ?_
  refine g_st (st' := [.int (nI 1)]) (by first | rfl | (simp [z4, u2]; done)) ?_
  refine g_run X KL_law_1656_236 KL_law_1656_236_d 1658 [(6, .int (nI 0)), (5, .int (nI 1)), (0, .ref b), (1, .ref (adC 0)), (2, .ref (adM 0)), (3, .ref ao), (4, .int (nI (6 * k)))] [.int (nI 1), .int (nI 1)] rfl ?_
  refine g_icmp_eq X 1663 dL_law_1658 (by decide) (fun hc4 => ?_) (fun hc4 => ?_)
  · refine g_run X KL_law_1663_237 KL_law_1663_237_d 1665 [(6, .int (nI 0)), (5, .int (nI 1)), (0, .ref b), (1, .ref (adC 0)), (2, .ref (adM 0)), (3, .ref ao), (4, .int (nI (6 * k)))] [.int (nI 1)] rfl ?_
    refine g_if_ne X 1681 dL_law_1665 (by decide) (fun hc5 => ?_) (fun hc5 => ?_)
    · refine g_run X KL_law_1681_240 KL_law_1681_240_d 2256 [(6, .int (nI 0)), (5, .int (nI 1)), (0, .ref b), (1, .ref (adC 0)), (2, .ref (adM 0)), (3, .ref ao), (4, .int (nI (6 * k)))] [] rfl ?_
      refine g_lv (lv' := [(0, .ref b), (1, .ref (adC 0)), (2, .ref (adM 0)), (3, .ref ao), (4, .int (nI (6 * k)))]) (lsub_c 2 rfl (lsub_c 3 rfl (lsub_c 4 rfl (lsub_c 5 rfl (lsub_c 6 rfl (lsub_n)))))) ?_
      refine g_perm (ws' := (WC adC g I L S ++ ([OUT ao on ov] : va_W)) ++ WM adM g I L S (u2 (u2 Z 3 0 (nI 0)) 3 0 (nI 1)) Y) (List.perm_append_comm (l₁ := (WC adC g I L S ++ ([OUT ao on ov] : va_W))) (l₂ := WM adM g I L S (u2 (u2 Z 3 0 (nI 0)) 3 0 (nI 1)) Y)) ?_
      refine g_widen (k := cells + 60) (n := slots + 1200) (by omega) (by omega) ?_
      exact kk I L S n (u2 (u2 Z 3 0 (nI 0)) 3 0 (nI 1)) Y R on ov (hI) (hR) (by first | exact hZ | (rw [zrow]; exact hZ) | (rw [zrow, zrow]; exact hZ))
    · rw [nz_eq (by omega)] at hc5; first | omega | (simp at hc5)
  · rw [nI_eq (by omega) (by omega)] at hc4; first | omega | (simp at hc4)

theorem lq21 {p : Program} {l : Launch} {e : Env} {s : State} {m : MethodId} {below : List Frame} {meth : Method} {c : Code} {Q : State → Prop} {D : va_G} {A : Nat → Prop} {b N : Nat} {xs : Nat → Int32} {adC adM : Nat → Nat} {g : Nat → ClassId} {ao k cells slots : Nat} {I : Nat → Nat → Int32} {L : Nat → Nat → Int64} {S : Nat → Nat} {n : Nat} {Z : Nat → Nat → Int32} {Y : Int64} {R : Nat → Nat} {on : Int64} {ov : Value} (HX : LX p l s m meth c A b N xs) (hk : 6 * k + 6 ≤ N) (hroom : cells + 60 ≤ 600002 ∧ slots + 1200 ≤ 7302232) (hI : Inv I L S n) (hR : R16 R) (hZ : Z 0 = fun j => nI (R j)) (kk : LK p l e s m below meth c Q D A b adC adM g ao k cells slots 2256) : GL p l e room_1 s m #[.ref b] below meth c Q D CL (TYS g) A 9 (WL adC adM g ao I L S Z Y on ov) cells slots 1615 [(0, .ref b), (1, .ref (adC 0)), (2, .ref (adM 0)), (3, .ref ao), (4, .int (nI (6 * k)))] [] := by
  rcases rg (xs (6 * k + 1)) 0 18 with ⟨a1, hl1, hu1, e1⟩ | hw
  · rcases rg (xs (6 * k + 2)) 0 6 with ⟨a2, hl2, hu2, e2⟩ | hw
    · by_cases h2_5 : a2 = 5
      · exact lq21_0d HX hk hroom hI hR hZ  a1 hl1 hu1 e1 (by rw [e2, h2_5]) kk
      exact lq21_0 HX hk hroom hI hR hZ  a1 hl1 hu1 e1 a2 hl2 hu2 e2 (by omega) (by omega) kk
    · exact lq21_2 HX hk hroom hI hR hZ  a1 hl1 hu1 e1 hw kk
  · exact lq21_1 HX hk hroom hI hR hZ  hw kk

def KL_law_1684_241 : List (Nat × Instr × Nat) := [(1684, .aload_n 1, 1), (1685, .aload_n 0, 1), (1686, .iload 4, 2), (1688, .iconst 1, 1), (1689, .iadd, 1)]
theorem KL_law_1684_241_d : ∀ z ∈ KL_law_1684_241, decode cL_law z.1 = .ok z.2 := by decide +kernel
def KL_law_1691_242 : List (Nat × Instr × Nat) := [(1691, .aload_n 0, 1), (1692, .iload 4, 2), (1694, .iconst 2, 1), (1695, .iadd, 1)]
theorem KL_law_1691_242_d : ∀ z ∈ KL_law_1691_242, decode cL_law z.1 = .ok z.2 := by decide +kernel
def KL_law_1697_243 : List (Nat × Instr × Nat) := [(1697, .aload_n 3, 1)]
theorem KL_law_1697_243_d : ∀ z ∈ KL_law_1697_243, decode cL_law z.1 = .ok z.2 := by decide +kernel
def KL_law_1701_244 : List (Nat × Instr × Nat) := [(1701, .istore 5, 2), (1703, .aload_n 2, 1), (1704, .aload_n 0, 1), (1705, .iload 4, 2), (1707, .iconst 1, 1), (1708, .iadd, 1)]
theorem KL_law_1701_244_d : ∀ z ∈ KL_law_1701_244, decode cL_law z.1 = .ok z.2 := by decide +kernel
def KL_law_1710_245 : List (Nat × Instr × Nat) := [(1710, .aload_n 0, 1), (1711, .iload 4, 2), (1713, .iconst 2, 1), (1714, .iadd, 1)]
theorem KL_law_1710_245_d : ∀ z ∈ KL_law_1710_245, decode cL_law z.1 = .ok z.2 := by decide +kernel
def KL_law_1719_246 : List (Nat × Instr × Nat) := [(1719, .istore 6, 2), (1721, .aload_n 2, 1)]
theorem KL_law_1719_246_d : ∀ z ∈ KL_law_1719_246, decode cL_law z.1 = .ok z.2 := by decide +kernel
def KL_law_1725_247 : List (Nat × Instr × Nat) := [(1725, .iload 5, 2)]
theorem KL_law_1725_247_d : ∀ z ∈ KL_law_1725_247, decode cL_law z.1 = .ok z.2 := by decide +kernel
def KL_law_1732_248 : List (Nat × Instr × Nat) := [(1732, .iload 5, 2)]
theorem KL_law_1732_248_d : ∀ z ∈ KL_law_1732_248, decode cL_law z.1 = .ok z.2 := by decide +kernel
def KL_law_1737_249 : List (Nat × Instr × Nat) := [(1737, .aload_n 3, 1)]
theorem KL_law_1737_249_d : ∀ z ∈ KL_law_1737_249, decode cL_law z.1 = .ok z.2 := by decide +kernel
def KL_law_1741_250 : List (Nat × Instr × Nat) := [(1741, .iload 6, 2), (1743, .i2l, 1), (1744, .lcmp, 1)]
theorem KL_law_1741_250_d : ∀ z ∈ KL_law_1741_250, decode cL_law z.1 = .ok z.2 := by decide +kernel
def KL_law_1750_251 : List (Nat × Instr × Nat) := [(1750, .goto 506, 3)]
theorem KL_law_1750_251_d : ∀ z ∈ KL_law_1750_251, decode cL_law z.1 = .ok z.2 := by decide +kernel
set_option maxHeartbeats 4000000 in
set_option maxRecDepth 100000 in
theorem lq22_0 {p : Program} {l : Launch} {e : Env} {s : State} {m : MethodId} {below : List Frame} {meth : Method} {c : Code} {Q : State → Prop} {D : va_G} {A : Nat → Prop} {b N : Nat} {xs : Nat → Int32} {adC adM : Nat → Nat} {g : Nat → ClassId} {ao k cells slots : Nat} {I : Nat → Nat → Int32} {L : Nat → Nat → Int64} {S : Nat → Nat} {n : Nat} {Z : Nat → Nat → Int32} {Y : Int64} {R : Nat → Nat} {on : Int64} {ov : Value} (HX : LX p l s m meth c A b N xs) (hk : 6 * k + 6 ≤ N) (hroom : cells + 60 ≤ 600002 ∧ slots + 1200 ≤ 7302232) (hI : Inv I L S n) (hR : R16 R) (hZ : Z 0 = fun j => nI (R j)) (a1 : Nat) (hl1 : 0 ≤ a1) (hu1 : a1 < 18) (e1 : xs (6 * k + 1) = nI a1) (a2 : Nat) (hl2 : 0 ≤ a2) (hu2 : a2 < 16) (e2 : xs (6 * k + 2) = nI a2) (kk : LK p l e s m below meth c Q D A b adC adM g ao k cells slots 2256) : GL p l e room_1 s m #[.ref b] below meth c Q D CL (TYS g) A 9 (WL adC adM g ao I L S Z Y on ov) cells slots 1684 [(0, .ref b), (1, .ref (adC 0)), (2, .ref (adM 0)), (3, .ref ao), (4, .int (nI (6 * k)))] [] := by
  obtain ⟨X, hSB, hAf, hNC, hfl, hX, hbl, hbA, hN⟩ := HX
  refine g_run X KL_law_1684_241 KL_law_1684_241_d 1690 [(0, .ref b), (1, .ref (adC 0)), (2, .ref (adM 0)), (3, .ref ao), (4, .int (nI (6 * k)))] [.int ((nI (6 * k)) + (nI 1)), .ref b, .ref (adC 0)] rfl ?_
  refine g_nm (lv' := [(0, .ref b), (1, .ref (adC 0)), (2, .ref (adM 0)), (3, .ref ao), (4, .int (nI (6 * k)))]) (st' := [.int (nI ((6 * k) + 1)), .ref b, .ref (adC 0)]) (by simp only [nI_add]) (by simp only [nI_add]) ?_
  refine g_sld X hX hbl hbA hN (v := nI a1) (by omega) e1 dL_law_1690 ?_
  refine g_run X KL_law_1691_242 KL_law_1691_242_d 1696 [(0, .ref b), (1, .ref (adC 0)), (2, .ref (adM 0)), (3, .ref ao), (4, .int (nI (6 * k)))] [.int ((nI (6 * k)) + (nI 2)), .ref b, .int (nI a1), .ref (adC 0)] rfl ?_
  refine g_nm (lv' := [(0, .ref b), (1, .ref (adC 0)), (2, .ref (adM 0)), (3, .ref ao), (4, .int (nI (6 * k)))]) (st' := [.int (nI ((6 * k) + 2)), .ref b, .int (nI a1), .ref (adC 0)]) (by simp only [nI_add]) (by simp only [nI_add]) ?_
  refine g_sld X hX hbl hbA hN (v := nI a2) (by omega) e2 dL_law_1696 ?_
  refine g_run X KL_law_1697_243 KL_law_1697_243_d 1698 [(0, .ref b), (1, .ref (adC 0)), (2, .ref (adM 0)), (3, .ref ao), (4, .int (nI (6 * k)))] [.ref ao, .int (nI a2), .int (nI a1), .ref (adC 0)] rfl ?_
  refine g_callSW X hSB hAf hNC (As := [.ref (adC 0), .int (nI a1), .int (nI a2), .ref ao]) (wr := WM adM g I L S Z Y) (n := 4) (hc_stored l D g adC I L S a1 a2 ao on ov (by first | assumption | omega) (by first | assumption | omega)) rfl w_745 w_743 w_744 w_0 (by decide +kernel) rfl ⟨Nat.le_of_ble_eq_true rfl, Nat.le_of_ble_eq_true rfl⟩ rfl rfl rfl (Nat.le_of_ble_eq_true rfl) ⟨by show cells + 0 ≤ 600002; omega, by show slots + 0 ≤ 7302232; omega⟩ dL_law_1698 (fun hu1 _ => ?_)
  refine g_af (ws' := (WC adC g I L S ++ ([OUT ao ((nI (nib (L 0 a1) a2)).toInt64) ov] : va_W)) ++ WM adM g I L S Z Y) (st' := [.int (nI 0)]) (cells' := cells + 0) (slots' := slots + 0) (pc' := 1701) rfl rfl rfl rfl rfl ?_
  refine g_run X KL_law_1701_244 KL_law_1701_244_d 1709 [(5, .int (nI 0)), (0, .ref b), (1, .ref (adC 0)), (2, .ref (adM 0)), (3, .ref ao), (4, .int (nI (6 * k)))] [.int ((nI (6 * k)) + (nI 1)), .ref b, .ref (adM 0)] rfl ?_
  refine g_nm (lv' := [(5, .int (nI 0)), (0, .ref b), (1, .ref (adC 0)), (2, .ref (adM 0)), (3, .ref ao), (4, .int (nI (6 * k)))]) (st' := [.int (nI ((6 * k) + 1)), .ref b, .ref (adM 0)]) (by simp only [nI_add]) (by simp only [nI_add]) ?_
  refine g_sld X hX hbl hbA hN (v := nI a1) (by omega) e1 dL_law_1709 ?_
  refine g_run X KL_law_1710_245 KL_law_1710_245_d 1715 [(5, .int (nI 0)), (0, .ref b), (1, .ref (adC 0)), (2, .ref (adM 0)), (3, .ref ao), (4, .int (nI (6 * k)))] [.int ((nI (6 * k)) + (nI 2)), .ref b, .int (nI a1), .ref (adM 0)] rfl ?_
  refine g_nm (lv' := [(5, .int (nI 0)), (0, .ref b), (1, .ref (adC 0)), (2, .ref (adM 0)), (3, .ref ao), (4, .int (nI (6 * k)))]) (st' := [.int (nI ((6 * k) + 2)), .ref b, .int (nI a1), .ref (adM 0)]) (by simp only [nI_add]) (by simp only [nI_add]) ?_
  refine g_sld X hX hbl hbA hN (v := nI a2) (by omega) e2 dL_law_1715 ?_
  refine g_perm (ws' := WM adM g I L S Z Y ++ (WC adC g I L S ++ ([OUT ao ((nI (nib (L 0 a1) a2)).toInt64) ov] : va_W))) (List.perm_append_comm (l₁ := WM adM g I L S Z Y) (l₂ := (WC adC g I L S ++ ([OUT ao ((nI (nib (L 0 a1) a2)).toInt64) ov] : va_W)))) ?_
  refine g_callV X hSB hAf srcW (hrc1 := (rfl : CL[8]? = some _)) (wm_mem (k := 0) (by decide)) rfl (As := [.int (nI a1), .int (nI a2)]) (wr := WC adC g I L S ++ ([OUT ao ((nI (nib (L 0 a1) a2)).toInt64) ov] : va_W)) (n := 2) (c_X9_stored l D g adM I L S Z Y a1 a2 (by first | assumption | omega) (by first | assumption | omega)) rfl srcN hrdN w_1472 w_1469 w_1470 w_1471 w_6 (by decide +kernel) rfl ⟨Nat.le_of_ble_eq_true rfl, Nat.le_of_ble_eq_true rfl⟩ rfl rfl rfl (Nat.le_of_ble_eq_true rfl) ⟨by show cells + 0 + 0 ≤ 600002; omega, by show slots + 0 + 0 ≤ 7302232; omega⟩ dL_law_1716 (fun hu2 hp_hu2 => ?_)
  refine g_af (ws' := WM adM g I L S (u2 Z 3 0 (nI 0)) Y ++ (WC adC g I L S ++ ([OUT ao ((nI (nib (L 0 a1) a2)).toInt64) ov] : va_W))) (st' := [.int (nI (nib (L 0 a1) a2))]) (cells' := cells + 0 + 0) (slots' := slots + 0 + 0) (pc' := 1719) rfl rfl rfl rfl rfl ?_
  refine g_run X KL_law_1719_246 KL_law_1719_246_d 1722 [(6, .int (nI (nib (L 0 a1) a2))), (5, .int (nI 0)), (0, .ref b), (1, .ref (adC 0)), (2, .ref (adM 0)), (3, .ref ao), (4, .int (nI (6 * k)))] [.ref (adM 0)] rfl ?_
  refine g_callV X hSB hAf srcW (hrc1 := (rfl : CL[8]? = some _)) (wm_mem (k := 0) (by decide)) rfl (As := []) (wr := WC adC g I L S ++ ([OUT ao ((nI (nib (L 0 a1) a2)).toInt64) ov] : va_W)) (n := 0) (c_X9_thrown l D g adM I L S (u2 Z 3 0 (nI 0)) Y ) rfl srcN hrdN w_1250 w_1247 w_1248 w_1249 w_6 (by decide +kernel) rfl ⟨Nat.le_of_ble_eq_true rfl, Nat.le_of_ble_eq_true rfl⟩ rfl rfl rfl (Nat.le_of_ble_eq_true rfl) ⟨by show cells + 0 + 0 + 0 ≤ 600002; omega, by show slots + 0 + 0 + 0 ≤ 7302232; omega⟩ dL_law_1722 (fun hu3 hp_hu3 => ?_)
  refine g_af (ws' := WM adM g I L S (u2 Z 3 0 (nI 0)) Y ++ (WC adC g I L S ++ ([OUT ao ((nI (nib (L 0 a1) a2)).toInt64) ov] : va_W))) (st' := [.int ((u2 Z 3 0 (nI 0)) 3 0)]) (cells' := cells + 0 + 0 + 0) (slots' := slots + 0 + 0 + 0) (pc' := 1725) rfl rfl rfl rfl rfl ?_
  refine g_st (st' := [.int (nI 0)]) (by first | rfl | (simp [z4, u2]; done)) ?_
  refine g_run X KL_law_1725_247 KL_law_1725_247_d 1727 [(6, .int (nI (nib (L 0 a1) a2))), (5, .int (nI 0)), (0, .ref b), (1, .ref (adC 0)), (2, .ref (adM 0)), (3, .ref ao), (4, .int (nI (6 * k)))] [.int (nI 0), .int (nI 0)] rfl ?_
  refine g_icmp_eq X 1732 dL_law_1727 (by decide) (fun hc4 => ?_) (fun hc4 => ?_)
  · refine g_run X KL_law_1732_248 KL_law_1732_248_d 1734 [(6, .int (nI (nib (L 0 a1) a2))), (5, .int (nI 0)), (0, .ref b), (1, .ref (adC 0)), (2, .ref (adM 0)), (3, .ref ao), (4, .int (nI (6 * k)))] [.int (nI 0)] rfl ?_
    refine g_if_ne X 1750 dL_law_1734 (by decide) (fun hc5 => ?_) (fun hc5 => ?_)
    · rw [nz_eq (by omega)] at hc5; first | omega | (simp at hc5)
    · refine g_run X KL_law_1737_249 KL_law_1737_249_d 1738 [(6, .int (nI (nib (L 0 a1) a2))), (5, .int (nI 0)), (0, .ref b), (1, .ref (adC 0)), (2, .ref (adM 0)), (3, .ref ao), (4, .int (nI (6 * k)))] [.ref ao] rfl ?_
      refine g_getN X srcW (host := "ChipfieldLaw") (v := .long ((nI (nib (L 0 a1) a2)).toInt64)) hinX6 rfl 0 (by decide) (nw_in n_489 rfl) rfl (List.mem_append_right _ (List.mem_append_right _ List.mem_cons_self)) rfl dL_law_1738 ?_
      refine g_run X KL_law_1741_250 KL_law_1741_250_d 1745 [(6, .int (nI (nib (L 0 a1) a2))), (5, .int (nI 0)), (0, .ref b), (1, .ref (adC 0)), (2, .ref (adM 0)), (3, .ref ao), (4, .int (nI (6 * k)))] [.int (lg_cmp ((nI (nib (L 0 a1) a2)).toInt64) ((nI (nib (L 0 a1) a2)).toInt64))] rfl ?_
      refine g_if_eq X 1750 dL_law_1745 (by decide) (fun hc6 => ?_) (fun hc6 => ?_)
      · refine g_run X KL_law_1750_251 KL_law_1750_251_d 2256 [(6, .int (nI (nib (L 0 a1) a2))), (5, .int (nI 0)), (0, .ref b), (1, .ref (adC 0)), (2, .ref (adM 0)), (3, .ref ao), (4, .int (nI (6 * k)))] [] rfl ?_
        refine g_lv (lv' := [(0, .ref b), (1, .ref (adC 0)), (2, .ref (adM 0)), (3, .ref ao), (4, .int (nI (6 * k)))]) (lsub_c 2 rfl (lsub_c 3 rfl (lsub_c 4 rfl (lsub_c 5 rfl (lsub_c 6 rfl (lsub_n)))))) ?_
        refine g_perm (ws' := (WC adC g I L S ++ ([OUT ao ((nI (nib (L 0 a1) a2)).toInt64) ov] : va_W)) ++ WM adM g I L S (u2 Z 3 0 (nI 0)) Y) (List.perm_append_comm (l₁ := (WC adC g I L S ++ ([OUT ao ((nI (nib (L 0 a1) a2)).toInt64) ov] : va_W))) (l₂ := WM adM g I L S (u2 Z 3 0 (nI 0)) Y)) ?_
        refine g_widen (k := cells + 60) (n := slots + 1200) (by omega) (by omega) ?_
        exact kk I L S n (u2 Z 3 0 (nI 0)) Y R ((nI (nib (L 0 a1) a2)).toInt64) ov (hI) (hR) (by first | exact hZ | (rw [zrow]; exact hZ) | (rw [zrow, zrow]; exact hZ))
      · exact absurd lg_self hc6
  · rw [nI_eq (by omega) (by omega)] at hc4; first | omega | (simp at hc4)

set_option maxHeartbeats 4000000 in
set_option maxRecDepth 100000 in
theorem lq22_2 {p : Program} {l : Launch} {e : Env} {s : State} {m : MethodId} {below : List Frame} {meth : Method} {c : Code} {Q : State → Prop} {D : va_G} {A : Nat → Prop} {b N : Nat} {xs : Nat → Int32} {adC adM : Nat → Nat} {g : Nat → ClassId} {ao k cells slots : Nat} {I : Nat → Nat → Int32} {L : Nat → Nat → Int64} {S : Nat → Nat} {n : Nat} {Z : Nat → Nat → Int32} {Y : Int64} {R : Nat → Nat} {on : Int64} {ov : Value} (HX : LX p l s m meth c A b N xs) (hk : 6 * k + 6 ≤ N) (hroom : cells + 60 ≤ 600002 ∧ slots + 1200 ≤ 7302232) (hI : Inv I L S n) (hR : R16 R) (hZ : Z 0 = fun j => nI (R j)) (a1 : Nat) (hl1 : 0 ≤ a1) (hu1 : a1 < 18) (e1 : xs (6 * k + 1) = nI a1) (hw : (xs (6 * k + 2)).toInt < (0 : Nat) ∨ ((16 : Nat) : Int) ≤ (xs (6 * k + 2)).toInt) (kk : LK p l e s m below meth c Q D A b adC adM g ao k cells slots 2256) : GL p l e room_1 s m #[.ref b] below meth c Q D CL (TYS g) A 9 (WL adC adM g ao I L S Z Y on ov) cells slots 1684 [(0, .ref b), (1, .ref (adC 0)), (2, .ref (adM 0)), (3, .ref ao), (4, .int (nI (6 * k)))] [] := by
  obtain ⟨X, hSB, hAf, hNC, hfl, hX, hbl, hbA, hN⟩ := HX
  refine g_run X KL_law_1684_241 KL_law_1684_241_d 1690 [(0, .ref b), (1, .ref (adC 0)), (2, .ref (adM 0)), (3, .ref ao), (4, .int (nI (6 * k)))] [.int ((nI (6 * k)) + (nI 1)), .ref b, .ref (adC 0)] rfl ?_
  refine g_nm (lv' := [(0, .ref b), (1, .ref (adC 0)), (2, .ref (adM 0)), (3, .ref ao), (4, .int (nI (6 * k)))]) (st' := [.int (nI ((6 * k) + 1)), .ref b, .ref (adC 0)]) (by simp only [nI_add]) (by simp only [nI_add]) ?_
  refine g_sld X hX hbl hbA hN (v := nI a1) (by omega) e1 dL_law_1690 ?_
  refine g_run X KL_law_1691_242 KL_law_1691_242_d 1696 [(0, .ref b), (1, .ref (adC 0)), (2, .ref (adM 0)), (3, .ref ao), (4, .int (nI (6 * k)))] [.int ((nI (6 * k)) + (nI 2)), .ref b, .int (nI a1), .ref (adC 0)] rfl ?_
  refine g_nm (lv' := [(0, .ref b), (1, .ref (adC 0)), (2, .ref (adM 0)), (3, .ref ao), (4, .int (nI (6 * k)))]) (st' := [.int (nI ((6 * k) + 2)), .ref b, .int (nI a1), .ref (adC 0)]) (by simp only [nI_add]) (by simp only [nI_add]) ?_
  refine g_sld X hX hbl hbA hN (v := xs (6 * k + 2)) (by omega) rfl dL_law_1696 ?_
  refine g_run X KL_law_1697_243 KL_law_1697_243_d 1698 [(0, .ref b), (1, .ref (adC 0)), (2, .ref (adM 0)), (3, .ref ao), (4, .int (nI (6 * k)))] [.ref ao, .int (xs (6 * k + 2)), .int (nI a1), .ref (adC 0)] rfl ?_
  refine g_callSW X hSB hAf hNC (As := [.ref (adC 0), .int (nI a1), .int (xs (6 * k + 2)), .ref ao]) (wr := WM adM g I L S Z Y) (n := 4) (hx_stored_2 l hfl D g adC I L S a1 (xs (6 * k + 2)) ao on ov (by first | assumption | omega) (out_lt (by decide) hw)) rfl w_745 w_743 w_744 w_0 (by decide +kernel) rfl ⟨Nat.le_of_ble_eq_true rfl, Nat.le_of_ble_eq_true rfl⟩ rfl rfl rfl (Nat.le_of_ble_eq_true rfl) ⟨by show cells + 1 ≤ 600002; omega, by show slots + 6 ≤ 7302232; omega⟩ dL_law_1698 (fun hu1 _ => ?_)
  refine g_af (ws' := (WC adC g I L S ++ ([OUT ao on ov] : va_W)) ++ WM adM g I L S Z Y) (st' := [.int (nI 1)]) (cells' := cells + 1) (slots' := slots + 6) (pc' := 1701) rfl rfl rfl rfl rfl ?_
  refine g_run X KL_law_1701_244 KL_law_1701_244_d 1709 [(5, .int (nI 1)), (0, .ref b), (1, .ref (adC 0)), (2, .ref (adM 0)), (3, .ref ao), (4, .int (nI (6 * k)))] [.int ((nI (6 * k)) + (nI 1)), .ref b, .ref (adM 0)] rfl ?_
  refine g_nm (lv' := [(5, .int (nI 1)), (0, .ref b), (1, .ref (adC 0)), (2, .ref (adM 0)), (3, .ref ao), (4, .int (nI (6 * k)))]) (st' := [.int (nI ((6 * k) + 1)), .ref b, .ref (adM 0)]) (by simp only [nI_add]) (by simp only [nI_add]) ?_
  refine g_sld X hX hbl hbA hN (v := nI a1) (by omega) e1 dL_law_1709 ?_
  refine g_run X KL_law_1710_245 KL_law_1710_245_d 1715 [(5, .int (nI 1)), (0, .ref b), (1, .ref (adC 0)), (2, .ref (adM 0)), (3, .ref ao), (4, .int (nI (6 * k)))] [.int ((nI (6 * k)) + (nI 2)), .ref b, .int (nI a1), .ref (adM 0)] rfl ?_
  refine g_nm (lv' := [(5, .int (nI 1)), (0, .ref b), (1, .ref (adC 0)), (2, .ref (adM 0)), (3, .ref ao), (4, .int (nI (6 * k)))]) (st' := [.int (nI ((6 * k) + 2)), .ref b, .int (nI a1), .ref (adM 0)]) (by simp only [nI_add]) (by simp only [nI_add]) ?_
  refine g_sld X hX hbl hbA hN (v := xs (6 * k + 2)) (by omega) rfl dL_law_1715 ?_
  refine g_perm (ws' := WM adM g I L S Z Y ++ (WC adC g I L S ++ ([OUT ao on ov] : va_W))) (List.perm_append_comm (l₁ := WM adM g I L S Z Y) (l₂ := (WC adC g I L S ++ ([OUT ao on ov] : va_W)))) ?_
  refine g_callV X hSB hAf srcW (hrc1 := (rfl : CL[8]? = some _)) (wm_mem (k := 0) (by decide)) rfl (As := [.int (nI a1), .int (xs (6 * k + 2))]) (wr := WC adC g I L S ++ ([OUT ao on ov] : va_W)) (n := 2) (c_X9_stored_2 l D g adM I L S Z Y a1 (xs (6 * k + 2)) (by first | assumption | omega) (out_le (by decide) hw)) rfl srcN hrdN w_1472 w_1469 w_1470 w_1471 w_6 (by decide +kernel) rfl ⟨Nat.le_of_ble_eq_true rfl, Nat.le_of_ble_eq_true rfl⟩ rfl rfl rfl (Nat.le_of_ble_eq_true rfl) ⟨by show cells + 1 + 0 ≤ 600002; omega, by show slots + 6 + 0 ≤ 7302232; omega⟩ dL_law_1716 (fun hu2 hp_hu2 => ?_)
  refine g_af (ws' := WM adM g I L S (u2 (u2 Z 3 0 (nI 0)) 3 0 (nI 1)) Y ++ (WC adC g I L S ++ ([OUT ao on ov] : va_W))) (st' := [.int (nI 0)]) (cells' := cells + 1 + 0) (slots' := slots + 6 + 0) (pc' := 1719) rfl rfl rfl rfl rfl ?_
  refine g_run X KL_law_1719_246 KL_law_1719_246_d 1722 [(6, .int (nI 0)), (5, .int (nI 1)), (0, .ref b), (1, .ref (adC 0)), (2, .ref (adM 0)), (3, .ref ao), (4, .int (nI (6 * k)))] [.ref (adM 0)] rfl ?_
  refine g_callV X hSB hAf srcW (hrc1 := (rfl : CL[8]? = some _)) (wm_mem (k := 0) (by decide)) rfl (As := []) (wr := WC adC g I L S ++ ([OUT ao on ov] : va_W)) (n := 0) (c_X9_thrown l D g adM I L S (u2 (u2 Z 3 0 (nI 0)) 3 0 (nI 1)) Y ) rfl srcN hrdN w_1250 w_1247 w_1248 w_1249 w_6 (by decide +kernel) rfl ⟨Nat.le_of_ble_eq_true rfl, Nat.le_of_ble_eq_true rfl⟩ rfl rfl rfl (Nat.le_of_ble_eq_true rfl) ⟨by show cells + 1 + 0 + 0 ≤ 600002; omega, by show slots + 6 + 0 + 0 ≤ 7302232; omega⟩ dL_law_1722 (fun hu3 hp_hu3 => ?_)
  refine g_af (ws' := WM adM g I L S (u2 (u2 Z 3 0 (nI 0)) 3 0 (nI 1)) Y ++ (WC adC g I L S ++ ([OUT ao on ov] : va_W))) (st' := [.int ((u2 (u2 Z 3 0 (nI 0)) 3 0 (nI 1)) 3 0)]) (cells' := cells + 1 + 0 + 0) (slots' := slots + 6 + 0 + 0) (pc' := 1725) rfl rfl rfl rfl rfl ?_
  refine g_st (st' := [.int (nI 1)]) (by first | rfl | (simp [z4, u2]; done)) ?_
  refine g_run X KL_law_1725_247 KL_law_1725_247_d 1727 [(6, .int (nI 0)), (5, .int (nI 1)), (0, .ref b), (1, .ref (adC 0)), (2, .ref (adM 0)), (3, .ref ao), (4, .int (nI (6 * k)))] [.int (nI 1), .int (nI 1)] rfl ?_
  refine g_icmp_eq X 1732 dL_law_1727 (by decide) (fun hc4 => ?_) (fun hc4 => ?_)
  · refine g_run X KL_law_1732_248 KL_law_1732_248_d 1734 [(6, .int (nI 0)), (5, .int (nI 1)), (0, .ref b), (1, .ref (adC 0)), (2, .ref (adM 0)), (3, .ref ao), (4, .int (nI (6 * k)))] [.int (nI 1)] rfl ?_
    refine g_if_ne X 1750 dL_law_1734 (by decide) (fun hc5 => ?_) (fun hc5 => ?_)
    · refine g_run X KL_law_1750_251 KL_law_1750_251_d 2256 [(6, .int (nI 0)), (5, .int (nI 1)), (0, .ref b), (1, .ref (adC 0)), (2, .ref (adM 0)), (3, .ref ao), (4, .int (nI (6 * k)))] [] rfl ?_
      refine g_lv (lv' := [(0, .ref b), (1, .ref (adC 0)), (2, .ref (adM 0)), (3, .ref ao), (4, .int (nI (6 * k)))]) (lsub_c 2 rfl (lsub_c 3 rfl (lsub_c 4 rfl (lsub_c 5 rfl (lsub_c 6 rfl (lsub_n)))))) ?_
      refine g_perm (ws' := (WC adC g I L S ++ ([OUT ao on ov] : va_W)) ++ WM adM g I L S (u2 (u2 Z 3 0 (nI 0)) 3 0 (nI 1)) Y) (List.perm_append_comm (l₁ := (WC adC g I L S ++ ([OUT ao on ov] : va_W))) (l₂ := WM adM g I L S (u2 (u2 Z 3 0 (nI 0)) 3 0 (nI 1)) Y)) ?_
      refine g_widen (k := cells + 60) (n := slots + 1200) (by omega) (by omega) ?_
      exact kk I L S n (u2 (u2 Z 3 0 (nI 0)) 3 0 (nI 1)) Y R on ov (hI) (hR) (by first | exact hZ | (rw [zrow]; exact hZ) | (rw [zrow, zrow]; exact hZ))
    · rw [nz_eq (by omega)] at hc5; first | omega | (simp at hc5)
  · rw [nI_eq (by omega) (by omega)] at hc4; first | omega | (simp at hc4)

set_option maxHeartbeats 4000000 in
set_option maxRecDepth 100000 in
theorem lq22_1 {p : Program} {l : Launch} {e : Env} {s : State} {m : MethodId} {below : List Frame} {meth : Method} {c : Code} {Q : State → Prop} {D : va_G} {A : Nat → Prop} {b N : Nat} {xs : Nat → Int32} {adC adM : Nat → Nat} {g : Nat → ClassId} {ao k cells slots : Nat} {I : Nat → Nat → Int32} {L : Nat → Nat → Int64} {S : Nat → Nat} {n : Nat} {Z : Nat → Nat → Int32} {Y : Int64} {R : Nat → Nat} {on : Int64} {ov : Value} (HX : LX p l s m meth c A b N xs) (hk : 6 * k + 6 ≤ N) (hroom : cells + 60 ≤ 600002 ∧ slots + 1200 ≤ 7302232) (hI : Inv I L S n) (hR : R16 R) (hZ : Z 0 = fun j => nI (R j)) (hw : (xs (6 * k + 1)).toInt < (0 : Nat) ∨ ((18 : Nat) : Int) ≤ (xs (6 * k + 1)).toInt) (kk : LK p l e s m below meth c Q D A b adC adM g ao k cells slots 2256) : GL p l e room_1 s m #[.ref b] below meth c Q D CL (TYS g) A 9 (WL adC adM g ao I L S Z Y on ov) cells slots 1684 [(0, .ref b), (1, .ref (adC 0)), (2, .ref (adM 0)), (3, .ref ao), (4, .int (nI (6 * k)))] [] := by
  obtain ⟨X, hSB, hAf, hNC, hfl, hX, hbl, hbA, hN⟩ := HX
  refine g_run X KL_law_1684_241 KL_law_1684_241_d 1690 [(0, .ref b), (1, .ref (adC 0)), (2, .ref (adM 0)), (3, .ref ao), (4, .int (nI (6 * k)))] [.int ((nI (6 * k)) + (nI 1)), .ref b, .ref (adC 0)] rfl ?_
  refine g_nm (lv' := [(0, .ref b), (1, .ref (adC 0)), (2, .ref (adM 0)), (3, .ref ao), (4, .int (nI (6 * k)))]) (st' := [.int (nI ((6 * k) + 1)), .ref b, .ref (adC 0)]) (by simp only [nI_add]) (by simp only [nI_add]) ?_
  refine g_sld X hX hbl hbA hN (v := xs (6 * k + 1)) (by omega) rfl dL_law_1690 ?_
  refine g_run X KL_law_1691_242 KL_law_1691_242_d 1696 [(0, .ref b), (1, .ref (adC 0)), (2, .ref (adM 0)), (3, .ref ao), (4, .int (nI (6 * k)))] [.int ((nI (6 * k)) + (nI 2)), .ref b, .int (xs (6 * k + 1)), .ref (adC 0)] rfl ?_
  refine g_nm (lv' := [(0, .ref b), (1, .ref (adC 0)), (2, .ref (adM 0)), (3, .ref ao), (4, .int (nI (6 * k)))]) (st' := [.int (nI ((6 * k) + 2)), .ref b, .int (xs (6 * k + 1)), .ref (adC 0)]) (by simp only [nI_add]) (by simp only [nI_add]) ?_
  refine g_sld X hX hbl hbA hN (v := xs (6 * k + 2)) (by omega) rfl dL_law_1696 ?_
  refine g_run X KL_law_1697_243 KL_law_1697_243_d 1698 [(0, .ref b), (1, .ref (adC 0)), (2, .ref (adM 0)), (3, .ref ao), (4, .int (nI (6 * k)))] [.ref ao, .int (xs (6 * k + 2)), .int (xs (6 * k + 1)), .ref (adC 0)] rfl ?_
  refine g_callSW X hSB hAf hNC (As := [.ref (adC 0), .int (xs (6 * k + 1)), .int (xs (6 * k + 2)), .ref ao]) (wr := WM adM g I L S Z Y) (n := 4) (hx_stored_1 l hfl D g adC I L S (xs (6 * k + 1)) (xs (6 * k + 2)) ao on ov (out_lt (by decide) hw)) rfl w_745 w_743 w_744 w_0 (by decide +kernel) rfl ⟨Nat.le_of_ble_eq_true rfl, Nat.le_of_ble_eq_true rfl⟩ rfl rfl rfl (Nat.le_of_ble_eq_true rfl) ⟨by show cells + 1 ≤ 600002; omega, by show slots + 6 ≤ 7302232; omega⟩ dL_law_1698 (fun hu1 _ => ?_)
  refine g_af (ws' := (WC adC g I L S ++ ([OUT ao on ov] : va_W)) ++ WM adM g I L S Z Y) (st' := [.int (nI 1)]) (cells' := cells + 1) (slots' := slots + 6) (pc' := 1701) rfl rfl rfl rfl rfl ?_
  refine g_run X KL_law_1701_244 KL_law_1701_244_d 1709 [(5, .int (nI 1)), (0, .ref b), (1, .ref (adC 0)), (2, .ref (adM 0)), (3, .ref ao), (4, .int (nI (6 * k)))] [.int ((nI (6 * k)) + (nI 1)), .ref b, .ref (adM 0)] rfl ?_
  refine g_nm (lv' := [(5, .int (nI 1)), (0, .ref b), (1, .ref (adC 0)), (2, .ref (adM 0)), (3, .ref ao), (4, .int (nI (6 * k)))]) (st' := [.int (nI ((6 * k) + 1)), .ref b, .ref (adM 0)]) (by simp only [nI_add]) (by simp only [nI_add]) ?_
  refine g_sld X hX hbl hbA hN (v := xs (6 * k + 1)) (by omega) rfl dL_law_1709 ?_
  refine g_run X KL_law_1710_245 KL_law_1710_245_d 1715 [(5, .int (nI 1)), (0, .ref b), (1, .ref (adC 0)), (2, .ref (adM 0)), (3, .ref ao), (4, .int (nI (6 * k)))] [.int ((nI (6 * k)) + (nI 2)), .ref b, .int (xs (6 * k + 1)), .ref (adM 0)] rfl ?_
  refine g_nm (lv' := [(5, .int (nI 1)), (0, .ref b), (1, .ref (adC 0)), (2, .ref (adM 0)), (3, .ref ao), (4, .int (nI (6 * k)))]) (st' := [.int (nI ((6 * k) + 2)), .ref b, .int (xs (6 * k + 1)), .ref (adM 0)]) (by simp only [nI_add]) (by simp only [nI_add]) ?_
  refine g_sld X hX hbl hbA hN (v := xs (6 * k + 2)) (by omega) rfl dL_law_1715 ?_
  refine g_perm (ws' := WM adM g I L S Z Y ++ (WC adC g I L S ++ ([OUT ao on ov] : va_W))) (List.perm_append_comm (l₁ := WM adM g I L S Z Y) (l₂ := (WC adC g I L S ++ ([OUT ao on ov] : va_W)))) ?_
  refine g_callV X hSB hAf srcW (hrc1 := (rfl : CL[8]? = some _)) (wm_mem (k := 0) (by decide)) rfl (As := [.int (xs (6 * k + 1)), .int (xs (6 * k + 2))]) (wr := WC adC g I L S ++ ([OUT ao on ov] : va_W)) (n := 2) (c_X9_stored_1 l D g adM I L S Z Y (xs (6 * k + 1)) (xs (6 * k + 2)) (out_le (by decide) hw)) rfl srcN hrdN w_1472 w_1469 w_1470 w_1471 w_6 (by decide +kernel) rfl ⟨Nat.le_of_ble_eq_true rfl, Nat.le_of_ble_eq_true rfl⟩ rfl rfl rfl (Nat.le_of_ble_eq_true rfl) ⟨by show cells + 1 + 0 ≤ 600002; omega, by show slots + 6 + 0 ≤ 7302232; omega⟩ dL_law_1716 (fun hu2 hp_hu2 => ?_)
  refine g_af (ws' := WM adM g I L S (u2 (u2 Z 3 0 (nI 0)) 3 0 (nI 1)) Y ++ (WC adC g I L S ++ ([OUT ao on ov] : va_W))) (st' := [.int (nI 0)]) (cells' := cells + 1 + 0) (slots' := slots + 6 + 0) (pc' := 1719) rfl rfl rfl rfl rfl ?_
  refine g_run X KL_law_1719_246 KL_law_1719_246_d 1722 [(6, .int (nI 0)), (5, .int (nI 1)), (0, .ref b), (1, .ref (adC 0)), (2, .ref (adM 0)), (3, .ref ao), (4, .int (nI (6 * k)))] [.ref (adM 0)] rfl ?_
  refine g_callV X hSB hAf srcW (hrc1 := (rfl : CL[8]? = some _)) (wm_mem (k := 0) (by decide)) rfl (As := []) (wr := WC adC g I L S ++ ([OUT ao on ov] : va_W)) (n := 0) (c_X9_thrown l D g adM I L S (u2 (u2 Z 3 0 (nI 0)) 3 0 (nI 1)) Y ) rfl srcN hrdN w_1250 w_1247 w_1248 w_1249 w_6 (by decide +kernel) rfl ⟨Nat.le_of_ble_eq_true rfl, Nat.le_of_ble_eq_true rfl⟩ rfl rfl rfl (Nat.le_of_ble_eq_true rfl) ⟨by show cells + 1 + 0 + 0 ≤ 600002; omega, by show slots + 6 + 0 + 0 ≤ 7302232; omega⟩ dL_law_1722 (fun hu3 hp_hu3 => ?_)
  refine g_af (ws' := WM adM g I L S (u2 (u2 Z 3 0 (nI 0)) 3 0 (nI 1)) Y ++ (WC adC g I L S ++ ([OUT ao on ov] : va_W))) (st' := [.int ((u2 (u2 Z 3 0 (nI 0)) 3 0 (nI 1)) 3 0)]) (cells' := cells + 1 + 0 + 0) (slots' := slots + 6 + 0 + 0) (pc' := 1725) rfl rfl rfl rfl rfl ?_
  refine g_st (st' := [.int (nI 1)]) (by first | rfl | (simp [z4, u2]; done)) ?_
  refine g_run X KL_law_1725_247 KL_law_1725_247_d 1727 [(6, .int (nI 0)), (5, .int (nI 1)), (0, .ref b), (1, .ref (adC 0)), (2, .ref (adM 0)), (3, .ref ao), (4, .int (nI (6 * k)))] [.int (nI 1), .int (nI 1)] rfl ?_
  refine g_icmp_eq X 1732 dL_law_1727 (by decide) (fun hc4 => ?_) (fun hc4 => ?_)
  · refine g_run X KL_law_1732_248 KL_law_1732_248_d 1734 [(6, .int (nI 0)), (5, .int (nI 1)), (0, .ref b), (1, .ref (adC 0)), (2, .ref (adM 0)), (3, .ref ao), (4, .int (nI (6 * k)))] [.int (nI 1)] rfl ?_
    refine g_if_ne X 1750 dL_law_1734 (by decide) (fun hc5 => ?_) (fun hc5 => ?_)
    · refine g_run X KL_law_1750_251 KL_law_1750_251_d 2256 [(6, .int (nI 0)), (5, .int (nI 1)), (0, .ref b), (1, .ref (adC 0)), (2, .ref (adM 0)), (3, .ref ao), (4, .int (nI (6 * k)))] [] rfl ?_
      refine g_lv (lv' := [(0, .ref b), (1, .ref (adC 0)), (2, .ref (adM 0)), (3, .ref ao), (4, .int (nI (6 * k)))]) (lsub_c 2 rfl (lsub_c 3 rfl (lsub_c 4 rfl (lsub_c 5 rfl (lsub_c 6 rfl (lsub_n)))))) ?_
      refine g_perm (ws' := (WC adC g I L S ++ ([OUT ao on ov] : va_W)) ++ WM adM g I L S (u2 (u2 Z 3 0 (nI 0)) 3 0 (nI 1)) Y) (List.perm_append_comm (l₁ := (WC adC g I L S ++ ([OUT ao on ov] : va_W))) (l₂ := WM adM g I L S (u2 (u2 Z 3 0 (nI 0)) 3 0 (nI 1)) Y)) ?_
      refine g_widen (k := cells + 60) (n := slots + 1200) (by omega) (by omega) ?_
      exact kk I L S n (u2 (u2 Z 3 0 (nI 0)) 3 0 (nI 1)) Y R on ov (hI) (hR) (by first | exact hZ | (rw [zrow]; exact hZ) | (rw [zrow, zrow]; exact hZ))
    · rw [nz_eq (by omega)] at hc5; first | omega | (simp at hc5)
  · rw [nI_eq (by omega) (by omega)] at hc4; first | omega | (simp at hc4)

theorem lq22 {p : Program} {l : Launch} {e : Env} {s : State} {m : MethodId} {below : List Frame} {meth : Method} {c : Code} {Q : State → Prop} {D : va_G} {A : Nat → Prop} {b N : Nat} {xs : Nat → Int32} {adC adM : Nat → Nat} {g : Nat → ClassId} {ao k cells slots : Nat} {I : Nat → Nat → Int32} {L : Nat → Nat → Int64} {S : Nat → Nat} {n : Nat} {Z : Nat → Nat → Int32} {Y : Int64} {R : Nat → Nat} {on : Int64} {ov : Value} (HX : LX p l s m meth c A b N xs) (hk : 6 * k + 6 ≤ N) (hroom : cells + 60 ≤ 600002 ∧ slots + 1200 ≤ 7302232) (hI : Inv I L S n) (hR : R16 R) (hZ : Z 0 = fun j => nI (R j)) (kk : LK p l e s m below meth c Q D A b adC adM g ao k cells slots 2256) : GL p l e room_1 s m #[.ref b] below meth c Q D CL (TYS g) A 9 (WL adC adM g ao I L S Z Y on ov) cells slots 1684 [(0, .ref b), (1, .ref (adC 0)), (2, .ref (adM 0)), (3, .ref ao), (4, .int (nI (6 * k)))] [] := by
  rcases rg (xs (6 * k + 1)) 0 18 with ⟨a1, hl1, hu1, e1⟩ | hw
  · rcases rg (xs (6 * k + 2)) 0 16 with ⟨a2, hl2, hu2, e2⟩ | hw
    · exact lq22_0 HX hk hroom hI hR hZ  a1 hl1 hu1 e1 a2 hl2 hu2 e2 kk
    · exact lq22_2 HX hk hroom hI hR hZ  a1 hl1 hu1 e1 hw kk
  · exact lq22_1 HX hk hroom hI hR hZ  hw kk

def KL_law_1753_252 : List (Nat × Instr × Nat) := [(1753, .aload_n 1, 1), (1754, .aload_n 0, 1), (1755, .iload 4, 2), (1757, .iconst 1, 1), (1758, .iadd, 1)]
theorem KL_law_1753_252_d : ∀ z ∈ KL_law_1753_252, decode cL_law z.1 = .ok z.2 := by decide +kernel
def KL_law_1760_253 : List (Nat × Instr × Nat) := [(1760, .aload_n 0, 1), (1761, .iload 4, 2), (1763, .iconst 2, 1), (1764, .iadd, 1)]
theorem KL_law_1760_253_d : ∀ z ∈ KL_law_1760_253, decode cL_law z.1 = .ok z.2 := by decide +kernel
def KL_law_1766_254 : List (Nat × Instr × Nat) := [(1766, .aload_n 3, 1)]
theorem KL_law_1766_254_d : ∀ z ∈ KL_law_1766_254, decode cL_law z.1 = .ok z.2 := by decide +kernel
def KL_law_1770_255 : List (Nat × Instr × Nat) := [(1770, .istore 5, 2), (1772, .aload_n 2, 1), (1773, .aload_n 0, 1), (1774, .iload 4, 2), (1776, .iconst 1, 1), (1777, .iadd, 1)]
theorem KL_law_1770_255_d : ∀ z ∈ KL_law_1770_255, decode cL_law z.1 = .ok z.2 := by decide +kernel
def KL_law_1779_256 : List (Nat × Instr × Nat) := [(1779, .aload_n 0, 1), (1780, .iload 4, 2), (1782, .iconst 2, 1), (1783, .iadd, 1)]
theorem KL_law_1779_256_d : ∀ z ∈ KL_law_1779_256, decode cL_law z.1 = .ok z.2 := by decide +kernel
def KL_law_1788_257 : List (Nat × Instr × Nat) := [(1788, .istore 6, 2), (1790, .aload_n 2, 1)]
theorem KL_law_1788_257_d : ∀ z ∈ KL_law_1788_257, decode cL_law z.1 = .ok z.2 := by decide +kernel
def KL_law_1794_258 : List (Nat × Instr × Nat) := [(1794, .iload 5, 2)]
theorem KL_law_1794_258_d : ∀ z ∈ KL_law_1794_258, decode cL_law z.1 = .ok z.2 := by decide +kernel
def KL_law_1801_259 : List (Nat × Instr × Nat) := [(1801, .iload 5, 2)]
theorem KL_law_1801_259_d : ∀ z ∈ KL_law_1801_259, decode cL_law z.1 = .ok z.2 := by decide +kernel
def KL_law_1806_260 : List (Nat × Instr × Nat) := [(1806, .aload_n 3, 1)]
theorem KL_law_1806_260_d : ∀ z ∈ KL_law_1806_260, decode cL_law z.1 = .ok z.2 := by decide +kernel
def KL_law_1810_261 : List (Nat × Instr × Nat) := [(1810, .iload 6, 2), (1812, .i2l, 1), (1813, .lcmp, 1)]
theorem KL_law_1810_261_d : ∀ z ∈ KL_law_1810_261, decode cL_law z.1 = .ok z.2 := by decide +kernel
def KL_law_1819_262 : List (Nat × Instr × Nat) := [(1819, .goto 437, 3)]
theorem KL_law_1819_262_d : ∀ z ∈ KL_law_1819_262, decode cL_law z.1 = .ok z.2 := by decide +kernel
set_option maxHeartbeats 4000000 in
set_option maxRecDepth 100000 in
theorem lq23_0w0 {p : Program} {l : Launch} {e : Env} {s : State} {m : MethodId} {below : List Frame} {meth : Method} {c : Code} {Q : State → Prop} {D : va_G} {A : Nat → Prop} {b N : Nat} {xs : Nat → Int32} {adC adM : Nat → Nat} {g : Nat → ClassId} {ao k cells slots : Nat} {I : Nat → Nat → Int32} {L : Nat → Nat → Int64} {S : Nat → Nat} {n : Nat} {Z : Nat → Nat → Int32} {Y : Int64} {R : Nat → Nat} {on : Int64} {ov : Value} (HX : LX p l s m meth c A b N xs) (hk : 6 * k + 6 ≤ N) (hroom : cells + 60 ≤ 600002 ∧ slots + 1200 ≤ 7302232) (hI : Inv I L S n) (hR : R16 R) (hZ : Z 0 = fun j => nI (R j)) (a1 : Nat) (hl1 : 0 ≤ a1) (hu1 : a1 < 4) (e1 : xs (6 * k + 1) = nI a1) (e2 : xs (6 * k + 2) = nI 0) (kk : LK p l e s m below meth c Q D A b adC adM g ao k cells slots 2256) : GL p l e room_1 s m #[.ref b] below meth c Q D CL (TYS g) A 9 (WL adC adM g ao I L S Z Y on ov) cells slots 1753 [(0, .ref b), (1, .ref (adC 0)), (2, .ref (adM 0)), (3, .ref ao), (4, .int (nI (6 * k)))] [] := by
  obtain ⟨X, hSB, hAf, hNC, hfl, hX, hbl, hbA, hN⟩ := HX
  refine g_run X KL_law_1753_252 KL_law_1753_252_d 1759 [(0, .ref b), (1, .ref (adC 0)), (2, .ref (adM 0)), (3, .ref ao), (4, .int (nI (6 * k)))] [.int ((nI (6 * k)) + (nI 1)), .ref b, .ref (adC 0)] rfl ?_
  refine g_nm (lv' := [(0, .ref b), (1, .ref (adC 0)), (2, .ref (adM 0)), (3, .ref ao), (4, .int (nI (6 * k)))]) (st' := [.int (nI ((6 * k) + 1)), .ref b, .ref (adC 0)]) (by simp only [nI_add]) (by simp only [nI_add]) ?_
  refine g_sld X hX hbl hbA hN (v := nI a1) (by omega) e1 dL_law_1759 ?_
  refine g_run X KL_law_1760_253 KL_law_1760_253_d 1765 [(0, .ref b), (1, .ref (adC 0)), (2, .ref (adM 0)), (3, .ref ao), (4, .int (nI (6 * k)))] [.int ((nI (6 * k)) + (nI 2)), .ref b, .int (nI a1), .ref (adC 0)] rfl ?_
  refine g_nm (lv' := [(0, .ref b), (1, .ref (adC 0)), (2, .ref (adM 0)), (3, .ref ao), (4, .int (nI (6 * k)))]) (st' := [.int (nI ((6 * k) + 2)), .ref b, .int (nI a1), .ref (adC 0)]) (by simp only [nI_add]) (by simp only [nI_add]) ?_
  refine g_sld X hX hbl hbA hN (v := nI 0) (by omega) e2 dL_law_1765 ?_
  refine g_run X KL_law_1766_254 KL_law_1766_254_d 1767 [(0, .ref b), (1, .ref (adC 0)), (2, .ref (adM 0)), (3, .ref ao), (4, .int (nI (6 * k)))] [.ref ao, .int (nI 0), .int (nI a1), .ref (adC 0)] rfl ?_
  refine g_callSW X hSB hAf hNC (As := [.ref (adC 0), .int (nI a1), .int (nI 0), .ref ao]) (wr := WM adM g I L S Z Y) (n := 4) (hc_ofFrame l D g adC I L S a1 0 ao on ov (by first | assumption | omega) (by first | assumption | omega)) rfl w_749 w_747 w_748 w_0 (by decide +kernel) rfl ⟨Nat.le_of_ble_eq_true rfl, Nat.le_of_ble_eq_true rfl⟩ rfl rfl rfl (Nat.le_of_ble_eq_true rfl) ⟨by show cells + 0 ≤ 600002; omega, by show slots + 0 ≤ 7302232; omega⟩ dL_law_1767 (fun hu1 _ => ?_)
  refine g_af (ws' := (WC adC g I L S ++ ([OUT ao ((ofV I a1 0).toInt64) ov] : va_W)) ++ WM adM g I L S Z Y) (st' := [.int (nI 0)]) (cells' := cells + 0) (slots' := slots + 0) (pc' := 1770) rfl rfl rfl rfl rfl ?_
  refine g_run X KL_law_1770_255 KL_law_1770_255_d 1778 [(5, .int (nI 0)), (0, .ref b), (1, .ref (adC 0)), (2, .ref (adM 0)), (3, .ref ao), (4, .int (nI (6 * k)))] [.int ((nI (6 * k)) + (nI 1)), .ref b, .ref (adM 0)] rfl ?_
  refine g_nm (lv' := [(5, .int (nI 0)), (0, .ref b), (1, .ref (adC 0)), (2, .ref (adM 0)), (3, .ref ao), (4, .int (nI (6 * k)))]) (st' := [.int (nI ((6 * k) + 1)), .ref b, .ref (adM 0)]) (by simp only [nI_add]) (by simp only [nI_add]) ?_
  refine g_sld X hX hbl hbA hN (v := nI a1) (by omega) e1 dL_law_1778 ?_
  refine g_run X KL_law_1779_256 KL_law_1779_256_d 1784 [(5, .int (nI 0)), (0, .ref b), (1, .ref (adC 0)), (2, .ref (adM 0)), (3, .ref ao), (4, .int (nI (6 * k)))] [.int ((nI (6 * k)) + (nI 2)), .ref b, .int (nI a1), .ref (adM 0)] rfl ?_
  refine g_nm (lv' := [(5, .int (nI 0)), (0, .ref b), (1, .ref (adC 0)), (2, .ref (adM 0)), (3, .ref ao), (4, .int (nI (6 * k)))]) (st' := [.int (nI ((6 * k) + 2)), .ref b, .int (nI a1), .ref (adM 0)]) (by simp only [nI_add]) (by simp only [nI_add]) ?_
  refine g_sld X hX hbl hbA hN (v := nI 0) (by omega) e2 dL_law_1784 ?_
  refine g_perm (ws' := WM adM g I L S Z Y ++ (WC adC g I L S ++ ([OUT ao ((ofV I a1 0).toInt64) ov] : va_W))) (List.perm_append_comm (l₁ := WM adM g I L S Z Y) (l₂ := (WC adC g I L S ++ ([OUT ao ((ofV I a1 0).toInt64) ov] : va_W)))) ?_
  refine g_callV X hSB hAf srcW (hrc1 := (rfl : CL[8]? = some _)) (wm_mem (k := 0) (by decide)) rfl (As := [.int (nI a1), .int (nI 0)]) (wr := WC adC g I L S ++ ([OUT ao ((ofV I a1 0).toInt64) ov] : va_W)) (n := 2) (c_X9_ofFrame_w0 l D g adM I L S Z Y a1 (by first | assumption | omega)) rfl srcN hrdN w_1476 w_1473 w_1474 w_1475 w_6 (by decide +kernel) rfl ⟨Nat.le_of_ble_eq_true rfl, Nat.le_of_ble_eq_true rfl⟩ rfl rfl rfl (Nat.le_of_ble_eq_true rfl) ⟨by show cells + 0 + 0 ≤ 600002; omega, by show slots + 0 + 0 ≤ 7302232; omega⟩ dL_law_1785 (fun hu2 hp_hu2 => ?_)
  refine g_af (ws' := WM adM g I L S (u2 Z 3 0 (nI 0)) Y ++ (WC adC g I L S ++ ([OUT ao ((ofV I a1 0).toInt64) ov] : va_W))) (st' := [.int (ofV I a1 0)]) (cells' := cells + 0 + 0) (slots' := slots + 0 + 0) (pc' := 1788) rfl rfl rfl rfl rfl ?_
  refine g_run X KL_law_1788_257 KL_law_1788_257_d 1791 [(6, .int (ofV I a1 0)), (5, .int (nI 0)), (0, .ref b), (1, .ref (adC 0)), (2, .ref (adM 0)), (3, .ref ao), (4, .int (nI (6 * k)))] [.ref (adM 0)] rfl ?_
  refine g_callV X hSB hAf srcW (hrc1 := (rfl : CL[8]? = some _)) (wm_mem (k := 0) (by decide)) rfl (As := []) (wr := WC adC g I L S ++ ([OUT ao ((ofV I a1 0).toInt64) ov] : va_W)) (n := 0) (c_X9_thrown l D g adM I L S (u2 Z 3 0 (nI 0)) Y ) rfl srcN hrdN w_1250 w_1247 w_1248 w_1249 w_6 (by decide +kernel) rfl ⟨Nat.le_of_ble_eq_true rfl, Nat.le_of_ble_eq_true rfl⟩ rfl rfl rfl (Nat.le_of_ble_eq_true rfl) ⟨by show cells + 0 + 0 + 0 ≤ 600002; omega, by show slots + 0 + 0 + 0 ≤ 7302232; omega⟩ dL_law_1791 (fun hu3 hp_hu3 => ?_)
  refine g_af (ws' := WM adM g I L S (u2 Z 3 0 (nI 0)) Y ++ (WC adC g I L S ++ ([OUT ao ((ofV I a1 0).toInt64) ov] : va_W))) (st' := [.int ((u2 Z 3 0 (nI 0)) 3 0)]) (cells' := cells + 0 + 0 + 0) (slots' := slots + 0 + 0 + 0) (pc' := 1794) rfl rfl rfl rfl rfl ?_
  refine g_st (st' := [.int (nI 0)]) (by first | rfl | (simp [z4, u2]; done)) ?_
  refine g_run X KL_law_1794_258 KL_law_1794_258_d 1796 [(6, .int (ofV I a1 0)), (5, .int (nI 0)), (0, .ref b), (1, .ref (adC 0)), (2, .ref (adM 0)), (3, .ref ao), (4, .int (nI (6 * k)))] [.int (nI 0), .int (nI 0)] rfl ?_
  refine g_icmp_eq X 1801 dL_law_1796 (by decide) (fun hc4 => ?_) (fun hc4 => ?_)
  · refine g_run X KL_law_1801_259 KL_law_1801_259_d 1803 [(6, .int (ofV I a1 0)), (5, .int (nI 0)), (0, .ref b), (1, .ref (adC 0)), (2, .ref (adM 0)), (3, .ref ao), (4, .int (nI (6 * k)))] [.int (nI 0)] rfl ?_
    refine g_if_ne X 1819 dL_law_1803 (by decide) (fun hc5 => ?_) (fun hc5 => ?_)
    · rw [nz_eq (by omega)] at hc5; first | omega | (simp at hc5)
    · refine g_run X KL_law_1806_260 KL_law_1806_260_d 1807 [(6, .int (ofV I a1 0)), (5, .int (nI 0)), (0, .ref b), (1, .ref (adC 0)), (2, .ref (adM 0)), (3, .ref ao), (4, .int (nI (6 * k)))] [.ref ao] rfl ?_
      refine g_getN X srcW (host := "ChipfieldLaw") (v := .long ((ofV I a1 0).toInt64)) hinX6 rfl 0 (by decide) (nw_in n_489 rfl) rfl (List.mem_append_right _ (List.mem_append_right _ List.mem_cons_self)) rfl dL_law_1807 ?_
      refine g_run X KL_law_1810_261 KL_law_1810_261_d 1814 [(6, .int (ofV I a1 0)), (5, .int (nI 0)), (0, .ref b), (1, .ref (adC 0)), (2, .ref (adM 0)), (3, .ref ao), (4, .int (nI (6 * k)))] [.int (lg_cmp ((ofV I a1 0).toInt64) ((ofV I a1 0).toInt64))] rfl ?_
      refine g_if_eq X 1819 dL_law_1814 (by decide) (fun hc6 => ?_) (fun hc6 => ?_)
      · refine g_run X KL_law_1819_262 KL_law_1819_262_d 2256 [(6, .int (ofV I a1 0)), (5, .int (nI 0)), (0, .ref b), (1, .ref (adC 0)), (2, .ref (adM 0)), (3, .ref ao), (4, .int (nI (6 * k)))] [] rfl ?_
        refine g_lv (lv' := [(0, .ref b), (1, .ref (adC 0)), (2, .ref (adM 0)), (3, .ref ao), (4, .int (nI (6 * k)))]) (lsub_c 2 rfl (lsub_c 3 rfl (lsub_c 4 rfl (lsub_c 5 rfl (lsub_c 6 rfl (lsub_n)))))) ?_
        refine g_perm (ws' := (WC adC g I L S ++ ([OUT ao ((ofV I a1 0).toInt64) ov] : va_W)) ++ WM adM g I L S (u2 Z 3 0 (nI 0)) Y) (List.perm_append_comm (l₁ := (WC adC g I L S ++ ([OUT ao ((ofV I a1 0).toInt64) ov] : va_W))) (l₂ := WM adM g I L S (u2 Z 3 0 (nI 0)) Y)) ?_
        refine g_widen (k := cells + 60) (n := slots + 1200) (by omega) (by omega) ?_
        exact kk I L S n (u2 Z 3 0 (nI 0)) Y R ((ofV I a1 0).toInt64) ov (hI) (hR) (by first | exact hZ | (rw [zrow]; exact hZ) | (rw [zrow, zrow]; exact hZ))
      · exact absurd lg_self hc6
  · rw [nI_eq (by omega) (by omega)] at hc4; first | omega | (simp at hc4)

set_option maxHeartbeats 4000000 in
set_option maxRecDepth 100000 in
theorem lq23_0w1 {p : Program} {l : Launch} {e : Env} {s : State} {m : MethodId} {below : List Frame} {meth : Method} {c : Code} {Q : State → Prop} {D : va_G} {A : Nat → Prop} {b N : Nat} {xs : Nat → Int32} {adC adM : Nat → Nat} {g : Nat → ClassId} {ao k cells slots : Nat} {I : Nat → Nat → Int32} {L : Nat → Nat → Int64} {S : Nat → Nat} {n : Nat} {Z : Nat → Nat → Int32} {Y : Int64} {R : Nat → Nat} {on : Int64} {ov : Value} (HX : LX p l s m meth c A b N xs) (hk : 6 * k + 6 ≤ N) (hroom : cells + 60 ≤ 600002 ∧ slots + 1200 ≤ 7302232) (hI : Inv I L S n) (hR : R16 R) (hZ : Z 0 = fun j => nI (R j)) (a1 : Nat) (hl1 : 0 ≤ a1) (hu1 : a1 < 4) (e1 : xs (6 * k + 1) = nI a1) (e2 : xs (6 * k + 2) = nI 1) (kk : LK p l e s m below meth c Q D A b adC adM g ao k cells slots 2256) : GL p l e room_1 s m #[.ref b] below meth c Q D CL (TYS g) A 9 (WL adC adM g ao I L S Z Y on ov) cells slots 1753 [(0, .ref b), (1, .ref (adC 0)), (2, .ref (adM 0)), (3, .ref ao), (4, .int (nI (6 * k)))] [] := by
  obtain ⟨X, hSB, hAf, hNC, hfl, hX, hbl, hbA, hN⟩ := HX
  refine g_run X KL_law_1753_252 KL_law_1753_252_d 1759 [(0, .ref b), (1, .ref (adC 0)), (2, .ref (adM 0)), (3, .ref ao), (4, .int (nI (6 * k)))] [.int ((nI (6 * k)) + (nI 1)), .ref b, .ref (adC 0)] rfl ?_
  refine g_nm (lv' := [(0, .ref b), (1, .ref (adC 0)), (2, .ref (adM 0)), (3, .ref ao), (4, .int (nI (6 * k)))]) (st' := [.int (nI ((6 * k) + 1)), .ref b, .ref (adC 0)]) (by simp only [nI_add]) (by simp only [nI_add]) ?_
  refine g_sld X hX hbl hbA hN (v := nI a1) (by omega) e1 dL_law_1759 ?_
  refine g_run X KL_law_1760_253 KL_law_1760_253_d 1765 [(0, .ref b), (1, .ref (adC 0)), (2, .ref (adM 0)), (3, .ref ao), (4, .int (nI (6 * k)))] [.int ((nI (6 * k)) + (nI 2)), .ref b, .int (nI a1), .ref (adC 0)] rfl ?_
  refine g_nm (lv' := [(0, .ref b), (1, .ref (adC 0)), (2, .ref (adM 0)), (3, .ref ao), (4, .int (nI (6 * k)))]) (st' := [.int (nI ((6 * k) + 2)), .ref b, .int (nI a1), .ref (adC 0)]) (by simp only [nI_add]) (by simp only [nI_add]) ?_
  refine g_sld X hX hbl hbA hN (v := nI 1) (by omega) e2 dL_law_1765 ?_
  refine g_run X KL_law_1766_254 KL_law_1766_254_d 1767 [(0, .ref b), (1, .ref (adC 0)), (2, .ref (adM 0)), (3, .ref ao), (4, .int (nI (6 * k)))] [.ref ao, .int (nI 1), .int (nI a1), .ref (adC 0)] rfl ?_
  refine g_callSW X hSB hAf hNC (As := [.ref (adC 0), .int (nI a1), .int (nI 1), .ref ao]) (wr := WM adM g I L S Z Y) (n := 4) (hc_ofFrame l D g adC I L S a1 1 ao on ov (by first | assumption | omega) (by first | assumption | omega)) rfl w_749 w_747 w_748 w_0 (by decide +kernel) rfl ⟨Nat.le_of_ble_eq_true rfl, Nat.le_of_ble_eq_true rfl⟩ rfl rfl rfl (Nat.le_of_ble_eq_true rfl) ⟨by show cells + 0 ≤ 600002; omega, by show slots + 0 ≤ 7302232; omega⟩ dL_law_1767 (fun hu1 _ => ?_)
  refine g_af (ws' := (WC adC g I L S ++ ([OUT ao ((ofV I a1 1).toInt64) ov] : va_W)) ++ WM adM g I L S Z Y) (st' := [.int (nI 0)]) (cells' := cells + 0) (slots' := slots + 0) (pc' := 1770) rfl rfl rfl rfl rfl ?_
  refine g_run X KL_law_1770_255 KL_law_1770_255_d 1778 [(5, .int (nI 0)), (0, .ref b), (1, .ref (adC 0)), (2, .ref (adM 0)), (3, .ref ao), (4, .int (nI (6 * k)))] [.int ((nI (6 * k)) + (nI 1)), .ref b, .ref (adM 0)] rfl ?_
  refine g_nm (lv' := [(5, .int (nI 0)), (0, .ref b), (1, .ref (adC 0)), (2, .ref (adM 0)), (3, .ref ao), (4, .int (nI (6 * k)))]) (st' := [.int (nI ((6 * k) + 1)), .ref b, .ref (adM 0)]) (by simp only [nI_add]) (by simp only [nI_add]) ?_
  refine g_sld X hX hbl hbA hN (v := nI a1) (by omega) e1 dL_law_1778 ?_
  refine g_run X KL_law_1779_256 KL_law_1779_256_d 1784 [(5, .int (nI 0)), (0, .ref b), (1, .ref (adC 0)), (2, .ref (adM 0)), (3, .ref ao), (4, .int (nI (6 * k)))] [.int ((nI (6 * k)) + (nI 2)), .ref b, .int (nI a1), .ref (adM 0)] rfl ?_
  refine g_nm (lv' := [(5, .int (nI 0)), (0, .ref b), (1, .ref (adC 0)), (2, .ref (adM 0)), (3, .ref ao), (4, .int (nI (6 * k)))]) (st' := [.int (nI ((6 * k) + 2)), .ref b, .int (nI a1), .ref (adM 0)]) (by simp only [nI_add]) (by simp only [nI_add]) ?_
  refine g_sld X hX hbl hbA hN (v := nI 1) (by omega) e2 dL_law_1784 ?_
  refine g_perm (ws' := WM adM g I L S Z Y ++ (WC adC g I L S ++ ([OUT ao ((ofV I a1 1).toInt64) ov] : va_W))) (List.perm_append_comm (l₁ := WM adM g I L S Z Y) (l₂ := (WC adC g I L S ++ ([OUT ao ((ofV I a1 1).toInt64) ov] : va_W)))) ?_
  refine g_callV X hSB hAf srcW (hrc1 := (rfl : CL[8]? = some _)) (wm_mem (k := 0) (by decide)) rfl (As := [.int (nI a1), .int (nI 1)]) (wr := WC adC g I L S ++ ([OUT ao ((ofV I a1 1).toInt64) ov] : va_W)) (n := 2) (c_X9_ofFrame_w1 l D g adM I L S Z Y a1 (by first | assumption | omega)) rfl srcN hrdN w_1476 w_1473 w_1474 w_1475 w_6 (by decide +kernel) rfl ⟨Nat.le_of_ble_eq_true rfl, Nat.le_of_ble_eq_true rfl⟩ rfl rfl rfl (Nat.le_of_ble_eq_true rfl) ⟨by show cells + 0 + 0 ≤ 600002; omega, by show slots + 0 + 0 ≤ 7302232; omega⟩ dL_law_1785 (fun hu2 hp_hu2 => ?_)
  refine g_af (ws' := WM adM g I L S (u2 Z 3 0 (nI 0)) Y ++ (WC adC g I L S ++ ([OUT ao ((ofV I a1 1).toInt64) ov] : va_W))) (st' := [.int (ofV I a1 1)]) (cells' := cells + 0 + 0) (slots' := slots + 0 + 0) (pc' := 1788) rfl rfl rfl rfl rfl ?_
  refine g_run X KL_law_1788_257 KL_law_1788_257_d 1791 [(6, .int (ofV I a1 1)), (5, .int (nI 0)), (0, .ref b), (1, .ref (adC 0)), (2, .ref (adM 0)), (3, .ref ao), (4, .int (nI (6 * k)))] [.ref (adM 0)] rfl ?_
  refine g_callV X hSB hAf srcW (hrc1 := (rfl : CL[8]? = some _)) (wm_mem (k := 0) (by decide)) rfl (As := []) (wr := WC adC g I L S ++ ([OUT ao ((ofV I a1 1).toInt64) ov] : va_W)) (n := 0) (c_X9_thrown l D g adM I L S (u2 Z 3 0 (nI 0)) Y ) rfl srcN hrdN w_1250 w_1247 w_1248 w_1249 w_6 (by decide +kernel) rfl ⟨Nat.le_of_ble_eq_true rfl, Nat.le_of_ble_eq_true rfl⟩ rfl rfl rfl (Nat.le_of_ble_eq_true rfl) ⟨by show cells + 0 + 0 + 0 ≤ 600002; omega, by show slots + 0 + 0 + 0 ≤ 7302232; omega⟩ dL_law_1791 (fun hu3 hp_hu3 => ?_)
  refine g_af (ws' := WM adM g I L S (u2 Z 3 0 (nI 0)) Y ++ (WC adC g I L S ++ ([OUT ao ((ofV I a1 1).toInt64) ov] : va_W))) (st' := [.int ((u2 Z 3 0 (nI 0)) 3 0)]) (cells' := cells + 0 + 0 + 0) (slots' := slots + 0 + 0 + 0) (pc' := 1794) rfl rfl rfl rfl rfl ?_
  refine g_st (st' := [.int (nI 0)]) (by first | rfl | (simp [z4, u2]; done)) ?_
  refine g_run X KL_law_1794_258 KL_law_1794_258_d 1796 [(6, .int (ofV I a1 1)), (5, .int (nI 0)), (0, .ref b), (1, .ref (adC 0)), (2, .ref (adM 0)), (3, .ref ao), (4, .int (nI (6 * k)))] [.int (nI 0), .int (nI 0)] rfl ?_
  refine g_icmp_eq X 1801 dL_law_1796 (by decide) (fun hc4 => ?_) (fun hc4 => ?_)
  · refine g_run X KL_law_1801_259 KL_law_1801_259_d 1803 [(6, .int (ofV I a1 1)), (5, .int (nI 0)), (0, .ref b), (1, .ref (adC 0)), (2, .ref (adM 0)), (3, .ref ao), (4, .int (nI (6 * k)))] [.int (nI 0)] rfl ?_
    refine g_if_ne X 1819 dL_law_1803 (by decide) (fun hc5 => ?_) (fun hc5 => ?_)
    · rw [nz_eq (by omega)] at hc5; first | omega | (simp at hc5)
    · refine g_run X KL_law_1806_260 KL_law_1806_260_d 1807 [(6, .int (ofV I a1 1)), (5, .int (nI 0)), (0, .ref b), (1, .ref (adC 0)), (2, .ref (adM 0)), (3, .ref ao), (4, .int (nI (6 * k)))] [.ref ao] rfl ?_
      refine g_getN X srcW (host := "ChipfieldLaw") (v := .long ((ofV I a1 1).toInt64)) hinX6 rfl 0 (by decide) (nw_in n_489 rfl) rfl (List.mem_append_right _ (List.mem_append_right _ List.mem_cons_self)) rfl dL_law_1807 ?_
      refine g_run X KL_law_1810_261 KL_law_1810_261_d 1814 [(6, .int (ofV I a1 1)), (5, .int (nI 0)), (0, .ref b), (1, .ref (adC 0)), (2, .ref (adM 0)), (3, .ref ao), (4, .int (nI (6 * k)))] [.int (lg_cmp ((ofV I a1 1).toInt64) ((ofV I a1 1).toInt64))] rfl ?_
      refine g_if_eq X 1819 dL_law_1814 (by decide) (fun hc6 => ?_) (fun hc6 => ?_)
      · refine g_run X KL_law_1819_262 KL_law_1819_262_d 2256 [(6, .int (ofV I a1 1)), (5, .int (nI 0)), (0, .ref b), (1, .ref (adC 0)), (2, .ref (adM 0)), (3, .ref ao), (4, .int (nI (6 * k)))] [] rfl ?_
        refine g_lv (lv' := [(0, .ref b), (1, .ref (adC 0)), (2, .ref (adM 0)), (3, .ref ao), (4, .int (nI (6 * k)))]) (lsub_c 2 rfl (lsub_c 3 rfl (lsub_c 4 rfl (lsub_c 5 rfl (lsub_c 6 rfl (lsub_n)))))) ?_
        refine g_perm (ws' := (WC adC g I L S ++ ([OUT ao ((ofV I a1 1).toInt64) ov] : va_W)) ++ WM adM g I L S (u2 Z 3 0 (nI 0)) Y) (List.perm_append_comm (l₁ := (WC adC g I L S ++ ([OUT ao ((ofV I a1 1).toInt64) ov] : va_W))) (l₂ := WM adM g I L S (u2 Z 3 0 (nI 0)) Y)) ?_
        refine g_widen (k := cells + 60) (n := slots + 1200) (by omega) (by omega) ?_
        exact kk I L S n (u2 Z 3 0 (nI 0)) Y R ((ofV I a1 1).toInt64) ov (hI) (hR) (by first | exact hZ | (rw [zrow]; exact hZ) | (rw [zrow, zrow]; exact hZ))
      · exact absurd lg_self hc6
  · rw [nI_eq (by omega) (by omega)] at hc4; first | omega | (simp at hc4)

set_option maxHeartbeats 4000000 in
set_option maxRecDepth 100000 in
theorem lq23_0w2 {p : Program} {l : Launch} {e : Env} {s : State} {m : MethodId} {below : List Frame} {meth : Method} {c : Code} {Q : State → Prop} {D : va_G} {A : Nat → Prop} {b N : Nat} {xs : Nat → Int32} {adC adM : Nat → Nat} {g : Nat → ClassId} {ao k cells slots : Nat} {I : Nat → Nat → Int32} {L : Nat → Nat → Int64} {S : Nat → Nat} {n : Nat} {Z : Nat → Nat → Int32} {Y : Int64} {R : Nat → Nat} {on : Int64} {ov : Value} (HX : LX p l s m meth c A b N xs) (hk : 6 * k + 6 ≤ N) (hroom : cells + 60 ≤ 600002 ∧ slots + 1200 ≤ 7302232) (hI : Inv I L S n) (hR : R16 R) (hZ : Z 0 = fun j => nI (R j)) (a1 : Nat) (hl1 : 0 ≤ a1) (hu1 : a1 < 4) (e1 : xs (6 * k + 1) = nI a1) (e2 : xs (6 * k + 2) = nI 2) (kk : LK p l e s m below meth c Q D A b adC adM g ao k cells slots 2256) : GL p l e room_1 s m #[.ref b] below meth c Q D CL (TYS g) A 9 (WL adC adM g ao I L S Z Y on ov) cells slots 1753 [(0, .ref b), (1, .ref (adC 0)), (2, .ref (adM 0)), (3, .ref ao), (4, .int (nI (6 * k)))] [] := by
  obtain ⟨X, hSB, hAf, hNC, hfl, hX, hbl, hbA, hN⟩ := HX
  refine g_run X KL_law_1753_252 KL_law_1753_252_d 1759 [(0, .ref b), (1, .ref (adC 0)), (2, .ref (adM 0)), (3, .ref ao), (4, .int (nI (6 * k)))] [.int ((nI (6 * k)) + (nI 1)), .ref b, .ref (adC 0)] rfl ?_
  refine g_nm (lv' := [(0, .ref b), (1, .ref (adC 0)), (2, .ref (adM 0)), (3, .ref ao), (4, .int (nI (6 * k)))]) (st' := [.int (nI ((6 * k) + 1)), .ref b, .ref (adC 0)]) (by simp only [nI_add]) (by simp only [nI_add]) ?_
  refine g_sld X hX hbl hbA hN (v := nI a1) (by omega) e1 dL_law_1759 ?_
  refine g_run X KL_law_1760_253 KL_law_1760_253_d 1765 [(0, .ref b), (1, .ref (adC 0)), (2, .ref (adM 0)), (3, .ref ao), (4, .int (nI (6 * k)))] [.int ((nI (6 * k)) + (nI 2)), .ref b, .int (nI a1), .ref (adC 0)] rfl ?_
  refine g_nm (lv' := [(0, .ref b), (1, .ref (adC 0)), (2, .ref (adM 0)), (3, .ref ao), (4, .int (nI (6 * k)))]) (st' := [.int (nI ((6 * k) + 2)), .ref b, .int (nI a1), .ref (adC 0)]) (by simp only [nI_add]) (by simp only [nI_add]) ?_
  refine g_sld X hX hbl hbA hN (v := nI 2) (by omega) e2 dL_law_1765 ?_
  refine g_run X KL_law_1766_254 KL_law_1766_254_d 1767 [(0, .ref b), (1, .ref (adC 0)), (2, .ref (adM 0)), (3, .ref ao), (4, .int (nI (6 * k)))] [.ref ao, .int (nI 2), .int (nI a1), .ref (adC 0)] rfl ?_
  refine g_callSW X hSB hAf hNC (As := [.ref (adC 0), .int (nI a1), .int (nI 2), .ref ao]) (wr := WM adM g I L S Z Y) (n := 4) (hc_ofFrame l D g adC I L S a1 2 ao on ov (by first | assumption | omega) (by first | assumption | omega)) rfl w_749 w_747 w_748 w_0 (by decide +kernel) rfl ⟨Nat.le_of_ble_eq_true rfl, Nat.le_of_ble_eq_true rfl⟩ rfl rfl rfl (Nat.le_of_ble_eq_true rfl) ⟨by show cells + 0 ≤ 600002; omega, by show slots + 0 ≤ 7302232; omega⟩ dL_law_1767 (fun hu1 _ => ?_)
  refine g_af (ws' := (WC adC g I L S ++ ([OUT ao ((ofV I a1 2).toInt64) ov] : va_W)) ++ WM adM g I L S Z Y) (st' := [.int (nI 0)]) (cells' := cells + 0) (slots' := slots + 0) (pc' := 1770) rfl rfl rfl rfl rfl ?_
  refine g_run X KL_law_1770_255 KL_law_1770_255_d 1778 [(5, .int (nI 0)), (0, .ref b), (1, .ref (adC 0)), (2, .ref (adM 0)), (3, .ref ao), (4, .int (nI (6 * k)))] [.int ((nI (6 * k)) + (nI 1)), .ref b, .ref (adM 0)] rfl ?_
  refine g_nm (lv' := [(5, .int (nI 0)), (0, .ref b), (1, .ref (adC 0)), (2, .ref (adM 0)), (3, .ref ao), (4, .int (nI (6 * k)))]) (st' := [.int (nI ((6 * k) + 1)), .ref b, .ref (adM 0)]) (by simp only [nI_add]) (by simp only [nI_add]) ?_
  refine g_sld X hX hbl hbA hN (v := nI a1) (by omega) e1 dL_law_1778 ?_
  refine g_run X KL_law_1779_256 KL_law_1779_256_d 1784 [(5, .int (nI 0)), (0, .ref b), (1, .ref (adC 0)), (2, .ref (adM 0)), (3, .ref ao), (4, .int (nI (6 * k)))] [.int ((nI (6 * k)) + (nI 2)), .ref b, .int (nI a1), .ref (adM 0)] rfl ?_
  refine g_nm (lv' := [(5, .int (nI 0)), (0, .ref b), (1, .ref (adC 0)), (2, .ref (adM 0)), (3, .ref ao), (4, .int (nI (6 * k)))]) (st' := [.int (nI ((6 * k) + 2)), .ref b, .int (nI a1), .ref (adM 0)]) (by simp only [nI_add]) (by simp only [nI_add]) ?_
  refine g_sld X hX hbl hbA hN (v := nI 2) (by omega) e2 dL_law_1784 ?_
  refine g_perm (ws' := WM adM g I L S Z Y ++ (WC adC g I L S ++ ([OUT ao ((ofV I a1 2).toInt64) ov] : va_W))) (List.perm_append_comm (l₁ := WM adM g I L S Z Y) (l₂ := (WC adC g I L S ++ ([OUT ao ((ofV I a1 2).toInt64) ov] : va_W)))) ?_
  refine g_callV X hSB hAf srcW (hrc1 := (rfl : CL[8]? = some _)) (wm_mem (k := 0) (by decide)) rfl (As := [.int (nI a1), .int (nI 2)]) (wr := WC adC g I L S ++ ([OUT ao ((ofV I a1 2).toInt64) ov] : va_W)) (n := 2) (c_X9_ofFrame_w2 l D g adM I L S Z Y a1 (by first | assumption | omega)) rfl srcN hrdN w_1476 w_1473 w_1474 w_1475 w_6 (by decide +kernel) rfl ⟨Nat.le_of_ble_eq_true rfl, Nat.le_of_ble_eq_true rfl⟩ rfl rfl rfl (Nat.le_of_ble_eq_true rfl) ⟨by show cells + 0 + 0 ≤ 600002; omega, by show slots + 0 + 0 ≤ 7302232; omega⟩ dL_law_1785 (fun hu2 hp_hu2 => ?_)
  refine g_af (ws' := WM adM g I L S (u2 Z 3 0 (nI 0)) Y ++ (WC adC g I L S ++ ([OUT ao ((ofV I a1 2).toInt64) ov] : va_W))) (st' := [.int (ofV I a1 2)]) (cells' := cells + 0 + 0) (slots' := slots + 0 + 0) (pc' := 1788) rfl rfl rfl rfl rfl ?_
  refine g_run X KL_law_1788_257 KL_law_1788_257_d 1791 [(6, .int (ofV I a1 2)), (5, .int (nI 0)), (0, .ref b), (1, .ref (adC 0)), (2, .ref (adM 0)), (3, .ref ao), (4, .int (nI (6 * k)))] [.ref (adM 0)] rfl ?_
  refine g_callV X hSB hAf srcW (hrc1 := (rfl : CL[8]? = some _)) (wm_mem (k := 0) (by decide)) rfl (As := []) (wr := WC adC g I L S ++ ([OUT ao ((ofV I a1 2).toInt64) ov] : va_W)) (n := 0) (c_X9_thrown l D g adM I L S (u2 Z 3 0 (nI 0)) Y ) rfl srcN hrdN w_1250 w_1247 w_1248 w_1249 w_6 (by decide +kernel) rfl ⟨Nat.le_of_ble_eq_true rfl, Nat.le_of_ble_eq_true rfl⟩ rfl rfl rfl (Nat.le_of_ble_eq_true rfl) ⟨by show cells + 0 + 0 + 0 ≤ 600002; omega, by show slots + 0 + 0 + 0 ≤ 7302232; omega⟩ dL_law_1791 (fun hu3 hp_hu3 => ?_)
  refine g_af (ws' := WM adM g I L S (u2 Z 3 0 (nI 0)) Y ++ (WC adC g I L S ++ ([OUT ao ((ofV I a1 2).toInt64) ov] : va_W))) (st' := [.int ((u2 Z 3 0 (nI 0)) 3 0)]) (cells' := cells + 0 + 0 + 0) (slots' := slots + 0 + 0 + 0) (pc' := 1794) rfl rfl rfl rfl rfl ?_
  refine g_st (st' := [.int (nI 0)]) (by first | rfl | (simp [z4, u2]; done)) ?_
  refine g_run X KL_law_1794_258 KL_law_1794_258_d 1796 [(6, .int (ofV I a1 2)), (5, .int (nI 0)), (0, .ref b), (1, .ref (adC 0)), (2, .ref (adM 0)), (3, .ref ao), (4, .int (nI (6 * k)))] [.int (nI 0), .int (nI 0)] rfl ?_
  refine g_icmp_eq X 1801 dL_law_1796 (by decide) (fun hc4 => ?_) (fun hc4 => ?_)
  · refine g_run X KL_law_1801_259 KL_law_1801_259_d 1803 [(6, .int (ofV I a1 2)), (5, .int (nI 0)), (0, .ref b), (1, .ref (adC 0)), (2, .ref (adM 0)), (3, .ref ao), (4, .int (nI (6 * k)))] [.int (nI 0)] rfl ?_
    refine g_if_ne X 1819 dL_law_1803 (by decide) (fun hc5 => ?_) (fun hc5 => ?_)
    · rw [nz_eq (by omega)] at hc5; first | omega | (simp at hc5)
    · refine g_run X KL_law_1806_260 KL_law_1806_260_d 1807 [(6, .int (ofV I a1 2)), (5, .int (nI 0)), (0, .ref b), (1, .ref (adC 0)), (2, .ref (adM 0)), (3, .ref ao), (4, .int (nI (6 * k)))] [.ref ao] rfl ?_
      refine g_getN X srcW (host := "ChipfieldLaw") (v := .long ((ofV I a1 2).toInt64)) hinX6 rfl 0 (by decide) (nw_in n_489 rfl) rfl (List.mem_append_right _ (List.mem_append_right _ List.mem_cons_self)) rfl dL_law_1807 ?_
      refine g_run X KL_law_1810_261 KL_law_1810_261_d 1814 [(6, .int (ofV I a1 2)), (5, .int (nI 0)), (0, .ref b), (1, .ref (adC 0)), (2, .ref (adM 0)), (3, .ref ao), (4, .int (nI (6 * k)))] [.int (lg_cmp ((ofV I a1 2).toInt64) ((ofV I a1 2).toInt64))] rfl ?_
      refine g_if_eq X 1819 dL_law_1814 (by decide) (fun hc6 => ?_) (fun hc6 => ?_)
      · refine g_run X KL_law_1819_262 KL_law_1819_262_d 2256 [(6, .int (ofV I a1 2)), (5, .int (nI 0)), (0, .ref b), (1, .ref (adC 0)), (2, .ref (adM 0)), (3, .ref ao), (4, .int (nI (6 * k)))] [] rfl ?_
        refine g_lv (lv' := [(0, .ref b), (1, .ref (adC 0)), (2, .ref (adM 0)), (3, .ref ao), (4, .int (nI (6 * k)))]) (lsub_c 2 rfl (lsub_c 3 rfl (lsub_c 4 rfl (lsub_c 5 rfl (lsub_c 6 rfl (lsub_n)))))) ?_
        refine g_perm (ws' := (WC adC g I L S ++ ([OUT ao ((ofV I a1 2).toInt64) ov] : va_W)) ++ WM adM g I L S (u2 Z 3 0 (nI 0)) Y) (List.perm_append_comm (l₁ := (WC adC g I L S ++ ([OUT ao ((ofV I a1 2).toInt64) ov] : va_W))) (l₂ := WM adM g I L S (u2 Z 3 0 (nI 0)) Y)) ?_
        refine g_widen (k := cells + 60) (n := slots + 1200) (by omega) (by omega) ?_
        exact kk I L S n (u2 Z 3 0 (nI 0)) Y R ((ofV I a1 2).toInt64) ov (hI) (hR) (by first | exact hZ | (rw [zrow]; exact hZ) | (rw [zrow, zrow]; exact hZ))
      · exact absurd lg_self hc6
  · rw [nI_eq (by omega) (by omega)] at hc4; first | omega | (simp at hc4)

set_option maxHeartbeats 4000000 in
set_option maxRecDepth 100000 in
theorem lq23_2 {p : Program} {l : Launch} {e : Env} {s : State} {m : MethodId} {below : List Frame} {meth : Method} {c : Code} {Q : State → Prop} {D : va_G} {A : Nat → Prop} {b N : Nat} {xs : Nat → Int32} {adC adM : Nat → Nat} {g : Nat → ClassId} {ao k cells slots : Nat} {I : Nat → Nat → Int32} {L : Nat → Nat → Int64} {S : Nat → Nat} {n : Nat} {Z : Nat → Nat → Int32} {Y : Int64} {R : Nat → Nat} {on : Int64} {ov : Value} (HX : LX p l s m meth c A b N xs) (hk : 6 * k + 6 ≤ N) (hroom : cells + 60 ≤ 600002 ∧ slots + 1200 ≤ 7302232) (hI : Inv I L S n) (hR : R16 R) (hZ : Z 0 = fun j => nI (R j)) (a1 : Nat) (hl1 : 0 ≤ a1) (hu1 : a1 < 4) (e1 : xs (6 * k + 1) = nI a1) (hw : (xs (6 * k + 2)).toInt < (0 : Nat) ∨ ((3 : Nat) : Int) ≤ (xs (6 * k + 2)).toInt) (kk : LK p l e s m below meth c Q D A b adC adM g ao k cells slots 2256) : GL p l e room_1 s m #[.ref b] below meth c Q D CL (TYS g) A 9 (WL adC adM g ao I L S Z Y on ov) cells slots 1753 [(0, .ref b), (1, .ref (adC 0)), (2, .ref (adM 0)), (3, .ref ao), (4, .int (nI (6 * k)))] [] := by
  obtain ⟨X, hSB, hAf, hNC, hfl, hX, hbl, hbA, hN⟩ := HX
  refine g_run X KL_law_1753_252 KL_law_1753_252_d 1759 [(0, .ref b), (1, .ref (adC 0)), (2, .ref (adM 0)), (3, .ref ao), (4, .int (nI (6 * k)))] [.int ((nI (6 * k)) + (nI 1)), .ref b, .ref (adC 0)] rfl ?_
  refine g_nm (lv' := [(0, .ref b), (1, .ref (adC 0)), (2, .ref (adM 0)), (3, .ref ao), (4, .int (nI (6 * k)))]) (st' := [.int (nI ((6 * k) + 1)), .ref b, .ref (adC 0)]) (by simp only [nI_add]) (by simp only [nI_add]) ?_
  refine g_sld X hX hbl hbA hN (v := nI a1) (by omega) e1 dL_law_1759 ?_
  refine g_run X KL_law_1760_253 KL_law_1760_253_d 1765 [(0, .ref b), (1, .ref (adC 0)), (2, .ref (adM 0)), (3, .ref ao), (4, .int (nI (6 * k)))] [.int ((nI (6 * k)) + (nI 2)), .ref b, .int (nI a1), .ref (adC 0)] rfl ?_
  refine g_nm (lv' := [(0, .ref b), (1, .ref (adC 0)), (2, .ref (adM 0)), (3, .ref ao), (4, .int (nI (6 * k)))]) (st' := [.int (nI ((6 * k) + 2)), .ref b, .int (nI a1), .ref (adC 0)]) (by simp only [nI_add]) (by simp only [nI_add]) ?_
  refine g_sld X hX hbl hbA hN (v := xs (6 * k + 2)) (by omega) rfl dL_law_1765 ?_
  refine g_run X KL_law_1766_254 KL_law_1766_254_d 1767 [(0, .ref b), (1, .ref (adC 0)), (2, .ref (adM 0)), (3, .ref ao), (4, .int (nI (6 * k)))] [.ref ao, .int (xs (6 * k + 2)), .int (nI a1), .ref (adC 0)] rfl ?_
  refine g_callSW X hSB hAf hNC (As := [.ref (adC 0), .int (nI a1), .int (xs (6 * k + 2)), .ref ao]) (wr := WM adM g I L S Z Y) (n := 4) (hx_ofFrame_2 l hfl D g adC I L S a1 (xs (6 * k + 2)) ao on ov (by first | assumption | omega) (out_ti hw)) rfl w_749 w_747 w_748 w_0 (by decide +kernel) rfl ⟨Nat.le_of_ble_eq_true rfl, Nat.le_of_ble_eq_true rfl⟩ rfl rfl rfl (Nat.le_of_ble_eq_true rfl) ⟨by show cells + 1 ≤ 600002; omega, by show slots + 6 ≤ 7302232; omega⟩ dL_law_1767 (fun hu1 _ => ?_)
  refine g_af (ws' := (WC adC g I L S ++ ([OUT ao on ov] : va_W)) ++ WM adM g I L S Z Y) (st' := [.int (nI 2)]) (cells' := cells + 1) (slots' := slots + 6) (pc' := 1770) rfl rfl rfl rfl rfl ?_
  refine g_run X KL_law_1770_255 KL_law_1770_255_d 1778 [(5, .int (nI 2)), (0, .ref b), (1, .ref (adC 0)), (2, .ref (adM 0)), (3, .ref ao), (4, .int (nI (6 * k)))] [.int ((nI (6 * k)) + (nI 1)), .ref b, .ref (adM 0)] rfl ?_
  refine g_nm (lv' := [(5, .int (nI 2)), (0, .ref b), (1, .ref (adC 0)), (2, .ref (adM 0)), (3, .ref ao), (4, .int (nI (6 * k)))]) (st' := [.int (nI ((6 * k) + 1)), .ref b, .ref (adM 0)]) (by simp only [nI_add]) (by simp only [nI_add]) ?_
  refine g_sld X hX hbl hbA hN (v := nI a1) (by omega) e1 dL_law_1778 ?_
  refine g_run X KL_law_1779_256 KL_law_1779_256_d 1784 [(5, .int (nI 2)), (0, .ref b), (1, .ref (adC 0)), (2, .ref (adM 0)), (3, .ref ao), (4, .int (nI (6 * k)))] [.int ((nI (6 * k)) + (nI 2)), .ref b, .int (nI a1), .ref (adM 0)] rfl ?_
  refine g_nm (lv' := [(5, .int (nI 2)), (0, .ref b), (1, .ref (adC 0)), (2, .ref (adM 0)), (3, .ref ao), (4, .int (nI (6 * k)))]) (st' := [.int (nI ((6 * k) + 2)), .ref b, .int (nI a1), .ref (adM 0)]) (by simp only [nI_add]) (by simp only [nI_add]) ?_
  refine g_sld X hX hbl hbA hN (v := xs (6 * k + 2)) (by omega) rfl dL_law_1784 ?_
  refine g_perm (ws' := WM adM g I L S Z Y ++ (WC adC g I L S ++ ([OUT ao on ov] : va_W))) (List.perm_append_comm (l₁ := WM adM g I L S Z Y) (l₂ := (WC adC g I L S ++ ([OUT ao on ov] : va_W)))) ?_
  refine g_callV X hSB hAf srcW (hrc1 := (rfl : CL[8]? = some _)) (wm_mem (k := 0) (by decide)) rfl (As := [.int (nI a1), .int (xs (6 * k + 2))]) (wr := WC adC g I L S ++ ([OUT ao on ov] : va_W)) (n := 2) (c_X9_ofFrame_2 l D g adM I L S Z Y a1 (xs (6 * k + 2)) (by first | assumption | omega) (out_lo (by decide) (by decide) hw)) rfl srcN hrdN w_1476 w_1473 w_1474 w_1475 w_6 (by decide +kernel) rfl ⟨Nat.le_of_ble_eq_true rfl, Nat.le_of_ble_eq_true rfl⟩ rfl rfl rfl (Nat.le_of_ble_eq_true rfl) ⟨by show cells + 1 + 0 ≤ 600002; omega, by show slots + 6 + 0 ≤ 7302232; omega⟩ dL_law_1785 (fun hu2 hp_hu2 => ?_)
  refine g_af (ws' := WM adM g I L S (u2 (u2 Z 3 0 (nI 0)) 3 0 (nI 2)) Y ++ (WC adC g I L S ++ ([OUT ao on ov] : va_W))) (st' := [.int (nI 0)]) (cells' := cells + 1 + 0) (slots' := slots + 6 + 0) (pc' := 1788) rfl rfl rfl rfl rfl ?_
  refine g_run X KL_law_1788_257 KL_law_1788_257_d 1791 [(6, .int (nI 0)), (5, .int (nI 2)), (0, .ref b), (1, .ref (adC 0)), (2, .ref (adM 0)), (3, .ref ao), (4, .int (nI (6 * k)))] [.ref (adM 0)] rfl ?_
  refine g_callV X hSB hAf srcW (hrc1 := (rfl : CL[8]? = some _)) (wm_mem (k := 0) (by decide)) rfl (As := []) (wr := WC adC g I L S ++ ([OUT ao on ov] : va_W)) (n := 0) (c_X9_thrown l D g adM I L S (u2 (u2 Z 3 0 (nI 0)) 3 0 (nI 2)) Y ) rfl srcN hrdN w_1250 w_1247 w_1248 w_1249 w_6 (by decide +kernel) rfl ⟨Nat.le_of_ble_eq_true rfl, Nat.le_of_ble_eq_true rfl⟩ rfl rfl rfl (Nat.le_of_ble_eq_true rfl) ⟨by show cells + 1 + 0 + 0 ≤ 600002; omega, by show slots + 6 + 0 + 0 ≤ 7302232; omega⟩ dL_law_1791 (fun hu3 hp_hu3 => ?_)
  refine g_af (ws' := WM adM g I L S (u2 (u2 Z 3 0 (nI 0)) 3 0 (nI 2)) Y ++ (WC adC g I L S ++ ([OUT ao on ov] : va_W))) (st' := [.int ((u2 (u2 Z 3 0 (nI 0)) 3 0 (nI 2)) 3 0)]) (cells' := cells + 1 + 0 + 0) (slots' := slots + 6 + 0 + 0) (pc' := 1794) rfl rfl rfl rfl rfl ?_
  refine g_st (st' := [.int (nI 2)]) (by first | rfl | (simp [z4, u2]; done)) ?_
  refine g_run X KL_law_1794_258 KL_law_1794_258_d 1796 [(6, .int (nI 0)), (5, .int (nI 2)), (0, .ref b), (1, .ref (adC 0)), (2, .ref (adM 0)), (3, .ref ao), (4, .int (nI (6 * k)))] [.int (nI 2), .int (nI 2)] rfl ?_
  refine g_icmp_eq X 1801 dL_law_1796 (by decide) (fun hc4 => ?_) (fun hc4 => ?_)
  · refine g_run X KL_law_1801_259 KL_law_1801_259_d 1803 [(6, .int (nI 0)), (5, .int (nI 2)), (0, .ref b), (1, .ref (adC 0)), (2, .ref (adM 0)), (3, .ref ao), (4, .int (nI (6 * k)))] [.int (nI 2)] rfl ?_
    refine g_if_ne X 1819 dL_law_1803 (by decide) (fun hc5 => ?_) (fun hc5 => ?_)
    · refine g_run X KL_law_1819_262 KL_law_1819_262_d 2256 [(6, .int (nI 0)), (5, .int (nI 2)), (0, .ref b), (1, .ref (adC 0)), (2, .ref (adM 0)), (3, .ref ao), (4, .int (nI (6 * k)))] [] rfl ?_
      refine g_lv (lv' := [(0, .ref b), (1, .ref (adC 0)), (2, .ref (adM 0)), (3, .ref ao), (4, .int (nI (6 * k)))]) (lsub_c 2 rfl (lsub_c 3 rfl (lsub_c 4 rfl (lsub_c 5 rfl (lsub_c 6 rfl (lsub_n)))))) ?_
      refine g_perm (ws' := (WC adC g I L S ++ ([OUT ao on ov] : va_W)) ++ WM adM g I L S (u2 (u2 Z 3 0 (nI 0)) 3 0 (nI 2)) Y) (List.perm_append_comm (l₁ := (WC adC g I L S ++ ([OUT ao on ov] : va_W))) (l₂ := WM adM g I L S (u2 (u2 Z 3 0 (nI 0)) 3 0 (nI 2)) Y)) ?_
      refine g_widen (k := cells + 60) (n := slots + 1200) (by omega) (by omega) ?_
      exact kk I L S n (u2 (u2 Z 3 0 (nI 0)) 3 0 (nI 2)) Y R on ov (hI) (hR) (by first | exact hZ | (rw [zrow]; exact hZ) | (rw [zrow, zrow]; exact hZ))
    · rw [nz_eq (by omega)] at hc5; first | omega | (simp at hc5)
  · rw [nI_eq (by omega) (by omega)] at hc4; first | omega | (simp at hc4)

set_option maxHeartbeats 4000000 in
set_option maxRecDepth 100000 in
theorem lq23_1 {p : Program} {l : Launch} {e : Env} {s : State} {m : MethodId} {below : List Frame} {meth : Method} {c : Code} {Q : State → Prop} {D : va_G} {A : Nat → Prop} {b N : Nat} {xs : Nat → Int32} {adC adM : Nat → Nat} {g : Nat → ClassId} {ao k cells slots : Nat} {I : Nat → Nat → Int32} {L : Nat → Nat → Int64} {S : Nat → Nat} {n : Nat} {Z : Nat → Nat → Int32} {Y : Int64} {R : Nat → Nat} {on : Int64} {ov : Value} (HX : LX p l s m meth c A b N xs) (hk : 6 * k + 6 ≤ N) (hroom : cells + 60 ≤ 600002 ∧ slots + 1200 ≤ 7302232) (hI : Inv I L S n) (hR : R16 R) (hZ : Z 0 = fun j => nI (R j)) (hw : (xs (6 * k + 1)).toInt < (0 : Nat) ∨ ((4 : Nat) : Int) ≤ (xs (6 * k + 1)).toInt) (kk : LK p l e s m below meth c Q D A b adC adM g ao k cells slots 2256) : GL p l e room_1 s m #[.ref b] below meth c Q D CL (TYS g) A 9 (WL adC adM g ao I L S Z Y on ov) cells slots 1753 [(0, .ref b), (1, .ref (adC 0)), (2, .ref (adM 0)), (3, .ref ao), (4, .int (nI (6 * k)))] [] := by
  obtain ⟨X, hSB, hAf, hNC, hfl, hX, hbl, hbA, hN⟩ := HX
  refine g_run X KL_law_1753_252 KL_law_1753_252_d 1759 [(0, .ref b), (1, .ref (adC 0)), (2, .ref (adM 0)), (3, .ref ao), (4, .int (nI (6 * k)))] [.int ((nI (6 * k)) + (nI 1)), .ref b, .ref (adC 0)] rfl ?_
  refine g_nm (lv' := [(0, .ref b), (1, .ref (adC 0)), (2, .ref (adM 0)), (3, .ref ao), (4, .int (nI (6 * k)))]) (st' := [.int (nI ((6 * k) + 1)), .ref b, .ref (adC 0)]) (by simp only [nI_add]) (by simp only [nI_add]) ?_
  refine g_sld X hX hbl hbA hN (v := xs (6 * k + 1)) (by omega) rfl dL_law_1759 ?_
  refine g_run X KL_law_1760_253 KL_law_1760_253_d 1765 [(0, .ref b), (1, .ref (adC 0)), (2, .ref (adM 0)), (3, .ref ao), (4, .int (nI (6 * k)))] [.int ((nI (6 * k)) + (nI 2)), .ref b, .int (xs (6 * k + 1)), .ref (adC 0)] rfl ?_
  refine g_nm (lv' := [(0, .ref b), (1, .ref (adC 0)), (2, .ref (adM 0)), (3, .ref ao), (4, .int (nI (6 * k)))]) (st' := [.int (nI ((6 * k) + 2)), .ref b, .int (xs (6 * k + 1)), .ref (adC 0)]) (by simp only [nI_add]) (by simp only [nI_add]) ?_
  refine g_sld X hX hbl hbA hN (v := xs (6 * k + 2)) (by omega) rfl dL_law_1765 ?_
  refine g_run X KL_law_1766_254 KL_law_1766_254_d 1767 [(0, .ref b), (1, .ref (adC 0)), (2, .ref (adM 0)), (3, .ref ao), (4, .int (nI (6 * k)))] [.ref ao, .int (xs (6 * k + 2)), .int (xs (6 * k + 1)), .ref (adC 0)] rfl ?_
  refine g_callSW X hSB hAf hNC (As := [.ref (adC 0), .int (xs (6 * k + 1)), .int (xs (6 * k + 2)), .ref ao]) (wr := WM adM g I L S Z Y) (n := 4) (hx_ofFrame_1 l hfl D g adC I L S (xs (6 * k + 1)) (xs (6 * k + 2)) ao on ov (out_lt (by decide) hw)) rfl w_749 w_747 w_748 w_0 (by decide +kernel) rfl ⟨Nat.le_of_ble_eq_true rfl, Nat.le_of_ble_eq_true rfl⟩ rfl rfl rfl (Nat.le_of_ble_eq_true rfl) ⟨by show cells + 1 ≤ 600002; omega, by show slots + 6 ≤ 7302232; omega⟩ dL_law_1767 (fun hu1 _ => ?_)
  refine g_af (ws' := (WC adC g I L S ++ ([OUT ao on ov] : va_W)) ++ WM adM g I L S Z Y) (st' := [.int (nI 1)]) (cells' := cells + 1) (slots' := slots + 6) (pc' := 1770) rfl rfl rfl rfl rfl ?_
  refine g_run X KL_law_1770_255 KL_law_1770_255_d 1778 [(5, .int (nI 1)), (0, .ref b), (1, .ref (adC 0)), (2, .ref (adM 0)), (3, .ref ao), (4, .int (nI (6 * k)))] [.int ((nI (6 * k)) + (nI 1)), .ref b, .ref (adM 0)] rfl ?_
  refine g_nm (lv' := [(5, .int (nI 1)), (0, .ref b), (1, .ref (adC 0)), (2, .ref (adM 0)), (3, .ref ao), (4, .int (nI (6 * k)))]) (st' := [.int (nI ((6 * k) + 1)), .ref b, .ref (adM 0)]) (by simp only [nI_add]) (by simp only [nI_add]) ?_
  refine g_sld X hX hbl hbA hN (v := xs (6 * k + 1)) (by omega) rfl dL_law_1778 ?_
  refine g_run X KL_law_1779_256 KL_law_1779_256_d 1784 [(5, .int (nI 1)), (0, .ref b), (1, .ref (adC 0)), (2, .ref (adM 0)), (3, .ref ao), (4, .int (nI (6 * k)))] [.int ((nI (6 * k)) + (nI 2)), .ref b, .int (xs (6 * k + 1)), .ref (adM 0)] rfl ?_
  refine g_nm (lv' := [(5, .int (nI 1)), (0, .ref b), (1, .ref (adC 0)), (2, .ref (adM 0)), (3, .ref ao), (4, .int (nI (6 * k)))]) (st' := [.int (nI ((6 * k) + 2)), .ref b, .int (xs (6 * k + 1)), .ref (adM 0)]) (by simp only [nI_add]) (by simp only [nI_add]) ?_
  refine g_sld X hX hbl hbA hN (v := xs (6 * k + 2)) (by omega) rfl dL_law_1784 ?_
  refine g_perm (ws' := WM adM g I L S Z Y ++ (WC adC g I L S ++ ([OUT ao on ov] : va_W))) (List.perm_append_comm (l₁ := WM adM g I L S Z Y) (l₂ := (WC adC g I L S ++ ([OUT ao on ov] : va_W)))) ?_
  refine g_callV X hSB hAf srcW (hrc1 := (rfl : CL[8]? = some _)) (wm_mem (k := 0) (by decide)) rfl (As := [.int (xs (6 * k + 1)), .int (xs (6 * k + 2))]) (wr := WC adC g I L S ++ ([OUT ao on ov] : va_W)) (n := 2) (c_X9_ofFrame_1 l D g adM I L S Z Y (xs (6 * k + 1)) (xs (6 * k + 2)) (out_lo (by decide) (by decide) hw)) rfl srcN hrdN w_1476 w_1473 w_1474 w_1475 w_6 (by decide +kernel) rfl ⟨Nat.le_of_ble_eq_true rfl, Nat.le_of_ble_eq_true rfl⟩ rfl rfl rfl (Nat.le_of_ble_eq_true rfl) ⟨by show cells + 1 + 0 ≤ 600002; omega, by show slots + 6 + 0 ≤ 7302232; omega⟩ dL_law_1785 (fun hu2 hp_hu2 => ?_)
  refine g_af (ws' := WM adM g I L S (u2 (u2 Z 3 0 (nI 0)) 3 0 (nI 1)) Y ++ (WC adC g I L S ++ ([OUT ao on ov] : va_W))) (st' := [.int (nI 0)]) (cells' := cells + 1 + 0) (slots' := slots + 6 + 0) (pc' := 1788) rfl rfl rfl rfl rfl ?_
  refine g_run X KL_law_1788_257 KL_law_1788_257_d 1791 [(6, .int (nI 0)), (5, .int (nI 1)), (0, .ref b), (1, .ref (adC 0)), (2, .ref (adM 0)), (3, .ref ao), (4, .int (nI (6 * k)))] [.ref (adM 0)] rfl ?_
  refine g_callV X hSB hAf srcW (hrc1 := (rfl : CL[8]? = some _)) (wm_mem (k := 0) (by decide)) rfl (As := []) (wr := WC adC g I L S ++ ([OUT ao on ov] : va_W)) (n := 0) (c_X9_thrown l D g adM I L S (u2 (u2 Z 3 0 (nI 0)) 3 0 (nI 1)) Y ) rfl srcN hrdN w_1250 w_1247 w_1248 w_1249 w_6 (by decide +kernel) rfl ⟨Nat.le_of_ble_eq_true rfl, Nat.le_of_ble_eq_true rfl⟩ rfl rfl rfl (Nat.le_of_ble_eq_true rfl) ⟨by show cells + 1 + 0 + 0 ≤ 600002; omega, by show slots + 6 + 0 + 0 ≤ 7302232; omega⟩ dL_law_1791 (fun hu3 hp_hu3 => ?_)
  refine g_af (ws' := WM adM g I L S (u2 (u2 Z 3 0 (nI 0)) 3 0 (nI 1)) Y ++ (WC adC g I L S ++ ([OUT ao on ov] : va_W))) (st' := [.int ((u2 (u2 Z 3 0 (nI 0)) 3 0 (nI 1)) 3 0)]) (cells' := cells + 1 + 0 + 0) (slots' := slots + 6 + 0 + 0) (pc' := 1794) rfl rfl rfl rfl rfl ?_
  refine g_st (st' := [.int (nI 1)]) (by first | rfl | (simp [z4, u2]; done)) ?_
  refine g_run X KL_law_1794_258 KL_law_1794_258_d 1796 [(6, .int (nI 0)), (5, .int (nI 1)), (0, .ref b), (1, .ref (adC 0)), (2, .ref (adM 0)), (3, .ref ao), (4, .int (nI (6 * k)))] [.int (nI 1), .int (nI 1)] rfl ?_
  refine g_icmp_eq X 1801 dL_law_1796 (by decide) (fun hc4 => ?_) (fun hc4 => ?_)
  · refine g_run X KL_law_1801_259 KL_law_1801_259_d 1803 [(6, .int (nI 0)), (5, .int (nI 1)), (0, .ref b), (1, .ref (adC 0)), (2, .ref (adM 0)), (3, .ref ao), (4, .int (nI (6 * k)))] [.int (nI 1)] rfl ?_
    refine g_if_ne X 1819 dL_law_1803 (by decide) (fun hc5 => ?_) (fun hc5 => ?_)
    · refine g_run X KL_law_1819_262 KL_law_1819_262_d 2256 [(6, .int (nI 0)), (5, .int (nI 1)), (0, .ref b), (1, .ref (adC 0)), (2, .ref (adM 0)), (3, .ref ao), (4, .int (nI (6 * k)))] [] rfl ?_
      refine g_lv (lv' := [(0, .ref b), (1, .ref (adC 0)), (2, .ref (adM 0)), (3, .ref ao), (4, .int (nI (6 * k)))]) (lsub_c 2 rfl (lsub_c 3 rfl (lsub_c 4 rfl (lsub_c 5 rfl (lsub_c 6 rfl (lsub_n)))))) ?_
      refine g_perm (ws' := (WC adC g I L S ++ ([OUT ao on ov] : va_W)) ++ WM adM g I L S (u2 (u2 Z 3 0 (nI 0)) 3 0 (nI 1)) Y) (List.perm_append_comm (l₁ := (WC adC g I L S ++ ([OUT ao on ov] : va_W))) (l₂ := WM adM g I L S (u2 (u2 Z 3 0 (nI 0)) 3 0 (nI 1)) Y)) ?_
      refine g_widen (k := cells + 60) (n := slots + 1200) (by omega) (by omega) ?_
      exact kk I L S n (u2 (u2 Z 3 0 (nI 0)) 3 0 (nI 1)) Y R on ov (hI) (hR) (by first | exact hZ | (rw [zrow]; exact hZ) | (rw [zrow, zrow]; exact hZ))
    · rw [nz_eq (by omega)] at hc5; first | omega | (simp at hc5)
  · rw [nI_eq (by omega) (by omega)] at hc4; first | omega | (simp at hc4)

theorem lq23 {p : Program} {l : Launch} {e : Env} {s : State} {m : MethodId} {below : List Frame} {meth : Method} {c : Code} {Q : State → Prop} {D : va_G} {A : Nat → Prop} {b N : Nat} {xs : Nat → Int32} {adC adM : Nat → Nat} {g : Nat → ClassId} {ao k cells slots : Nat} {I : Nat → Nat → Int32} {L : Nat → Nat → Int64} {S : Nat → Nat} {n : Nat} {Z : Nat → Nat → Int32} {Y : Int64} {R : Nat → Nat} {on : Int64} {ov : Value} (HX : LX p l s m meth c A b N xs) (hk : 6 * k + 6 ≤ N) (hroom : cells + 60 ≤ 600002 ∧ slots + 1200 ≤ 7302232) (hI : Inv I L S n) (hR : R16 R) (hZ : Z 0 = fun j => nI (R j)) (kk : LK p l e s m below meth c Q D A b adC adM g ao k cells slots 2256) : GL p l e room_1 s m #[.ref b] below meth c Q D CL (TYS g) A 9 (WL adC adM g ao I L S Z Y on ov) cells slots 1753 [(0, .ref b), (1, .ref (adC 0)), (2, .ref (adM 0)), (3, .ref ao), (4, .int (nI (6 * k)))] [] := by
  rcases rg (xs (6 * k + 1)) 0 4 with ⟨a1, hl1, hu1, e1⟩ | hw
  · rcases rg (xs (6 * k + 2)) 0 3 with ⟨a2, hl2, hu2, e2⟩ | hw
    · by_cases h2_0 : a2 = 0
      · exact lq23_0w0 HX hk hroom hI hR hZ  a1 hl1 hu1 e1 (by rw [e2, h2_0]) kk
      by_cases h2_1 : a2 = 1
      · exact lq23_0w1 HX hk hroom hI hR hZ  a1 hl1 hu1 e1 (by rw [e2, h2_1]) kk
      by_cases h2_2 : a2 = 2
      · exact lq23_0w2 HX hk hroom hI hR hZ  a1 hl1 hu1 e1 (by rw [e2, h2_2]) kk
      exfalso; omega
    · exact lq23_2 HX hk hroom hI hR hZ  a1 hl1 hu1 e1 hw kk
  · exact lq23_1 HX hk hroom hI hR hZ  hw kk

def KL_law_1822_263 : List (Nat × Instr × Nat) := [(1822, .aload_n 1, 1), (1823, .aload_n 0, 1), (1824, .iload 4, 2), (1826, .iconst 1, 1), (1827, .iadd, 1)]
theorem KL_law_1822_263_d : ∀ z ∈ KL_law_1822_263, decode cL_law z.1 = .ok z.2 := by decide +kernel
def KL_law_1829_264 : List (Nat × Instr × Nat) := [(1829, .aload_n 3, 1)]
theorem KL_law_1829_264_d : ∀ z ∈ KL_law_1829_264, decode cL_law z.1 = .ok z.2 := by decide +kernel
def KL_law_1833_265 : List (Nat × Instr × Nat) := [(1833, .istore 5, 2), (1835, .aload_n 2, 1), (1836, .aload_n 0, 1), (1837, .iload 4, 2), (1839, .iconst 1, 1), (1840, .iadd, 1)]
theorem KL_law_1833_265_d : ∀ z ∈ KL_law_1833_265, decode cL_law z.1 = .ok z.2 := by decide +kernel
def KL_law_1845_266 : List (Nat × Instr × Nat) := [(1845, .lstore 6, 2), (1847, .aload_n 2, 1)]
theorem KL_law_1845_266_d : ∀ z ∈ KL_law_1845_266, decode cL_law z.1 = .ok z.2 := by decide +kernel
def KL_law_1851_267 : List (Nat × Instr × Nat) := [(1851, .iload 5, 2)]
theorem KL_law_1851_267_d : ∀ z ∈ KL_law_1851_267, decode cL_law z.1 = .ok z.2 := by decide +kernel
def KL_law_1858_268 : List (Nat × Instr × Nat) := [(1858, .iload 5, 2)]
theorem KL_law_1858_268_d : ∀ z ∈ KL_law_1858_268, decode cL_law z.1 = .ok z.2 := by decide +kernel
def KL_law_1863_269 : List (Nat × Instr × Nat) := [(1863, .aload_n 3, 1)]
theorem KL_law_1863_269_d : ∀ z ∈ KL_law_1863_269, decode cL_law z.1 = .ok z.2 := by decide +kernel
def KL_law_1867_270 : List (Nat × Instr × Nat) := [(1867, .lload 6, 2), (1869, .lcmp, 1)]
theorem KL_law_1867_270_d : ∀ z ∈ KL_law_1867_270, decode cL_law z.1 = .ok z.2 := by decide +kernel
def KL_law_1875_271 : List (Nat × Instr × Nat) := [(1875, .goto 381, 3)]
theorem KL_law_1875_271_d : ∀ z ∈ KL_law_1875_271, decode cL_law z.1 = .ok z.2 := by decide +kernel
set_option maxHeartbeats 4000000 in
set_option maxRecDepth 100000 in
theorem lq24_0 {p : Program} {l : Launch} {e : Env} {s : State} {m : MethodId} {below : List Frame} {meth : Method} {c : Code} {Q : State → Prop} {D : va_G} {A : Nat → Prop} {b N : Nat} {xs : Nat → Int32} {adC adM : Nat → Nat} {g : Nat → ClassId} {ao k cells slots : Nat} {I : Nat → Nat → Int32} {L : Nat → Nat → Int64} {S : Nat → Nat} {n : Nat} {Z : Nat → Nat → Int32} {Y : Int64} {R : Nat → Nat} {on : Int64} {ov : Value} (HX : LX p l s m meth c A b N xs) (hk : 6 * k + 6 ≤ N) (hroom : cells + 60 ≤ 600002 ∧ slots + 1200 ≤ 7302232) (hI : Inv I L S n) (hR : R16 R) (hZ : Z 0 = fun j => nI (R j)) (a1 : Nat) (hl1 : 0 ≤ a1) (hu1 : a1 < 4) (e1 : xs (6 * k + 1) = nI a1) (kk : LK p l e s m below meth c Q D A b adC adM g ao k cells slots 2256) : GL p l e room_1 s m #[.ref b] below meth c Q D CL (TYS g) A 9 (WL adC adM g ao I L S Z Y on ov) cells slots 1822 [(0, .ref b), (1, .ref (adC 0)), (2, .ref (adM 0)), (3, .ref ao), (4, .int (nI (6 * k)))] [] := by
  obtain ⟨X, hSB, hAf, hNC, hfl, hX, hbl, hbA, hN⟩ := HX
  refine g_run X KL_law_1822_263 KL_law_1822_263_d 1828 [(0, .ref b), (1, .ref (adC 0)), (2, .ref (adM 0)), (3, .ref ao), (4, .int (nI (6 * k)))] [.int ((nI (6 * k)) + (nI 1)), .ref b, .ref (adC 0)] rfl ?_
  refine g_nm (lv' := [(0, .ref b), (1, .ref (adC 0)), (2, .ref (adM 0)), (3, .ref ao), (4, .int (nI (6 * k)))]) (st' := [.int (nI ((6 * k) + 1)), .ref b, .ref (adC 0)]) (by simp only [nI_add]) (by simp only [nI_add]) ?_
  refine g_sld X hX hbl hbA hN (v := nI a1) (by omega) e1 dL_law_1828 ?_
  refine g_run X KL_law_1829_264 KL_law_1829_264_d 1830 [(0, .ref b), (1, .ref (adC 0)), (2, .ref (adM 0)), (3, .ref ao), (4, .int (nI (6 * k)))] [.ref ao, .int (nI a1), .ref (adC 0)] rfl ?_
  refine g_callSW X hSB hAf hNC (As := [.ref (adC 0), .int (nI a1), .ref ao]) (wr := WM adM g I L S Z Y) (n := 3) (hc_held l D g adC I L S a1 ao on ov (by first | assumption | omega)) rfl w_753 w_751 w_752 w_0 (by decide +kernel) rfl ⟨Nat.le_of_ble_eq_true rfl, Nat.le_of_ble_eq_true rfl⟩ rfl rfl rfl (Nat.le_of_ble_eq_true rfl) ⟨by show cells + 0 ≤ 600002; omega, by show slots + 0 ≤ 7302232; omega⟩ dL_law_1830 (fun hu1 _ => ?_)
  refine g_af (ws' := (WC adC g I L S ++ ([OUT ao (dtO (L 3 a1)) ov] : va_W)) ++ WM adM g I L S Z Y) (st' := [.int (nI 0)]) (cells' := cells + 0) (slots' := slots + 0) (pc' := 1833) rfl rfl rfl rfl rfl ?_
  refine g_run X KL_law_1833_265 KL_law_1833_265_d 1841 [(5, .int (nI 0)), (0, .ref b), (1, .ref (adC 0)), (2, .ref (adM 0)), (3, .ref ao), (4, .int (nI (6 * k)))] [.int ((nI (6 * k)) + (nI 1)), .ref b, .ref (adM 0)] rfl ?_
  refine g_nm (lv' := [(5, .int (nI 0)), (0, .ref b), (1, .ref (adC 0)), (2, .ref (adM 0)), (3, .ref ao), (4, .int (nI (6 * k)))]) (st' := [.int (nI ((6 * k) + 1)), .ref b, .ref (adM 0)]) (by simp only [nI_add]) (by simp only [nI_add]) ?_
  refine g_sld X hX hbl hbA hN (v := nI a1) (by omega) e1 dL_law_1841 ?_
  refine g_perm (ws' := WM adM g I L S Z Y ++ (WC adC g I L S ++ ([OUT ao (dtO (L 3 a1)) ov] : va_W))) (List.perm_append_comm (l₁ := WM adM g I L S Z Y) (l₂ := (WC adC g I L S ++ ([OUT ao (dtO (L 3 a1)) ov] : va_W)))) ?_
  refine g_callV X hSB hAf srcW (hrc1 := (rfl : CL[8]? = some _)) (wm_mem (k := 0) (by decide)) rfl (As := [.int (nI a1)]) (wr := WC adC g I L S ++ ([OUT ao (dtO (L 3 a1)) ov] : va_W)) (n := 1) (c_X9_held l D g adM I L S Z Y a1 (by first | assumption | omega) (hI.hin _ (by assumption))) rfl srcN hrdN w_1484 w_1481 w_1482 w_1483 w_6 (by decide +kernel) rfl ⟨Nat.le_of_ble_eq_true rfl, Nat.le_of_ble_eq_true rfl⟩ rfl rfl rfl (Nat.le_of_ble_eq_true rfl) ⟨by show cells + 0 + 0 ≤ 600002; omega, by show slots + 0 + 0 ≤ 7302232; omega⟩ dL_law_1842 (fun hu2 hp_hu2 => ?_)
  refine g_af (ws' := WM adM g I L S (u2 Z 3 0 (nI 0)) Y ++ (WC adC g I L S ++ ([OUT ao (dtO (L 3 a1)) ov] : va_W))) (st' := [.long (dtO (L 3 a1))]) (cells' := cells + 0 + 0) (slots' := slots + 0 + 0) (pc' := 1845) rfl rfl rfl rfl rfl ?_
  refine g_run X KL_law_1845_266 KL_law_1845_266_d 1848 [(6, .long (dtO (L 3 a1))), (5, .int (nI 0)), (0, .ref b), (1, .ref (adC 0)), (2, .ref (adM 0)), (3, .ref ao), (4, .int (nI (6 * k)))] [.ref (adM 0)] rfl ?_
  refine g_callV X hSB hAf srcW (hrc1 := (rfl : CL[8]? = some _)) (wm_mem (k := 0) (by decide)) rfl (As := []) (wr := WC adC g I L S ++ ([OUT ao (dtO (L 3 a1)) ov] : va_W)) (n := 0) (c_X9_thrown l D g adM I L S (u2 Z 3 0 (nI 0)) Y ) rfl srcN hrdN w_1250 w_1247 w_1248 w_1249 w_6 (by decide +kernel) rfl ⟨Nat.le_of_ble_eq_true rfl, Nat.le_of_ble_eq_true rfl⟩ rfl rfl rfl (Nat.le_of_ble_eq_true rfl) ⟨by show cells + 0 + 0 + 0 ≤ 600002; omega, by show slots + 0 + 0 + 0 ≤ 7302232; omega⟩ dL_law_1848 (fun hu3 hp_hu3 => ?_)
  refine g_af (ws' := WM adM g I L S (u2 Z 3 0 (nI 0)) Y ++ (WC adC g I L S ++ ([OUT ao (dtO (L 3 a1)) ov] : va_W))) (st' := [.int ((u2 Z 3 0 (nI 0)) 3 0)]) (cells' := cells + 0 + 0 + 0) (slots' := slots + 0 + 0 + 0) (pc' := 1851) rfl rfl rfl rfl rfl ?_
  refine g_st (st' := [.int (nI 0)]) (by first | rfl | (simp [z4, u2]; done)) ?_
  refine g_run X KL_law_1851_267 KL_law_1851_267_d 1853 [(6, .long (dtO (L 3 a1))), (5, .int (nI 0)), (0, .ref b), (1, .ref (adC 0)), (2, .ref (adM 0)), (3, .ref ao), (4, .int (nI (6 * k)))] [.int (nI 0), .int (nI 0)] rfl ?_
  refine g_icmp_eq X 1858 dL_law_1853 (by decide) (fun hc4 => ?_) (fun hc4 => ?_)
  · refine g_run X KL_law_1858_268 KL_law_1858_268_d 1860 [(6, .long (dtO (L 3 a1))), (5, .int (nI 0)), (0, .ref b), (1, .ref (adC 0)), (2, .ref (adM 0)), (3, .ref ao), (4, .int (nI (6 * k)))] [.int (nI 0)] rfl ?_
    refine g_if_ne X 1875 dL_law_1860 (by decide) (fun hc5 => ?_) (fun hc5 => ?_)
    · rw [nz_eq (by omega)] at hc5; first | omega | (simp at hc5)
    · refine g_run X KL_law_1863_269 KL_law_1863_269_d 1864 [(6, .long (dtO (L 3 a1))), (5, .int (nI 0)), (0, .ref b), (1, .ref (adC 0)), (2, .ref (adM 0)), (3, .ref ao), (4, .int (nI (6 * k)))] [.ref ao] rfl ?_
      refine g_getN X srcW (host := "ChipfieldLaw") (v := .long (dtO (L 3 a1))) hinX6 rfl 0 (by decide) (nw_in n_489 rfl) rfl (List.mem_append_right _ (List.mem_append_right _ List.mem_cons_self)) rfl dL_law_1864 ?_
      refine g_run X KL_law_1867_270 KL_law_1867_270_d 1870 [(6, .long (dtO (L 3 a1))), (5, .int (nI 0)), (0, .ref b), (1, .ref (adC 0)), (2, .ref (adM 0)), (3, .ref ao), (4, .int (nI (6 * k)))] [.int (lg_cmp (dtO (L 3 a1)) (dtO (L 3 a1)))] rfl ?_
      refine g_if_eq X 1875 dL_law_1870 (by decide) (fun hc6 => ?_) (fun hc6 => ?_)
      · refine g_run X KL_law_1875_271 KL_law_1875_271_d 2256 [(6, .long (dtO (L 3 a1))), (5, .int (nI 0)), (0, .ref b), (1, .ref (adC 0)), (2, .ref (adM 0)), (3, .ref ao), (4, .int (nI (6 * k)))] [] rfl ?_
        refine g_lv (lv' := [(0, .ref b), (1, .ref (adC 0)), (2, .ref (adM 0)), (3, .ref ao), (4, .int (nI (6 * k)))]) (lsub_c 2 rfl (lsub_c 3 rfl (lsub_c 4 rfl (lsub_c 5 rfl (lsub_c 6 rfl (lsub_n)))))) ?_
        refine g_perm (ws' := (WC adC g I L S ++ ([OUT ao (dtO (L 3 a1)) ov] : va_W)) ++ WM adM g I L S (u2 Z 3 0 (nI 0)) Y) (List.perm_append_comm (l₁ := (WC adC g I L S ++ ([OUT ao (dtO (L 3 a1)) ov] : va_W))) (l₂ := WM adM g I L S (u2 Z 3 0 (nI 0)) Y)) ?_
        refine g_widen (k := cells + 60) (n := slots + 1200) (by omega) (by omega) ?_
        exact kk I L S n (u2 Z 3 0 (nI 0)) Y R (dtO (L 3 a1)) ov (hI) (hR) (by first | exact hZ | (rw [zrow]; exact hZ) | (rw [zrow, zrow]; exact hZ))
      · exact absurd lg_self hc6
  · rw [nI_eq (by omega) (by omega)] at hc4; first | omega | (simp at hc4)

set_option maxHeartbeats 4000000 in
set_option maxRecDepth 100000 in
theorem lq24_1 {p : Program} {l : Launch} {e : Env} {s : State} {m : MethodId} {below : List Frame} {meth : Method} {c : Code} {Q : State → Prop} {D : va_G} {A : Nat → Prop} {b N : Nat} {xs : Nat → Int32} {adC adM : Nat → Nat} {g : Nat → ClassId} {ao k cells slots : Nat} {I : Nat → Nat → Int32} {L : Nat → Nat → Int64} {S : Nat → Nat} {n : Nat} {Z : Nat → Nat → Int32} {Y : Int64} {R : Nat → Nat} {on : Int64} {ov : Value} (HX : LX p l s m meth c A b N xs) (hk : 6 * k + 6 ≤ N) (hroom : cells + 60 ≤ 600002 ∧ slots + 1200 ≤ 7302232) (hI : Inv I L S n) (hR : R16 R) (hZ : Z 0 = fun j => nI (R j)) (hw : (xs (6 * k + 1)).toInt < (0 : Nat) ∨ ((4 : Nat) : Int) ≤ (xs (6 * k + 1)).toInt) (kk : LK p l e s m below meth c Q D A b adC adM g ao k cells slots 2256) : GL p l e room_1 s m #[.ref b] below meth c Q D CL (TYS g) A 9 (WL adC adM g ao I L S Z Y on ov) cells slots 1822 [(0, .ref b), (1, .ref (adC 0)), (2, .ref (adM 0)), (3, .ref ao), (4, .int (nI (6 * k)))] [] := by
  obtain ⟨X, hSB, hAf, hNC, hfl, hX, hbl, hbA, hN⟩ := HX
  refine g_run X KL_law_1822_263 KL_law_1822_263_d 1828 [(0, .ref b), (1, .ref (adC 0)), (2, .ref (adM 0)), (3, .ref ao), (4, .int (nI (6 * k)))] [.int ((nI (6 * k)) + (nI 1)), .ref b, .ref (adC 0)] rfl ?_
  refine g_nm (lv' := [(0, .ref b), (1, .ref (adC 0)), (2, .ref (adM 0)), (3, .ref ao), (4, .int (nI (6 * k)))]) (st' := [.int (nI ((6 * k) + 1)), .ref b, .ref (adC 0)]) (by simp only [nI_add]) (by simp only [nI_add]) ?_
  refine g_sld X hX hbl hbA hN (v := xs (6 * k + 1)) (by omega) rfl dL_law_1828 ?_
  refine g_run X KL_law_1829_264 KL_law_1829_264_d 1830 [(0, .ref b), (1, .ref (adC 0)), (2, .ref (adM 0)), (3, .ref ao), (4, .int (nI (6 * k)))] [.ref ao, .int (xs (6 * k + 1)), .ref (adC 0)] rfl ?_
  refine g_callSW X hSB hAf hNC (As := [.ref (adC 0), .int (xs (6 * k + 1)), .ref ao]) (wr := WM adM g I L S Z Y) (n := 3) (hx_held_1 l hfl D g adC I L S (xs (6 * k + 1)) ao on ov (out_lt (by decide) hw)) rfl w_753 w_751 w_752 w_0 (by decide +kernel) rfl ⟨Nat.le_of_ble_eq_true rfl, Nat.le_of_ble_eq_true rfl⟩ rfl rfl rfl (Nat.le_of_ble_eq_true rfl) ⟨by show cells + 1 ≤ 600002; omega, by show slots + 6 ≤ 7302232; omega⟩ dL_law_1830 (fun hu1 _ => ?_)
  refine g_af (ws' := (WC adC g I L S ++ ([OUT ao on ov] : va_W)) ++ WM adM g I L S Z Y) (st' := [.int (nI 1)]) (cells' := cells + 1) (slots' := slots + 6) (pc' := 1833) rfl rfl rfl rfl rfl ?_
  refine g_run X KL_law_1833_265 KL_law_1833_265_d 1841 [(5, .int (nI 1)), (0, .ref b), (1, .ref (adC 0)), (2, .ref (adM 0)), (3, .ref ao), (4, .int (nI (6 * k)))] [.int ((nI (6 * k)) + (nI 1)), .ref b, .ref (adM 0)] rfl ?_
  refine g_nm (lv' := [(5, .int (nI 1)), (0, .ref b), (1, .ref (adC 0)), (2, .ref (adM 0)), (3, .ref ao), (4, .int (nI (6 * k)))]) (st' := [.int (nI ((6 * k) + 1)), .ref b, .ref (adM 0)]) (by simp only [nI_add]) (by simp only [nI_add]) ?_
  refine g_sld X hX hbl hbA hN (v := xs (6 * k + 1)) (by omega) rfl dL_law_1841 ?_
  refine g_perm (ws' := WM adM g I L S Z Y ++ (WC adC g I L S ++ ([OUT ao on ov] : va_W))) (List.perm_append_comm (l₁ := WM adM g I L S Z Y) (l₂ := (WC adC g I L S ++ ([OUT ao on ov] : va_W)))) ?_
  refine g_callV X hSB hAf srcW (hrc1 := (rfl : CL[8]? = some _)) (wm_mem (k := 0) (by decide)) rfl (As := [.int (xs (6 * k + 1))]) (wr := WC adC g I L S ++ ([OUT ao on ov] : va_W)) (n := 1) (c_X9_held_1 l D g adM I L S Z Y (xs (6 * k + 1)) (out_lo (by decide) (by decide) hw)) rfl srcN hrdN w_1484 w_1481 w_1482 w_1483 w_6 (by decide +kernel) rfl ⟨Nat.le_of_ble_eq_true rfl, Nat.le_of_ble_eq_true rfl⟩ rfl rfl rfl (Nat.le_of_ble_eq_true rfl) ⟨by show cells + 1 + 0 ≤ 600002; omega, by show slots + 6 + 0 ≤ 7302232; omega⟩ dL_law_1842 (fun hu2 hp_hu2 => ?_)
  refine g_af (ws' := WM adM g I L S (u2 (u2 Z 3 0 (nI 0)) 3 0 (nI 1)) Y ++ (WC adC g I L S ++ ([OUT ao on ov] : va_W))) (st' := [.long ((nI 0).toInt64)]) (cells' := cells + 1 + 0) (slots' := slots + 6 + 0) (pc' := 1845) rfl rfl rfl rfl rfl ?_
  refine g_run X KL_law_1845_266 KL_law_1845_266_d 1848 [(6, .long ((nI 0).toInt64)), (5, .int (nI 1)), (0, .ref b), (1, .ref (adC 0)), (2, .ref (adM 0)), (3, .ref ao), (4, .int (nI (6 * k)))] [.ref (adM 0)] rfl ?_
  refine g_callV X hSB hAf srcW (hrc1 := (rfl : CL[8]? = some _)) (wm_mem (k := 0) (by decide)) rfl (As := []) (wr := WC adC g I L S ++ ([OUT ao on ov] : va_W)) (n := 0) (c_X9_thrown l D g adM I L S (u2 (u2 Z 3 0 (nI 0)) 3 0 (nI 1)) Y ) rfl srcN hrdN w_1250 w_1247 w_1248 w_1249 w_6 (by decide +kernel) rfl ⟨Nat.le_of_ble_eq_true rfl, Nat.le_of_ble_eq_true rfl⟩ rfl rfl rfl (Nat.le_of_ble_eq_true rfl) ⟨by show cells + 1 + 0 + 0 ≤ 600002; omega, by show slots + 6 + 0 + 0 ≤ 7302232; omega⟩ dL_law_1848 (fun hu3 hp_hu3 => ?_)
  refine g_af (ws' := WM adM g I L S (u2 (u2 Z 3 0 (nI 0)) 3 0 (nI 1)) Y ++ (WC adC g I L S ++ ([OUT ao on ov] : va_W))) (st' := [.int ((u2 (u2 Z 3 0 (nI 0)) 3 0 (nI 1)) 3 0)]) (cells' := cells + 1 + 0 + 0) (slots' := slots + 6 + 0 + 0) (pc' := 1851) rfl rfl rfl rfl rfl ?_
  refine g_st (st' := [.int (nI 1)]) (by first | rfl | (simp [z4, u2]; done)) ?_
  refine g_run X KL_law_1851_267 KL_law_1851_267_d 1853 [(6, .long ((nI 0).toInt64)), (5, .int (nI 1)), (0, .ref b), (1, .ref (adC 0)), (2, .ref (adM 0)), (3, .ref ao), (4, .int (nI (6 * k)))] [.int (nI 1), .int (nI 1)] rfl ?_
  refine g_icmp_eq X 1858 dL_law_1853 (by decide) (fun hc4 => ?_) (fun hc4 => ?_)
  · refine g_run X KL_law_1858_268 KL_law_1858_268_d 1860 [(6, .long ((nI 0).toInt64)), (5, .int (nI 1)), (0, .ref b), (1, .ref (adC 0)), (2, .ref (adM 0)), (3, .ref ao), (4, .int (nI (6 * k)))] [.int (nI 1)] rfl ?_
    refine g_if_ne X 1875 dL_law_1860 (by decide) (fun hc5 => ?_) (fun hc5 => ?_)
    · refine g_run X KL_law_1875_271 KL_law_1875_271_d 2256 [(6, .long ((nI 0).toInt64)), (5, .int (nI 1)), (0, .ref b), (1, .ref (adC 0)), (2, .ref (adM 0)), (3, .ref ao), (4, .int (nI (6 * k)))] [] rfl ?_
      refine g_lv (lv' := [(0, .ref b), (1, .ref (adC 0)), (2, .ref (adM 0)), (3, .ref ao), (4, .int (nI (6 * k)))]) (lsub_c 2 rfl (lsub_c 3 rfl (lsub_c 4 rfl (lsub_c 5 rfl (lsub_c 6 rfl (lsub_n)))))) ?_
      refine g_perm (ws' := (WC adC g I L S ++ ([OUT ao on ov] : va_W)) ++ WM adM g I L S (u2 (u2 Z 3 0 (nI 0)) 3 0 (nI 1)) Y) (List.perm_append_comm (l₁ := (WC adC g I L S ++ ([OUT ao on ov] : va_W))) (l₂ := WM adM g I L S (u2 (u2 Z 3 0 (nI 0)) 3 0 (nI 1)) Y)) ?_
      refine g_widen (k := cells + 60) (n := slots + 1200) (by omega) (by omega) ?_
      exact kk I L S n (u2 (u2 Z 3 0 (nI 0)) 3 0 (nI 1)) Y R on ov (hI) (hR) (by first | exact hZ | (rw [zrow]; exact hZ) | (rw [zrow, zrow]; exact hZ))
    · rw [nz_eq (by omega)] at hc5; first | omega | (simp at hc5)
  · rw [nI_eq (by omega) (by omega)] at hc4; first | omega | (simp at hc4)

theorem lq24 {p : Program} {l : Launch} {e : Env} {s : State} {m : MethodId} {below : List Frame} {meth : Method} {c : Code} {Q : State → Prop} {D : va_G} {A : Nat → Prop} {b N : Nat} {xs : Nat → Int32} {adC adM : Nat → Nat} {g : Nat → ClassId} {ao k cells slots : Nat} {I : Nat → Nat → Int32} {L : Nat → Nat → Int64} {S : Nat → Nat} {n : Nat} {Z : Nat → Nat → Int32} {Y : Int64} {R : Nat → Nat} {on : Int64} {ov : Value} (HX : LX p l s m meth c A b N xs) (hk : 6 * k + 6 ≤ N) (hroom : cells + 60 ≤ 600002 ∧ slots + 1200 ≤ 7302232) (hI : Inv I L S n) (hR : R16 R) (hZ : Z 0 = fun j => nI (R j)) (kk : LK p l e s m below meth c Q D A b adC adM g ao k cells slots 2256) : GL p l e room_1 s m #[.ref b] below meth c Q D CL (TYS g) A 9 (WL adC adM g ao I L S Z Y on ov) cells slots 1822 [(0, .ref b), (1, .ref (adC 0)), (2, .ref (adM 0)), (3, .ref ao), (4, .int (nI (6 * k)))] [] := by
  rcases rg (xs (6 * k + 1)) 0 4 with ⟨a1, hl1, hu1, e1⟩ | hw
  · exact lq24_0 HX hk hroom hI hR hZ  a1 hl1 hu1 e1 kk
  · exact lq24_1 HX hk hroom hI hR hZ  hw kk

def KL_law_1878_272 : List (Nat × Instr × Nat) := [(1878, .aload_n 1, 1), (1879, .aload_n 0, 1), (1880, .iload 4, 2), (1882, .iconst 1, 1), (1883, .iadd, 1)]
theorem KL_law_1878_272_d : ∀ z ∈ KL_law_1878_272, decode cL_law z.1 = .ok z.2 := by decide +kernel
def KL_law_1885_273 : List (Nat × Instr × Nat) := [(1885, .aload_n 3, 1)]
theorem KL_law_1885_273_d : ∀ z ∈ KL_law_1885_273, decode cL_law z.1 = .ok z.2 := by decide +kernel
def KL_law_1889_274 : List (Nat × Instr × Nat) := [(1889, .istore 5, 2), (1891, .aload_n 2, 1), (1892, .aload_n 0, 1), (1893, .iload 4, 2), (1895, .iconst 1, 1), (1896, .iadd, 1)]
theorem KL_law_1889_274_d : ∀ z ∈ KL_law_1889_274, decode cL_law z.1 = .ok z.2 := by decide +kernel
def KL_law_1901_275 : List (Nat × Instr × Nat) := [(1901, .istore 6, 2), (1903, .aload_n 2, 1)]
theorem KL_law_1901_275_d : ∀ z ∈ KL_law_1901_275, decode cL_law z.1 = .ok z.2 := by decide +kernel
def KL_law_1907_276 : List (Nat × Instr × Nat) := [(1907, .iload 5, 2)]
theorem KL_law_1907_276_d : ∀ z ∈ KL_law_1907_276, decode cL_law z.1 = .ok z.2 := by decide +kernel
def KL_law_1914_277 : List (Nat × Instr × Nat) := [(1914, .iload 5, 2)]
theorem KL_law_1914_277_d : ∀ z ∈ KL_law_1914_277, decode cL_law z.1 = .ok z.2 := by decide +kernel
def KL_law_1919_278 : List (Nat × Instr × Nat) := [(1919, .aload_n 3, 1)]
theorem KL_law_1919_278_d : ∀ z ∈ KL_law_1919_278, decode cL_law z.1 = .ok z.2 := by decide +kernel
def KL_law_1923_279 : List (Nat × Instr × Nat) := [(1923, .iload 6, 2), (1925, .i2l, 1), (1926, .lcmp, 1)]
theorem KL_law_1923_279_d : ∀ z ∈ KL_law_1923_279, decode cL_law z.1 = .ok z.2 := by decide +kernel
def KL_law_1932_280 : List (Nat × Instr × Nat) := [(1932, .goto 324, 3)]
theorem KL_law_1932_280_d : ∀ z ∈ KL_law_1932_280, decode cL_law z.1 = .ok z.2 := by decide +kernel
set_option maxHeartbeats 4000000 in
set_option maxRecDepth 100000 in
theorem lq25_0b {p : Program} {l : Launch} {e : Env} {s : State} {m : MethodId} {below : List Frame} {meth : Method} {c : Code} {Q : State → Prop} {D : va_G} {A : Nat → Prop} {b N : Nat} {xs : Nat → Int32} {adC adM : Nat → Nat} {g : Nat → ClassId} {ao k cells slots : Nat} {I : Nat → Nat → Int32} {L : Nat → Nat → Int64} {S : Nat → Nat} {n : Nat} {Z : Nat → Nat → Int32} {Y : Int64} {R : Nat → Nat} {on : Int64} {ov : Value} (HX : LX p l s m meth c A b N xs) (hk : 6 * k + 6 ≤ N) (hroom : cells + 60 ≤ 600002 ∧ slots + 1200 ≤ 7302232) (hI : Inv I L S n) (hR : R16 R) (hZ : Z 0 = fun j => nI (R j)) (e1 : xs (6 * k + 1) = nI 10) (kk : LK p l e s m below meth c Q D A b adC adM g ao k cells slots 2256) : GL p l e room_1 s m #[.ref b] below meth c Q D CL (TYS g) A 9 (WL adC adM g ao I L S Z Y on ov) cells slots 1878 [(0, .ref b), (1, .ref (adC 0)), (2, .ref (adM 0)), (3, .ref ao), (4, .int (nI (6 * k)))] [] := by
  obtain ⟨X, hSB, hAf, hNC, hfl, hX, hbl, hbA, hN⟩ := HX
  refine g_run X KL_law_1878_272 KL_law_1878_272_d 1884 [(0, .ref b), (1, .ref (adC 0)), (2, .ref (adM 0)), (3, .ref ao), (4, .int (nI (6 * k)))] [.int ((nI (6 * k)) + (nI 1)), .ref b, .ref (adC 0)] rfl ?_
  refine g_nm (lv' := [(0, .ref b), (1, .ref (adC 0)), (2, .ref (adM 0)), (3, .ref ao), (4, .int (nI (6 * k)))]) (st' := [.int (nI ((6 * k) + 1)), .ref b, .ref (adC 0)]) (by simp only [nI_add]) (by simp only [nI_add]) ?_
  refine g_sld X hX hbl hbA hN (v := nI 10) (by omega) e1 dL_law_1884 ?_
  refine g_run X KL_law_1885_273 KL_law_1885_273_d 1886 [(0, .ref b), (1, .ref (adC 0)), (2, .ref (adM 0)), (3, .ref ao), (4, .int (nI (6 * k)))] [.ref ao, .int (nI 10), .ref (adC 0)] rfl ?_
  refine g_callSW X hSB hAf hNC (As := [.ref (adC 0), .int (nI 10), .ref ao]) (wr := WM adM g I L S Z Y) (n := 3) (hc_bank l D g adC I L S 10 ao on ov (hI.s18) (by first | assumption | omega)) rfl w_757 w_755 w_756 w_0 (by decide +kernel) rfl ⟨Nat.le_of_ble_eq_true rfl, Nat.le_of_ble_eq_true rfl⟩ rfl rfl rfl (Nat.le_of_ble_eq_true rfl) ⟨by show cells + 0 ≤ 600002; omega, by show slots + 0 ≤ 7302232; omega⟩ dL_law_1886 (fun hu1 _ => ?_)
  refine g_af (ws' := (WC adC g I L S ++ ([OUT ao ((bkV I L S 10).toInt64) ov] : va_W)) ++ WM adM g I L S Z Y) (st' := [.int (nI 0)]) (cells' := cells + 0) (slots' := slots + 0) (pc' := 1889) rfl rfl rfl rfl rfl ?_
  refine g_run X KL_law_1889_274 KL_law_1889_274_d 1897 [(5, .int (nI 0)), (0, .ref b), (1, .ref (adC 0)), (2, .ref (adM 0)), (3, .ref ao), (4, .int (nI (6 * k)))] [.int ((nI (6 * k)) + (nI 1)), .ref b, .ref (adM 0)] rfl ?_
  refine g_nm (lv' := [(5, .int (nI 0)), (0, .ref b), (1, .ref (adC 0)), (2, .ref (adM 0)), (3, .ref ao), (4, .int (nI (6 * k)))]) (st' := [.int (nI ((6 * k) + 1)), .ref b, .ref (adM 0)]) (by simp only [nI_add]) (by simp only [nI_add]) ?_
  refine g_sld X hX hbl hbA hN (v := nI 10) (by omega) e1 dL_law_1897 ?_
  refine g_perm (ws' := WM adM g I L S Z Y ++ (WC adC g I L S ++ ([OUT ao ((bkV I L S 10).toInt64) ov] : va_W))) (List.perm_append_comm (l₁ := WM adM g I L S Z Y) (l₂ := (WC adC g I L S ++ ([OUT ao ((bkV I L S 10).toInt64) ov] : va_W)))) ?_
  refine g_callV X hSB hAf srcW (hrc1 := (rfl : CL[8]? = some _)) (wm_mem (k := 0) (by decide)) rfl (As := [.int (nI 10)]) (wr := WC adC g I L S ++ ([OUT ao ((bkV I L S 10).toInt64) ov] : va_W)) (n := 1) (c_X9_bank_b l D g adM I L S Z Y R (hR) (hZ) (hI.s18) (hI.ky)) rfl srcN hrdN w_1492 w_1489 w_1490 w_1491 w_6 (by decide +kernel) rfl ⟨Nat.le_of_ble_eq_true rfl, Nat.le_of_ble_eq_true rfl⟩ rfl rfl rfl (Nat.le_of_ble_eq_true rfl) ⟨by show cells + 0 + 16 ≤ 600002; omega, by show slots + 0 + 240 ≤ 7302232; omega⟩ dL_law_1898 (fun hu2 hp_hu2 => ?_)
  refine g_af (ws' := WM adM g I L S (z4 (u2 Z 3 0 (nI 0)) hu2.1 hu2.2.1 hu2.2.2) Y ++ (WC adC g I L S ++ ([OUT ao ((bkV I L S 10).toInt64) ov] : va_W))) (st' := [.int (bkV I L S 10)]) (cells' := cells + 0 + 16) (slots' := slots + 0 + 240) (pc' := 1901) rfl rfl rfl rfl rfl ?_
  refine g_run X KL_law_1901_275 KL_law_1901_275_d 1904 [(6, .int (bkV I L S 10)), (5, .int (nI 0)), (0, .ref b), (1, .ref (adC 0)), (2, .ref (adM 0)), (3, .ref ao), (4, .int (nI (6 * k)))] [.ref (adM 0)] rfl ?_
  refine g_callV X hSB hAf srcW (hrc1 := (rfl : CL[8]? = some _)) (wm_mem (k := 0) (by decide)) rfl (As := []) (wr := WC adC g I L S ++ ([OUT ao ((bkV I L S 10).toInt64) ov] : va_W)) (n := 0) (c_X9_thrown l D g adM I L S (z4 (u2 Z 3 0 (nI 0)) hu2.1 hu2.2.1 hu2.2.2) Y ) rfl srcN hrdN w_1250 w_1247 w_1248 w_1249 w_6 (by decide +kernel) rfl ⟨Nat.le_of_ble_eq_true rfl, Nat.le_of_ble_eq_true rfl⟩ rfl rfl rfl (Nat.le_of_ble_eq_true rfl) ⟨by show cells + 0 + 16 + 0 ≤ 600002; omega, by show slots + 0 + 240 + 0 ≤ 7302232; omega⟩ dL_law_1904 (fun hu3 hp_hu3 => ?_)
  refine g_af (ws' := WM adM g I L S (z4 (u2 Z 3 0 (nI 0)) hu2.1 hu2.2.1 hu2.2.2) Y ++ (WC adC g I L S ++ ([OUT ao ((bkV I L S 10).toInt64) ov] : va_W))) (st' := [.int ((z4 (u2 Z 3 0 (nI 0)) hu2.1 hu2.2.1 hu2.2.2) 3 0)]) (cells' := cells + 0 + 16 + 0) (slots' := slots + 0 + 240 + 0) (pc' := 1907) rfl rfl rfl rfl rfl ?_
  refine g_st (st' := [.int (nI 0)]) (by first | rfl | (simp [z4, u2]; done)) ?_
  refine g_run X KL_law_1907_276 KL_law_1907_276_d 1909 [(6, .int (bkV I L S 10)), (5, .int (nI 0)), (0, .ref b), (1, .ref (adC 0)), (2, .ref (adM 0)), (3, .ref ao), (4, .int (nI (6 * k)))] [.int (nI 0), .int (nI 0)] rfl ?_
  refine g_icmp_eq X 1914 dL_law_1909 (by decide) (fun hc4 => ?_) (fun hc4 => ?_)
  · refine g_run X KL_law_1914_277 KL_law_1914_277_d 1916 [(6, .int (bkV I L S 10)), (5, .int (nI 0)), (0, .ref b), (1, .ref (adC 0)), (2, .ref (adM 0)), (3, .ref ao), (4, .int (nI (6 * k)))] [.int (nI 0)] rfl ?_
    refine g_if_ne X 1932 dL_law_1916 (by decide) (fun hc5 => ?_) (fun hc5 => ?_)
    · rw [nz_eq (by omega)] at hc5; first | omega | (simp at hc5)
    · refine g_run X KL_law_1919_278 KL_law_1919_278_d 1920 [(6, .int (bkV I L S 10)), (5, .int (nI 0)), (0, .ref b), (1, .ref (adC 0)), (2, .ref (adM 0)), (3, .ref ao), (4, .int (nI (6 * k)))] [.ref ao] rfl ?_
      refine g_getN X srcW (host := "ChipfieldLaw") (v := .long ((bkV I L S 10).toInt64)) hinX6 rfl 0 (by decide) (nw_in n_489 rfl) rfl (List.mem_append_right _ (List.mem_append_right _ List.mem_cons_self)) rfl dL_law_1920 ?_
      refine g_run X KL_law_1923_279 KL_law_1923_279_d 1927 [(6, .int (bkV I L S 10)), (5, .int (nI 0)), (0, .ref b), (1, .ref (adC 0)), (2, .ref (adM 0)), (3, .ref ao), (4, .int (nI (6 * k)))] [.int (lg_cmp ((bkV I L S 10).toInt64) ((bkV I L S 10).toInt64))] rfl ?_
      refine g_if_eq X 1932 dL_law_1927 (by decide) (fun hc6 => ?_) (fun hc6 => ?_)
      · refine g_run X KL_law_1932_280 KL_law_1932_280_d 2256 [(6, .int (bkV I L S 10)), (5, .int (nI 0)), (0, .ref b), (1, .ref (adC 0)), (2, .ref (adM 0)), (3, .ref ao), (4, .int (nI (6 * k)))] [] rfl ?_
        refine g_lv (lv' := [(0, .ref b), (1, .ref (adC 0)), (2, .ref (adM 0)), (3, .ref ao), (4, .int (nI (6 * k)))]) (lsub_c 2 rfl (lsub_c 3 rfl (lsub_c 4 rfl (lsub_c 5 rfl (lsub_c 6 rfl (lsub_n)))))) ?_
        refine g_perm (ws' := (WC adC g I L S ++ ([OUT ao ((bkV I L S 10).toInt64) ov] : va_W)) ++ WM adM g I L S (z4 (u2 Z 3 0 (nI 0)) hu2.1 hu2.2.1 hu2.2.2) Y) (List.perm_append_comm (l₁ := (WC adC g I L S ++ ([OUT ao ((bkV I L S 10).toInt64) ov] : va_W))) (l₂ := WM adM g I L S (z4 (u2 Z 3 0 (nI 0)) hu2.1 hu2.2.1 hu2.2.2) Y)) ?_
        refine g_widen (k := cells + 60) (n := slots + 1200) (by omega) (by omega) ?_
        exact kk I L S n (z4 (u2 Z 3 0 (nI 0)) hu2.1 hu2.2.1 hu2.2.2) Y hu2.1 ((bkV I L S 10).toInt64) ov (hI) (hp_hu2) (rfl)
      · exact absurd lg_self hc6
  · rw [nI_eq (by omega) (by omega)] at hc4; first | omega | (simp at hc4)

set_option maxHeartbeats 4000000 in
set_option maxRecDepth 100000 in
theorem lq25_0d {p : Program} {l : Launch} {e : Env} {s : State} {m : MethodId} {below : List Frame} {meth : Method} {c : Code} {Q : State → Prop} {D : va_G} {A : Nat → Prop} {b N : Nat} {xs : Nat → Int32} {adC adM : Nat → Nat} {g : Nat → ClassId} {ao k cells slots : Nat} {I : Nat → Nat → Int32} {L : Nat → Nat → Int64} {S : Nat → Nat} {n : Nat} {Z : Nat → Nat → Int32} {Y : Int64} {R : Nat → Nat} {on : Int64} {ov : Value} (HX : LX p l s m meth c A b N xs) (hk : 6 * k + 6 ≤ N) (hroom : cells + 60 ≤ 600002 ∧ slots + 1200 ≤ 7302232) (hI : Inv I L S n) (hR : R16 R) (hZ : Z 0 = fun j => nI (R j)) (e1 : xs (6 * k + 1) = nI 12) (kk : LK p l e s m below meth c Q D A b adC adM g ao k cells slots 2256) : GL p l e room_1 s m #[.ref b] below meth c Q D CL (TYS g) A 9 (WL adC adM g ao I L S Z Y on ov) cells slots 1878 [(0, .ref b), (1, .ref (adC 0)), (2, .ref (adM 0)), (3, .ref ao), (4, .int (nI (6 * k)))] [] := by
  obtain ⟨X, hSB, hAf, hNC, hfl, hX, hbl, hbA, hN⟩ := HX
  refine g_run X KL_law_1878_272 KL_law_1878_272_d 1884 [(0, .ref b), (1, .ref (adC 0)), (2, .ref (adM 0)), (3, .ref ao), (4, .int (nI (6 * k)))] [.int ((nI (6 * k)) + (nI 1)), .ref b, .ref (adC 0)] rfl ?_
  refine g_nm (lv' := [(0, .ref b), (1, .ref (adC 0)), (2, .ref (adM 0)), (3, .ref ao), (4, .int (nI (6 * k)))]) (st' := [.int (nI ((6 * k) + 1)), .ref b, .ref (adC 0)]) (by simp only [nI_add]) (by simp only [nI_add]) ?_
  refine g_sld X hX hbl hbA hN (v := nI 12) (by omega) e1 dL_law_1884 ?_
  refine g_run X KL_law_1885_273 KL_law_1885_273_d 1886 [(0, .ref b), (1, .ref (adC 0)), (2, .ref (adM 0)), (3, .ref ao), (4, .int (nI (6 * k)))] [.ref ao, .int (nI 12), .ref (adC 0)] rfl ?_
  refine g_callSW X hSB hAf hNC (As := [.ref (adC 0), .int (nI 12), .ref ao]) (wr := WM adM g I L S Z Y) (n := 3) (hc_bank l D g adC I L S 12 ao on ov (hI.s18) (by first | assumption | omega)) rfl w_757 w_755 w_756 w_0 (by decide +kernel) rfl ⟨Nat.le_of_ble_eq_true rfl, Nat.le_of_ble_eq_true rfl⟩ rfl rfl rfl (Nat.le_of_ble_eq_true rfl) ⟨by show cells + 0 ≤ 600002; omega, by show slots + 0 ≤ 7302232; omega⟩ dL_law_1886 (fun hu1 _ => ?_)
  refine g_af (ws' := (WC adC g I L S ++ ([OUT ao ((bkV I L S 12).toInt64) ov] : va_W)) ++ WM adM g I L S Z Y) (st' := [.int (nI 0)]) (cells' := cells + 0) (slots' := slots + 0) (pc' := 1889) rfl rfl rfl rfl rfl ?_
  refine g_run X KL_law_1889_274 KL_law_1889_274_d 1897 [(5, .int (nI 0)), (0, .ref b), (1, .ref (adC 0)), (2, .ref (adM 0)), (3, .ref ao), (4, .int (nI (6 * k)))] [.int ((nI (6 * k)) + (nI 1)), .ref b, .ref (adM 0)] rfl ?_
  refine g_nm (lv' := [(5, .int (nI 0)), (0, .ref b), (1, .ref (adC 0)), (2, .ref (adM 0)), (3, .ref ao), (4, .int (nI (6 * k)))]) (st' := [.int (nI ((6 * k) + 1)), .ref b, .ref (adM 0)]) (by simp only [nI_add]) (by simp only [nI_add]) ?_
  refine g_sld X hX hbl hbA hN (v := nI 12) (by omega) e1 dL_law_1897 ?_
  refine g_perm (ws' := WM adM g I L S Z Y ++ (WC adC g I L S ++ ([OUT ao ((bkV I L S 12).toInt64) ov] : va_W))) (List.perm_append_comm (l₁ := WM adM g I L S Z Y) (l₂ := (WC adC g I L S ++ ([OUT ao ((bkV I L S 12).toInt64) ov] : va_W)))) ?_
  refine g_callV X hSB hAf srcW (hrc1 := (rfl : CL[8]? = some _)) (wm_mem (k := 0) (by decide)) rfl (As := [.int (nI 12)]) (wr := WC adC g I L S ++ ([OUT ao ((bkV I L S 12).toInt64) ov] : va_W)) (n := 1) (c_X9_bank_d l D g adM I L S Z Y R (hR) (hZ) (hI.s18) (hI.ky)) rfl srcN hrdN w_1492 w_1489 w_1490 w_1491 w_6 (by decide +kernel) rfl ⟨Nat.le_of_ble_eq_true rfl, Nat.le_of_ble_eq_true rfl⟩ rfl rfl rfl (Nat.le_of_ble_eq_true rfl) ⟨by show cells + 0 + 16 ≤ 600002; omega, by show slots + 0 + 240 ≤ 7302232; omega⟩ dL_law_1898 (fun hu2 hp_hu2 => ?_)
  refine g_af (ws' := WM adM g I L S (z4 (u2 Z 3 0 (nI 0)) hu2.1 hu2.2.1 hu2.2.2) Y ++ (WC adC g I L S ++ ([OUT ao ((bkV I L S 12).toInt64) ov] : va_W))) (st' := [.int (bkV I L S 12)]) (cells' := cells + 0 + 16) (slots' := slots + 0 + 240) (pc' := 1901) rfl rfl rfl rfl rfl ?_
  refine g_run X KL_law_1901_275 KL_law_1901_275_d 1904 [(6, .int (bkV I L S 12)), (5, .int (nI 0)), (0, .ref b), (1, .ref (adC 0)), (2, .ref (adM 0)), (3, .ref ao), (4, .int (nI (6 * k)))] [.ref (adM 0)] rfl ?_
  refine g_callV X hSB hAf srcW (hrc1 := (rfl : CL[8]? = some _)) (wm_mem (k := 0) (by decide)) rfl (As := []) (wr := WC adC g I L S ++ ([OUT ao ((bkV I L S 12).toInt64) ov] : va_W)) (n := 0) (c_X9_thrown l D g adM I L S (z4 (u2 Z 3 0 (nI 0)) hu2.1 hu2.2.1 hu2.2.2) Y ) rfl srcN hrdN w_1250 w_1247 w_1248 w_1249 w_6 (by decide +kernel) rfl ⟨Nat.le_of_ble_eq_true rfl, Nat.le_of_ble_eq_true rfl⟩ rfl rfl rfl (Nat.le_of_ble_eq_true rfl) ⟨by show cells + 0 + 16 + 0 ≤ 600002; omega, by show slots + 0 + 240 + 0 ≤ 7302232; omega⟩ dL_law_1904 (fun hu3 hp_hu3 => ?_)
  refine g_af (ws' := WM adM g I L S (z4 (u2 Z 3 0 (nI 0)) hu2.1 hu2.2.1 hu2.2.2) Y ++ (WC adC g I L S ++ ([OUT ao ((bkV I L S 12).toInt64) ov] : va_W))) (st' := [.int ((z4 (u2 Z 3 0 (nI 0)) hu2.1 hu2.2.1 hu2.2.2) 3 0)]) (cells' := cells + 0 + 16 + 0) (slots' := slots + 0 + 240 + 0) (pc' := 1907) rfl rfl rfl rfl rfl ?_
  refine g_st (st' := [.int (nI 0)]) (by first | rfl | (simp [z4, u2]; done)) ?_
  refine g_run X KL_law_1907_276 KL_law_1907_276_d 1909 [(6, .int (bkV I L S 12)), (5, .int (nI 0)), (0, .ref b), (1, .ref (adC 0)), (2, .ref (adM 0)), (3, .ref ao), (4, .int (nI (6 * k)))] [.int (nI 0), .int (nI 0)] rfl ?_
  refine g_icmp_eq X 1914 dL_law_1909 (by decide) (fun hc4 => ?_) (fun hc4 => ?_)
  · refine g_run X KL_law_1914_277 KL_law_1914_277_d 1916 [(6, .int (bkV I L S 12)), (5, .int (nI 0)), (0, .ref b), (1, .ref (adC 0)), (2, .ref (adM 0)), (3, .ref ao), (4, .int (nI (6 * k)))] [.int (nI 0)] rfl ?_
    refine g_if_ne X 1932 dL_law_1916 (by decide) (fun hc5 => ?_) (fun hc5 => ?_)
    · rw [nz_eq (by omega)] at hc5; first | omega | (simp at hc5)
    · refine g_run X KL_law_1919_278 KL_law_1919_278_d 1920 [(6, .int (bkV I L S 12)), (5, .int (nI 0)), (0, .ref b), (1, .ref (adC 0)), (2, .ref (adM 0)), (3, .ref ao), (4, .int (nI (6 * k)))] [.ref ao] rfl ?_
      refine g_getN X srcW (host := "ChipfieldLaw") (v := .long ((bkV I L S 12).toInt64)) hinX6 rfl 0 (by decide) (nw_in n_489 rfl) rfl (List.mem_append_right _ (List.mem_append_right _ List.mem_cons_self)) rfl dL_law_1920 ?_
      refine g_run X KL_law_1923_279 KL_law_1923_279_d 1927 [(6, .int (bkV I L S 12)), (5, .int (nI 0)), (0, .ref b), (1, .ref (adC 0)), (2, .ref (adM 0)), (3, .ref ao), (4, .int (nI (6 * k)))] [.int (lg_cmp ((bkV I L S 12).toInt64) ((bkV I L S 12).toInt64))] rfl ?_
      refine g_if_eq X 1932 dL_law_1927 (by decide) (fun hc6 => ?_) (fun hc6 => ?_)
      · refine g_run X KL_law_1932_280 KL_law_1932_280_d 2256 [(6, .int (bkV I L S 12)), (5, .int (nI 0)), (0, .ref b), (1, .ref (adC 0)), (2, .ref (adM 0)), (3, .ref ao), (4, .int (nI (6 * k)))] [] rfl ?_
        refine g_lv (lv' := [(0, .ref b), (1, .ref (adC 0)), (2, .ref (adM 0)), (3, .ref ao), (4, .int (nI (6 * k)))]) (lsub_c 2 rfl (lsub_c 3 rfl (lsub_c 4 rfl (lsub_c 5 rfl (lsub_c 6 rfl (lsub_n)))))) ?_
        refine g_perm (ws' := (WC adC g I L S ++ ([OUT ao ((bkV I L S 12).toInt64) ov] : va_W)) ++ WM adM g I L S (z4 (u2 Z 3 0 (nI 0)) hu2.1 hu2.2.1 hu2.2.2) Y) (List.perm_append_comm (l₁ := (WC adC g I L S ++ ([OUT ao ((bkV I L S 12).toInt64) ov] : va_W))) (l₂ := WM adM g I L S (z4 (u2 Z 3 0 (nI 0)) hu2.1 hu2.2.1 hu2.2.2) Y)) ?_
        refine g_widen (k := cells + 60) (n := slots + 1200) (by omega) (by omega) ?_
        exact kk I L S n (z4 (u2 Z 3 0 (nI 0)) hu2.1 hu2.2.1 hu2.2.2) Y hu2.1 ((bkV I L S 12).toInt64) ov (hI) (hp_hu2) (rfl)
      · exact absurd lg_self hc6
  · rw [nI_eq (by omega) (by omega)] at hc4; first | omega | (simp at hc4)

set_option maxHeartbeats 4000000 in
set_option maxRecDepth 100000 in
theorem lq25_0 {p : Program} {l : Launch} {e : Env} {s : State} {m : MethodId} {below : List Frame} {meth : Method} {c : Code} {Q : State → Prop} {D : va_G} {A : Nat → Prop} {b N : Nat} {xs : Nat → Int32} {adC adM : Nat → Nat} {g : Nat → ClassId} {ao k cells slots : Nat} {I : Nat → Nat → Int32} {L : Nat → Nat → Int64} {S : Nat → Nat} {n : Nat} {Z : Nat → Nat → Int32} {Y : Int64} {R : Nat → Nat} {on : Int64} {ov : Value} (HX : LX p l s m meth c A b N xs) (hk : 6 * k + 6 ≤ N) (hroom : cells + 60 ≤ 600002 ∧ slots + 1200 ≤ 7302232) (hI : Inv I L S n) (hR : R16 R) (hZ : Z 0 = fun j => nI (R j)) (a1 : Nat) (hl1 : 0 ≤ a1) (hu1 : a1 < 13) (e1 : xs (6 * k + 1) = nI a1) (hx1 : a1 < 12) (hx2 : a1 ≠ 10) (kk : LK p l e s m below meth c Q D A b adC adM g ao k cells slots 2256) : GL p l e room_1 s m #[.ref b] below meth c Q D CL (TYS g) A 9 (WL adC adM g ao I L S Z Y on ov) cells slots 1878 [(0, .ref b), (1, .ref (adC 0)), (2, .ref (adM 0)), (3, .ref ao), (4, .int (nI (6 * k)))] [] := by
  obtain ⟨X, hSB, hAf, hNC, hfl, hX, hbl, hbA, hN⟩ := HX
  refine g_run X KL_law_1878_272 KL_law_1878_272_d 1884 [(0, .ref b), (1, .ref (adC 0)), (2, .ref (adM 0)), (3, .ref ao), (4, .int (nI (6 * k)))] [.int ((nI (6 * k)) + (nI 1)), .ref b, .ref (adC 0)] rfl ?_
  refine g_nm (lv' := [(0, .ref b), (1, .ref (adC 0)), (2, .ref (adM 0)), (3, .ref ao), (4, .int (nI (6 * k)))]) (st' := [.int (nI ((6 * k) + 1)), .ref b, .ref (adC 0)]) (by simp only [nI_add]) (by simp only [nI_add]) ?_
  refine g_sld X hX hbl hbA hN (v := nI a1) (by omega) e1 dL_law_1884 ?_
  refine g_run X KL_law_1885_273 KL_law_1885_273_d 1886 [(0, .ref b), (1, .ref (adC 0)), (2, .ref (adM 0)), (3, .ref ao), (4, .int (nI (6 * k)))] [.ref ao, .int (nI a1), .ref (adC 0)] rfl ?_
  refine g_callSW X hSB hAf hNC (As := [.ref (adC 0), .int (nI a1), .ref ao]) (wr := WM adM g I L S Z Y) (n := 3) (hc_bank l D g adC I L S a1 ao on ov (hI.s18) (by first | assumption | omega)) rfl w_757 w_755 w_756 w_0 (by decide +kernel) rfl ⟨Nat.le_of_ble_eq_true rfl, Nat.le_of_ble_eq_true rfl⟩ rfl rfl rfl (Nat.le_of_ble_eq_true rfl) ⟨by show cells + 0 ≤ 600002; omega, by show slots + 0 ≤ 7302232; omega⟩ dL_law_1886 (fun hu1 _ => ?_)
  refine g_af (ws' := (WC adC g I L S ++ ([OUT ao ((bkV I L S a1).toInt64) ov] : va_W)) ++ WM adM g I L S Z Y) (st' := [.int (nI 0)]) (cells' := cells + 0) (slots' := slots + 0) (pc' := 1889) rfl rfl rfl rfl rfl ?_
  refine g_run X KL_law_1889_274 KL_law_1889_274_d 1897 [(5, .int (nI 0)), (0, .ref b), (1, .ref (adC 0)), (2, .ref (adM 0)), (3, .ref ao), (4, .int (nI (6 * k)))] [.int ((nI (6 * k)) + (nI 1)), .ref b, .ref (adM 0)] rfl ?_
  refine g_nm (lv' := [(5, .int (nI 0)), (0, .ref b), (1, .ref (adC 0)), (2, .ref (adM 0)), (3, .ref ao), (4, .int (nI (6 * k)))]) (st' := [.int (nI ((6 * k) + 1)), .ref b, .ref (adM 0)]) (by simp only [nI_add]) (by simp only [nI_add]) ?_
  refine g_sld X hX hbl hbA hN (v := nI a1) (by omega) e1 dL_law_1897 ?_
  refine g_perm (ws' := WM adM g I L S Z Y ++ (WC adC g I L S ++ ([OUT ao ((bkV I L S a1).toInt64) ov] : va_W))) (List.perm_append_comm (l₁ := WM adM g I L S Z Y) (l₂ := (WC adC g I L S ++ ([OUT ao ((bkV I L S a1).toInt64) ov] : va_W)))) ?_
  refine g_callV X hSB hAf srcW (hrc1 := (rfl : CL[8]? = some _)) (wm_mem (k := 0) (by decide)) rfl (As := [.int (nI a1)]) (wr := WC adC g I L S ++ ([OUT ao ((bkV I L S a1).toInt64) ov] : va_W)) (n := 1) (c_X9_bank l D g adM I L S Z Y a1 R (hR) (hZ) (hI.s18) (hI.ky) (sp_bank hI.sp) (by first | assumption | omega) (by first | assumption | omega)) rfl srcN hrdN w_1492 w_1489 w_1490 w_1491 w_6 (by decide +kernel) rfl ⟨Nat.le_of_ble_eq_true rfl, Nat.le_of_ble_eq_true rfl⟩ rfl rfl rfl (Nat.le_of_ble_eq_true rfl) ⟨by show cells + 0 + 16 ≤ 600002; omega, by show slots + 0 + 240 ≤ 7302232; omega⟩ dL_law_1898 (fun hu2 hp_hu2 => ?_)
  refine g_af (ws' := WM adM g I L S (z4 (u2 Z 3 0 (nI 0)) hu2.1 hu2.2.1 hu2.2.2) Y ++ (WC adC g I L S ++ ([OUT ao ((bkV I L S a1).toInt64) ov] : va_W))) (st' := [.int (bkV I L S a1)]) (cells' := cells + 0 + 16) (slots' := slots + 0 + 240) (pc' := 1901) rfl rfl rfl rfl rfl ?_
  refine g_run X KL_law_1901_275 KL_law_1901_275_d 1904 [(6, .int (bkV I L S a1)), (5, .int (nI 0)), (0, .ref b), (1, .ref (adC 0)), (2, .ref (adM 0)), (3, .ref ao), (4, .int (nI (6 * k)))] [.ref (adM 0)] rfl ?_
  refine g_callV X hSB hAf srcW (hrc1 := (rfl : CL[8]? = some _)) (wm_mem (k := 0) (by decide)) rfl (As := []) (wr := WC adC g I L S ++ ([OUT ao ((bkV I L S a1).toInt64) ov] : va_W)) (n := 0) (c_X9_thrown l D g adM I L S (z4 (u2 Z 3 0 (nI 0)) hu2.1 hu2.2.1 hu2.2.2) Y ) rfl srcN hrdN w_1250 w_1247 w_1248 w_1249 w_6 (by decide +kernel) rfl ⟨Nat.le_of_ble_eq_true rfl, Nat.le_of_ble_eq_true rfl⟩ rfl rfl rfl (Nat.le_of_ble_eq_true rfl) ⟨by show cells + 0 + 16 + 0 ≤ 600002; omega, by show slots + 0 + 240 + 0 ≤ 7302232; omega⟩ dL_law_1904 (fun hu3 hp_hu3 => ?_)
  refine g_af (ws' := WM adM g I L S (z4 (u2 Z 3 0 (nI 0)) hu2.1 hu2.2.1 hu2.2.2) Y ++ (WC adC g I L S ++ ([OUT ao ((bkV I L S a1).toInt64) ov] : va_W))) (st' := [.int ((z4 (u2 Z 3 0 (nI 0)) hu2.1 hu2.2.1 hu2.2.2) 3 0)]) (cells' := cells + 0 + 16 + 0) (slots' := slots + 0 + 240 + 0) (pc' := 1907) rfl rfl rfl rfl rfl ?_
  refine g_st (st' := [.int (nI 0)]) (by first | rfl | (simp [z4, u2]; done)) ?_
  refine g_run X KL_law_1907_276 KL_law_1907_276_d 1909 [(6, .int (bkV I L S a1)), (5, .int (nI 0)), (0, .ref b), (1, .ref (adC 0)), (2, .ref (adM 0)), (3, .ref ao), (4, .int (nI (6 * k)))] [.int (nI 0), .int (nI 0)] rfl ?_
  refine g_icmp_eq X 1914 dL_law_1909 (by decide) (fun hc4 => ?_) (fun hc4 => ?_)
  · refine g_run X KL_law_1914_277 KL_law_1914_277_d 1916 [(6, .int (bkV I L S a1)), (5, .int (nI 0)), (0, .ref b), (1, .ref (adC 0)), (2, .ref (adM 0)), (3, .ref ao), (4, .int (nI (6 * k)))] [.int (nI 0)] rfl ?_
    refine g_if_ne X 1932 dL_law_1916 (by decide) (fun hc5 => ?_) (fun hc5 => ?_)
    · rw [nz_eq (by omega)] at hc5; first | omega | (simp at hc5)
    · refine g_run X KL_law_1919_278 KL_law_1919_278_d 1920 [(6, .int (bkV I L S a1)), (5, .int (nI 0)), (0, .ref b), (1, .ref (adC 0)), (2, .ref (adM 0)), (3, .ref ao), (4, .int (nI (6 * k)))] [.ref ao] rfl ?_
      refine g_getN X srcW (host := "ChipfieldLaw") (v := .long ((bkV I L S a1).toInt64)) hinX6 rfl 0 (by decide) (nw_in n_489 rfl) rfl (List.mem_append_right _ (List.mem_append_right _ List.mem_cons_self)) rfl dL_law_1920 ?_
      refine g_run X KL_law_1923_279 KL_law_1923_279_d 1927 [(6, .int (bkV I L S a1)), (5, .int (nI 0)), (0, .ref b), (1, .ref (adC 0)), (2, .ref (adM 0)), (3, .ref ao), (4, .int (nI (6 * k)))] [.int (lg_cmp ((bkV I L S a1).toInt64) ((bkV I L S a1).toInt64))] rfl ?_
      refine g_if_eq X 1932 dL_law_1927 (by decide) (fun hc6 => ?_) (fun hc6 => ?_)
      · refine g_run X KL_law_1932_280 KL_law_1932_280_d 2256 [(6, .int (bkV I L S a1)), (5, .int (nI 0)), (0, .ref b), (1, .ref (adC 0)), (2, .ref (adM 0)), (3, .ref ao), (4, .int (nI (6 * k)))] [] rfl ?_
        refine g_lv (lv' := [(0, .ref b), (1, .ref (adC 0)), (2, .ref (adM 0)), (3, .ref ao), (4, .int (nI (6 * k)))]) (lsub_c 2 rfl (lsub_c 3 rfl (lsub_c 4 rfl (lsub_c 5 rfl (lsub_c 6 rfl (lsub_n)))))) ?_
        refine g_perm (ws' := (WC adC g I L S ++ ([OUT ao ((bkV I L S a1).toInt64) ov] : va_W)) ++ WM adM g I L S (z4 (u2 Z 3 0 (nI 0)) hu2.1 hu2.2.1 hu2.2.2) Y) (List.perm_append_comm (l₁ := (WC adC g I L S ++ ([OUT ao ((bkV I L S a1).toInt64) ov] : va_W))) (l₂ := WM adM g I L S (z4 (u2 Z 3 0 (nI 0)) hu2.1 hu2.2.1 hu2.2.2) Y)) ?_
        refine g_widen (k := cells + 60) (n := slots + 1200) (by omega) (by omega) ?_
        exact kk I L S n (z4 (u2 Z 3 0 (nI 0)) hu2.1 hu2.2.1 hu2.2.2) Y hu2.1 ((bkV I L S a1).toInt64) ov (hI) (hp_hu2) (rfl)
      · exact absurd lg_self hc6
  · rw [nI_eq (by omega) (by omega)] at hc4; first | omega | (simp at hc4)

set_option maxHeartbeats 4000000 in
set_option maxRecDepth 100000 in
theorem lq25_1 {p : Program} {l : Launch} {e : Env} {s : State} {m : MethodId} {below : List Frame} {meth : Method} {c : Code} {Q : State → Prop} {D : va_G} {A : Nat → Prop} {b N : Nat} {xs : Nat → Int32} {adC adM : Nat → Nat} {g : Nat → ClassId} {ao k cells slots : Nat} {I : Nat → Nat → Int32} {L : Nat → Nat → Int64} {S : Nat → Nat} {n : Nat} {Z : Nat → Nat → Int32} {Y : Int64} {R : Nat → Nat} {on : Int64} {ov : Value} (HX : LX p l s m meth c A b N xs) (hk : 6 * k + 6 ≤ N) (hroom : cells + 60 ≤ 600002 ∧ slots + 1200 ≤ 7302232) (hI : Inv I L S n) (hR : R16 R) (hZ : Z 0 = fun j => nI (R j)) (hw : (xs (6 * k + 1)).toInt < (0 : Nat) ∨ ((13 : Nat) : Int) ≤ (xs (6 * k + 1)).toInt) (kk : LK p l e s m below meth c Q D A b adC adM g ao k cells slots 2256) : GL p l e room_1 s m #[.ref b] below meth c Q D CL (TYS g) A 9 (WL adC adM g ao I L S Z Y on ov) cells slots 1878 [(0, .ref b), (1, .ref (adC 0)), (2, .ref (adM 0)), (3, .ref ao), (4, .int (nI (6 * k)))] [] := by
  obtain ⟨X, hSB, hAf, hNC, hfl, hX, hbl, hbA, hN⟩ := HX
  refine g_run X KL_law_1878_272 KL_law_1878_272_d 1884 [(0, .ref b), (1, .ref (adC 0)), (2, .ref (adM 0)), (3, .ref ao), (4, .int (nI (6 * k)))] [.int ((nI (6 * k)) + (nI 1)), .ref b, .ref (adC 0)] rfl ?_
  refine g_nm (lv' := [(0, .ref b), (1, .ref (adC 0)), (2, .ref (adM 0)), (3, .ref ao), (4, .int (nI (6 * k)))]) (st' := [.int (nI ((6 * k) + 1)), .ref b, .ref (adC 0)]) (by simp only [nI_add]) (by simp only [nI_add]) ?_
  refine g_sld X hX hbl hbA hN (v := xs (6 * k + 1)) (by omega) rfl dL_law_1884 ?_
  refine g_run X KL_law_1885_273 KL_law_1885_273_d 1886 [(0, .ref b), (1, .ref (adC 0)), (2, .ref (adM 0)), (3, .ref ao), (4, .int (nI (6 * k)))] [.ref ao, .int (xs (6 * k + 1)), .ref (adC 0)] rfl ?_
  refine g_callSW X hSB hAf hNC (As := [.ref (adC 0), .int (xs (6 * k + 1)), .ref ao]) (wr := WM adM g I L S Z Y) (n := 3) (hx_bank_1 l hfl D g adC I L S (xs (6 * k + 1)) ao on ov (out_ti hw)) rfl w_757 w_755 w_756 w_0 (by decide +kernel) rfl ⟨Nat.le_of_ble_eq_true rfl, Nat.le_of_ble_eq_true rfl⟩ rfl rfl rfl (Nat.le_of_ble_eq_true rfl) ⟨by show cells + 1 ≤ 600002; omega, by show slots + 6 ≤ 7302232; omega⟩ dL_law_1886 (fun hu1 _ => ?_)
  refine g_af (ws' := (WC adC g I L S ++ ([OUT ao on ov] : va_W)) ++ WM adM g I L S Z Y) (st' := [.int (nI 1)]) (cells' := cells + 1) (slots' := slots + 6) (pc' := 1889) rfl rfl rfl rfl rfl ?_
  refine g_run X KL_law_1889_274 KL_law_1889_274_d 1897 [(5, .int (nI 1)), (0, .ref b), (1, .ref (adC 0)), (2, .ref (adM 0)), (3, .ref ao), (4, .int (nI (6 * k)))] [.int ((nI (6 * k)) + (nI 1)), .ref b, .ref (adM 0)] rfl ?_
  refine g_nm (lv' := [(5, .int (nI 1)), (0, .ref b), (1, .ref (adC 0)), (2, .ref (adM 0)), (3, .ref ao), (4, .int (nI (6 * k)))]) (st' := [.int (nI ((6 * k) + 1)), .ref b, .ref (adM 0)]) (by simp only [nI_add]) (by simp only [nI_add]) ?_
  refine g_sld X hX hbl hbA hN (v := xs (6 * k + 1)) (by omega) rfl dL_law_1897 ?_
  refine g_perm (ws' := WM adM g I L S Z Y ++ (WC adC g I L S ++ ([OUT ao on ov] : va_W))) (List.perm_append_comm (l₁ := WM adM g I L S Z Y) (l₂ := (WC adC g I L S ++ ([OUT ao on ov] : va_W)))) ?_
  refine g_callV X hSB hAf srcW (hrc1 := (rfl : CL[8]? = some _)) (wm_mem (k := 0) (by decide)) rfl (As := [.int (xs (6 * k + 1))]) (wr := WC adC g I L S ++ ([OUT ao on ov] : va_W)) (n := 1) (c_X9_bank_1 l D g adM I L S Z Y (xs (6 * k + 1)) (out_lo (by decide) (by decide) hw)) rfl srcN hrdN w_1492 w_1489 w_1490 w_1491 w_6 (by decide +kernel) rfl ⟨Nat.le_of_ble_eq_true rfl, Nat.le_of_ble_eq_true rfl⟩ rfl rfl rfl (Nat.le_of_ble_eq_true rfl) ⟨by show cells + 1 + 0 ≤ 600002; omega, by show slots + 6 + 0 ≤ 7302232; omega⟩ dL_law_1898 (fun hu2 hp_hu2 => ?_)
  refine g_af (ws' := WM adM g I L S (u2 (u2 Z 3 0 (nI 0)) 3 0 (nI 1)) Y ++ (WC adC g I L S ++ ([OUT ao on ov] : va_W))) (st' := [.int (nI 0)]) (cells' := cells + 1 + 0) (slots' := slots + 6 + 0) (pc' := 1901) rfl rfl rfl rfl rfl ?_
  refine g_run X KL_law_1901_275 KL_law_1901_275_d 1904 [(6, .int (nI 0)), (5, .int (nI 1)), (0, .ref b), (1, .ref (adC 0)), (2, .ref (adM 0)), (3, .ref ao), (4, .int (nI (6 * k)))] [.ref (adM 0)] rfl ?_
  refine g_callV X hSB hAf srcW (hrc1 := (rfl : CL[8]? = some _)) (wm_mem (k := 0) (by decide)) rfl (As := []) (wr := WC adC g I L S ++ ([OUT ao on ov] : va_W)) (n := 0) (c_X9_thrown l D g adM I L S (u2 (u2 Z 3 0 (nI 0)) 3 0 (nI 1)) Y ) rfl srcN hrdN w_1250 w_1247 w_1248 w_1249 w_6 (by decide +kernel) rfl ⟨Nat.le_of_ble_eq_true rfl, Nat.le_of_ble_eq_true rfl⟩ rfl rfl rfl (Nat.le_of_ble_eq_true rfl) ⟨by show cells + 1 + 0 + 0 ≤ 600002; omega, by show slots + 6 + 0 + 0 ≤ 7302232; omega⟩ dL_law_1904 (fun hu3 hp_hu3 => ?_)
  refine g_af (ws' := WM adM g I L S (u2 (u2 Z 3 0 (nI 0)) 3 0 (nI 1)) Y ++ (WC adC g I L S ++ ([OUT ao on ov] : va_W))) (st' := [.int ((u2 (u2 Z 3 0 (nI 0)) 3 0 (nI 1)) 3 0)]) (cells' := cells + 1 + 0 + 0) (slots' := slots + 6 + 0 + 0) (pc' := 1907) rfl rfl rfl rfl rfl ?_
  refine g_st (st' := [.int (nI 1)]) (by first | rfl | (simp [z4, u2]; done)) ?_
  refine g_run X KL_law_1907_276 KL_law_1907_276_d 1909 [(6, .int (nI 0)), (5, .int (nI 1)), (0, .ref b), (1, .ref (adC 0)), (2, .ref (adM 0)), (3, .ref ao), (4, .int (nI (6 * k)))] [.int (nI 1), .int (nI 1)] rfl ?_
  refine g_icmp_eq X 1914 dL_law_1909 (by decide) (fun hc4 => ?_) (fun hc4 => ?_)
  · refine g_run X KL_law_1914_277 KL_law_1914_277_d 1916 [(6, .int (nI 0)), (5, .int (nI 1)), (0, .ref b), (1, .ref (adC 0)), (2, .ref (adM 0)), (3, .ref ao), (4, .int (nI (6 * k)))] [.int (nI 1)] rfl ?_
    refine g_if_ne X 1932 dL_law_1916 (by decide) (fun hc5 => ?_) (fun hc5 => ?_)
    · refine g_run X KL_law_1932_280 KL_law_1932_280_d 2256 [(6, .int (nI 0)), (5, .int (nI 1)), (0, .ref b), (1, .ref (adC 0)), (2, .ref (adM 0)), (3, .ref ao), (4, .int (nI (6 * k)))] [] rfl ?_
      refine g_lv (lv' := [(0, .ref b), (1, .ref (adC 0)), (2, .ref (adM 0)), (3, .ref ao), (4, .int (nI (6 * k)))]) (lsub_c 2 rfl (lsub_c 3 rfl (lsub_c 4 rfl (lsub_c 5 rfl (lsub_c 6 rfl (lsub_n)))))) ?_
      refine g_perm (ws' := (WC adC g I L S ++ ([OUT ao on ov] : va_W)) ++ WM adM g I L S (u2 (u2 Z 3 0 (nI 0)) 3 0 (nI 1)) Y) (List.perm_append_comm (l₁ := (WC adC g I L S ++ ([OUT ao on ov] : va_W))) (l₂ := WM adM g I L S (u2 (u2 Z 3 0 (nI 0)) 3 0 (nI 1)) Y)) ?_
      refine g_widen (k := cells + 60) (n := slots + 1200) (by omega) (by omega) ?_
      exact kk I L S n (u2 (u2 Z 3 0 (nI 0)) 3 0 (nI 1)) Y R on ov (hI) (hR) (by first | exact hZ | (rw [zrow]; exact hZ) | (rw [zrow, zrow]; exact hZ))
    · rw [nz_eq (by omega)] at hc5; first | omega | (simp at hc5)
  · rw [nI_eq (by omega) (by omega)] at hc4; first | omega | (simp at hc4)

theorem lq25 {p : Program} {l : Launch} {e : Env} {s : State} {m : MethodId} {below : List Frame} {meth : Method} {c : Code} {Q : State → Prop} {D : va_G} {A : Nat → Prop} {b N : Nat} {xs : Nat → Int32} {adC adM : Nat → Nat} {g : Nat → ClassId} {ao k cells slots : Nat} {I : Nat → Nat → Int32} {L : Nat → Nat → Int64} {S : Nat → Nat} {n : Nat} {Z : Nat → Nat → Int32} {Y : Int64} {R : Nat → Nat} {on : Int64} {ov : Value} (HX : LX p l s m meth c A b N xs) (hk : 6 * k + 6 ≤ N) (hroom : cells + 60 ≤ 600002 ∧ slots + 1200 ≤ 7302232) (hI : Inv I L S n) (hR : R16 R) (hZ : Z 0 = fun j => nI (R j)) (kk : LK p l e s m below meth c Q D A b adC adM g ao k cells slots 2256) : GL p l e room_1 s m #[.ref b] below meth c Q D CL (TYS g) A 9 (WL adC adM g ao I L S Z Y on ov) cells slots 1878 [(0, .ref b), (1, .ref (adC 0)), (2, .ref (adM 0)), (3, .ref ao), (4, .int (nI (6 * k)))] [] := by
  rcases rg (xs (6 * k + 1)) 0 13 with ⟨a1, hl1, hu1, e1⟩ | hw
  · by_cases h1_10 : a1 = 10
    · exact lq25_0b HX hk hroom hI hR hZ  (by rw [e1, h1_10]) kk
    by_cases h1_12 : a1 = 12
    · exact lq25_0d HX hk hroom hI hR hZ  (by rw [e1, h1_12]) kk
    exact lq25_0 HX hk hroom hI hR hZ  a1 hl1 hu1 e1 (by omega) (by omega) kk
  · exact lq25_1 HX hk hroom hI hR hZ  hw kk

def KL_law_1935_281 : List (Nat × Instr × Nat) := [(1935, .aload_n 1, 1), (1936, .aload_n 0, 1), (1937, .iload 4, 2), (1939, .iconst 1, 1), (1940, .iadd, 1)]
theorem KL_law_1935_281_d : ∀ z ∈ KL_law_1935_281, decode cL_law z.1 = .ok z.2 := by decide +kernel
def KL_law_1942_282 : List (Nat × Instr × Nat) := [(1942, .aload_n 3, 1)]
theorem KL_law_1942_282_d : ∀ z ∈ KL_law_1942_282, decode cL_law z.1 = .ok z.2 := by decide +kernel
def KL_law_1946_283 : List (Nat × Instr × Nat) := [(1946, .istore 5, 2), (1948, .aload_n 2, 1), (1949, .aload_n 0, 1), (1950, .iload 4, 2), (1952, .iconst 1, 1), (1953, .iadd, 1)]
theorem KL_law_1946_283_d : ∀ z ∈ KL_law_1946_283, decode cL_law z.1 = .ok z.2 := by decide +kernel
def KL_law_1958_284 : List (Nat × Instr × Nat) := [(1958, .astore 6, 2), (1960, .aload_n 2, 1)]
theorem KL_law_1958_284_d : ∀ z ∈ KL_law_1958_284, decode cL_law z.1 = .ok z.2 := by decide +kernel
def KL_law_1964_285 : List (Nat × Instr × Nat) := [(1964, .iload 5, 2)]
theorem KL_law_1964_285_d : ∀ z ∈ KL_law_1964_285, decode cL_law z.1 = .ok z.2 := by decide +kernel
def KL_law_1971_286 : List (Nat × Instr × Nat) := [(1971, .iload 5, 2)]
theorem KL_law_1971_286_d : ∀ z ∈ KL_law_1971_286, decode cL_law z.1 = .ok z.2 := by decide +kernel
def KL_law_1976_287 : List (Nat × Instr × Nat) := [(1976, .aload_n 3, 1)]
theorem KL_law_1976_287_d : ∀ z ∈ KL_law_1976_287, decode cL_law z.1 = .ok z.2 := by decide +kernel
def KL_law_1980_288 : List (Nat × Instr × Nat) := [(1980, .aload 6, 2)]
theorem KL_law_1980_288_d : ∀ z ∈ KL_law_1980_288, decode cL_law z.1 = .ok z.2 := by decide +kernel
def KL_law_1990_289 : List (Nat × Instr × Nat) := [(1990, .goto 266, 3)]
theorem KL_law_1990_289_d : ∀ z ∈ KL_law_1990_289, decode cL_law z.1 = .ok z.2 := by decide +kernel
set_option maxHeartbeats 4000000 in
set_option maxRecDepth 100000 in
theorem lq26_0 {p : Program} {l : Launch} {e : Env} {s : State} {m : MethodId} {below : List Frame} {meth : Method} {c : Code} {Q : State → Prop} {D : va_G} {A : Nat → Prop} {b N : Nat} {xs : Nat → Int32} {adC adM : Nat → Nat} {g : Nat → ClassId} {ao k cells slots : Nat} {I : Nat → Nat → Int32} {L : Nat → Nat → Int64} {S : Nat → Nat} {n : Nat} {Z : Nat → Nat → Int32} {Y : Int64} {R : Nat → Nat} {on : Int64} {ov : Value} (HX : LX p l s m meth c A b N xs) (hk : 6 * k + 6 ≤ N) (hroom : cells + 60 ≤ 600002 ∧ slots + 1200 ≤ 7302232) (hI : Inv I L S n) (hR : R16 R) (hZ : Z 0 = fun j => nI (R j)) (a1 : Nat) (hl1 : 0 ≤ a1) (hu1 : a1 < 16) (e1 : xs (6 * k + 1) = nI a1) (kk : LK p l e s m below meth c Q D A b adC adM g ao k cells slots 2256) : GL p l e room_1 s m #[.ref b] below meth c Q D CL (TYS g) A 9 (WL adC adM g ao I L S Z Y on ov) cells slots 1935 [(0, .ref b), (1, .ref (adC 0)), (2, .ref (adM 0)), (3, .ref ao), (4, .int (nI (6 * k)))] [] := by
  obtain ⟨X, hSB, hAf, hNC, hfl, hX, hbl, hbA, hN⟩ := HX
  refine g_run X KL_law_1935_281 KL_law_1935_281_d 1941 [(0, .ref b), (1, .ref (adC 0)), (2, .ref (adM 0)), (3, .ref ao), (4, .int (nI (6 * k)))] [.int ((nI (6 * k)) + (nI 1)), .ref b, .ref (adC 0)] rfl ?_
  refine g_nm (lv' := [(0, .ref b), (1, .ref (adC 0)), (2, .ref (adM 0)), (3, .ref ao), (4, .int (nI (6 * k)))]) (st' := [.int (nI ((6 * k) + 1)), .ref b, .ref (adC 0)]) (by simp only [nI_add]) (by simp only [nI_add]) ?_
  refine g_sld X hX hbl hbA hN (v := nI a1) (by omega) e1 dL_law_1941 ?_
  refine g_run X KL_law_1942_282 KL_law_1942_282_d 1943 [(0, .ref b), (1, .ref (adC 0)), (2, .ref (adM 0)), (3, .ref ao), (4, .int (nI (6 * k)))] [.ref ao, .int (nI a1), .ref (adC 0)] rfl ?_
  refine g_callSW X hSB hAf hNC (As := [.ref (adC 0), .int (nI a1), .ref ao]) (wr := WM adM g I L S Z Y) (n := 3) (hc_row_k l D g adC I L S a1 ao on ov (hI.s18) (by first | assumption | omega)) rfl w_761 w_759 w_760 w_0 (by decide +kernel) rfl ⟨Nat.le_of_ble_eq_true rfl, Nat.le_of_ble_eq_true rfl⟩ rfl rfl rfl (Nat.le_of_ble_eq_true rfl) ⟨by show cells + 4 ≤ 600002; omega, by show slots + 39 ≤ 7302232; omega⟩ dL_law_1943 (fun hu1 _ => ?_)
  refine g_af (ws' := ((WC adC g I L S ++ ([OUT ao on (.ref hu1.1)] : va_W)) ++ ([(hu1.1, Sum.inr (11, [.ref hu1.2, .int (nI 0), .int 0, .int 0])), (hu1.2, Sum.inl (g 6, 15, .inl (txt (tsg I L S a1))))] : va_W)) ++ WM adM g I L S Z Y) (st' := [.int (nI 0)]) (cells' := cells + 4) (slots' := slots + 39) (pc' := 1946) rfl rfl rfl rfl rfl ?_
  refine g_run X KL_law_1946_283 KL_law_1946_283_d 1954 [(5, .int (nI 0)), (0, .ref b), (1, .ref (adC 0)), (2, .ref (adM 0)), (3, .ref ao), (4, .int (nI (6 * k)))] [.int ((nI (6 * k)) + (nI 1)), .ref b, .ref (adM 0)] rfl ?_
  refine g_nm (lv' := [(5, .int (nI 0)), (0, .ref b), (1, .ref (adC 0)), (2, .ref (adM 0)), (3, .ref ao), (4, .int (nI (6 * k)))]) (st' := [.int (nI ((6 * k) + 1)), .ref b, .ref (adM 0)]) (by simp only [nI_add]) (by simp only [nI_add]) ?_
  refine g_sld X hX hbl hbA hN (v := nI a1) (by omega) e1 dL_law_1954 ?_
  refine g_perm (ws' := WM adM g I L S Z Y ++ ((WC adC g I L S ++ ([OUT ao on (.ref hu1.1)] : va_W)) ++ ([(hu1.1, Sum.inr (11, [.ref hu1.2, .int (nI 0), .int 0, .int 0])), (hu1.2, Sum.inl (g 6, 15, .inl (txt (tsg I L S a1))))] : va_W))) (List.perm_append_comm (l₁ := WM adM g I L S Z Y) (l₂ := ((WC adC g I L S ++ ([OUT ao on (.ref hu1.1)] : va_W)) ++ ([(hu1.1, Sum.inr (11, [.ref hu1.2, .int (nI 0), .int 0, .int 0])), (hu1.2, Sum.inl (g 6, 15, .inl (txt (tsg I L S a1))))] : va_W)))) ?_
  refine g_callV X hSB hAf srcW (hrc1 := (rfl : CL[8]? = some _)) (wm_mem (k := 0) (by decide)) rfl (As := [.int (nI a1)]) (wr := ((WC adC g I L S ++ ([OUT ao on (.ref hu1.1)] : va_W)) ++ ([(hu1.1, Sum.inr (11, [.ref hu1.2, .int (nI 0), .int 0, .int 0])), (hu1.2, Sum.inl (g 6, 15, .inl (txt (tsg I L S a1))))] : va_W))) (n := 1) (c_X9_row_k l D g adM I L S Z Y a1 (hI.s18) (hI.ky) (by first | assumption | omega)) rfl srcN hrdN w_1508 w_1505 w_1506 w_1507 w_6 (by decide +kernel) rfl ⟨Nat.le_of_ble_eq_true rfl, Nat.le_of_ble_eq_true rfl⟩ rfl rfl rfl (Nat.le_of_ble_eq_true rfl) ⟨by show cells + 4 + 5 ≤ 600002; omega, by show slots + 39 + 54 ≤ 7302232; omega⟩ dL_law_1955 (fun hu2 hp_hu2 => ?_)
  refine g_af (ws' := (WM adM g I L S (u2 Z 3 0 (nI 0)) Y ++ ([(hu2.1, Sum.inr (11, [.ref hu2.2, .int (nI 0), .int 0, .int 0])), (hu2.2, Sum.inl (g 6, 15, .inl (txt (tsg I L S a1))))] : va_W)) ++ ((WC adC g I L S ++ ([OUT ao on (.ref hu1.1)] : va_W)) ++ ([(hu1.1, Sum.inr (11, [.ref hu1.2, .int (nI 0), .int 0, .int 0])), (hu1.2, Sum.inl (g 6, 15, .inl (txt (tsg I L S a1))))] : va_W))) (st' := [.ref hu2.1]) (cells' := cells + 4 + 5) (slots' := slots + 39 + 54) (pc' := 1958) rfl rfl rfl rfl rfl ?_
  refine g_run X KL_law_1958_284 KL_law_1958_284_d 1961 [(6, .ref hu2.1), (5, .int (nI 0)), (0, .ref b), (1, .ref (adC 0)), (2, .ref (adM 0)), (3, .ref ao), (4, .int (nI (6 * k)))] [.ref (adM 0)] rfl ?_
  refine g_callV X hSB hAf srcW (hrc1 := (rfl : CL[8]? = some _)) (List.mem_append_left _ (wm_mem (k := 0) (by decide))) rfl (As := []) (wr := ([(hu2.1, Sum.inr (11, [.ref hu2.2, .int (nI 0), .int 0, .int 0])), (hu2.2, Sum.inl (g 6, 15, .inl (txt (tsg I L S a1))))] : va_W) ++ ((WC adC g I L S ++ ([OUT ao on (.ref hu1.1)] : va_W)) ++ ([(hu1.1, Sum.inr (11, [.ref hu1.2, .int (nI 0), .int 0, .int 0])), (hu1.2, Sum.inl (g 6, 15, .inl (txt (tsg I L S a1))))] : va_W))) (n := 0) (c_X9_thrown l D g adM I L S (u2 Z 3 0 (nI 0)) Y ) (List.append_assoc _ _ _) srcN hrdN w_1250 w_1247 w_1248 w_1249 w_6 (by decide +kernel) rfl ⟨Nat.le_of_ble_eq_true rfl, Nat.le_of_ble_eq_true rfl⟩ rfl rfl rfl (Nat.le_of_ble_eq_true rfl) ⟨by show cells + 4 + 5 + 0 ≤ 600002; omega, by show slots + 39 + 54 + 0 ≤ 7302232; omega⟩ dL_law_1961 (fun hu3 hp_hu3 => ?_)
  refine g_af (ws' := (WM adM g I L S (u2 Z 3 0 (nI 0)) Y ++ ([(hu2.1, Sum.inr (11, [.ref hu2.2, .int (nI 0), .int 0, .int 0])), (hu2.2, Sum.inl (g 6, 15, .inl (txt (tsg I L S a1))))] : va_W)) ++ ((WC adC g I L S ++ ([OUT ao on (.ref hu1.1)] : va_W)) ++ ([(hu1.1, Sum.inr (11, [.ref hu1.2, .int (nI 0), .int 0, .int 0])), (hu1.2, Sum.inl (g 6, 15, .inl (txt (tsg I L S a1))))] : va_W))) (st' := [.int ((u2 Z 3 0 (nI 0)) 3 0)]) (cells' := cells + 4 + 5 + 0) (slots' := slots + 39 + 54 + 0) (pc' := 1964) (List.append_assoc _ _ _) rfl rfl rfl rfl ?_
  refine g_st (st' := [.int (nI 0)]) (by first | rfl | (simp [z4, u2]; done)) ?_
  refine g_run X KL_law_1964_285 KL_law_1964_285_d 1966 [(6, .ref hu2.1), (5, .int (nI 0)), (0, .ref b), (1, .ref (adC 0)), (2, .ref (adM 0)), (3, .ref ao), (4, .int (nI (6 * k)))] [.int (nI 0), .int (nI 0)] rfl ?_
  refine g_icmp_eq X 1971 dL_law_1966 (by decide) (fun hc4 => ?_) (fun hc4 => ?_)
  · refine g_run X KL_law_1971_286 KL_law_1971_286_d 1973 [(6, .ref hu2.1), (5, .int (nI 0)), (0, .ref b), (1, .ref (adC 0)), (2, .ref (adM 0)), (3, .ref ao), (4, .int (nI (6 * k)))] [.int (nI 0)] rfl ?_
    refine g_if_ne X 1990 dL_law_1973 (by decide) (fun hc5 => ?_) (fun hc5 => ?_)
    · rw [nz_eq (by omega)] at hc5; first | omega | (simp at hc5)
    · refine g_run X KL_law_1976_287 KL_law_1976_287_d 1977 [(6, .ref hu2.1), (5, .int (nI 0)), (0, .ref b), (1, .ref (adC 0)), (2, .ref (adM 0)), (3, .ref ao), (4, .int (nI (6 * k)))] [.ref ao] rfl ?_
      refine g_getN X srcW (host := "ChipfieldLaw") (v := .ref hu1.1) hinX6 rfl 1 (by decide) (nw_in n_490 rfl) rfl (List.mem_append_right _ (List.mem_append_left _ (List.mem_append_right _ List.mem_cons_self))) rfl dL_law_1977 ?_
      refine g_run X KL_law_1980_288 KL_law_1980_288_d 1982 [(6, .ref hu2.1), (5, .int (nI 0)), (0, .ref b), (1, .ref (adC 0)), (2, .ref (adM 0)), (3, .ref ao), (4, .int (nI (6 * k)))] [.ref hu2.1, .ref hu1.1] rfl ?_
      refine g_perm (ws' := ([(hu1.1, Sum.inr (11, [.ref hu1.2, .int (nI 0), .int 0, .int 0])), (hu1.2, Sum.inl (g 6, 15, .inl (txt (tsg I L S a1)))), (hu2.1, Sum.inr (11, [.ref hu2.2, .int (nI 0), .int 0, .int 0])), (hu2.2, Sum.inl (g 6, 15, .inl (txt (tsg I L S a1))))] : va_W) ++ (WM adM g I L S (u2 Z 3 0 (nI 0)) Y ++ (WC adC g I L S ++ ([OUT ao on (.ref hu1.1)] : va_W)))) (perm_str (a := WM adM g I L S (u2 Z 3 0 (nI 0)) Y) (b := ([(hu2.1, Sum.inr (11, [.ref hu2.2, .int (nI 0), .int 0, .int 0])), (hu2.2, Sum.inl (g 6, 15, .inl (txt (tsg I L S a1))))] : va_W)) (c := WC adC g I L S ++ ([OUT ao on (.ref hu1.1)] : va_W)) (d := ([(hu1.1, Sum.inr (11, [.ref hu1.2, .int (nI 0), .int 0, .int 0])), (hu1.2, Sum.inl (g 6, 15, .inl (txt (tsg I L S a1))))] : va_W))) ?_
      refine g_callV X hSB hAf srcW (hrc1 := (rfl : CL[11]? = some _)) (List.mem_append_left _ List.mem_cons_self) rfl (As := [.ref hu2.1]) (wr := WM adM g I L S (u2 Z 3 0 (nI 0)) Y ++ (WC adC g I L S ++ ([OUT ao on (.ref hu1.1)] : va_W))) (n := 1) (c_J0_equals_9ea2d l D g hu1.1 hu1.2 hu2.1 hu2.2 (txt (tsg I L S a1))) rfl srcN hrdN w_1557 w_1554 w_1555 w_1556 w_30 (by decide +kernel) rfl ⟨Nat.le_of_ble_eq_true rfl, Nat.le_of_ble_eq_true rfl⟩ rfl rfl rfl (Nat.le_of_ble_eq_true rfl) ⟨by show cells + 4 + 5 + 0 + 0 ≤ 600002; omega, by show slots + 39 + 54 + 0 + 0 ≤ 7302232; omega⟩ dL_law_1982 (fun hu6 _ => ?_)
      refine g_af (ws' := WM adM g I L S (u2 Z 3 0 (nI 0)) Y ++ (WC adC g I L S ++ ([OUT ao on (.ref hu1.1)] : va_W))) (st' := [.int (nI 1)]) (cells' := cells + 4 + 5 + 0 + 0) (slots' := slots + 39 + 54 + 0 + 0) (pc' := 1985) rfl rfl rfl rfl rfl ?_
      refine g_if_ne X 1990 dL_law_1985 (by decide) (fun hc7 => ?_) (fun hc7 => ?_)
      · refine g_run X KL_law_1990_289 KL_law_1990_289_d 2256 [(6, .ref hu2.1), (5, .int (nI 0)), (0, .ref b), (1, .ref (adC 0)), (2, .ref (adM 0)), (3, .ref ao), (4, .int (nI (6 * k)))] [] rfl ?_
        refine g_lv (lv' := [(0, .ref b), (1, .ref (adC 0)), (2, .ref (adM 0)), (3, .ref ao), (4, .int (nI (6 * k)))]) (lsub_c 2 rfl (lsub_c 3 rfl (lsub_c 4 rfl (lsub_c 5 rfl (lsub_c 6 rfl (lsub_n)))))) ?_
        refine g_perm (ws' := (WC adC g I L S ++ ([OUT ao on (.ref hu1.1)] : va_W)) ++ WM adM g I L S (u2 Z 3 0 (nI 0)) Y) (List.perm_append_comm (l₁ := (WC adC g I L S ++ ([OUT ao on (.ref hu1.1)] : va_W))) (l₂ := WM adM g I L S (u2 Z 3 0 (nI 0)) Y)) ?_
        refine g_widen (k := cells + 60) (n := slots + 1200) (by omega) (by omega) ?_
        exact kk I L S n (u2 Z 3 0 (nI 0)) Y R on (.ref hu1.1) (hI) (hR) (by first | exact hZ | (rw [zrow]; exact hZ) | (rw [zrow, zrow]; exact hZ))
      · rw [nz_eq (by omega)] at hc7; first | omega | (simp at hc7)
  · rw [nI_eq (by omega) (by omega)] at hc4; first | omega | (simp at hc4)

set_option maxHeartbeats 4000000 in
set_option maxRecDepth 100000 in
theorem lq26_1 {p : Program} {l : Launch} {e : Env} {s : State} {m : MethodId} {below : List Frame} {meth : Method} {c : Code} {Q : State → Prop} {D : va_G} {A : Nat → Prop} {b N : Nat} {xs : Nat → Int32} {adC adM : Nat → Nat} {g : Nat → ClassId} {ao k cells slots : Nat} {I : Nat → Nat → Int32} {L : Nat → Nat → Int64} {S : Nat → Nat} {n : Nat} {Z : Nat → Nat → Int32} {Y : Int64} {R : Nat → Nat} {on : Int64} {ov : Value} (HX : LX p l s m meth c A b N xs) (hk : 6 * k + 6 ≤ N) (hroom : cells + 60 ≤ 600002 ∧ slots + 1200 ≤ 7302232) (hI : Inv I L S n) (hR : R16 R) (hZ : Z 0 = fun j => nI (R j)) (hw : (xs (6 * k + 1)).toInt < (0 : Nat) ∨ ((16 : Nat) : Int) ≤ (xs (6 * k + 1)).toInt) (kk : LK p l e s m below meth c Q D A b adC adM g ao k cells slots 2256) : GL p l e room_1 s m #[.ref b] below meth c Q D CL (TYS g) A 9 (WL adC adM g ao I L S Z Y on ov) cells slots 1935 [(0, .ref b), (1, .ref (adC 0)), (2, .ref (adM 0)), (3, .ref ao), (4, .int (nI (6 * k)))] [] := by
  obtain ⟨X, hSB, hAf, hNC, hfl, hX, hbl, hbA, hN⟩ := HX
  refine g_run X KL_law_1935_281 KL_law_1935_281_d 1941 [(0, .ref b), (1, .ref (adC 0)), (2, .ref (adM 0)), (3, .ref ao), (4, .int (nI (6 * k)))] [.int ((nI (6 * k)) + (nI 1)), .ref b, .ref (adC 0)] rfl ?_
  refine g_nm (lv' := [(0, .ref b), (1, .ref (adC 0)), (2, .ref (adM 0)), (3, .ref ao), (4, .int (nI (6 * k)))]) (st' := [.int (nI ((6 * k) + 1)), .ref b, .ref (adC 0)]) (by simp only [nI_add]) (by simp only [nI_add]) ?_
  refine g_sld X hX hbl hbA hN (v := xs (6 * k + 1)) (by omega) rfl dL_law_1941 ?_
  refine g_run X KL_law_1942_282 KL_law_1942_282_d 1943 [(0, .ref b), (1, .ref (adC 0)), (2, .ref (adM 0)), (3, .ref ao), (4, .int (nI (6 * k)))] [.ref ao, .int (xs (6 * k + 1)), .ref (adC 0)] rfl ?_
  refine g_callSW X hSB hAf hNC (As := [.ref (adC 0), .int (xs (6 * k + 1)), .ref ao]) (wr := WM adM g I L S Z Y) (n := 3) (hx_row_1 l hfl D g adC I L S (xs (6 * k + 1)) ao on ov (out_lt (by decide) hw)) rfl w_761 w_759 w_760 w_0 (by decide +kernel) rfl ⟨Nat.le_of_ble_eq_true rfl, Nat.le_of_ble_eq_true rfl⟩ rfl rfl rfl (Nat.le_of_ble_eq_true rfl) ⟨by show cells + 1 ≤ 600002; omega, by show slots + 6 ≤ 7302232; omega⟩ dL_law_1943 (fun hu1 _ => ?_)
  refine g_af (ws' := (WC adC g I L S ++ ([OUT ao on ov] : va_W)) ++ WM adM g I L S Z Y) (st' := [.int (nI 1)]) (cells' := cells + 1) (slots' := slots + 6) (pc' := 1946) rfl rfl rfl rfl rfl ?_
  refine g_run X KL_law_1946_283 KL_law_1946_283_d 1954 [(5, .int (nI 1)), (0, .ref b), (1, .ref (adC 0)), (2, .ref (adM 0)), (3, .ref ao), (4, .int (nI (6 * k)))] [.int ((nI (6 * k)) + (nI 1)), .ref b, .ref (adM 0)] rfl ?_
  refine g_nm (lv' := [(5, .int (nI 1)), (0, .ref b), (1, .ref (adC 0)), (2, .ref (adM 0)), (3, .ref ao), (4, .int (nI (6 * k)))]) (st' := [.int (nI ((6 * k) + 1)), .ref b, .ref (adM 0)]) (by simp only [nI_add]) (by simp only [nI_add]) ?_
  refine g_sld X hX hbl hbA hN (v := xs (6 * k + 1)) (by omega) rfl dL_law_1954 ?_
  refine g_perm (ws' := WM adM g I L S Z Y ++ (WC adC g I L S ++ ([OUT ao on ov] : va_W))) (List.perm_append_comm (l₁ := WM adM g I L S Z Y) (l₂ := (WC adC g I L S ++ ([OUT ao on ov] : va_W)))) ?_
  refine g_callV X hSB hAf srcW (hrc1 := (rfl : CL[8]? = some _)) (wm_mem (k := 0) (by decide)) rfl (As := [.int (xs (6 * k + 1))]) (wr := WC adC g I L S ++ ([OUT ao on ov] : va_W)) (n := 1) (c_X9_row_1 l D g adM I L S Z Y (xs (6 * k + 1)) (out_le (by decide) hw)) rfl srcN hrdN w_1508 w_1505 w_1506 w_1507 w_6 (by decide +kernel) rfl ⟨Nat.le_of_ble_eq_true rfl, Nat.le_of_ble_eq_true rfl⟩ rfl rfl rfl (Nat.le_of_ble_eq_true rfl) ⟨by show cells + 1 + 0 ≤ 600002; omega, by show slots + 6 + 0 ≤ 7302232; omega⟩ dL_law_1955 (fun hu2 hp_hu2 => ?_)
  refine g_af (ws' := WM adM g I L S (u2 Z 3 0 (nI 1)) Y ++ (WC adC g I L S ++ ([OUT ao on ov] : va_W))) (st' := [.ref hu2]) (cells' := cells + 1 + 0) (slots' := slots + 6 + 0) (pc' := 1958) rfl rfl rfl rfl rfl ?_
  refine g_run X KL_law_1958_284 KL_law_1958_284_d 1961 [(6, .ref hu2), (5, .int (nI 1)), (0, .ref b), (1, .ref (adC 0)), (2, .ref (adM 0)), (3, .ref ao), (4, .int (nI (6 * k)))] [.ref (adM 0)] rfl ?_
  refine g_callV X hSB hAf srcW (hrc1 := (rfl : CL[8]? = some _)) (wm_mem (k := 0) (by decide)) rfl (As := []) (wr := WC adC g I L S ++ ([OUT ao on ov] : va_W)) (n := 0) (c_X9_thrown l D g adM I L S (u2 Z 3 0 (nI 1)) Y ) rfl srcN hrdN w_1250 w_1247 w_1248 w_1249 w_6 (by decide +kernel) rfl ⟨Nat.le_of_ble_eq_true rfl, Nat.le_of_ble_eq_true rfl⟩ rfl rfl rfl (Nat.le_of_ble_eq_true rfl) ⟨by show cells + 1 + 0 + 0 ≤ 600002; omega, by show slots + 6 + 0 + 0 ≤ 7302232; omega⟩ dL_law_1961 (fun hu3 hp_hu3 => ?_)
  refine g_af (ws' := WM adM g I L S (u2 Z 3 0 (nI 1)) Y ++ (WC adC g I L S ++ ([OUT ao on ov] : va_W))) (st' := [.int ((u2 Z 3 0 (nI 1)) 3 0)]) (cells' := cells + 1 + 0 + 0) (slots' := slots + 6 + 0 + 0) (pc' := 1964) rfl rfl rfl rfl rfl ?_
  refine g_st (st' := [.int (nI 1)]) (by first | rfl | (simp [z4, u2]; done)) ?_
  refine g_run X KL_law_1964_285 KL_law_1964_285_d 1966 [(6, .ref hu2), (5, .int (nI 1)), (0, .ref b), (1, .ref (adC 0)), (2, .ref (adM 0)), (3, .ref ao), (4, .int (nI (6 * k)))] [.int (nI 1), .int (nI 1)] rfl ?_
  refine g_icmp_eq X 1971 dL_law_1966 (by decide) (fun hc4 => ?_) (fun hc4 => ?_)
  · refine g_run X KL_law_1971_286 KL_law_1971_286_d 1973 [(6, .ref hu2), (5, .int (nI 1)), (0, .ref b), (1, .ref (adC 0)), (2, .ref (adM 0)), (3, .ref ao), (4, .int (nI (6 * k)))] [.int (nI 1)] rfl ?_
    refine g_if_ne X 1990 dL_law_1973 (by decide) (fun hc5 => ?_) (fun hc5 => ?_)
    · refine g_run X KL_law_1990_289 KL_law_1990_289_d 2256 [(6, .ref hu2), (5, .int (nI 1)), (0, .ref b), (1, .ref (adC 0)), (2, .ref (adM 0)), (3, .ref ao), (4, .int (nI (6 * k)))] [] rfl ?_
      refine g_lv (lv' := [(0, .ref b), (1, .ref (adC 0)), (2, .ref (adM 0)), (3, .ref ao), (4, .int (nI (6 * k)))]) (lsub_c 2 rfl (lsub_c 3 rfl (lsub_c 4 rfl (lsub_c 5 rfl (lsub_c 6 rfl (lsub_n)))))) ?_
      refine g_perm (ws' := (WC adC g I L S ++ ([OUT ao on ov] : va_W)) ++ WM adM g I L S (u2 Z 3 0 (nI 1)) Y) (List.perm_append_comm (l₁ := (WC adC g I L S ++ ([OUT ao on ov] : va_W))) (l₂ := WM adM g I L S (u2 Z 3 0 (nI 1)) Y)) ?_
      refine g_widen (k := cells + 60) (n := slots + 1200) (by omega) (by omega) ?_
      exact kk I L S n (u2 Z 3 0 (nI 1)) Y R on ov (hI) (hR) (by first | exact hZ | (rw [zrow]; exact hZ) | (rw [zrow, zrow]; exact hZ))
    · rw [nz_eq (by omega)] at hc5; first | omega | (simp at hc5)
  · rw [nI_eq (by omega) (by omega)] at hc4; first | omega | (simp at hc4)

theorem lq26 {p : Program} {l : Launch} {e : Env} {s : State} {m : MethodId} {below : List Frame} {meth : Method} {c : Code} {Q : State → Prop} {D : va_G} {A : Nat → Prop} {b N : Nat} {xs : Nat → Int32} {adC adM : Nat → Nat} {g : Nat → ClassId} {ao k cells slots : Nat} {I : Nat → Nat → Int32} {L : Nat → Nat → Int64} {S : Nat → Nat} {n : Nat} {Z : Nat → Nat → Int32} {Y : Int64} {R : Nat → Nat} {on : Int64} {ov : Value} (HX : LX p l s m meth c A b N xs) (hk : 6 * k + 6 ≤ N) (hroom : cells + 60 ≤ 600002 ∧ slots + 1200 ≤ 7302232) (hI : Inv I L S n) (hR : R16 R) (hZ : Z 0 = fun j => nI (R j)) (kk : LK p l e s m below meth c Q D A b adC adM g ao k cells slots 2256) : GL p l e room_1 s m #[.ref b] below meth c Q D CL (TYS g) A 9 (WL adC adM g ao I L S Z Y on ov) cells slots 1935 [(0, .ref b), (1, .ref (adC 0)), (2, .ref (adM 0)), (3, .ref ao), (4, .int (nI (6 * k)))] [] := by
  rcases rg (xs (6 * k + 1)) 0 16 with ⟨a1, hl1, hu1, e1⟩ | hw
  · exact lq26_0 HX hk hroom hI hR hZ  a1 hl1 hu1 e1 kk
  · exact lq26_1 HX hk hroom hI hR hZ  hw kk

def KL_law_1993_290 : List (Nat × Instr × Nat) := [(1993, .aload_n 1, 1), (1994, .aload_n 0, 1), (1995, .iload 4, 2), (1997, .iconst 1, 1), (1998, .iadd, 1)]
theorem KL_law_1993_290_d : ∀ z ∈ KL_law_1993_290, decode cL_law z.1 = .ok z.2 := by decide +kernel
def KL_law_2000_291 : List (Nat × Instr × Nat) := [(2000, .aload_n 0, 1), (2001, .iload 4, 2), (2003, .iconst 2, 1), (2004, .iadd, 1)]
theorem KL_law_2000_291_d : ∀ z ∈ KL_law_2000_291, decode cL_law z.1 = .ok z.2 := by decide +kernel
def KL_law_2006_292 : List (Nat × Instr × Nat) := [(2006, .aload_n 3, 1)]
theorem KL_law_2006_292_d : ∀ z ∈ KL_law_2006_292, decode cL_law z.1 = .ok z.2 := by decide +kernel
def KL_law_2010_293 : List (Nat × Instr × Nat) := [(2010, .istore 5, 2), (2012, .aload_n 2, 1), (2013, .aload_n 0, 1), (2014, .iload 4, 2), (2016, .iconst 1, 1), (2017, .iadd, 1)]
theorem KL_law_2010_293_d : ∀ z ∈ KL_law_2010_293, decode cL_law z.1 = .ok z.2 := by decide +kernel
def KL_law_2019_294 : List (Nat × Instr × Nat) := [(2019, .aload_n 0, 1), (2020, .iload 4, 2), (2022, .iconst 2, 1), (2023, .iadd, 1)]
theorem KL_law_2019_294_d : ∀ z ∈ KL_law_2019_294, decode cL_law z.1 = .ok z.2 := by decide +kernel
def KL_law_2028_295 : List (Nat × Instr × Nat) := [(2028, .istore 6, 2), (2030, .aload_n 2, 1)]
theorem KL_law_2028_295_d : ∀ z ∈ KL_law_2028_295, decode cL_law z.1 = .ok z.2 := by decide +kernel
def KL_law_2034_296 : List (Nat × Instr × Nat) := [(2034, .iload 5, 2)]
theorem KL_law_2034_296_d : ∀ z ∈ KL_law_2034_296, decode cL_law z.1 = .ok z.2 := by decide +kernel
def KL_law_2041_297 : List (Nat × Instr × Nat) := [(2041, .iload 5, 2)]
theorem KL_law_2041_297_d : ∀ z ∈ KL_law_2041_297, decode cL_law z.1 = .ok z.2 := by decide +kernel
def KL_law_2046_298 : List (Nat × Instr × Nat) := [(2046, .aload_n 3, 1)]
theorem KL_law_2046_298_d : ∀ z ∈ KL_law_2046_298, decode cL_law z.1 = .ok z.2 := by decide +kernel
def KL_law_2050_299 : List (Nat × Instr × Nat) := [(2050, .iload 6, 2), (2052, .i2l, 1), (2053, .lcmp, 1)]
theorem KL_law_2050_299_d : ∀ z ∈ KL_law_2050_299, decode cL_law z.1 = .ok z.2 := by decide +kernel
def KL_law_2059_300 : List (Nat × Instr × Nat) := [(2059, .goto 197, 3)]
theorem KL_law_2059_300_d : ∀ z ∈ KL_law_2059_300, decode cL_law z.1 = .ok z.2 := by decide +kernel
set_option maxHeartbeats 4000000 in
set_option maxRecDepth 100000 in
theorem lq27_0 {p : Program} {l : Launch} {e : Env} {s : State} {m : MethodId} {below : List Frame} {meth : Method} {c : Code} {Q : State → Prop} {D : va_G} {A : Nat → Prop} {b N : Nat} {xs : Nat → Int32} {adC adM : Nat → Nat} {g : Nat → ClassId} {ao k cells slots : Nat} {I : Nat → Nat → Int32} {L : Nat → Nat → Int64} {S : Nat → Nat} {n : Nat} {Z : Nat → Nat → Int32} {Y : Int64} {R : Nat → Nat} {on : Int64} {ov : Value} (HX : LX p l s m meth c A b N xs) (hk : 6 * k + 6 ≤ N) (hroom : cells + 60 ≤ 600002 ∧ slots + 1200 ≤ 7302232) (hI : Inv I L S n) (hR : R16 R) (hZ : Z 0 = fun j => nI (R j)) (a1 : Nat) (hl1 : 0 ≤ a1) (hu1 : a1 < 16) (e1 : xs (6 * k + 1) = nI a1) (a2 : Nat) (hl2 : 0 ≤ a2) (hu2 : a2 < 32768) (e2 : xs (6 * k + 2) = nI a2) (kk : LK p l e s m below meth c Q D A b adC adM g ao k cells slots 2256) : GL p l e room_1 s m #[.ref b] below meth c Q D CL (TYS g) A 9 (WL adC adM g ao I L S Z Y on ov) cells slots 1993 [(0, .ref b), (1, .ref (adC 0)), (2, .ref (adM 0)), (3, .ref ao), (4, .int (nI (6 * k)))] [] := by
  obtain ⟨X, hSB, hAf, hNC, hfl, hX, hbl, hbA, hN⟩ := HX
  refine g_run X KL_law_1993_290 KL_law_1993_290_d 1999 [(0, .ref b), (1, .ref (adC 0)), (2, .ref (adM 0)), (3, .ref ao), (4, .int (nI (6 * k)))] [.int ((nI (6 * k)) + (nI 1)), .ref b, .ref (adC 0)] rfl ?_
  refine g_nm (lv' := [(0, .ref b), (1, .ref (adC 0)), (2, .ref (adM 0)), (3, .ref ao), (4, .int (nI (6 * k)))]) (st' := [.int (nI ((6 * k) + 1)), .ref b, .ref (adC 0)]) (by simp only [nI_add]) (by simp only [nI_add]) ?_
  refine g_sld X hX hbl hbA hN (v := nI a1) (by omega) e1 dL_law_1999 ?_
  refine g_run X KL_law_2000_291 KL_law_2000_291_d 2005 [(0, .ref b), (1, .ref (adC 0)), (2, .ref (adM 0)), (3, .ref ao), (4, .int (nI (6 * k)))] [.int ((nI (6 * k)) + (nI 2)), .ref b, .int (nI a1), .ref (adC 0)] rfl ?_
  refine g_nm (lv' := [(0, .ref b), (1, .ref (adC 0)), (2, .ref (adM 0)), (3, .ref ao), (4, .int (nI (6 * k)))]) (st' := [.int (nI ((6 * k) + 2)), .ref b, .int (nI a1), .ref (adC 0)]) (by simp only [nI_add]) (by simp only [nI_add]) ?_
  refine g_sld X hX hbl hbA hN (v := nI a2) (by omega) e2 dL_law_2005 ?_
  refine g_run X KL_law_2006_292 KL_law_2006_292_d 2007 [(0, .ref b), (1, .ref (adC 0)), (2, .ref (adM 0)), (3, .ref ao), (4, .int (nI (6 * k)))] [.ref ao, .int (nI a2), .int (nI a1), .ref (adC 0)] rfl ?_
  refine g_callSW X hSB hAf hNC (As := [.ref (adC 0), .int (nI a1), .int (nI a2), .ref ao]) (wr := WM adM g I L S Z Y) (n := 4) (hc_wouldMend l D g adC I L S a1 a2 ao on ov (hI.s18) (by first | assumption | omega) (by first | assumption | omega)) rfl w_1035 w_1033 w_1034 w_0 (by decide +kernel) rfl ⟨Nat.le_of_ble_eq_true rfl, Nat.le_of_ble_eq_true rfl⟩ rfl rfl rfl (Nat.le_of_ble_eq_true rfl) ⟨by show cells + 0 ≤ 600002; omega, by show slots + 0 ≤ 7302232; omega⟩ dL_law_2007 (fun hu1 _ => ?_)
  refine g_af (ws' := (WC adC g I L S ++ ([OUT ao ((wrO (rwd I L S a1 15) (oL (mw (ers I S 15 ||| a2) (rwd I L S a1 15)))).toInt64) ov] : va_W)) ++ WM adM g I L S Z Y) (st' := [.int (nI 0)]) (cells' := cells + 0) (slots' := slots + 0) (pc' := 2010) rfl rfl rfl rfl rfl ?_
  refine g_run X KL_law_2010_293 KL_law_2010_293_d 2018 [(5, .int (nI 0)), (0, .ref b), (1, .ref (adC 0)), (2, .ref (adM 0)), (3, .ref ao), (4, .int (nI (6 * k)))] [.int ((nI (6 * k)) + (nI 1)), .ref b, .ref (adM 0)] rfl ?_
  refine g_nm (lv' := [(5, .int (nI 0)), (0, .ref b), (1, .ref (adC 0)), (2, .ref (adM 0)), (3, .ref ao), (4, .int (nI (6 * k)))]) (st' := [.int (nI ((6 * k) + 1)), .ref b, .ref (adM 0)]) (by simp only [nI_add]) (by simp only [nI_add]) ?_
  refine g_sld X hX hbl hbA hN (v := nI a1) (by omega) e1 dL_law_2018 ?_
  refine g_run X KL_law_2019_294 KL_law_2019_294_d 2024 [(5, .int (nI 0)), (0, .ref b), (1, .ref (adC 0)), (2, .ref (adM 0)), (3, .ref ao), (4, .int (nI (6 * k)))] [.int ((nI (6 * k)) + (nI 2)), .ref b, .int (nI a1), .ref (adM 0)] rfl ?_
  refine g_nm (lv' := [(5, .int (nI 0)), (0, .ref b), (1, .ref (adC 0)), (2, .ref (adM 0)), (3, .ref ao), (4, .int (nI (6 * k)))]) (st' := [.int (nI ((6 * k) + 2)), .ref b, .int (nI a1), .ref (adM 0)]) (by simp only [nI_add]) (by simp only [nI_add]) ?_
  refine g_sld X hX hbl hbA hN (v := nI a2) (by omega) e2 dL_law_2024 ?_
  refine g_perm (ws' := WM adM g I L S Z Y ++ (WC adC g I L S ++ ([OUT ao ((wrO (rwd I L S a1 15) (oL (mw (ers I S 15 ||| a2) (rwd I L S a1 15)))).toInt64) ov] : va_W))) (List.perm_append_comm (l₁ := WM adM g I L S Z Y) (l₂ := (WC adC g I L S ++ ([OUT ao ((wrO (rwd I L S a1 15) (oL (mw (ers I S 15 ||| a2) (rwd I L S a1 15)))).toInt64) ov] : va_W)))) ?_
  refine g_callV X hSB hAf srcW (hrc1 := (rfl : CL[8]? = some _)) (wm_mem (k := 0) (by decide)) rfl (As := [.int (nI a1), .int (nI a2)]) (wr := WC adC g I L S ++ ([OUT ao ((wrO (rwd I L S a1 15) (oL (mw (ers I S 15 ||| a2) (rwd I L S a1 15)))).toInt64) ov] : va_W)) (n := 2) (c_X9_wouldMend l D g adM I L S Z Y a1 a2 R (hR) (hZ) (hI.s18) (hI.ky) (by first | assumption | omega) (by first | assumption | omega)) rfl srcN hrdN w_1517 w_1514 w_1515 w_1516 w_6 (by decide +kernel) rfl ⟨Nat.le_of_ble_eq_true rfl, Nat.le_of_ble_eq_true rfl⟩ rfl rfl rfl (Nat.le_of_ble_eq_true rfl) ⟨by show cells + 0 + 1 ≤ 600002; omega, by show slots + 0 + 15 ≤ 7302232; omega⟩ dL_law_2025 (fun hu2 hp_hu2 => ?_)
  refine g_af (ws' := WM adM g I L S (z4 (u2 Z 3 0 (nI 0)) hu2.1 hu2.2 (mdA (Z 2) (mw (ers I S 15 ||| a2) (rwd I L S a1 15)))) Y ++ (WC adC g I L S ++ ([OUT ao ((wrO (rwd I L S a1 15) (oL (mw (ers I S 15 ||| a2) (rwd I L S a1 15)))).toInt64) ov] : va_W))) (st' := [.int (wrO (rwd I L S a1 15) (oL (mw (ers I S 15 ||| a2) (rwd I L S a1 15))))]) (cells' := cells + 0 + 1) (slots' := slots + 0 + 15) (pc' := 2028) rfl rfl rfl rfl rfl ?_
  refine g_run X KL_law_2028_295 KL_law_2028_295_d 2031 [(6, .int (wrO (rwd I L S a1 15) (oL (mw (ers I S 15 ||| a2) (rwd I L S a1 15))))), (5, .int (nI 0)), (0, .ref b), (1, .ref (adC 0)), (2, .ref (adM 0)), (3, .ref ao), (4, .int (nI (6 * k)))] [.ref (adM 0)] rfl ?_
  refine g_callV X hSB hAf srcW (hrc1 := (rfl : CL[8]? = some _)) (wm_mem (k := 0) (by decide)) rfl (As := []) (wr := WC adC g I L S ++ ([OUT ao ((wrO (rwd I L S a1 15) (oL (mw (ers I S 15 ||| a2) (rwd I L S a1 15)))).toInt64) ov] : va_W)) (n := 0) (c_X9_thrown l D g adM I L S (z4 (u2 Z 3 0 (nI 0)) hu2.1 hu2.2 (mdA (Z 2) (mw (ers I S 15 ||| a2) (rwd I L S a1 15)))) Y ) rfl srcN hrdN w_1250 w_1247 w_1248 w_1249 w_6 (by decide +kernel) rfl ⟨Nat.le_of_ble_eq_true rfl, Nat.le_of_ble_eq_true rfl⟩ rfl rfl rfl (Nat.le_of_ble_eq_true rfl) ⟨by show cells + 0 + 1 + 0 ≤ 600002; omega, by show slots + 0 + 15 + 0 ≤ 7302232; omega⟩ dL_law_2031 (fun hu3 hp_hu3 => ?_)
  refine g_af (ws' := WM adM g I L S (z4 (u2 Z 3 0 (nI 0)) hu2.1 hu2.2 (mdA (Z 2) (mw (ers I S 15 ||| a2) (rwd I L S a1 15)))) Y ++ (WC adC g I L S ++ ([OUT ao ((wrO (rwd I L S a1 15) (oL (mw (ers I S 15 ||| a2) (rwd I L S a1 15)))).toInt64) ov] : va_W))) (st' := [.int ((z4 (u2 Z 3 0 (nI 0)) hu2.1 hu2.2 (mdA (Z 2) (mw (ers I S 15 ||| a2) (rwd I L S a1 15)))) 3 0)]) (cells' := cells + 0 + 1 + 0) (slots' := slots + 0 + 15 + 0) (pc' := 2034) rfl rfl rfl rfl rfl ?_
  refine g_st (st' := [.int (nI 0)]) (by first | rfl | (simp [z4, u2]; done)) ?_
  refine g_run X KL_law_2034_296 KL_law_2034_296_d 2036 [(6, .int (wrO (rwd I L S a1 15) (oL (mw (ers I S 15 ||| a2) (rwd I L S a1 15))))), (5, .int (nI 0)), (0, .ref b), (1, .ref (adC 0)), (2, .ref (adM 0)), (3, .ref ao), (4, .int (nI (6 * k)))] [.int (nI 0), .int (nI 0)] rfl ?_
  refine g_icmp_eq X 2041 dL_law_2036 (by decide) (fun hc4 => ?_) (fun hc4 => ?_)
  · refine g_run X KL_law_2041_297 KL_law_2041_297_d 2043 [(6, .int (wrO (rwd I L S a1 15) (oL (mw (ers I S 15 ||| a2) (rwd I L S a1 15))))), (5, .int (nI 0)), (0, .ref b), (1, .ref (adC 0)), (2, .ref (adM 0)), (3, .ref ao), (4, .int (nI (6 * k)))] [.int (nI 0)] rfl ?_
    refine g_if_ne X 2059 dL_law_2043 (by decide) (fun hc5 => ?_) (fun hc5 => ?_)
    · rw [nz_eq (by omega)] at hc5; first | omega | (simp at hc5)
    · refine g_run X KL_law_2046_298 KL_law_2046_298_d 2047 [(6, .int (wrO (rwd I L S a1 15) (oL (mw (ers I S 15 ||| a2) (rwd I L S a1 15))))), (5, .int (nI 0)), (0, .ref b), (1, .ref (adC 0)), (2, .ref (adM 0)), (3, .ref ao), (4, .int (nI (6 * k)))] [.ref ao] rfl ?_
      refine g_getN X srcW (host := "ChipfieldLaw") (v := .long ((wrO (rwd I L S a1 15) (oL (mw (ers I S 15 ||| a2) (rwd I L S a1 15)))).toInt64)) hinX6 rfl 0 (by decide) (nw_in n_489 rfl) rfl (List.mem_append_right _ (List.mem_append_right _ List.mem_cons_self)) rfl dL_law_2047 ?_
      refine g_run X KL_law_2050_299 KL_law_2050_299_d 2054 [(6, .int (wrO (rwd I L S a1 15) (oL (mw (ers I S 15 ||| a2) (rwd I L S a1 15))))), (5, .int (nI 0)), (0, .ref b), (1, .ref (adC 0)), (2, .ref (adM 0)), (3, .ref ao), (4, .int (nI (6 * k)))] [.int (lg_cmp ((wrO (rwd I L S a1 15) (oL (mw (ers I S 15 ||| a2) (rwd I L S a1 15)))).toInt64) ((wrO (rwd I L S a1 15) (oL (mw (ers I S 15 ||| a2) (rwd I L S a1 15)))).toInt64))] rfl ?_
      refine g_if_eq X 2059 dL_law_2054 (by decide) (fun hc6 => ?_) (fun hc6 => ?_)
      · refine g_run X KL_law_2059_300 KL_law_2059_300_d 2256 [(6, .int (wrO (rwd I L S a1 15) (oL (mw (ers I S 15 ||| a2) (rwd I L S a1 15))))), (5, .int (nI 0)), (0, .ref b), (1, .ref (adC 0)), (2, .ref (adM 0)), (3, .ref ao), (4, .int (nI (6 * k)))] [] rfl ?_
        refine g_lv (lv' := [(0, .ref b), (1, .ref (adC 0)), (2, .ref (adM 0)), (3, .ref ao), (4, .int (nI (6 * k)))]) (lsub_c 2 rfl (lsub_c 3 rfl (lsub_c 4 rfl (lsub_c 5 rfl (lsub_c 6 rfl (lsub_n)))))) ?_
        refine g_perm (ws' := (WC adC g I L S ++ ([OUT ao ((wrO (rwd I L S a1 15) (oL (mw (ers I S 15 ||| a2) (rwd I L S a1 15)))).toInt64) ov] : va_W)) ++ WM adM g I L S (z4 (u2 Z 3 0 (nI 0)) hu2.1 hu2.2 (mdA (Z 2) (mw (ers I S 15 ||| a2) (rwd I L S a1 15)))) Y) (List.perm_append_comm (l₁ := (WC adC g I L S ++ ([OUT ao ((wrO (rwd I L S a1 15) (oL (mw (ers I S 15 ||| a2) (rwd I L S a1 15)))).toInt64) ov] : va_W))) (l₂ := WM adM g I L S (z4 (u2 Z 3 0 (nI 0)) hu2.1 hu2.2 (mdA (Z 2) (mw (ers I S 15 ||| a2) (rwd I L S a1 15)))) Y)) ?_
        refine g_widen (k := cells + 60) (n := slots + 1200) (by omega) (by omega) ?_
        exact kk I L S n (z4 (u2 Z 3 0 (nI 0)) hu2.1 hu2.2 (mdA (Z 2) (mw (ers I S 15 ||| a2) (rwd I L S a1 15)))) Y hu2.1 ((wrO (rwd I L S a1 15) (oL (mw (ers I S 15 ||| a2) (rwd I L S a1 15)))).toInt64) ov (hI) (hp_hu2) (rfl)
      · exact absurd lg_self hc6
  · rw [nI_eq (by omega) (by omega)] at hc4; first | omega | (simp at hc4)

set_option maxHeartbeats 4000000 in
set_option maxRecDepth 100000 in
theorem lq27_2 {p : Program} {l : Launch} {e : Env} {s : State} {m : MethodId} {below : List Frame} {meth : Method} {c : Code} {Q : State → Prop} {D : va_G} {A : Nat → Prop} {b N : Nat} {xs : Nat → Int32} {adC adM : Nat → Nat} {g : Nat → ClassId} {ao k cells slots : Nat} {I : Nat → Nat → Int32} {L : Nat → Nat → Int64} {S : Nat → Nat} {n : Nat} {Z : Nat → Nat → Int32} {Y : Int64} {R : Nat → Nat} {on : Int64} {ov : Value} (HX : LX p l s m meth c A b N xs) (hk : 6 * k + 6 ≤ N) (hroom : cells + 60 ≤ 600002 ∧ slots + 1200 ≤ 7302232) (hI : Inv I L S n) (hR : R16 R) (hZ : Z 0 = fun j => nI (R j)) (a1 : Nat) (hl1 : 0 ≤ a1) (hu1 : a1 < 16) (e1 : xs (6 * k + 1) = nI a1) (hw : (xs (6 * k + 2)).toInt < (0 : Nat) ∨ ((32768 : Nat) : Int) ≤ (xs (6 * k + 2)).toInt) (kk : LK p l e s m below meth c Q D A b adC adM g ao k cells slots 2256) : GL p l e room_1 s m #[.ref b] below meth c Q D CL (TYS g) A 9 (WL adC adM g ao I L S Z Y on ov) cells slots 1993 [(0, .ref b), (1, .ref (adC 0)), (2, .ref (adM 0)), (3, .ref ao), (4, .int (nI (6 * k)))] [] := by
  obtain ⟨X, hSB, hAf, hNC, hfl, hX, hbl, hbA, hN⟩ := HX
  refine g_run X KL_law_1993_290 KL_law_1993_290_d 1999 [(0, .ref b), (1, .ref (adC 0)), (2, .ref (adM 0)), (3, .ref ao), (4, .int (nI (6 * k)))] [.int ((nI (6 * k)) + (nI 1)), .ref b, .ref (adC 0)] rfl ?_
  refine g_nm (lv' := [(0, .ref b), (1, .ref (adC 0)), (2, .ref (adM 0)), (3, .ref ao), (4, .int (nI (6 * k)))]) (st' := [.int (nI ((6 * k) + 1)), .ref b, .ref (adC 0)]) (by simp only [nI_add]) (by simp only [nI_add]) ?_
  refine g_sld X hX hbl hbA hN (v := nI a1) (by omega) e1 dL_law_1999 ?_
  refine g_run X KL_law_2000_291 KL_law_2000_291_d 2005 [(0, .ref b), (1, .ref (adC 0)), (2, .ref (adM 0)), (3, .ref ao), (4, .int (nI (6 * k)))] [.int ((nI (6 * k)) + (nI 2)), .ref b, .int (nI a1), .ref (adC 0)] rfl ?_
  refine g_nm (lv' := [(0, .ref b), (1, .ref (adC 0)), (2, .ref (adM 0)), (3, .ref ao), (4, .int (nI (6 * k)))]) (st' := [.int (nI ((6 * k) + 2)), .ref b, .int (nI a1), .ref (adC 0)]) (by simp only [nI_add]) (by simp only [nI_add]) ?_
  refine g_sld X hX hbl hbA hN (v := xs (6 * k + 2)) (by omega) rfl dL_law_2005 ?_
  refine g_run X KL_law_2006_292 KL_law_2006_292_d 2007 [(0, .ref b), (1, .ref (adC 0)), (2, .ref (adM 0)), (3, .ref ao), (4, .int (nI (6 * k)))] [.ref ao, .int (xs (6 * k + 2)), .int (nI a1), .ref (adC 0)] rfl ?_
  refine g_callSW X hSB hAf hNC (As := [.ref (adC 0), .int (nI a1), .int (xs (6 * k + 2)), .ref ao]) (wr := WM adM g I L S Z Y) (n := 4) (hx_wouldMend_2 l hfl D g adC I L S a1 (xs (6 * k + 2)) ao on ov (by first | assumption | omega) (out_le (by decide) hw)) rfl w_1035 w_1033 w_1034 w_0 (by decide +kernel) rfl ⟨Nat.le_of_ble_eq_true rfl, Nat.le_of_ble_eq_true rfl⟩ rfl rfl rfl (Nat.le_of_ble_eq_true rfl) ⟨by show cells + 1 ≤ 600002; omega, by show slots + 6 ≤ 7302232; omega⟩ dL_law_2007 (fun hu1 _ => ?_)
  refine g_af (ws' := (WC adC g I L S ++ ([OUT ao on ov] : va_W)) ++ WM adM g I L S Z Y) (st' := [.int (nI 2)]) (cells' := cells + 1) (slots' := slots + 6) (pc' := 2010) rfl rfl rfl rfl rfl ?_
  refine g_run X KL_law_2010_293 KL_law_2010_293_d 2018 [(5, .int (nI 2)), (0, .ref b), (1, .ref (adC 0)), (2, .ref (adM 0)), (3, .ref ao), (4, .int (nI (6 * k)))] [.int ((nI (6 * k)) + (nI 1)), .ref b, .ref (adM 0)] rfl ?_
  refine g_nm (lv' := [(5, .int (nI 2)), (0, .ref b), (1, .ref (adC 0)), (2, .ref (adM 0)), (3, .ref ao), (4, .int (nI (6 * k)))]) (st' := [.int (nI ((6 * k) + 1)), .ref b, .ref (adM 0)]) (by simp only [nI_add]) (by simp only [nI_add]) ?_
  refine g_sld X hX hbl hbA hN (v := nI a1) (by omega) e1 dL_law_2018 ?_
  refine g_run X KL_law_2019_294 KL_law_2019_294_d 2024 [(5, .int (nI 2)), (0, .ref b), (1, .ref (adC 0)), (2, .ref (adM 0)), (3, .ref ao), (4, .int (nI (6 * k)))] [.int ((nI (6 * k)) + (nI 2)), .ref b, .int (nI a1), .ref (adM 0)] rfl ?_
  refine g_nm (lv' := [(5, .int (nI 2)), (0, .ref b), (1, .ref (adC 0)), (2, .ref (adM 0)), (3, .ref ao), (4, .int (nI (6 * k)))]) (st' := [.int (nI ((6 * k) + 2)), .ref b, .int (nI a1), .ref (adM 0)]) (by simp only [nI_add]) (by simp only [nI_add]) ?_
  refine g_sld X hX hbl hbA hN (v := xs (6 * k + 2)) (by omega) rfl dL_law_2024 ?_
  refine g_perm (ws' := WM adM g I L S Z Y ++ (WC adC g I L S ++ ([OUT ao on ov] : va_W))) (List.perm_append_comm (l₁ := WM adM g I L S Z Y) (l₂ := (WC adC g I L S ++ ([OUT ao on ov] : va_W)))) ?_
  refine g_callV X hSB hAf srcW (hrc1 := (rfl : CL[8]? = some _)) (wm_mem (k := 0) (by decide)) rfl (As := [.int (nI a1), .int (xs (6 * k + 2))]) (wr := WC adC g I L S ++ ([OUT ao on ov] : va_W)) (n := 2) (c_X9_wouldMend_2 l D g adM I L S Z Y a1 (xs (6 * k + 2)) (by first | assumption | omega) (out_lo (by decide) (by decide) hw)) rfl srcN hrdN w_1517 w_1514 w_1515 w_1516 w_6 (by decide +kernel) rfl ⟨Nat.le_of_ble_eq_true rfl, Nat.le_of_ble_eq_true rfl⟩ rfl rfl rfl (Nat.le_of_ble_eq_true rfl) ⟨by show cells + 1 + 0 ≤ 600002; omega, by show slots + 6 + 0 ≤ 7302232; omega⟩ dL_law_2025 (fun hu2 hp_hu2 => ?_)
  refine g_af (ws' := WM adM g I L S (u2 (u2 Z 3 0 (nI 0)) 3 0 (nI 2)) Y ++ (WC adC g I L S ++ ([OUT ao on ov] : va_W))) (st' := [.int (nI 0)]) (cells' := cells + 1 + 0) (slots' := slots + 6 + 0) (pc' := 2028) rfl rfl rfl rfl rfl ?_
  refine g_run X KL_law_2028_295 KL_law_2028_295_d 2031 [(6, .int (nI 0)), (5, .int (nI 2)), (0, .ref b), (1, .ref (adC 0)), (2, .ref (adM 0)), (3, .ref ao), (4, .int (nI (6 * k)))] [.ref (adM 0)] rfl ?_
  refine g_callV X hSB hAf srcW (hrc1 := (rfl : CL[8]? = some _)) (wm_mem (k := 0) (by decide)) rfl (As := []) (wr := WC adC g I L S ++ ([OUT ao on ov] : va_W)) (n := 0) (c_X9_thrown l D g adM I L S (u2 (u2 Z 3 0 (nI 0)) 3 0 (nI 2)) Y ) rfl srcN hrdN w_1250 w_1247 w_1248 w_1249 w_6 (by decide +kernel) rfl ⟨Nat.le_of_ble_eq_true rfl, Nat.le_of_ble_eq_true rfl⟩ rfl rfl rfl (Nat.le_of_ble_eq_true rfl) ⟨by show cells + 1 + 0 + 0 ≤ 600002; omega, by show slots + 6 + 0 + 0 ≤ 7302232; omega⟩ dL_law_2031 (fun hu3 hp_hu3 => ?_)
  refine g_af (ws' := WM adM g I L S (u2 (u2 Z 3 0 (nI 0)) 3 0 (nI 2)) Y ++ (WC adC g I L S ++ ([OUT ao on ov] : va_W))) (st' := [.int ((u2 (u2 Z 3 0 (nI 0)) 3 0 (nI 2)) 3 0)]) (cells' := cells + 1 + 0 + 0) (slots' := slots + 6 + 0 + 0) (pc' := 2034) rfl rfl rfl rfl rfl ?_
  refine g_st (st' := [.int (nI 2)]) (by first | rfl | (simp [z4, u2]; done)) ?_
  refine g_run X KL_law_2034_296 KL_law_2034_296_d 2036 [(6, .int (nI 0)), (5, .int (nI 2)), (0, .ref b), (1, .ref (adC 0)), (2, .ref (adM 0)), (3, .ref ao), (4, .int (nI (6 * k)))] [.int (nI 2), .int (nI 2)] rfl ?_
  refine g_icmp_eq X 2041 dL_law_2036 (by decide) (fun hc4 => ?_) (fun hc4 => ?_)
  · refine g_run X KL_law_2041_297 KL_law_2041_297_d 2043 [(6, .int (nI 0)), (5, .int (nI 2)), (0, .ref b), (1, .ref (adC 0)), (2, .ref (adM 0)), (3, .ref ao), (4, .int (nI (6 * k)))] [.int (nI 2)] rfl ?_
    refine g_if_ne X 2059 dL_law_2043 (by decide) (fun hc5 => ?_) (fun hc5 => ?_)
    · refine g_run X KL_law_2059_300 KL_law_2059_300_d 2256 [(6, .int (nI 0)), (5, .int (nI 2)), (0, .ref b), (1, .ref (adC 0)), (2, .ref (adM 0)), (3, .ref ao), (4, .int (nI (6 * k)))] [] rfl ?_
      refine g_lv (lv' := [(0, .ref b), (1, .ref (adC 0)), (2, .ref (adM 0)), (3, .ref ao), (4, .int (nI (6 * k)))]) (lsub_c 2 rfl (lsub_c 3 rfl (lsub_c 4 rfl (lsub_c 5 rfl (lsub_c 6 rfl (lsub_n)))))) ?_
      refine g_perm (ws' := (WC adC g I L S ++ ([OUT ao on ov] : va_W)) ++ WM adM g I L S (u2 (u2 Z 3 0 (nI 0)) 3 0 (nI 2)) Y) (List.perm_append_comm (l₁ := (WC adC g I L S ++ ([OUT ao on ov] : va_W))) (l₂ := WM adM g I L S (u2 (u2 Z 3 0 (nI 0)) 3 0 (nI 2)) Y)) ?_
      refine g_widen (k := cells + 60) (n := slots + 1200) (by omega) (by omega) ?_
      exact kk I L S n (u2 (u2 Z 3 0 (nI 0)) 3 0 (nI 2)) Y R on ov (hI) (hR) (by first | exact hZ | (rw [zrow]; exact hZ) | (rw [zrow, zrow]; exact hZ))
    · rw [nz_eq (by omega)] at hc5; first | omega | (simp at hc5)
  · rw [nI_eq (by omega) (by omega)] at hc4; first | omega | (simp at hc4)

set_option maxHeartbeats 4000000 in
set_option maxRecDepth 100000 in
theorem lq27_1 {p : Program} {l : Launch} {e : Env} {s : State} {m : MethodId} {below : List Frame} {meth : Method} {c : Code} {Q : State → Prop} {D : va_G} {A : Nat → Prop} {b N : Nat} {xs : Nat → Int32} {adC adM : Nat → Nat} {g : Nat → ClassId} {ao k cells slots : Nat} {I : Nat → Nat → Int32} {L : Nat → Nat → Int64} {S : Nat → Nat} {n : Nat} {Z : Nat → Nat → Int32} {Y : Int64} {R : Nat → Nat} {on : Int64} {ov : Value} (HX : LX p l s m meth c A b N xs) (hk : 6 * k + 6 ≤ N) (hroom : cells + 60 ≤ 600002 ∧ slots + 1200 ≤ 7302232) (hI : Inv I L S n) (hR : R16 R) (hZ : Z 0 = fun j => nI (R j)) (hw : (xs (6 * k + 1)).toInt < (0 : Nat) ∨ ((16 : Nat) : Int) ≤ (xs (6 * k + 1)).toInt) (kk : LK p l e s m below meth c Q D A b adC adM g ao k cells slots 2256) : GL p l e room_1 s m #[.ref b] below meth c Q D CL (TYS g) A 9 (WL adC adM g ao I L S Z Y on ov) cells slots 1993 [(0, .ref b), (1, .ref (adC 0)), (2, .ref (adM 0)), (3, .ref ao), (4, .int (nI (6 * k)))] [] := by
  obtain ⟨X, hSB, hAf, hNC, hfl, hX, hbl, hbA, hN⟩ := HX
  refine g_run X KL_law_1993_290 KL_law_1993_290_d 1999 [(0, .ref b), (1, .ref (adC 0)), (2, .ref (adM 0)), (3, .ref ao), (4, .int (nI (6 * k)))] [.int ((nI (6 * k)) + (nI 1)), .ref b, .ref (adC 0)] rfl ?_
  refine g_nm (lv' := [(0, .ref b), (1, .ref (adC 0)), (2, .ref (adM 0)), (3, .ref ao), (4, .int (nI (6 * k)))]) (st' := [.int (nI ((6 * k) + 1)), .ref b, .ref (adC 0)]) (by simp only [nI_add]) (by simp only [nI_add]) ?_
  refine g_sld X hX hbl hbA hN (v := xs (6 * k + 1)) (by omega) rfl dL_law_1999 ?_
  refine g_run X KL_law_2000_291 KL_law_2000_291_d 2005 [(0, .ref b), (1, .ref (adC 0)), (2, .ref (adM 0)), (3, .ref ao), (4, .int (nI (6 * k)))] [.int ((nI (6 * k)) + (nI 2)), .ref b, .int (xs (6 * k + 1)), .ref (adC 0)] rfl ?_
  refine g_nm (lv' := [(0, .ref b), (1, .ref (adC 0)), (2, .ref (adM 0)), (3, .ref ao), (4, .int (nI (6 * k)))]) (st' := [.int (nI ((6 * k) + 2)), .ref b, .int (xs (6 * k + 1)), .ref (adC 0)]) (by simp only [nI_add]) (by simp only [nI_add]) ?_
  refine g_sld X hX hbl hbA hN (v := xs (6 * k + 2)) (by omega) rfl dL_law_2005 ?_
  refine g_run X KL_law_2006_292 KL_law_2006_292_d 2007 [(0, .ref b), (1, .ref (adC 0)), (2, .ref (adM 0)), (3, .ref ao), (4, .int (nI (6 * k)))] [.ref ao, .int (xs (6 * k + 2)), .int (xs (6 * k + 1)), .ref (adC 0)] rfl ?_
  refine g_callSW X hSB hAf hNC (As := [.ref (adC 0), .int (xs (6 * k + 1)), .int (xs (6 * k + 2)), .ref ao]) (wr := WM adM g I L S Z Y) (n := 4) (hx_wouldMend_1 l hfl D g adC I L S (xs (6 * k + 1)) (xs (6 * k + 2)) ao on ov (out_lt (by decide) hw)) rfl w_1035 w_1033 w_1034 w_0 (by decide +kernel) rfl ⟨Nat.le_of_ble_eq_true rfl, Nat.le_of_ble_eq_true rfl⟩ rfl rfl rfl (Nat.le_of_ble_eq_true rfl) ⟨by show cells + 1 ≤ 600002; omega, by show slots + 6 ≤ 7302232; omega⟩ dL_law_2007 (fun hu1 _ => ?_)
  refine g_af (ws' := (WC adC g I L S ++ ([OUT ao on ov] : va_W)) ++ WM adM g I L S Z Y) (st' := [.int (nI 1)]) (cells' := cells + 1) (slots' := slots + 6) (pc' := 2010) rfl rfl rfl rfl rfl ?_
  refine g_run X KL_law_2010_293 KL_law_2010_293_d 2018 [(5, .int (nI 1)), (0, .ref b), (1, .ref (adC 0)), (2, .ref (adM 0)), (3, .ref ao), (4, .int (nI (6 * k)))] [.int ((nI (6 * k)) + (nI 1)), .ref b, .ref (adM 0)] rfl ?_
  refine g_nm (lv' := [(5, .int (nI 1)), (0, .ref b), (1, .ref (adC 0)), (2, .ref (adM 0)), (3, .ref ao), (4, .int (nI (6 * k)))]) (st' := [.int (nI ((6 * k) + 1)), .ref b, .ref (adM 0)]) (by simp only [nI_add]) (by simp only [nI_add]) ?_
  refine g_sld X hX hbl hbA hN (v := xs (6 * k + 1)) (by omega) rfl dL_law_2018 ?_
  refine g_run X KL_law_2019_294 KL_law_2019_294_d 2024 [(5, .int (nI 1)), (0, .ref b), (1, .ref (adC 0)), (2, .ref (adM 0)), (3, .ref ao), (4, .int (nI (6 * k)))] [.int ((nI (6 * k)) + (nI 2)), .ref b, .int (xs (6 * k + 1)), .ref (adM 0)] rfl ?_
  refine g_nm (lv' := [(5, .int (nI 1)), (0, .ref b), (1, .ref (adC 0)), (2, .ref (adM 0)), (3, .ref ao), (4, .int (nI (6 * k)))]) (st' := [.int (nI ((6 * k) + 2)), .ref b, .int (xs (6 * k + 1)), .ref (adM 0)]) (by simp only [nI_add]) (by simp only [nI_add]) ?_
  refine g_sld X hX hbl hbA hN (v := xs (6 * k + 2)) (by omega) rfl dL_law_2024 ?_
  refine g_perm (ws' := WM adM g I L S Z Y ++ (WC adC g I L S ++ ([OUT ao on ov] : va_W))) (List.perm_append_comm (l₁ := WM adM g I L S Z Y) (l₂ := (WC adC g I L S ++ ([OUT ao on ov] : va_W)))) ?_
  refine g_callV X hSB hAf srcW (hrc1 := (rfl : CL[8]? = some _)) (wm_mem (k := 0) (by decide)) rfl (As := [.int (xs (6 * k + 1)), .int (xs (6 * k + 2))]) (wr := WC adC g I L S ++ ([OUT ao on ov] : va_W)) (n := 2) (c_X9_wouldMend_1 l D g adM I L S Z Y (xs (6 * k + 1)) (xs (6 * k + 2)) (out_le (by decide) hw)) rfl srcN hrdN w_1517 w_1514 w_1515 w_1516 w_6 (by decide +kernel) rfl ⟨Nat.le_of_ble_eq_true rfl, Nat.le_of_ble_eq_true rfl⟩ rfl rfl rfl (Nat.le_of_ble_eq_true rfl) ⟨by show cells + 1 + 0 ≤ 600002; omega, by show slots + 6 + 0 ≤ 7302232; omega⟩ dL_law_2025 (fun hu2 hp_hu2 => ?_)
  refine g_af (ws' := WM adM g I L S (u2 (u2 Z 3 0 (nI 0)) 3 0 (nI 1)) Y ++ (WC adC g I L S ++ ([OUT ao on ov] : va_W))) (st' := [.int (nI 0)]) (cells' := cells + 1 + 0) (slots' := slots + 6 + 0) (pc' := 2028) rfl rfl rfl rfl rfl ?_
  refine g_run X KL_law_2028_295 KL_law_2028_295_d 2031 [(6, .int (nI 0)), (5, .int (nI 1)), (0, .ref b), (1, .ref (adC 0)), (2, .ref (adM 0)), (3, .ref ao), (4, .int (nI (6 * k)))] [.ref (adM 0)] rfl ?_
  refine g_callV X hSB hAf srcW (hrc1 := (rfl : CL[8]? = some _)) (wm_mem (k := 0) (by decide)) rfl (As := []) (wr := WC adC g I L S ++ ([OUT ao on ov] : va_W)) (n := 0) (c_X9_thrown l D g adM I L S (u2 (u2 Z 3 0 (nI 0)) 3 0 (nI 1)) Y ) rfl srcN hrdN w_1250 w_1247 w_1248 w_1249 w_6 (by decide +kernel) rfl ⟨Nat.le_of_ble_eq_true rfl, Nat.le_of_ble_eq_true rfl⟩ rfl rfl rfl (Nat.le_of_ble_eq_true rfl) ⟨by show cells + 1 + 0 + 0 ≤ 600002; omega, by show slots + 6 + 0 + 0 ≤ 7302232; omega⟩ dL_law_2031 (fun hu3 hp_hu3 => ?_)
  refine g_af (ws' := WM adM g I L S (u2 (u2 Z 3 0 (nI 0)) 3 0 (nI 1)) Y ++ (WC adC g I L S ++ ([OUT ao on ov] : va_W))) (st' := [.int ((u2 (u2 Z 3 0 (nI 0)) 3 0 (nI 1)) 3 0)]) (cells' := cells + 1 + 0 + 0) (slots' := slots + 6 + 0 + 0) (pc' := 2034) rfl rfl rfl rfl rfl ?_
  refine g_st (st' := [.int (nI 1)]) (by first | rfl | (simp [z4, u2]; done)) ?_
  refine g_run X KL_law_2034_296 KL_law_2034_296_d 2036 [(6, .int (nI 0)), (5, .int (nI 1)), (0, .ref b), (1, .ref (adC 0)), (2, .ref (adM 0)), (3, .ref ao), (4, .int (nI (6 * k)))] [.int (nI 1), .int (nI 1)] rfl ?_
  refine g_icmp_eq X 2041 dL_law_2036 (by decide) (fun hc4 => ?_) (fun hc4 => ?_)
  · refine g_run X KL_law_2041_297 KL_law_2041_297_d 2043 [(6, .int (nI 0)), (5, .int (nI 1)), (0, .ref b), (1, .ref (adC 0)), (2, .ref (adM 0)), (3, .ref ao), (4, .int (nI (6 * k)))] [.int (nI 1)] rfl ?_
    refine g_if_ne X 2059 dL_law_2043 (by decide) (fun hc5 => ?_) (fun hc5 => ?_)
    · refine g_run X KL_law_2059_300 KL_law_2059_300_d 2256 [(6, .int (nI 0)), (5, .int (nI 1)), (0, .ref b), (1, .ref (adC 0)), (2, .ref (adM 0)), (3, .ref ao), (4, .int (nI (6 * k)))] [] rfl ?_
      refine g_lv (lv' := [(0, .ref b), (1, .ref (adC 0)), (2, .ref (adM 0)), (3, .ref ao), (4, .int (nI (6 * k)))]) (lsub_c 2 rfl (lsub_c 3 rfl (lsub_c 4 rfl (lsub_c 5 rfl (lsub_c 6 rfl (lsub_n)))))) ?_
      refine g_perm (ws' := (WC adC g I L S ++ ([OUT ao on ov] : va_W)) ++ WM adM g I L S (u2 (u2 Z 3 0 (nI 0)) 3 0 (nI 1)) Y) (List.perm_append_comm (l₁ := (WC adC g I L S ++ ([OUT ao on ov] : va_W))) (l₂ := WM adM g I L S (u2 (u2 Z 3 0 (nI 0)) 3 0 (nI 1)) Y)) ?_
      refine g_widen (k := cells + 60) (n := slots + 1200) (by omega) (by omega) ?_
      exact kk I L S n (u2 (u2 Z 3 0 (nI 0)) 3 0 (nI 1)) Y R on ov (hI) (hR) (by first | exact hZ | (rw [zrow]; exact hZ) | (rw [zrow, zrow]; exact hZ))
    · rw [nz_eq (by omega)] at hc5; first | omega | (simp at hc5)
  · rw [nI_eq (by omega) (by omega)] at hc4; first | omega | (simp at hc4)

theorem lq27 {p : Program} {l : Launch} {e : Env} {s : State} {m : MethodId} {below : List Frame} {meth : Method} {c : Code} {Q : State → Prop} {D : va_G} {A : Nat → Prop} {b N : Nat} {xs : Nat → Int32} {adC adM : Nat → Nat} {g : Nat → ClassId} {ao k cells slots : Nat} {I : Nat → Nat → Int32} {L : Nat → Nat → Int64} {S : Nat → Nat} {n : Nat} {Z : Nat → Nat → Int32} {Y : Int64} {R : Nat → Nat} {on : Int64} {ov : Value} (HX : LX p l s m meth c A b N xs) (hk : 6 * k + 6 ≤ N) (hroom : cells + 60 ≤ 600002 ∧ slots + 1200 ≤ 7302232) (hI : Inv I L S n) (hR : R16 R) (hZ : Z 0 = fun j => nI (R j)) (kk : LK p l e s m below meth c Q D A b adC adM g ao k cells slots 2256) : GL p l e room_1 s m #[.ref b] below meth c Q D CL (TYS g) A 9 (WL adC adM g ao I L S Z Y on ov) cells slots 1993 [(0, .ref b), (1, .ref (adC 0)), (2, .ref (adM 0)), (3, .ref ao), (4, .int (nI (6 * k)))] [] := by
  rcases rg (xs (6 * k + 1)) 0 16 with ⟨a1, hl1, hu1, e1⟩ | hw
  · rcases rg (xs (6 * k + 2)) 0 32768 with ⟨a2, hl2, hu2, e2⟩ | hw
    · exact lq27_0 HX hk hroom hI hR hZ  a1 hl1 hu1 e1 a2 hl2 hu2 e2 kk
    · exact lq27_2 HX hk hroom hI hR hZ  a1 hl1 hu1 e1 hw kk
  · exact lq27_1 HX hk hroom hI hR hZ  hw kk

def KL_law_2062_301 : List (Nat × Instr × Nat) := [(2062, .aload_n 1, 1), (2063, .aload_n 0, 1), (2064, .iload 4, 2), (2066, .iconst 1, 1), (2067, .iadd, 1)]
theorem KL_law_2062_301_d : ∀ z ∈ KL_law_2062_301, decode cL_law z.1 = .ok z.2 := by decide +kernel
def KL_law_2069_302 : List (Nat × Instr × Nat) := [(2069, .aload_n 3, 1)]
theorem KL_law_2069_302_d : ∀ z ∈ KL_law_2069_302, decode cL_law z.1 = .ok z.2 := by decide +kernel
def KL_law_2073_303 : List (Nat × Instr × Nat) := [(2073, .istore 5, 2), (2075, .aload_n 2, 1), (2076, .aload_n 0, 1), (2077, .iload 4, 2), (2079, .iconst 1, 1), (2080, .iadd, 1)]
theorem KL_law_2073_303_d : ∀ z ∈ KL_law_2073_303, decode cL_law z.1 = .ok z.2 := by decide +kernel
def KL_law_2085_304 : List (Nat × Instr × Nat) := [(2085, .istore 6, 2), (2087, .aload_n 2, 1)]
theorem KL_law_2085_304_d : ∀ z ∈ KL_law_2085_304, decode cL_law z.1 = .ok z.2 := by decide +kernel
def KL_law_2091_305 : List (Nat × Instr × Nat) := [(2091, .iload 5, 2)]
theorem KL_law_2091_305_d : ∀ z ∈ KL_law_2091_305, decode cL_law z.1 = .ok z.2 := by decide +kernel
def KL_law_2098_306 : List (Nat × Instr × Nat) := [(2098, .iload 5, 2)]
theorem KL_law_2098_306_d : ∀ z ∈ KL_law_2098_306, decode cL_law z.1 = .ok z.2 := by decide +kernel
def KL_law_2103_307 : List (Nat × Instr × Nat) := [(2103, .aload_n 3, 1)]
theorem KL_law_2103_307_d : ∀ z ∈ KL_law_2103_307, decode cL_law z.1 = .ok z.2 := by decide +kernel
def KL_law_2107_308 : List (Nat × Instr × Nat) := [(2107, .iload 6, 2), (2109, .i2l, 1), (2110, .lcmp, 1)]
theorem KL_law_2107_308_d : ∀ z ∈ KL_law_2107_308, decode cL_law z.1 = .ok z.2 := by decide +kernel
def KL_law_2116_309 : List (Nat × Instr × Nat) := [(2116, .goto 140, 3)]
theorem KL_law_2116_309_d : ∀ z ∈ KL_law_2116_309, decode cL_law z.1 = .ok z.2 := by decide +kernel
set_option maxHeartbeats 4000000 in
set_option maxRecDepth 100000 in
theorem lq28_0 {p : Program} {l : Launch} {e : Env} {s : State} {m : MethodId} {below : List Frame} {meth : Method} {c : Code} {Q : State → Prop} {D : va_G} {A : Nat → Prop} {b N : Nat} {xs : Nat → Int32} {adC adM : Nat → Nat} {g : Nat → ClassId} {ao k cells slots : Nat} {I : Nat → Nat → Int32} {L : Nat → Nat → Int64} {S : Nat → Nat} {n : Nat} {Z : Nat → Nat → Int32} {Y : Int64} {R : Nat → Nat} {on : Int64} {ov : Value} (HX : LX p l s m meth c A b N xs) (hk : 6 * k + 6 ≤ N) (hroom : cells + 60 ≤ 600002 ∧ slots + 1200 ≤ 7302232) (hI : Inv I L S n) (hR : R16 R) (hZ : Z 0 = fun j => nI (R j)) (a1 : Nat) (hl1 : 0 ≤ a1) (hu1 : a1 < 16) (e1 : xs (6 * k + 1) = nI a1) (kk : LK p l e s m below meth c Q D A b adC adM g ao k cells slots 2256) : GL p l e room_1 s m #[.ref b] below meth c Q D CL (TYS g) A 9 (WL adC adM g ao I L S Z Y on ov) cells slots 2062 [(0, .ref b), (1, .ref (adC 0)), (2, .ref (adM 0)), (3, .ref ao), (4, .int (nI (6 * k)))] [] := by
  obtain ⟨X, hSB, hAf, hNC, hfl, hX, hbl, hbA, hN⟩ := HX
  refine g_run X KL_law_2062_301 KL_law_2062_301_d 2068 [(0, .ref b), (1, .ref (adC 0)), (2, .ref (adM 0)), (3, .ref ao), (4, .int (nI (6 * k)))] [.int ((nI (6 * k)) + (nI 1)), .ref b, .ref (adC 0)] rfl ?_
  refine g_nm (lv' := [(0, .ref b), (1, .ref (adC 0)), (2, .ref (adM 0)), (3, .ref ao), (4, .int (nI (6 * k)))]) (st' := [.int (nI ((6 * k) + 1)), .ref b, .ref (adC 0)]) (by simp only [nI_add]) (by simp only [nI_add]) ?_
  refine g_sld X hX hbl hbA hN (v := nI a1) (by omega) e1 dL_law_2068 ?_
  refine g_run X KL_law_2069_302 KL_law_2069_302_d 2070 [(0, .ref b), (1, .ref (adC 0)), (2, .ref (adM 0)), (3, .ref ao), (4, .int (nI (6 * k)))] [.ref ao, .int (nI a1), .ref (adC 0)] rfl ?_
  refine g_callSW X hSB hAf hNC (As := [.ref (adC 0), .int (nI a1), .ref ao]) (wr := WM adM g I L S Z Y) (n := 3) (hc_spare l D g adC I L S a1 ao on ov (hI.s18) (by first | assumption | omega)) rfl w_1043 w_1041 w_1042 w_0 (by decide +kernel) rfl ⟨Nat.le_of_ble_eq_true rfl, Nat.le_of_ble_eq_true rfl⟩ rfl rfl rfl (Nat.le_of_ble_eq_true rfl) ⟨by show cells + 0 ≤ 600002; omega, by show slots + 0 ≤ 7302232; omega⟩ dL_law_2070 (fun hu1 _ => ?_)
  refine g_af (ws' := (WC adC g I L S ++ ([OUT ao ((spV I L S a1).toInt64) ov] : va_W)) ++ WM adM g I L S Z Y) (st' := [.int (nI 0)]) (cells' := cells + 0) (slots' := slots + 0) (pc' := 2073) rfl rfl rfl rfl rfl ?_
  refine g_run X KL_law_2073_303 KL_law_2073_303_d 2081 [(5, .int (nI 0)), (0, .ref b), (1, .ref (adC 0)), (2, .ref (adM 0)), (3, .ref ao), (4, .int (nI (6 * k)))] [.int ((nI (6 * k)) + (nI 1)), .ref b, .ref (adM 0)] rfl ?_
  refine g_nm (lv' := [(5, .int (nI 0)), (0, .ref b), (1, .ref (adC 0)), (2, .ref (adM 0)), (3, .ref ao), (4, .int (nI (6 * k)))]) (st' := [.int (nI ((6 * k) + 1)), .ref b, .ref (adM 0)]) (by simp only [nI_add]) (by simp only [nI_add]) ?_
  refine g_sld X hX hbl hbA hN (v := nI a1) (by omega) e1 dL_law_2081 ?_
  refine g_perm (ws' := WM adM g I L S Z Y ++ (WC adC g I L S ++ ([OUT ao ((spV I L S a1).toInt64) ov] : va_W))) (List.perm_append_comm (l₁ := WM adM g I L S Z Y) (l₂ := (WC adC g I L S ++ ([OUT ao ((spV I L S a1).toInt64) ov] : va_W)))) ?_
  refine g_callV X hSB hAf srcW (hrc1 := (rfl : CL[8]? = some _)) (wm_mem (k := 0) (by decide)) rfl (As := [.int (nI a1)]) (wr := WC adC g I L S ++ ([OUT ao ((spV I L S a1).toInt64) ov] : va_W)) (n := 1) (c_X9_spare l D g adM I L S Z Y a1 R (hR) (hZ) (hI.s18) (hI.ky) (by first | assumption | omega)) rfl srcN hrdN w_1521 w_1518 w_1519 w_1520 w_6 (by decide +kernel) rfl ⟨Nat.le_of_ble_eq_true rfl, Nat.le_of_ble_eq_true rfl⟩ rfl rfl rfl (Nat.le_of_ble_eq_true rfl) ⟨by show cells + 0 + 1 ≤ 600002; omega, by show slots + 0 + 15 ≤ 7302232; omega⟩ dL_law_2082 (fun hu2 hp_hu2 => ?_)
  refine g_af (ws' := WM adM g I L S (z4 (u2 Z 3 0 (nI 0)) hu2.1 hu2.2 (mdA (Z 2) (mw (ers I S 15) (rwd I L S a1 15)))) Y ++ (WC adC g I L S ++ ([OUT ao ((spV I L S a1).toInt64) ov] : va_W))) (st' := [.int (spV I L S a1)]) (cells' := cells + 0 + 1) (slots' := slots + 0 + 15) (pc' := 2085) rfl rfl rfl rfl rfl ?_
  refine g_run X KL_law_2085_304 KL_law_2085_304_d 2088 [(6, .int (spV I L S a1)), (5, .int (nI 0)), (0, .ref b), (1, .ref (adC 0)), (2, .ref (adM 0)), (3, .ref ao), (4, .int (nI (6 * k)))] [.ref (adM 0)] rfl ?_
  refine g_callV X hSB hAf srcW (hrc1 := (rfl : CL[8]? = some _)) (wm_mem (k := 0) (by decide)) rfl (As := []) (wr := WC adC g I L S ++ ([OUT ao ((spV I L S a1).toInt64) ov] : va_W)) (n := 0) (c_X9_thrown l D g adM I L S (z4 (u2 Z 3 0 (nI 0)) hu2.1 hu2.2 (mdA (Z 2) (mw (ers I S 15) (rwd I L S a1 15)))) Y ) rfl srcN hrdN w_1250 w_1247 w_1248 w_1249 w_6 (by decide +kernel) rfl ⟨Nat.le_of_ble_eq_true rfl, Nat.le_of_ble_eq_true rfl⟩ rfl rfl rfl (Nat.le_of_ble_eq_true rfl) ⟨by show cells + 0 + 1 + 0 ≤ 600002; omega, by show slots + 0 + 15 + 0 ≤ 7302232; omega⟩ dL_law_2088 (fun hu3 hp_hu3 => ?_)
  refine g_af (ws' := WM adM g I L S (z4 (u2 Z 3 0 (nI 0)) hu2.1 hu2.2 (mdA (Z 2) (mw (ers I S 15) (rwd I L S a1 15)))) Y ++ (WC adC g I L S ++ ([OUT ao ((spV I L S a1).toInt64) ov] : va_W))) (st' := [.int ((z4 (u2 Z 3 0 (nI 0)) hu2.1 hu2.2 (mdA (Z 2) (mw (ers I S 15) (rwd I L S a1 15)))) 3 0)]) (cells' := cells + 0 + 1 + 0) (slots' := slots + 0 + 15 + 0) (pc' := 2091) rfl rfl rfl rfl rfl ?_
  refine g_st (st' := [.int (nI 0)]) (by first | rfl | (simp [z4, u2]; done)) ?_
  refine g_run X KL_law_2091_305 KL_law_2091_305_d 2093 [(6, .int (spV I L S a1)), (5, .int (nI 0)), (0, .ref b), (1, .ref (adC 0)), (2, .ref (adM 0)), (3, .ref ao), (4, .int (nI (6 * k)))] [.int (nI 0), .int (nI 0)] rfl ?_
  refine g_icmp_eq X 2098 dL_law_2093 (by decide) (fun hc4 => ?_) (fun hc4 => ?_)
  · refine g_run X KL_law_2098_306 KL_law_2098_306_d 2100 [(6, .int (spV I L S a1)), (5, .int (nI 0)), (0, .ref b), (1, .ref (adC 0)), (2, .ref (adM 0)), (3, .ref ao), (4, .int (nI (6 * k)))] [.int (nI 0)] rfl ?_
    refine g_if_ne X 2116 dL_law_2100 (by decide) (fun hc5 => ?_) (fun hc5 => ?_)
    · rw [nz_eq (by omega)] at hc5; first | omega | (simp at hc5)
    · refine g_run X KL_law_2103_307 KL_law_2103_307_d 2104 [(6, .int (spV I L S a1)), (5, .int (nI 0)), (0, .ref b), (1, .ref (adC 0)), (2, .ref (adM 0)), (3, .ref ao), (4, .int (nI (6 * k)))] [.ref ao] rfl ?_
      refine g_getN X srcW (host := "ChipfieldLaw") (v := .long ((spV I L S a1).toInt64)) hinX6 rfl 0 (by decide) (nw_in n_489 rfl) rfl (List.mem_append_right _ (List.mem_append_right _ List.mem_cons_self)) rfl dL_law_2104 ?_
      refine g_run X KL_law_2107_308 KL_law_2107_308_d 2111 [(6, .int (spV I L S a1)), (5, .int (nI 0)), (0, .ref b), (1, .ref (adC 0)), (2, .ref (adM 0)), (3, .ref ao), (4, .int (nI (6 * k)))] [.int (lg_cmp ((spV I L S a1).toInt64) ((spV I L S a1).toInt64))] rfl ?_
      refine g_if_eq X 2116 dL_law_2111 (by decide) (fun hc6 => ?_) (fun hc6 => ?_)
      · refine g_run X KL_law_2116_309 KL_law_2116_309_d 2256 [(6, .int (spV I L S a1)), (5, .int (nI 0)), (0, .ref b), (1, .ref (adC 0)), (2, .ref (adM 0)), (3, .ref ao), (4, .int (nI (6 * k)))] [] rfl ?_
        refine g_lv (lv' := [(0, .ref b), (1, .ref (adC 0)), (2, .ref (adM 0)), (3, .ref ao), (4, .int (nI (6 * k)))]) (lsub_c 2 rfl (lsub_c 3 rfl (lsub_c 4 rfl (lsub_c 5 rfl (lsub_c 6 rfl (lsub_n)))))) ?_
        refine g_perm (ws' := (WC adC g I L S ++ ([OUT ao ((spV I L S a1).toInt64) ov] : va_W)) ++ WM adM g I L S (z4 (u2 Z 3 0 (nI 0)) hu2.1 hu2.2 (mdA (Z 2) (mw (ers I S 15) (rwd I L S a1 15)))) Y) (List.perm_append_comm (l₁ := (WC adC g I L S ++ ([OUT ao ((spV I L S a1).toInt64) ov] : va_W))) (l₂ := WM adM g I L S (z4 (u2 Z 3 0 (nI 0)) hu2.1 hu2.2 (mdA (Z 2) (mw (ers I S 15) (rwd I L S a1 15)))) Y)) ?_
        refine g_widen (k := cells + 60) (n := slots + 1200) (by omega) (by omega) ?_
        exact kk I L S n (z4 (u2 Z 3 0 (nI 0)) hu2.1 hu2.2 (mdA (Z 2) (mw (ers I S 15) (rwd I L S a1 15)))) Y hu2.1 ((spV I L S a1).toInt64) ov (hI) (hp_hu2) (rfl)
      · exact absurd lg_self hc6
  · rw [nI_eq (by omega) (by omega)] at hc4; first | omega | (simp at hc4)

set_option maxHeartbeats 4000000 in
set_option maxRecDepth 100000 in
theorem lq28_1 {p : Program} {l : Launch} {e : Env} {s : State} {m : MethodId} {below : List Frame} {meth : Method} {c : Code} {Q : State → Prop} {D : va_G} {A : Nat → Prop} {b N : Nat} {xs : Nat → Int32} {adC adM : Nat → Nat} {g : Nat → ClassId} {ao k cells slots : Nat} {I : Nat → Nat → Int32} {L : Nat → Nat → Int64} {S : Nat → Nat} {n : Nat} {Z : Nat → Nat → Int32} {Y : Int64} {R : Nat → Nat} {on : Int64} {ov : Value} (HX : LX p l s m meth c A b N xs) (hk : 6 * k + 6 ≤ N) (hroom : cells + 60 ≤ 600002 ∧ slots + 1200 ≤ 7302232) (hI : Inv I L S n) (hR : R16 R) (hZ : Z 0 = fun j => nI (R j)) (hw : (xs (6 * k + 1)).toInt < (0 : Nat) ∨ ((16 : Nat) : Int) ≤ (xs (6 * k + 1)).toInt) (kk : LK p l e s m below meth c Q D A b adC adM g ao k cells slots 2256) : GL p l e room_1 s m #[.ref b] below meth c Q D CL (TYS g) A 9 (WL adC adM g ao I L S Z Y on ov) cells slots 2062 [(0, .ref b), (1, .ref (adC 0)), (2, .ref (adM 0)), (3, .ref ao), (4, .int (nI (6 * k)))] [] := by
  obtain ⟨X, hSB, hAf, hNC, hfl, hX, hbl, hbA, hN⟩ := HX
  refine g_run X KL_law_2062_301 KL_law_2062_301_d 2068 [(0, .ref b), (1, .ref (adC 0)), (2, .ref (adM 0)), (3, .ref ao), (4, .int (nI (6 * k)))] [.int ((nI (6 * k)) + (nI 1)), .ref b, .ref (adC 0)] rfl ?_
  refine g_nm (lv' := [(0, .ref b), (1, .ref (adC 0)), (2, .ref (adM 0)), (3, .ref ao), (4, .int (nI (6 * k)))]) (st' := [.int (nI ((6 * k) + 1)), .ref b, .ref (adC 0)]) (by simp only [nI_add]) (by simp only [nI_add]) ?_
  refine g_sld X hX hbl hbA hN (v := xs (6 * k + 1)) (by omega) rfl dL_law_2068 ?_
  refine g_run X KL_law_2069_302 KL_law_2069_302_d 2070 [(0, .ref b), (1, .ref (adC 0)), (2, .ref (adM 0)), (3, .ref ao), (4, .int (nI (6 * k)))] [.ref ao, .int (xs (6 * k + 1)), .ref (adC 0)] rfl ?_
  refine g_callSW X hSB hAf hNC (As := [.ref (adC 0), .int (xs (6 * k + 1)), .ref ao]) (wr := WM adM g I L S Z Y) (n := 3) (hx_spare_1 l hfl D g adC I L S (xs (6 * k + 1)) ao on ov (out_lt (by decide) hw)) rfl w_1043 w_1041 w_1042 w_0 (by decide +kernel) rfl ⟨Nat.le_of_ble_eq_true rfl, Nat.le_of_ble_eq_true rfl⟩ rfl rfl rfl (Nat.le_of_ble_eq_true rfl) ⟨by show cells + 1 ≤ 600002; omega, by show slots + 6 ≤ 7302232; omega⟩ dL_law_2070 (fun hu1 _ => ?_)
  refine g_af (ws' := (WC adC g I L S ++ ([OUT ao on ov] : va_W)) ++ WM adM g I L S Z Y) (st' := [.int (nI 1)]) (cells' := cells + 1) (slots' := slots + 6) (pc' := 2073) rfl rfl rfl rfl rfl ?_
  refine g_run X KL_law_2073_303 KL_law_2073_303_d 2081 [(5, .int (nI 1)), (0, .ref b), (1, .ref (adC 0)), (2, .ref (adM 0)), (3, .ref ao), (4, .int (nI (6 * k)))] [.int ((nI (6 * k)) + (nI 1)), .ref b, .ref (adM 0)] rfl ?_
  refine g_nm (lv' := [(5, .int (nI 1)), (0, .ref b), (1, .ref (adC 0)), (2, .ref (adM 0)), (3, .ref ao), (4, .int (nI (6 * k)))]) (st' := [.int (nI ((6 * k) + 1)), .ref b, .ref (adM 0)]) (by simp only [nI_add]) (by simp only [nI_add]) ?_
  refine g_sld X hX hbl hbA hN (v := xs (6 * k + 1)) (by omega) rfl dL_law_2081 ?_
  refine g_perm (ws' := WM adM g I L S Z Y ++ (WC adC g I L S ++ ([OUT ao on ov] : va_W))) (List.perm_append_comm (l₁ := WM adM g I L S Z Y) (l₂ := (WC adC g I L S ++ ([OUT ao on ov] : va_W)))) ?_
  refine g_callV X hSB hAf srcW (hrc1 := (rfl : CL[8]? = some _)) (wm_mem (k := 0) (by decide)) rfl (As := [.int (xs (6 * k + 1))]) (wr := WC adC g I L S ++ ([OUT ao on ov] : va_W)) (n := 1) (c_X9_spare_1 l D g adM I L S Z Y (xs (6 * k + 1)) (out_le (by decide) hw)) rfl srcN hrdN w_1521 w_1518 w_1519 w_1520 w_6 (by decide +kernel) rfl ⟨Nat.le_of_ble_eq_true rfl, Nat.le_of_ble_eq_true rfl⟩ rfl rfl rfl (Nat.le_of_ble_eq_true rfl) ⟨by show cells + 1 + 0 ≤ 600002; omega, by show slots + 6 + 0 ≤ 7302232; omega⟩ dL_law_2082 (fun hu2 hp_hu2 => ?_)
  refine g_af (ws' := WM adM g I L S (u2 (u2 Z 3 0 (nI 0)) 3 0 (nI 1)) Y ++ (WC adC g I L S ++ ([OUT ao on ov] : va_W))) (st' := [.int (nI 0)]) (cells' := cells + 1 + 0) (slots' := slots + 6 + 0) (pc' := 2085) rfl rfl rfl rfl rfl ?_
  refine g_run X KL_law_2085_304 KL_law_2085_304_d 2088 [(6, .int (nI 0)), (5, .int (nI 1)), (0, .ref b), (1, .ref (adC 0)), (2, .ref (adM 0)), (3, .ref ao), (4, .int (nI (6 * k)))] [.ref (adM 0)] rfl ?_
  refine g_callV X hSB hAf srcW (hrc1 := (rfl : CL[8]? = some _)) (wm_mem (k := 0) (by decide)) rfl (As := []) (wr := WC adC g I L S ++ ([OUT ao on ov] : va_W)) (n := 0) (c_X9_thrown l D g adM I L S (u2 (u2 Z 3 0 (nI 0)) 3 0 (nI 1)) Y ) rfl srcN hrdN w_1250 w_1247 w_1248 w_1249 w_6 (by decide +kernel) rfl ⟨Nat.le_of_ble_eq_true rfl, Nat.le_of_ble_eq_true rfl⟩ rfl rfl rfl (Nat.le_of_ble_eq_true rfl) ⟨by show cells + 1 + 0 + 0 ≤ 600002; omega, by show slots + 6 + 0 + 0 ≤ 7302232; omega⟩ dL_law_2088 (fun hu3 hp_hu3 => ?_)
  refine g_af (ws' := WM adM g I L S (u2 (u2 Z 3 0 (nI 0)) 3 0 (nI 1)) Y ++ (WC adC g I L S ++ ([OUT ao on ov] : va_W))) (st' := [.int ((u2 (u2 Z 3 0 (nI 0)) 3 0 (nI 1)) 3 0)]) (cells' := cells + 1 + 0 + 0) (slots' := slots + 6 + 0 + 0) (pc' := 2091) rfl rfl rfl rfl rfl ?_
  refine g_st (st' := [.int (nI 1)]) (by first | rfl | (simp [z4, u2]; done)) ?_
  refine g_run X KL_law_2091_305 KL_law_2091_305_d 2093 [(6, .int (nI 0)), (5, .int (nI 1)), (0, .ref b), (1, .ref (adC 0)), (2, .ref (adM 0)), (3, .ref ao), (4, .int (nI (6 * k)))] [.int (nI 1), .int (nI 1)] rfl ?_
  refine g_icmp_eq X 2098 dL_law_2093 (by decide) (fun hc4 => ?_) (fun hc4 => ?_)
  · refine g_run X KL_law_2098_306 KL_law_2098_306_d 2100 [(6, .int (nI 0)), (5, .int (nI 1)), (0, .ref b), (1, .ref (adC 0)), (2, .ref (adM 0)), (3, .ref ao), (4, .int (nI (6 * k)))] [.int (nI 1)] rfl ?_
    refine g_if_ne X 2116 dL_law_2100 (by decide) (fun hc5 => ?_) (fun hc5 => ?_)
    · refine g_run X KL_law_2116_309 KL_law_2116_309_d 2256 [(6, .int (nI 0)), (5, .int (nI 1)), (0, .ref b), (1, .ref (adC 0)), (2, .ref (adM 0)), (3, .ref ao), (4, .int (nI (6 * k)))] [] rfl ?_
      refine g_lv (lv' := [(0, .ref b), (1, .ref (adC 0)), (2, .ref (adM 0)), (3, .ref ao), (4, .int (nI (6 * k)))]) (lsub_c 2 rfl (lsub_c 3 rfl (lsub_c 4 rfl (lsub_c 5 rfl (lsub_c 6 rfl (lsub_n)))))) ?_
      refine g_perm (ws' := (WC adC g I L S ++ ([OUT ao on ov] : va_W)) ++ WM adM g I L S (u2 (u2 Z 3 0 (nI 0)) 3 0 (nI 1)) Y) (List.perm_append_comm (l₁ := (WC adC g I L S ++ ([OUT ao on ov] : va_W))) (l₂ := WM adM g I L S (u2 (u2 Z 3 0 (nI 0)) 3 0 (nI 1)) Y)) ?_
      refine g_widen (k := cells + 60) (n := slots + 1200) (by omega) (by omega) ?_
      exact kk I L S n (u2 (u2 Z 3 0 (nI 0)) 3 0 (nI 1)) Y R on ov (hI) (hR) (by first | exact hZ | (rw [zrow]; exact hZ) | (rw [zrow, zrow]; exact hZ))
    · rw [nz_eq (by omega)] at hc5; first | omega | (simp at hc5)
  · rw [nI_eq (by omega) (by omega)] at hc4; first | omega | (simp at hc4)

theorem lq28 {p : Program} {l : Launch} {e : Env} {s : State} {m : MethodId} {below : List Frame} {meth : Method} {c : Code} {Q : State → Prop} {D : va_G} {A : Nat → Prop} {b N : Nat} {xs : Nat → Int32} {adC adM : Nat → Nat} {g : Nat → ClassId} {ao k cells slots : Nat} {I : Nat → Nat → Int32} {L : Nat → Nat → Int64} {S : Nat → Nat} {n : Nat} {Z : Nat → Nat → Int32} {Y : Int64} {R : Nat → Nat} {on : Int64} {ov : Value} (HX : LX p l s m meth c A b N xs) (hk : 6 * k + 6 ≤ N) (hroom : cells + 60 ≤ 600002 ∧ slots + 1200 ≤ 7302232) (hI : Inv I L S n) (hR : R16 R) (hZ : Z 0 = fun j => nI (R j)) (kk : LK p l e s m below meth c Q D A b adC adM g ao k cells slots 2256) : GL p l e room_1 s m #[.ref b] below meth c Q D CL (TYS g) A 9 (WL adC adM g ao I L S Z Y on ov) cells slots 2062 [(0, .ref b), (1, .ref (adC 0)), (2, .ref (adM 0)), (3, .ref ao), (4, .int (nI (6 * k)))] [] := by
  rcases rg (xs (6 * k + 1)) 0 16 with ⟨a1, hl1, hu1, e1⟩ | hw
  · exact lq28_0 HX hk hroom hI hR hZ  a1 hl1 hu1 e1 kk
  · exact lq28_1 HX hk hroom hI hR hZ  hw kk

def KL_law_2119_310 : List (Nat × Instr × Nat) := [(2119, .aload_n 1, 1), (2120, .aload_n 0, 1), (2121, .iload 4, 2), (2123, .iconst 1, 1), (2124, .iadd, 1)]
theorem KL_law_2119_310_d : ∀ z ∈ KL_law_2119_310, decode cL_law z.1 = .ok z.2 := by decide +kernel
def KL_law_2126_311 : List (Nat × Instr × Nat) := [(2126, .aload_n 0, 1), (2127, .iload 4, 2), (2129, .iconst 2, 1), (2130, .iadd, 1)]
theorem KL_law_2126_311_d : ∀ z ∈ KL_law_2126_311, decode cL_law z.1 = .ok z.2 := by decide +kernel
def KL_law_2132_312 : List (Nat × Instr × Nat) := [(2132, .aload_n 3, 1)]
theorem KL_law_2132_312_d : ∀ z ∈ KL_law_2132_312, decode cL_law z.1 = .ok z.2 := by decide +kernel
def KL_law_2136_313 : List (Nat × Instr × Nat) := [(2136, .istore 5, 2), (2138, .aload_n 2, 1), (2139, .aload_n 0, 1), (2140, .iload 4, 2), (2142, .iconst 1, 1), (2143, .iadd, 1)]
theorem KL_law_2136_313_d : ∀ z ∈ KL_law_2136_313, decode cL_law z.1 = .ok z.2 := by decide +kernel
def KL_law_2145_314 : List (Nat × Instr × Nat) := [(2145, .aload_n 0, 1), (2146, .iload 4, 2), (2148, .iconst 2, 1), (2149, .iadd, 1)]
theorem KL_law_2145_314_d : ∀ z ∈ KL_law_2145_314, decode cL_law z.1 = .ok z.2 := by decide +kernel
def KL_law_2154_315 : List (Nat × Instr × Nat) := [(2154, .istore 6, 2), (2156, .aload_n 2, 1)]
theorem KL_law_2154_315_d : ∀ z ∈ KL_law_2154_315, decode cL_law z.1 = .ok z.2 := by decide +kernel
def KL_law_2160_316 : List (Nat × Instr × Nat) := [(2160, .iload 5, 2)]
theorem KL_law_2160_316_d : ∀ z ∈ KL_law_2160_316, decode cL_law z.1 = .ok z.2 := by decide +kernel
def KL_law_2167_317 : List (Nat × Instr × Nat) := [(2167, .iload 5, 2)]
theorem KL_law_2167_317_d : ∀ z ∈ KL_law_2167_317, decode cL_law z.1 = .ok z.2 := by decide +kernel
def KL_law_2172_318 : List (Nat × Instr × Nat) := [(2172, .aload_n 3, 1)]
theorem KL_law_2172_318_d : ∀ z ∈ KL_law_2172_318, decode cL_law z.1 = .ok z.2 := by decide +kernel
def KL_law_2176_319 : List (Nat × Instr × Nat) := [(2176, .iload 6, 2), (2178, .i2l, 1), (2179, .lcmp, 1)]
theorem KL_law_2176_319_d : ∀ z ∈ KL_law_2176_319, decode cL_law z.1 = .ok z.2 := by decide +kernel
def KL_law_2185_320 : List (Nat × Instr × Nat) := [(2185, .goto 71, 3)]
theorem KL_law_2185_320_d : ∀ z ∈ KL_law_2185_320, decode cL_law z.1 = .ok z.2 := by decide +kernel
set_option maxHeartbeats 4000000 in
set_option maxRecDepth 100000 in
theorem lq29_0 {p : Program} {l : Launch} {e : Env} {s : State} {m : MethodId} {below : List Frame} {meth : Method} {c : Code} {Q : State → Prop} {D : va_G} {A : Nat → Prop} {b N : Nat} {xs : Nat → Int32} {adC adM : Nat → Nat} {g : Nat → ClassId} {ao k cells slots : Nat} {I : Nat → Nat → Int32} {L : Nat → Nat → Int64} {S : Nat → Nat} {n : Nat} {Z : Nat → Nat → Int32} {Y : Int64} {R : Nat → Nat} {on : Int64} {ov : Value} (HX : LX p l s m meth c A b N xs) (hk : 6 * k + 6 ≤ N) (hroom : cells + 60 ≤ 600002 ∧ slots + 1200 ≤ 7302232) (hI : Inv I L S n) (hR : R16 R) (hZ : Z 0 = fun j => nI (R j)) (a1 : Nat) (hl1 : 0 ≤ a1) (hu1 : a1 < 15) (e1 : xs (6 * k + 1) = nI a1) (a2 : Nat) (hl2 : 0 ≤ a2) (hu2 : a2 < 16) (e2 : xs (6 * k + 2) = nI a2) (kk : LK p l e s m below meth c Q D A b adC adM g ao k cells slots 2256) : GL p l e room_1 s m #[.ref b] below meth c Q D CL (TYS g) A 9 (WL adC adM g ao I L S Z Y on ov) cells slots 2119 [(0, .ref b), (1, .ref (adC 0)), (2, .ref (adM 0)), (3, .ref ao), (4, .int (nI (6 * k)))] [] := by
  obtain ⟨X, hSB, hAf, hNC, hfl, hX, hbl, hbA, hN⟩ := HX
  refine g_run X KL_law_2119_310 KL_law_2119_310_d 2125 [(0, .ref b), (1, .ref (adC 0)), (2, .ref (adM 0)), (3, .ref ao), (4, .int (nI (6 * k)))] [.int ((nI (6 * k)) + (nI 1)), .ref b, .ref (adC 0)] rfl ?_
  refine g_nm (lv' := [(0, .ref b), (1, .ref (adC 0)), (2, .ref (adM 0)), (3, .ref ao), (4, .int (nI (6 * k)))]) (st' := [.int (nI ((6 * k) + 1)), .ref b, .ref (adC 0)]) (by simp only [nI_add]) (by simp only [nI_add]) ?_
  refine g_sld X hX hbl hbA hN (v := nI a1) (by omega) e1 dL_law_2125 ?_
  refine g_run X KL_law_2126_311 KL_law_2126_311_d 2131 [(0, .ref b), (1, .ref (adC 0)), (2, .ref (adM 0)), (3, .ref ao), (4, .int (nI (6 * k)))] [.int ((nI (6 * k)) + (nI 2)), .ref b, .int (nI a1), .ref (adC 0)] rfl ?_
  refine g_nm (lv' := [(0, .ref b), (1, .ref (adC 0)), (2, .ref (adM 0)), (3, .ref ao), (4, .int (nI (6 * k)))]) (st' := [.int (nI ((6 * k) + 2)), .ref b, .int (nI a1), .ref (adC 0)]) (by simp only [nI_add]) (by simp only [nI_add]) ?_
  refine g_sld X hX hbl hbA hN (v := nI a2) (by omega) e2 dL_law_2131 ?_
  refine g_run X KL_law_2132_312 KL_law_2132_312_d 2133 [(0, .ref b), (1, .ref (adC 0)), (2, .ref (adM 0)), (3, .ref ao), (4, .int (nI (6 * k)))] [.ref ao, .int (nI a2), .int (nI a1), .ref (adC 0)] rfl ?_
  refine g_callSW X hSB hAf hNC (As := [.ref (adC 0), .int (nI a1), .int (nI a2), .ref ao]) (wr := WM adM g I L S Z Y) (n := 4) (hc_wouldLose l D g adC I L S a1 a2 ao on ov (hI.s18) (by first | assumption | omega) (by first | assumption | omega)) rfl w_1047 w_1045 w_1046 w_0 (by decide +kernel) rfl ⟨Nat.le_of_ble_eq_true rfl, Nat.le_of_ble_eq_true rfl⟩ rfl rfl rfl (Nat.le_of_ble_eq_true rfl) ⟨by show cells + 0 ≤ 600002; omega, by show slots + 0 ≤ 7302232; omega⟩ dL_law_2133 (fun hu1 _ => ?_)
  refine g_af (ws' := (WC adC g I L S ++ ([OUT ao ((nI (wlV I L S a1 a2 16)).toInt64) ov] : va_W)) ++ WM adM g I L S Z Y) (st' := [.int (nI 0)]) (cells' := cells + 0) (slots' := slots + 0) (pc' := 2136) rfl rfl rfl rfl rfl ?_
  refine g_run X KL_law_2136_313 KL_law_2136_313_d 2144 [(5, .int (nI 0)), (0, .ref b), (1, .ref (adC 0)), (2, .ref (adM 0)), (3, .ref ao), (4, .int (nI (6 * k)))] [.int ((nI (6 * k)) + (nI 1)), .ref b, .ref (adM 0)] rfl ?_
  refine g_nm (lv' := [(5, .int (nI 0)), (0, .ref b), (1, .ref (adC 0)), (2, .ref (adM 0)), (3, .ref ao), (4, .int (nI (6 * k)))]) (st' := [.int (nI ((6 * k) + 1)), .ref b, .ref (adM 0)]) (by simp only [nI_add]) (by simp only [nI_add]) ?_
  refine g_sld X hX hbl hbA hN (v := nI a1) (by omega) e1 dL_law_2144 ?_
  refine g_run X KL_law_2145_314 KL_law_2145_314_d 2150 [(5, .int (nI 0)), (0, .ref b), (1, .ref (adC 0)), (2, .ref (adM 0)), (3, .ref ao), (4, .int (nI (6 * k)))] [.int ((nI (6 * k)) + (nI 2)), .ref b, .int (nI a1), .ref (adM 0)] rfl ?_
  refine g_nm (lv' := [(5, .int (nI 0)), (0, .ref b), (1, .ref (adC 0)), (2, .ref (adM 0)), (3, .ref ao), (4, .int (nI (6 * k)))]) (st' := [.int (nI ((6 * k) + 2)), .ref b, .int (nI a1), .ref (adM 0)]) (by simp only [nI_add]) (by simp only [nI_add]) ?_
  refine g_sld X hX hbl hbA hN (v := nI a2) (by omega) e2 dL_law_2150 ?_
  refine g_perm (ws' := WM adM g I L S Z Y ++ (WC adC g I L S ++ ([OUT ao ((nI (wlV I L S a1 a2 16)).toInt64) ov] : va_W))) (List.perm_append_comm (l₁ := WM adM g I L S Z Y) (l₂ := (WC adC g I L S ++ ([OUT ao ((nI (wlV I L S a1 a2 16)).toInt64) ov] : va_W)))) ?_
  refine g_callV X hSB hAf srcW (hrc1 := (rfl : CL[8]? = some _)) (wm_mem (k := 0) (by decide)) rfl (As := [.int (nI a1), .int (nI a2)]) (wr := WC adC g I L S ++ ([OUT ao ((nI (wlV I L S a1 a2 16)).toInt64) ov] : va_W)) (n := 2) (c_X9_wouldLose l D g adM I L S Z Y a1 a2 R (hR) (hZ) (hI.s18) (hI.ky) (by first | assumption | omega) (by first | assumption | omega)) rfl srcN hrdN w_1529 w_1526 w_1527 w_1528 w_6 (by decide +kernel) rfl ⟨Nat.le_of_ble_eq_true rfl, Nat.le_of_ble_eq_true rfl⟩ rfl rfl rfl (Nat.le_of_ble_eq_true rfl) ⟨by show cells + 0 + 16 ≤ 600002; omega, by show slots + 0 + 240 ≤ 7302232; omega⟩ dL_law_2151 (fun hu2 hp_hu2 => ?_)
  refine g_af (ws' := WM adM g I L S (z4 (u2 Z 3 0 (nI 0)) hu2.1 hu2.2.1 hu2.2.2) Y ++ (WC adC g I L S ++ ([OUT ao ((nI (wlV I L S a1 a2 16)).toInt64) ov] : va_W))) (st' := [.int (nI (wlV I L S a1 a2 16))]) (cells' := cells + 0 + 16) (slots' := slots + 0 + 240) (pc' := 2154) rfl rfl rfl rfl rfl ?_
  refine g_run X KL_law_2154_315 KL_law_2154_315_d 2157 [(6, .int (nI (wlV I L S a1 a2 16))), (5, .int (nI 0)), (0, .ref b), (1, .ref (adC 0)), (2, .ref (adM 0)), (3, .ref ao), (4, .int (nI (6 * k)))] [.ref (adM 0)] rfl ?_
  refine g_callV X hSB hAf srcW (hrc1 := (rfl : CL[8]? = some _)) (wm_mem (k := 0) (by decide)) rfl (As := []) (wr := WC adC g I L S ++ ([OUT ao ((nI (wlV I L S a1 a2 16)).toInt64) ov] : va_W)) (n := 0) (c_X9_thrown l D g adM I L S (z4 (u2 Z 3 0 (nI 0)) hu2.1 hu2.2.1 hu2.2.2) Y ) rfl srcN hrdN w_1250 w_1247 w_1248 w_1249 w_6 (by decide +kernel) rfl ⟨Nat.le_of_ble_eq_true rfl, Nat.le_of_ble_eq_true rfl⟩ rfl rfl rfl (Nat.le_of_ble_eq_true rfl) ⟨by show cells + 0 + 16 + 0 ≤ 600002; omega, by show slots + 0 + 240 + 0 ≤ 7302232; omega⟩ dL_law_2157 (fun hu3 hp_hu3 => ?_)
  refine g_af (ws' := WM adM g I L S (z4 (u2 Z 3 0 (nI 0)) hu2.1 hu2.2.1 hu2.2.2) Y ++ (WC adC g I L S ++ ([OUT ao ((nI (wlV I L S a1 a2 16)).toInt64) ov] : va_W))) (st' := [.int ((z4 (u2 Z 3 0 (nI 0)) hu2.1 hu2.2.1 hu2.2.2) 3 0)]) (cells' := cells + 0 + 16 + 0) (slots' := slots + 0 + 240 + 0) (pc' := 2160) rfl rfl rfl rfl rfl ?_
  refine g_st (st' := [.int (nI 0)]) (by first | rfl | (simp [z4, u2]; done)) ?_
  refine g_run X KL_law_2160_316 KL_law_2160_316_d 2162 [(6, .int (nI (wlV I L S a1 a2 16))), (5, .int (nI 0)), (0, .ref b), (1, .ref (adC 0)), (2, .ref (adM 0)), (3, .ref ao), (4, .int (nI (6 * k)))] [.int (nI 0), .int (nI 0)] rfl ?_
  refine g_icmp_eq X 2167 dL_law_2162 (by decide) (fun hc4 => ?_) (fun hc4 => ?_)
  · refine g_run X KL_law_2167_317 KL_law_2167_317_d 2169 [(6, .int (nI (wlV I L S a1 a2 16))), (5, .int (nI 0)), (0, .ref b), (1, .ref (adC 0)), (2, .ref (adM 0)), (3, .ref ao), (4, .int (nI (6 * k)))] [.int (nI 0)] rfl ?_
    refine g_if_ne X 2185 dL_law_2169 (by decide) (fun hc5 => ?_) (fun hc5 => ?_)
    · rw [nz_eq (by omega)] at hc5; first | omega | (simp at hc5)
    · refine g_run X KL_law_2172_318 KL_law_2172_318_d 2173 [(6, .int (nI (wlV I L S a1 a2 16))), (5, .int (nI 0)), (0, .ref b), (1, .ref (adC 0)), (2, .ref (adM 0)), (3, .ref ao), (4, .int (nI (6 * k)))] [.ref ao] rfl ?_
      refine g_getN X srcW (host := "ChipfieldLaw") (v := .long ((nI (wlV I L S a1 a2 16)).toInt64)) hinX6 rfl 0 (by decide) (nw_in n_489 rfl) rfl (List.mem_append_right _ (List.mem_append_right _ List.mem_cons_self)) rfl dL_law_2173 ?_
      refine g_run X KL_law_2176_319 KL_law_2176_319_d 2180 [(6, .int (nI (wlV I L S a1 a2 16))), (5, .int (nI 0)), (0, .ref b), (1, .ref (adC 0)), (2, .ref (adM 0)), (3, .ref ao), (4, .int (nI (6 * k)))] [.int (lg_cmp ((nI (wlV I L S a1 a2 16)).toInt64) ((nI (wlV I L S a1 a2 16)).toInt64))] rfl ?_
      refine g_if_eq X 2185 dL_law_2180 (by decide) (fun hc6 => ?_) (fun hc6 => ?_)
      · refine g_run X KL_law_2185_320 KL_law_2185_320_d 2256 [(6, .int (nI (wlV I L S a1 a2 16))), (5, .int (nI 0)), (0, .ref b), (1, .ref (adC 0)), (2, .ref (adM 0)), (3, .ref ao), (4, .int (nI (6 * k)))] [] rfl ?_
        refine g_lv (lv' := [(0, .ref b), (1, .ref (adC 0)), (2, .ref (adM 0)), (3, .ref ao), (4, .int (nI (6 * k)))]) (lsub_c 2 rfl (lsub_c 3 rfl (lsub_c 4 rfl (lsub_c 5 rfl (lsub_c 6 rfl (lsub_n)))))) ?_
        refine g_perm (ws' := (WC adC g I L S ++ ([OUT ao ((nI (wlV I L S a1 a2 16)).toInt64) ov] : va_W)) ++ WM adM g I L S (z4 (u2 Z 3 0 (nI 0)) hu2.1 hu2.2.1 hu2.2.2) Y) (List.perm_append_comm (l₁ := (WC adC g I L S ++ ([OUT ao ((nI (wlV I L S a1 a2 16)).toInt64) ov] : va_W))) (l₂ := WM adM g I L S (z4 (u2 Z 3 0 (nI 0)) hu2.1 hu2.2.1 hu2.2.2) Y)) ?_
        refine g_widen (k := cells + 60) (n := slots + 1200) (by omega) (by omega) ?_
        exact kk I L S n (z4 (u2 Z 3 0 (nI 0)) hu2.1 hu2.2.1 hu2.2.2) Y hu2.1 ((nI (wlV I L S a1 a2 16)).toInt64) ov (hI) (hp_hu2) (rfl)
      · exact absurd lg_self hc6
  · rw [nI_eq (by omega) (by omega)] at hc4; first | omega | (simp at hc4)

set_option maxHeartbeats 4000000 in
set_option maxRecDepth 100000 in
theorem lq29_2 {p : Program} {l : Launch} {e : Env} {s : State} {m : MethodId} {below : List Frame} {meth : Method} {c : Code} {Q : State → Prop} {D : va_G} {A : Nat → Prop} {b N : Nat} {xs : Nat → Int32} {adC adM : Nat → Nat} {g : Nat → ClassId} {ao k cells slots : Nat} {I : Nat → Nat → Int32} {L : Nat → Nat → Int64} {S : Nat → Nat} {n : Nat} {Z : Nat → Nat → Int32} {Y : Int64} {R : Nat → Nat} {on : Int64} {ov : Value} (HX : LX p l s m meth c A b N xs) (hk : 6 * k + 6 ≤ N) (hroom : cells + 60 ≤ 600002 ∧ slots + 1200 ≤ 7302232) (hI : Inv I L S n) (hR : R16 R) (hZ : Z 0 = fun j => nI (R j)) (a1 : Nat) (hl1 : 0 ≤ a1) (hu1 : a1 < 15) (e1 : xs (6 * k + 1) = nI a1) (hw : (xs (6 * k + 2)).toInt < (0 : Nat) ∨ ((16 : Nat) : Int) ≤ (xs (6 * k + 2)).toInt) (kk : LK p l e s m below meth c Q D A b adC adM g ao k cells slots 2256) : GL p l e room_1 s m #[.ref b] below meth c Q D CL (TYS g) A 9 (WL adC adM g ao I L S Z Y on ov) cells slots 2119 [(0, .ref b), (1, .ref (adC 0)), (2, .ref (adM 0)), (3, .ref ao), (4, .int (nI (6 * k)))] [] := by
  obtain ⟨X, hSB, hAf, hNC, hfl, hX, hbl, hbA, hN⟩ := HX
  refine g_run X KL_law_2119_310 KL_law_2119_310_d 2125 [(0, .ref b), (1, .ref (adC 0)), (2, .ref (adM 0)), (3, .ref ao), (4, .int (nI (6 * k)))] [.int ((nI (6 * k)) + (nI 1)), .ref b, .ref (adC 0)] rfl ?_
  refine g_nm (lv' := [(0, .ref b), (1, .ref (adC 0)), (2, .ref (adM 0)), (3, .ref ao), (4, .int (nI (6 * k)))]) (st' := [.int (nI ((6 * k) + 1)), .ref b, .ref (adC 0)]) (by simp only [nI_add]) (by simp only [nI_add]) ?_
  refine g_sld X hX hbl hbA hN (v := nI a1) (by omega) e1 dL_law_2125 ?_
  refine g_run X KL_law_2126_311 KL_law_2126_311_d 2131 [(0, .ref b), (1, .ref (adC 0)), (2, .ref (adM 0)), (3, .ref ao), (4, .int (nI (6 * k)))] [.int ((nI (6 * k)) + (nI 2)), .ref b, .int (nI a1), .ref (adC 0)] rfl ?_
  refine g_nm (lv' := [(0, .ref b), (1, .ref (adC 0)), (2, .ref (adM 0)), (3, .ref ao), (4, .int (nI (6 * k)))]) (st' := [.int (nI ((6 * k) + 2)), .ref b, .int (nI a1), .ref (adC 0)]) (by simp only [nI_add]) (by simp only [nI_add]) ?_
  refine g_sld X hX hbl hbA hN (v := xs (6 * k + 2)) (by omega) rfl dL_law_2131 ?_
  refine g_run X KL_law_2132_312 KL_law_2132_312_d 2133 [(0, .ref b), (1, .ref (adC 0)), (2, .ref (adM 0)), (3, .ref ao), (4, .int (nI (6 * k)))] [.ref ao, .int (xs (6 * k + 2)), .int (nI a1), .ref (adC 0)] rfl ?_
  refine g_callSW X hSB hAf hNC (As := [.ref (adC 0), .int (nI a1), .int (xs (6 * k + 2)), .ref ao]) (wr := WM adM g I L S Z Y) (n := 4) (hx_wouldLose_2 l hfl D g adC I L S a1 (xs (6 * k + 2)) ao on ov (by first | assumption | omega) (out_le (by decide) hw)) rfl w_1047 w_1045 w_1046 w_0 (by decide +kernel) rfl ⟨Nat.le_of_ble_eq_true rfl, Nat.le_of_ble_eq_true rfl⟩ rfl rfl rfl (Nat.le_of_ble_eq_true rfl) ⟨by show cells + 1 ≤ 600002; omega, by show slots + 6 ≤ 7302232; omega⟩ dL_law_2133 (fun hu1 _ => ?_)
  refine g_af (ws' := (WC adC g I L S ++ ([OUT ao on ov] : va_W)) ++ WM adM g I L S Z Y) (st' := [.int (nI 2)]) (cells' := cells + 1) (slots' := slots + 6) (pc' := 2136) rfl rfl rfl rfl rfl ?_
  refine g_run X KL_law_2136_313 KL_law_2136_313_d 2144 [(5, .int (nI 2)), (0, .ref b), (1, .ref (adC 0)), (2, .ref (adM 0)), (3, .ref ao), (4, .int (nI (6 * k)))] [.int ((nI (6 * k)) + (nI 1)), .ref b, .ref (adM 0)] rfl ?_
  refine g_nm (lv' := [(5, .int (nI 2)), (0, .ref b), (1, .ref (adC 0)), (2, .ref (adM 0)), (3, .ref ao), (4, .int (nI (6 * k)))]) (st' := [.int (nI ((6 * k) + 1)), .ref b, .ref (adM 0)]) (by simp only [nI_add]) (by simp only [nI_add]) ?_
  refine g_sld X hX hbl hbA hN (v := nI a1) (by omega) e1 dL_law_2144 ?_
  refine g_run X KL_law_2145_314 KL_law_2145_314_d 2150 [(5, .int (nI 2)), (0, .ref b), (1, .ref (adC 0)), (2, .ref (adM 0)), (3, .ref ao), (4, .int (nI (6 * k)))] [.int ((nI (6 * k)) + (nI 2)), .ref b, .int (nI a1), .ref (adM 0)] rfl ?_
  refine g_nm (lv' := [(5, .int (nI 2)), (0, .ref b), (1, .ref (adC 0)), (2, .ref (adM 0)), (3, .ref ao), (4, .int (nI (6 * k)))]) (st' := [.int (nI ((6 * k) + 2)), .ref b, .int (nI a1), .ref (adM 0)]) (by simp only [nI_add]) (by simp only [nI_add]) ?_
  refine g_sld X hX hbl hbA hN (v := xs (6 * k + 2)) (by omega) rfl dL_law_2150 ?_
  refine g_perm (ws' := WM adM g I L S Z Y ++ (WC adC g I L S ++ ([OUT ao on ov] : va_W))) (List.perm_append_comm (l₁ := WM adM g I L S Z Y) (l₂ := (WC adC g I L S ++ ([OUT ao on ov] : va_W)))) ?_
  refine g_callV X hSB hAf srcW (hrc1 := (rfl : CL[8]? = some _)) (wm_mem (k := 0) (by decide)) rfl (As := [.int (nI a1), .int (xs (6 * k + 2))]) (wr := WC adC g I L S ++ ([OUT ao on ov] : va_W)) (n := 2) (c_X9_wouldLose_2 l D g adM I L S Z Y a1 (xs (6 * k + 2)) (by first | assumption | omega) (out_lo (by decide) (by decide) hw)) rfl srcN hrdN w_1529 w_1526 w_1527 w_1528 w_6 (by decide +kernel) rfl ⟨Nat.le_of_ble_eq_true rfl, Nat.le_of_ble_eq_true rfl⟩ rfl rfl rfl (Nat.le_of_ble_eq_true rfl) ⟨by show cells + 1 + 0 ≤ 600002; omega, by show slots + 6 + 0 ≤ 7302232; omega⟩ dL_law_2151 (fun hu2 hp_hu2 => ?_)
  refine g_af (ws' := WM adM g I L S (u2 (u2 Z 3 0 (nI 0)) 3 0 (nI 2)) Y ++ (WC adC g I L S ++ ([OUT ao on ov] : va_W))) (st' := [.int (nI 0)]) (cells' := cells + 1 + 0) (slots' := slots + 6 + 0) (pc' := 2154) rfl rfl rfl rfl rfl ?_
  refine g_run X KL_law_2154_315 KL_law_2154_315_d 2157 [(6, .int (nI 0)), (5, .int (nI 2)), (0, .ref b), (1, .ref (adC 0)), (2, .ref (adM 0)), (3, .ref ao), (4, .int (nI (6 * k)))] [.ref (adM 0)] rfl ?_
  refine g_callV X hSB hAf srcW (hrc1 := (rfl : CL[8]? = some _)) (wm_mem (k := 0) (by decide)) rfl (As := []) (wr := WC adC g I L S ++ ([OUT ao on ov] : va_W)) (n := 0) (c_X9_thrown l D g adM I L S (u2 (u2 Z 3 0 (nI 0)) 3 0 (nI 2)) Y ) rfl srcN hrdN w_1250 w_1247 w_1248 w_1249 w_6 (by decide +kernel) rfl ⟨Nat.le_of_ble_eq_true rfl, Nat.le_of_ble_eq_true rfl⟩ rfl rfl rfl (Nat.le_of_ble_eq_true rfl) ⟨by show cells + 1 + 0 + 0 ≤ 600002; omega, by show slots + 6 + 0 + 0 ≤ 7302232; omega⟩ dL_law_2157 (fun hu3 hp_hu3 => ?_)
  refine g_af (ws' := WM adM g I L S (u2 (u2 Z 3 0 (nI 0)) 3 0 (nI 2)) Y ++ (WC adC g I L S ++ ([OUT ao on ov] : va_W))) (st' := [.int ((u2 (u2 Z 3 0 (nI 0)) 3 0 (nI 2)) 3 0)]) (cells' := cells + 1 + 0 + 0) (slots' := slots + 6 + 0 + 0) (pc' := 2160) rfl rfl rfl rfl rfl ?_
  refine g_st (st' := [.int (nI 2)]) (by first | rfl | (simp [z4, u2]; done)) ?_
  refine g_run X KL_law_2160_316 KL_law_2160_316_d 2162 [(6, .int (nI 0)), (5, .int (nI 2)), (0, .ref b), (1, .ref (adC 0)), (2, .ref (adM 0)), (3, .ref ao), (4, .int (nI (6 * k)))] [.int (nI 2), .int (nI 2)] rfl ?_
  refine g_icmp_eq X 2167 dL_law_2162 (by decide) (fun hc4 => ?_) (fun hc4 => ?_)
  · refine g_run X KL_law_2167_317 KL_law_2167_317_d 2169 [(6, .int (nI 0)), (5, .int (nI 2)), (0, .ref b), (1, .ref (adC 0)), (2, .ref (adM 0)), (3, .ref ao), (4, .int (nI (6 * k)))] [.int (nI 2)] rfl ?_
    refine g_if_ne X 2185 dL_law_2169 (by decide) (fun hc5 => ?_) (fun hc5 => ?_)
    · refine g_run X KL_law_2185_320 KL_law_2185_320_d 2256 [(6, .int (nI 0)), (5, .int (nI 2)), (0, .ref b), (1, .ref (adC 0)), (2, .ref (adM 0)), (3, .ref ao), (4, .int (nI (6 * k)))] [] rfl ?_
      refine g_lv (lv' := [(0, .ref b), (1, .ref (adC 0)), (2, .ref (adM 0)), (3, .ref ao), (4, .int (nI (6 * k)))]) (lsub_c 2 rfl (lsub_c 3 rfl (lsub_c 4 rfl (lsub_c 5 rfl (lsub_c 6 rfl (lsub_n)))))) ?_
      refine g_perm (ws' := (WC adC g I L S ++ ([OUT ao on ov] : va_W)) ++ WM adM g I L S (u2 (u2 Z 3 0 (nI 0)) 3 0 (nI 2)) Y) (List.perm_append_comm (l₁ := (WC adC g I L S ++ ([OUT ao on ov] : va_W))) (l₂ := WM adM g I L S (u2 (u2 Z 3 0 (nI 0)) 3 0 (nI 2)) Y)) ?_
      refine g_widen (k := cells + 60) (n := slots + 1200) (by omega) (by omega) ?_
      exact kk I L S n (u2 (u2 Z 3 0 (nI 0)) 3 0 (nI 2)) Y R on ov (hI) (hR) (by first | exact hZ | (rw [zrow]; exact hZ) | (rw [zrow, zrow]; exact hZ))
    · rw [nz_eq (by omega)] at hc5; first | omega | (simp at hc5)
  · rw [nI_eq (by omega) (by omega)] at hc4; first | omega | (simp at hc4)

set_option maxHeartbeats 4000000 in
set_option maxRecDepth 100000 in
theorem lq29_1 {p : Program} {l : Launch} {e : Env} {s : State} {m : MethodId} {below : List Frame} {meth : Method} {c : Code} {Q : State → Prop} {D : va_G} {A : Nat → Prop} {b N : Nat} {xs : Nat → Int32} {adC adM : Nat → Nat} {g : Nat → ClassId} {ao k cells slots : Nat} {I : Nat → Nat → Int32} {L : Nat → Nat → Int64} {S : Nat → Nat} {n : Nat} {Z : Nat → Nat → Int32} {Y : Int64} {R : Nat → Nat} {on : Int64} {ov : Value} (HX : LX p l s m meth c A b N xs) (hk : 6 * k + 6 ≤ N) (hroom : cells + 60 ≤ 600002 ∧ slots + 1200 ≤ 7302232) (hI : Inv I L S n) (hR : R16 R) (hZ : Z 0 = fun j => nI (R j)) (hw : (xs (6 * k + 1)).toInt < (0 : Nat) ∨ ((15 : Nat) : Int) ≤ (xs (6 * k + 1)).toInt) (kk : LK p l e s m below meth c Q D A b adC adM g ao k cells slots 2256) : GL p l e room_1 s m #[.ref b] below meth c Q D CL (TYS g) A 9 (WL adC adM g ao I L S Z Y on ov) cells slots 2119 [(0, .ref b), (1, .ref (adC 0)), (2, .ref (adM 0)), (3, .ref ao), (4, .int (nI (6 * k)))] [] := by
  obtain ⟨X, hSB, hAf, hNC, hfl, hX, hbl, hbA, hN⟩ := HX
  refine g_run X KL_law_2119_310 KL_law_2119_310_d 2125 [(0, .ref b), (1, .ref (adC 0)), (2, .ref (adM 0)), (3, .ref ao), (4, .int (nI (6 * k)))] [.int ((nI (6 * k)) + (nI 1)), .ref b, .ref (adC 0)] rfl ?_
  refine g_nm (lv' := [(0, .ref b), (1, .ref (adC 0)), (2, .ref (adM 0)), (3, .ref ao), (4, .int (nI (6 * k)))]) (st' := [.int (nI ((6 * k) + 1)), .ref b, .ref (adC 0)]) (by simp only [nI_add]) (by simp only [nI_add]) ?_
  refine g_sld X hX hbl hbA hN (v := xs (6 * k + 1)) (by omega) rfl dL_law_2125 ?_
  refine g_run X KL_law_2126_311 KL_law_2126_311_d 2131 [(0, .ref b), (1, .ref (adC 0)), (2, .ref (adM 0)), (3, .ref ao), (4, .int (nI (6 * k)))] [.int ((nI (6 * k)) + (nI 2)), .ref b, .int (xs (6 * k + 1)), .ref (adC 0)] rfl ?_
  refine g_nm (lv' := [(0, .ref b), (1, .ref (adC 0)), (2, .ref (adM 0)), (3, .ref ao), (4, .int (nI (6 * k)))]) (st' := [.int (nI ((6 * k) + 2)), .ref b, .int (xs (6 * k + 1)), .ref (adC 0)]) (by simp only [nI_add]) (by simp only [nI_add]) ?_
  refine g_sld X hX hbl hbA hN (v := xs (6 * k + 2)) (by omega) rfl dL_law_2131 ?_
  refine g_run X KL_law_2132_312 KL_law_2132_312_d 2133 [(0, .ref b), (1, .ref (adC 0)), (2, .ref (adM 0)), (3, .ref ao), (4, .int (nI (6 * k)))] [.ref ao, .int (xs (6 * k + 2)), .int (xs (6 * k + 1)), .ref (adC 0)] rfl ?_
  refine g_callSW X hSB hAf hNC (As := [.ref (adC 0), .int (xs (6 * k + 1)), .int (xs (6 * k + 2)), .ref ao]) (wr := WM adM g I L S Z Y) (n := 4) (hx_wouldLose_1 l hfl D g adC I L S (xs (6 * k + 1)) (xs (6 * k + 2)) ao on ov (out_lt (by decide) hw)) rfl w_1047 w_1045 w_1046 w_0 (by decide +kernel) rfl ⟨Nat.le_of_ble_eq_true rfl, Nat.le_of_ble_eq_true rfl⟩ rfl rfl rfl (Nat.le_of_ble_eq_true rfl) ⟨by show cells + 1 ≤ 600002; omega, by show slots + 6 ≤ 7302232; omega⟩ dL_law_2133 (fun hu1 _ => ?_)
  refine g_af (ws' := (WC adC g I L S ++ ([OUT ao on ov] : va_W)) ++ WM adM g I L S Z Y) (st' := [.int (nI 1)]) (cells' := cells + 1) (slots' := slots + 6) (pc' := 2136) rfl rfl rfl rfl rfl ?_
  refine g_run X KL_law_2136_313 KL_law_2136_313_d 2144 [(5, .int (nI 1)), (0, .ref b), (1, .ref (adC 0)), (2, .ref (adM 0)), (3, .ref ao), (4, .int (nI (6 * k)))] [.int ((nI (6 * k)) + (nI 1)), .ref b, .ref (adM 0)] rfl ?_
  refine g_nm (lv' := [(5, .int (nI 1)), (0, .ref b), (1, .ref (adC 0)), (2, .ref (adM 0)), (3, .ref ao), (4, .int (nI (6 * k)))]) (st' := [.int (nI ((6 * k) + 1)), .ref b, .ref (adM 0)]) (by simp only [nI_add]) (by simp only [nI_add]) ?_
  refine g_sld X hX hbl hbA hN (v := xs (6 * k + 1)) (by omega) rfl dL_law_2144 ?_
  refine g_run X KL_law_2145_314 KL_law_2145_314_d 2150 [(5, .int (nI 1)), (0, .ref b), (1, .ref (adC 0)), (2, .ref (adM 0)), (3, .ref ao), (4, .int (nI (6 * k)))] [.int ((nI (6 * k)) + (nI 2)), .ref b, .int (xs (6 * k + 1)), .ref (adM 0)] rfl ?_
  refine g_nm (lv' := [(5, .int (nI 1)), (0, .ref b), (1, .ref (adC 0)), (2, .ref (adM 0)), (3, .ref ao), (4, .int (nI (6 * k)))]) (st' := [.int (nI ((6 * k) + 2)), .ref b, .int (xs (6 * k + 1)), .ref (adM 0)]) (by simp only [nI_add]) (by simp only [nI_add]) ?_
  refine g_sld X hX hbl hbA hN (v := xs (6 * k + 2)) (by omega) rfl dL_law_2150 ?_
  refine g_perm (ws' := WM adM g I L S Z Y ++ (WC adC g I L S ++ ([OUT ao on ov] : va_W))) (List.perm_append_comm (l₁ := WM adM g I L S Z Y) (l₂ := (WC adC g I L S ++ ([OUT ao on ov] : va_W)))) ?_
  refine g_callV X hSB hAf srcW (hrc1 := (rfl : CL[8]? = some _)) (wm_mem (k := 0) (by decide)) rfl (As := [.int (xs (6 * k + 1)), .int (xs (6 * k + 2))]) (wr := WC adC g I L S ++ ([OUT ao on ov] : va_W)) (n := 2) (c_X9_wouldLose_1 l D g adM I L S Z Y (xs (6 * k + 1)) (xs (6 * k + 2)) (out_le (by decide) hw)) rfl srcN hrdN w_1529 w_1526 w_1527 w_1528 w_6 (by decide +kernel) rfl ⟨Nat.le_of_ble_eq_true rfl, Nat.le_of_ble_eq_true rfl⟩ rfl rfl rfl (Nat.le_of_ble_eq_true rfl) ⟨by show cells + 1 + 0 ≤ 600002; omega, by show slots + 6 + 0 ≤ 7302232; omega⟩ dL_law_2151 (fun hu2 hp_hu2 => ?_)
  refine g_af (ws' := WM adM g I L S (u2 (u2 Z 3 0 (nI 0)) 3 0 (nI 1)) Y ++ (WC adC g I L S ++ ([OUT ao on ov] : va_W))) (st' := [.int (nI 0)]) (cells' := cells + 1 + 0) (slots' := slots + 6 + 0) (pc' := 2154) rfl rfl rfl rfl rfl ?_
  refine g_run X KL_law_2154_315 KL_law_2154_315_d 2157 [(6, .int (nI 0)), (5, .int (nI 1)), (0, .ref b), (1, .ref (adC 0)), (2, .ref (adM 0)), (3, .ref ao), (4, .int (nI (6 * k)))] [.ref (adM 0)] rfl ?_
  refine g_callV X hSB hAf srcW (hrc1 := (rfl : CL[8]? = some _)) (wm_mem (k := 0) (by decide)) rfl (As := []) (wr := WC adC g I L S ++ ([OUT ao on ov] : va_W)) (n := 0) (c_X9_thrown l D g adM I L S (u2 (u2 Z 3 0 (nI 0)) 3 0 (nI 1)) Y ) rfl srcN hrdN w_1250 w_1247 w_1248 w_1249 w_6 (by decide +kernel) rfl ⟨Nat.le_of_ble_eq_true rfl, Nat.le_of_ble_eq_true rfl⟩ rfl rfl rfl (Nat.le_of_ble_eq_true rfl) ⟨by show cells + 1 + 0 + 0 ≤ 600002; omega, by show slots + 6 + 0 + 0 ≤ 7302232; omega⟩ dL_law_2157 (fun hu3 hp_hu3 => ?_)
  refine g_af (ws' := WM adM g I L S (u2 (u2 Z 3 0 (nI 0)) 3 0 (nI 1)) Y ++ (WC adC g I L S ++ ([OUT ao on ov] : va_W))) (st' := [.int ((u2 (u2 Z 3 0 (nI 0)) 3 0 (nI 1)) 3 0)]) (cells' := cells + 1 + 0 + 0) (slots' := slots + 6 + 0 + 0) (pc' := 2160) rfl rfl rfl rfl rfl ?_
  refine g_st (st' := [.int (nI 1)]) (by first | rfl | (simp [z4, u2]; done)) ?_
  refine g_run X KL_law_2160_316 KL_law_2160_316_d 2162 [(6, .int (nI 0)), (5, .int (nI 1)), (0, .ref b), (1, .ref (adC 0)), (2, .ref (adM 0)), (3, .ref ao), (4, .int (nI (6 * k)))] [.int (nI 1), .int (nI 1)] rfl ?_
  refine g_icmp_eq X 2167 dL_law_2162 (by decide) (fun hc4 => ?_) (fun hc4 => ?_)
  · refine g_run X KL_law_2167_317 KL_law_2167_317_d 2169 [(6, .int (nI 0)), (5, .int (nI 1)), (0, .ref b), (1, .ref (adC 0)), (2, .ref (adM 0)), (3, .ref ao), (4, .int (nI (6 * k)))] [.int (nI 1)] rfl ?_
    refine g_if_ne X 2185 dL_law_2169 (by decide) (fun hc5 => ?_) (fun hc5 => ?_)
    · refine g_run X KL_law_2185_320 KL_law_2185_320_d 2256 [(6, .int (nI 0)), (5, .int (nI 1)), (0, .ref b), (1, .ref (adC 0)), (2, .ref (adM 0)), (3, .ref ao), (4, .int (nI (6 * k)))] [] rfl ?_
      refine g_lv (lv' := [(0, .ref b), (1, .ref (adC 0)), (2, .ref (adM 0)), (3, .ref ao), (4, .int (nI (6 * k)))]) (lsub_c 2 rfl (lsub_c 3 rfl (lsub_c 4 rfl (lsub_c 5 rfl (lsub_c 6 rfl (lsub_n)))))) ?_
      refine g_perm (ws' := (WC adC g I L S ++ ([OUT ao on ov] : va_W)) ++ WM adM g I L S (u2 (u2 Z 3 0 (nI 0)) 3 0 (nI 1)) Y) (List.perm_append_comm (l₁ := (WC adC g I L S ++ ([OUT ao on ov] : va_W))) (l₂ := WM adM g I L S (u2 (u2 Z 3 0 (nI 0)) 3 0 (nI 1)) Y)) ?_
      refine g_widen (k := cells + 60) (n := slots + 1200) (by omega) (by omega) ?_
      exact kk I L S n (u2 (u2 Z 3 0 (nI 0)) 3 0 (nI 1)) Y R on ov (hI) (hR) (by first | exact hZ | (rw [zrow]; exact hZ) | (rw [zrow, zrow]; exact hZ))
    · rw [nz_eq (by omega)] at hc5; first | omega | (simp at hc5)
  · rw [nI_eq (by omega) (by omega)] at hc4; first | omega | (simp at hc4)

theorem lq29 {p : Program} {l : Launch} {e : Env} {s : State} {m : MethodId} {below : List Frame} {meth : Method} {c : Code} {Q : State → Prop} {D : va_G} {A : Nat → Prop} {b N : Nat} {xs : Nat → Int32} {adC adM : Nat → Nat} {g : Nat → ClassId} {ao k cells slots : Nat} {I : Nat → Nat → Int32} {L : Nat → Nat → Int64} {S : Nat → Nat} {n : Nat} {Z : Nat → Nat → Int32} {Y : Int64} {R : Nat → Nat} {on : Int64} {ov : Value} (HX : LX p l s m meth c A b N xs) (hk : 6 * k + 6 ≤ N) (hroom : cells + 60 ≤ 600002 ∧ slots + 1200 ≤ 7302232) (hI : Inv I L S n) (hR : R16 R) (hZ : Z 0 = fun j => nI (R j)) (kk : LK p l e s m below meth c Q D A b adC adM g ao k cells slots 2256) : GL p l e room_1 s m #[.ref b] below meth c Q D CL (TYS g) A 9 (WL adC adM g ao I L S Z Y on ov) cells slots 2119 [(0, .ref b), (1, .ref (adC 0)), (2, .ref (adM 0)), (3, .ref ao), (4, .int (nI (6 * k)))] [] := by
  rcases rg (xs (6 * k + 1)) 0 15 with ⟨a1, hl1, hu1, e1⟩ | hw
  · rcases rg (xs (6 * k + 2)) 0 16 with ⟨a2, hl2, hu2, e2⟩ | hw
    · exact lq29_0 HX hk hroom hI hR hZ  a1 hl1 hu1 e1 a2 hl2 hu2 e2 kk
    · exact lq29_2 HX hk hroom hI hR hZ  a1 hl1 hu1 e1 hw kk
  · exact lq29_1 HX hk hroom hI hR hZ  hw kk

def KL_law_2188_321 : List (Nat × Instr × Nat) := [(2188, .aload_n 1, 1)]
theorem KL_law_2188_321_d : ∀ z ∈ KL_law_2188_321, decode cL_law z.1 = .ok z.2 := by decide +kernel
def KL_law_2192_322 : List (Nat × Instr × Nat) := [(2192, .dstore 5, 2), (2194, .aload_n 2, 1)]
theorem KL_law_2192_322_d : ∀ z ∈ KL_law_2192_322, decode cL_law z.1 = .ok z.2 := by decide +kernel
def KL_law_2198_323 : List (Nat × Instr × Nat) := [(2198, .dstore 7, 2), (2200, .dload 5, 2), (2202, .dload 7, 2)]
theorem KL_law_2198_323_d : ∀ z ∈ KL_law_2198_323, decode cL_law z.1 = .ok z.2 := by decide +kernel
def KL_law_2226_324 : List (Nat × Instr × Nat) := [(2226, .goto 30, 3)]
theorem KL_law_2226_324_d : ∀ z ∈ KL_law_2226_324, decode cL_law z.1 = .ok z.2 := by decide +kernel
def KL_law_2208_325 : List (Nat × Instr × Nat) := [(2208, .dload 5, 2), (2210, .dload 5, 2)]
theorem KL_law_2208_325_d : ∀ z ∈ KL_law_2208_325, decode cL_law z.1 = .ok z.2 := by decide +kernel
def KL_law_2216_326 : List (Nat × Instr × Nat) := [(2216, .dload 7, 2), (2218, .dload 7, 2)]
theorem KL_law_2216_326_d : ∀ z ∈ KL_law_2216_326, decode cL_law z.1 = .ok z.2 := by decide +kernel
set_option maxHeartbeats 4000000 in
set_option maxRecDepth 100000 in
theorem lq30_0 {p : Program} {l : Launch} {e : Env} {s : State} {m : MethodId} {below : List Frame} {meth : Method} {c : Code} {Q : State → Prop} {D : va_G} {A : Nat → Prop} {b N : Nat} {xs : Nat → Int32} {adC adM : Nat → Nat} {g : Nat → ClassId} {ao k cells slots : Nat} {I : Nat → Nat → Int32} {L : Nat → Nat → Int64} {S : Nat → Nat} {n : Nat} {Z : Nat → Nat → Int32} {Y : Int64} {R : Nat → Nat} {on : Int64} {ov : Value} (HX : LX p l s m meth c A b N xs) (hk : 6 * k + 6 ≤ N) (hroom : cells + 60 ≤ 600002 ∧ slots + 1200 ≤ 7302232) (hI : Inv I L S n) (hR : R16 R) (hZ : Z 0 = fun j => nI (R j))  (kk : LK p l e s m below meth c Q D A b adC adM g ao k cells slots 2256) : GL p l e room_1 s m #[.ref b] below meth c Q D CL (TYS g) A 9 (WL adC adM g ao I L S Z Y on ov) cells slots 2188 [(0, .ref b), (1, .ref (adC 0)), (2, .ref (adM 0)), (3, .ref ao), (4, .int (nI (6 * k)))] [] := by
  obtain ⟨X, hSB, hAf, hNC, hfl, hX, hbl, hbA, hN⟩ := HX
  refine g_run X KL_law_2188_321 KL_law_2188_321_d 2189 [(0, .ref b), (1, .ref (adC 0)), (2, .ref (adM 0)), (3, .ref ao), (4, .int (nI (6 * k)))] [.ref (adC 0)] rfl ?_
  refine g_callV X hSB hAf srcW (hrc1 := (rfl : CL[4]? = some _)) (List.mem_append_left _ (List.mem_append_left _ (wc_mem (k := 0) (by decide)))) rfl (As := []) (wr := (WC adC g I L S ++ ([OUT ao on ov] : va_W)) ++ WM adM g I L S Z Y) (n := 0) (c_X5_health l D g adC I L S (hI.s18)) rfl srcL2 hrdC w_232 w_229 w_230 w_231 w_1 (by decide +kernel) rfl ⟨Nat.le_of_ble_eq_true rfl, Nat.le_of_ble_eq_true rfl⟩ rfl rfl rfl (Nat.le_of_ble_eq_true rfl) ⟨by show cells + 0 ≤ 600002; omega, by show slots + 0 ≤ 7302232; omega⟩ dL_law_2189 (fun hu1 hp_hu1 => ?_)
  refine g_af (ws' := (WC adC g I L S ++ ([OUT ao on ov] : va_W)) ++ WM adM g I L S Z Y) (st' := [.double (hlV (bdl I L S 16))]) (cells' := cells + 0) (slots' := slots + 0) (pc' := 2192) rfl rfl rfl rfl rfl ?_
  refine g_run X KL_law_2192_322 KL_law_2192_322_d 2195 [(5, .double (hlV (bdl I L S 16))), (0, .ref b), (1, .ref (adC 0)), (2, .ref (adM 0)), (3, .ref ao), (4, .int (nI (6 * k)))] [.ref (adM 0)] rfl ?_
  refine g_perm (ws' := WM adM g I L S Z Y ++ (WC adC g I L S ++ ([OUT ao on ov] : va_W))) (List.perm_append_comm (l₁ := WM adM g I L S Z Y) (l₂ := (WC adC g I L S ++ ([OUT ao on ov] : va_W)))) ?_
  refine g_callV X hSB hAf srcW (hrc1 := (rfl : CL[8]? = some _)) (wm_mem (k := 0) (by decide)) rfl (As := []) (wr := WC adC g I L S ++ ([OUT ao on ov] : va_W)) (n := 0) (c_X9_health l D g adM I L S Z Y R (hR) (hZ) (hI.s18) (hI.ky)) rfl srcN hrdN w_1533 w_1530 w_1531 w_1532 w_6 (by decide +kernel) rfl ⟨Nat.le_of_ble_eq_true rfl, Nat.le_of_ble_eq_true rfl⟩ rfl rfl rfl (Nat.le_of_ble_eq_true rfl) ⟨by show cells + 0 + 16 ≤ 600002; omega, by show slots + 0 + 240 ≤ 7302232; omega⟩ dL_law_2195 (fun hu2 hp_hu2 => ?_)
  refine g_af (ws' := WM adM g I L S (z4 (u2 Z 3 0 (nI 0)) hu2.1 hu2.2.1 hu2.2.2) Y ++ (WC adC g I L S ++ ([OUT ao on ov] : va_W))) (st' := [.double (hlV (bdl I L S 16))]) (cells' := cells + 0 + 16) (slots' := slots + 0 + 240) (pc' := 2198) rfl rfl rfl rfl rfl ?_
  refine g_run X KL_law_2198_323 KL_law_2198_323_d 2204 [(7, .double (hlV (bdl I L S 16))), (5, .double (hlV (bdl I L S 16))), (0, .ref b), (1, .ref (adC 0)), (2, .ref (adM 0)), (3, .ref ao), (4, .int (nI (6 * k)))] [.double (hlV (bdl I L S 16)), .double (hlV (bdl I L S 16))] rfl ?_
  refine g_dcmp X dL_law_2204 ?_
  refine g_if_eq X 2226 dL_law_2205 (by decide) (fun hc3 => ?_) (fun hc3 => ?_)
  · refine g_run X KL_law_2226_324 KL_law_2226_324_d 2256 [(7, .double (hlV (bdl I L S 16))), (5, .double (hlV (bdl I L S 16))), (0, .ref b), (1, .ref (adC 0)), (2, .ref (adM 0)), (3, .ref ao), (4, .int (nI (6 * k)))] [] rfl ?_
    refine g_lv (lv' := [(0, .ref b), (1, .ref (adC 0)), (2, .ref (adM 0)), (3, .ref ao), (4, .int (nI (6 * k)))]) (lsub_c 2 rfl (lsub_c 3 rfl (lsub_c 4 rfl (lsub_c 5 rfl (lsub_c 6 rfl (lsub_n)))))) ?_
    refine g_perm (ws' := (WC adC g I L S ++ ([OUT ao on ov] : va_W)) ++ WM adM g I L S (z4 (u2 Z 3 0 (nI 0)) hu2.1 hu2.2.1 hu2.2.2) Y) (List.perm_append_comm (l₁ := (WC adC g I L S ++ ([OUT ao on ov] : va_W))) (l₂ := WM adM g I L S (z4 (u2 Z 3 0 (nI 0)) hu2.1 hu2.2.1 hu2.2.2) Y)) ?_
    refine g_widen (k := cells + 60) (n := slots + 1200) (by omega) (by omega) ?_
    exact kk I L S n (z4 (u2 Z 3 0 (nI 0)) hu2.1 hu2.2.1 hu2.2.2) Y hu2.1 on ov (hI) (hp_hu2) (rfl)
  · refine g_run X KL_law_2208_325 KL_law_2208_325_d 2212 [(7, .double (hlV (bdl I L S 16))), (5, .double (hlV (bdl I L S 16))), (0, .ref b), (1, .ref (adC 0)), (2, .ref (adM 0)), (3, .ref ao), (4, .int (nI (6 * k)))] [.double (hlV (bdl I L S 16)), .double (hlV (bdl I L S 16))] rfl ?_
    refine g_dcmp X dL_law_2212 ?_
    refine g_if_eq X 2224 dL_law_2213 (by decide) (fun hc4 => ?_) (fun hc4 => ?_)
    · exact absurd hc4 (by assumption)
    · refine g_run X KL_law_2216_326 KL_law_2216_326_d 2220 [(7, .double (hlV (bdl I L S 16))), (5, .double (hlV (bdl I L S 16))), (0, .ref b), (1, .ref (adC 0)), (2, .ref (adM 0)), (3, .ref ao), (4, .int (nI (6 * k)))] [.double (hlV (bdl I L S 16)), .double (hlV (bdl I L S 16))] rfl ?_
      refine g_dcmp X dL_law_2220 ?_
      refine g_if_ne X 2226 dL_law_2221 (by decide) (fun hc5 => ?_) (fun hc5 => ?_)
      · refine g_run X KL_law_2226_324 KL_law_2226_324_d 2256 [(7, .double (hlV (bdl I L S 16))), (5, .double (hlV (bdl I L S 16))), (0, .ref b), (1, .ref (adC 0)), (2, .ref (adM 0)), (3, .ref ao), (4, .int (nI (6 * k)))] [] rfl ?_
        refine g_lv (lv' := [(0, .ref b), (1, .ref (adC 0)), (2, .ref (adM 0)), (3, .ref ao), (4, .int (nI (6 * k)))]) (lsub_c 2 rfl (lsub_c 3 rfl (lsub_c 4 rfl (lsub_c 5 rfl (lsub_c 6 rfl (lsub_n)))))) ?_
        refine g_perm (ws' := (WC adC g I L S ++ ([OUT ao on ov] : va_W)) ++ WM adM g I L S (z4 (u2 Z 3 0 (nI 0)) hu2.1 hu2.2.1 hu2.2.2) Y) (List.perm_append_comm (l₁ := (WC adC g I L S ++ ([OUT ao on ov] : va_W))) (l₂ := WM adM g I L S (z4 (u2 Z 3 0 (nI 0)) hu2.1 hu2.2.1 hu2.2.2) Y)) ?_
        refine g_widen (k := cells + 60) (n := slots + 1200) (by omega) (by omega) ?_
        exact kk I L S n (z4 (u2 Z 3 0 (nI 0)) hu2.1 hu2.2.1 hu2.2.2) Y hu2.1 on ov (hI) (hp_hu2) (rfl)
      · exact absurd hc5 (by assumption)

theorem lq30 {p : Program} {l : Launch} {e : Env} {s : State} {m : MethodId} {below : List Frame} {meth : Method} {c : Code} {Q : State → Prop} {D : va_G} {A : Nat → Prop} {b N : Nat} {xs : Nat → Int32} {adC adM : Nat → Nat} {g : Nat → ClassId} {ao k cells slots : Nat} {I : Nat → Nat → Int32} {L : Nat → Nat → Int64} {S : Nat → Nat} {n : Nat} {Z : Nat → Nat → Int32} {Y : Int64} {R : Nat → Nat} {on : Int64} {ov : Value} (HX : LX p l s m meth c A b N xs) (hk : 6 * k + 6 ≤ N) (hroom : cells + 60 ≤ 600002 ∧ slots + 1200 ≤ 7302232) (hI : Inv I L S n) (hR : R16 R) (hZ : Z 0 = fun j => nI (R j)) (kk : LK p l e s m below meth c Q D A b adC adM g ao k cells slots 2256) : GL p l e room_1 s m #[.ref b] below meth c Q D CL (TYS g) A 9 (WL adC adM g ao I L S Z Y on ov) cells slots 2188 [(0, .ref b), (1, .ref (adC 0)), (2, .ref (adM 0)), (3, .ref ao), (4, .int (nI (6 * k)))] [] := by
  exact lq30_0 HX hk hroom hI hR hZ  kk

def KL_law_2229_327 : List (Nat × Instr × Nat) := [(2229, .aload_n 1, 1)]
theorem KL_law_2229_327_d : ∀ z ∈ KL_law_2229_327, decode cL_law z.1 = .ok z.2 := by decide +kernel
def KL_law_2233_328 : List (Nat × Instr × Nat) := [(2233, .aload_n 2, 1)]
theorem KL_law_2233_328_d : ∀ z ∈ KL_law_2233_328, decode cL_law z.1 = .ok z.2 := by decide +kernel
set_option maxHeartbeats 4000000 in
set_option maxRecDepth 100000 in
theorem lq31_0 {p : Program} {l : Launch} {e : Env} {s : State} {m : MethodId} {below : List Frame} {meth : Method} {c : Code} {Q : State → Prop} {D : va_G} {A : Nat → Prop} {b N : Nat} {xs : Nat → Int32} {adC adM : Nat → Nat} {g : Nat → ClassId} {ao k cells slots : Nat} {I : Nat → Nat → Int32} {L : Nat → Nat → Int64} {S : Nat → Nat} {n : Nat} {Z : Nat → Nat → Int32} {Y : Int64} {R : Nat → Nat} {on : Int64} {ov : Value} (HX : LX p l s m meth c A b N xs) (hk : 6 * k + 6 ≤ N) (hroom : cells + 60 ≤ 600002 ∧ slots + 1200 ≤ 7302232) (hI : Inv I L S n) (hR : R16 R) (hZ : Z 0 = fun j => nI (R j))  (kk : LK p l e s m below meth c Q D A b adC adM g ao k cells slots 2256) : GL p l e room_1 s m #[.ref b] below meth c Q D CL (TYS g) A 9 (WL adC adM g ao I L S Z Y on ov) cells slots 2229 [(0, .ref b), (1, .ref (adC 0)), (2, .ref (adM 0)), (3, .ref ao), (4, .int (nI (6 * k)))] [] := by
  obtain ⟨X, hSB, hAf, hNC, hfl, hX, hbl, hbA, hN⟩ := HX
  refine g_run X KL_law_2229_327 KL_law_2229_327_d 2230 [(0, .ref b), (1, .ref (adC 0)), (2, .ref (adM 0)), (3, .ref ao), (4, .int (nI (6 * k)))] [.ref (adC 0)] rfl ?_
  refine g_callV X hSB hAf srcW (hrc1 := (rfl : CL[4]? = some _)) (List.mem_append_left _ (List.mem_append_left _ (wc_mem (k := 0) (by decide)))) rfl (As := []) (wr := (WC adC g I L S ++ ([OUT ao on ov] : va_W)) ++ WM adM g I L S Z Y) (n := 0) (c_X5_isSound l D g adC I L S (hI.s18)) rfl srcL2 hrdC w_302 w_299 w_300 w_301 w_1 (by decide +kernel) rfl ⟨Nat.le_of_ble_eq_true rfl, Nat.le_of_ble_eq_true rfl⟩ rfl rfl rfl (Nat.le_of_ble_eq_true rfl) ⟨by show cells + 0 ≤ 600002; omega, by show slots + 0 ≤ 7302232; omega⟩ dL_law_2230 (fun hu1 hp_hu1 => ?_)
  refine g_af (ws' := (WC adC g I L S ++ ([OUT ao on ov] : va_W)) ++ WM adM g I L S Z Y) (st' := [.int (nI (pB (snd I S)))]) (cells' := cells + 0) (slots' := slots + 0) (pc' := 2233) rfl rfl rfl rfl rfl ?_
  refine g_run X KL_law_2233_328 KL_law_2233_328_d 2234 [(0, .ref b), (1, .ref (adC 0)), (2, .ref (adM 0)), (3, .ref ao), (4, .int (nI (6 * k)))] [.ref (adM 0), .int (nI (pB (snd I S)))] rfl ?_
  refine g_perm (ws' := WM adM g I L S Z Y ++ (WC adC g I L S ++ ([OUT ao on ov] : va_W))) (List.perm_append_comm (l₁ := WM adM g I L S Z Y) (l₂ := (WC adC g I L S ++ ([OUT ao on ov] : va_W)))) ?_
  refine g_callV X hSB hAf srcW (hrc1 := (rfl : CL[8]? = some _)) (wm_mem (k := 0) (by decide)) rfl (As := []) (wr := WC adC g I L S ++ ([OUT ao on ov] : va_W)) (n := 0) (c_X9_isSound l D g adM I L S Z Y (hI.s18) (hI.seat)) rfl srcN hrdN w_1538 w_1535 w_1536 w_1537 w_6 (by decide +kernel) rfl ⟨Nat.le_of_ble_eq_true rfl, Nat.le_of_ble_eq_true rfl⟩ rfl rfl rfl (Nat.le_of_ble_eq_true rfl) ⟨by show cells + 0 + 0 ≤ 600002; omega, by show slots + 0 + 0 ≤ 7302232; omega⟩ dL_law_2234 (fun hu2 hp_hu2 => ?_)
  refine g_af (ws' := WM adM g I L S (u2 Z 3 0 (nI 0)) Y ++ (WC adC g I L S ++ ([OUT ao on ov] : va_W))) (st' := [.int (nI (pB (snd I S))), .int (nI (pB (snd I S)))]) (cells' := cells + 0 + 0) (slots' := slots + 0 + 0) (pc' := 2237) rfl rfl rfl rfl rfl ?_
  refine g_icmp_eq X 2256 dL_law_2237 (by decide) (fun hc3 => ?_) (fun hc3 => ?_)
  · refine g_lv (lv' := [(0, .ref b), (1, .ref (adC 0)), (2, .ref (adM 0)), (3, .ref ao), (4, .int (nI (6 * k)))]) (lsub_c 0 rfl (lsub_c 1 rfl (lsub_c 2 rfl (lsub_c 3 rfl (lsub_c 4 rfl (lsub_n)))))) ?_
    refine g_perm (ws' := (WC adC g I L S ++ ([OUT ao on ov] : va_W)) ++ WM adM g I L S (u2 Z 3 0 (nI 0)) Y) (List.perm_append_comm (l₁ := (WC adC g I L S ++ ([OUT ao on ov] : va_W))) (l₂ := WM adM g I L S (u2 Z 3 0 (nI 0)) Y)) ?_
    refine g_widen (k := cells + 60) (n := slots + 1200) (by omega) (by omega) ?_
    exact kk I L S n (u2 Z 3 0 (nI 0)) Y R on ov (hI) (hR) (by first | exact hZ | (rw [zrow]; exact hZ) | (rw [zrow, zrow]; exact hZ))
  · exact absurd rfl hc3

theorem lq31 {p : Program} {l : Launch} {e : Env} {s : State} {m : MethodId} {below : List Frame} {meth : Method} {c : Code} {Q : State → Prop} {D : va_G} {A : Nat → Prop} {b N : Nat} {xs : Nat → Int32} {adC adM : Nat → Nat} {g : Nat → ClassId} {ao k cells slots : Nat} {I : Nat → Nat → Int32} {L : Nat → Nat → Int64} {S : Nat → Nat} {n : Nat} {Z : Nat → Nat → Int32} {Y : Int64} {R : Nat → Nat} {on : Int64} {ov : Value} (HX : LX p l s m meth c A b N xs) (hk : 6 * k + 6 ≤ N) (hroom : cells + 60 ≤ 600002 ∧ slots + 1200 ≤ 7302232) (hI : Inv I L S n) (hR : R16 R) (hZ : Z 0 = fun j => nI (R j)) (kk : LK p l e s m below meth c Q D A b adC adM g ao k cells slots 2256) : GL p l e room_1 s m #[.ref b] below meth c Q D CL (TYS g) A 9 (WL adC adM g ao I L S Z Y on ov) cells slots 2229 [(0, .ref b), (1, .ref (adC 0)), (2, .ref (adM 0)), (3, .ref ao), (4, .int (nI (6 * k)))] [] := by
  exact lq31_0 HX hk hroom hI hR hZ  kk

def KL_law_2242_329 : List (Nat × Instr × Nat) := [(2242, .aload_n 1, 1)]
theorem KL_law_2242_329_d : ∀ z ∈ KL_law_2242_329, decode cL_law z.1 = .ok z.2 := by decide +kernel
def KL_law_2246_330 : List (Nat × Instr × Nat) := [(2246, .aload_n 2, 1)]
theorem KL_law_2246_330_d : ∀ z ∈ KL_law_2246_330, decode cL_law z.1 = .ok z.2 := by decide +kernel
def KL_law_2250_331 : List (Nat × Instr × Nat) := [(2250, .lcmp, 1)]
theorem KL_law_2250_331_d : ∀ z ∈ KL_law_2250_331, decode cL_law z.1 = .ok z.2 := by decide +kernel
set_option maxHeartbeats 4000000 in
set_option maxRecDepth 100000 in
theorem lq32_0 {p : Program} {l : Launch} {e : Env} {s : State} {m : MethodId} {below : List Frame} {meth : Method} {c : Code} {Q : State → Prop} {D : va_G} {A : Nat → Prop} {b N : Nat} {xs : Nat → Int32} {adC adM : Nat → Nat} {g : Nat → ClassId} {ao k cells slots : Nat} {I : Nat → Nat → Int32} {L : Nat → Nat → Int64} {S : Nat → Nat} {n : Nat} {Z : Nat → Nat → Int32} {Y : Int64} {R : Nat → Nat} {on : Int64} {ov : Value} (HX : LX p l s m meth c A b N xs) (hk : 6 * k + 6 ≤ N) (hroom : cells + 60 ≤ 600002 ∧ slots + 1200 ≤ 7302232) (hI : Inv I L S n) (hR : R16 R) (hZ : Z 0 = fun j => nI (R j))  (kk : LK p l e s m below meth c Q D A b adC adM g ao k cells slots 2256) : GL p l e room_1 s m #[.ref b] below meth c Q D CL (TYS g) A 9 (WL adC adM g ao I L S Z Y on ov) cells slots 2242 [(0, .ref b), (1, .ref (adC 0)), (2, .ref (adM 0)), (3, .ref ao), (4, .int (nI (6 * k)))] [] := by
  obtain ⟨X, hSB, hAf, hNC, hfl, hX, hbl, hbA, hN⟩ := HX
  refine g_run X KL_law_2242_329 KL_law_2242_329_d 2243 [(0, .ref b), (1, .ref (adC 0)), (2, .ref (adM 0)), (3, .ref ao), (4, .int (nI (6 * k)))] [.ref (adC 0)] rfl ?_
  refine g_callV X hSB hAf srcW (hrc1 := (rfl : CL[4]? = some _)) (List.mem_append_left _ (List.mem_append_left _ (wc_mem (k := 0) (by decide)))) rfl (As := []) (wr := (WC adC g I L S ++ ([OUT ao on ov] : va_W)) ++ WM adM g I L S Z Y) (n := 0) (c_X5_digest l D g adC I L S (hI.s18)) rfl srcL2 hrdC w_317 w_314 w_315 w_316 w_1 (by decide +kernel) rfl ⟨Nat.le_of_ble_eq_true rfl, Nat.le_of_ble_eq_true rfl⟩ rfl rfl rfl (Nat.le_of_ble_eq_true rfl) ⟨by show cells + 0 ≤ 600002; omega, by show slots + 0 ≤ 7302232; omega⟩ dL_law_2243 (fun hu1 hp_hu1 => ?_)
  refine g_af (ws' := (WC adC g I L S ++ ([OUT ao on ov] : va_W)) ++ WM adM g I L S Z Y) (st' := [.long (dgV I L S)]) (cells' := cells + 0) (slots' := slots + 0) (pc' := 2246) rfl rfl rfl rfl rfl ?_
  refine g_run X KL_law_2246_330 KL_law_2246_330_d 2247 [(0, .ref b), (1, .ref (adC 0)), (2, .ref (adM 0)), (3, .ref ao), (4, .int (nI (6 * k)))] [.ref (adM 0), .long (dgV I L S)] rfl ?_
  refine g_perm (ws' := WM adM g I L S Z Y ++ (WC adC g I L S ++ ([OUT ao on ov] : va_W))) (List.perm_append_comm (l₁ := WM adM g I L S Z Y) (l₂ := (WC adC g I L S ++ ([OUT ao on ov] : va_W)))) ?_
  refine g_callV X hSB hAf srcW (hrc1 := (rfl : CL[8]? = some _)) (wm_mem (k := 0) (by decide)) rfl (As := []) (wr := WC adC g I L S ++ ([OUT ao on ov] : va_W)) (n := 0) (c_X9_digest l D g adM I L S Z Y R (hR) (hZ) (hI.s18) (hI.ky) (sp_bank hI.sp) (hI.seat) (hI.hin)) rfl srcN hrdN w_1546 w_1543 w_1544 w_1545 w_6 (by decide +kernel) rfl ⟨Nat.le_of_ble_eq_true rfl, Nat.le_of_ble_eq_true rfl⟩ rfl rfl rfl (Nat.le_of_ble_eq_true rfl) ⟨by show cells + 0 + 18 ≤ 600002; omega, by show slots + 0 + 272 ≤ 7302232; omega⟩ dL_law_2247 (fun hu2 hp_hu2 => ?_)
  refine g_af (ws' := WM adM g I L S (z4 (u2 Z 3 0 (nI 0)) hu2.1 hu2.2.1 hu2.2.2) (dgV I L S) ++ (WC adC g I L S ++ ([OUT ao on ov] : va_W))) (st' := [.long (dgV I L S), .long (dgV I L S)]) (cells' := cells + 0 + 18) (slots' := slots + 0 + 272) (pc' := 2250) rfl rfl rfl rfl rfl ?_
  refine g_run X KL_law_2250_331 KL_law_2250_331_d 2251 [(0, .ref b), (1, .ref (adC 0)), (2, .ref (adM 0)), (3, .ref ao), (4, .int (nI (6 * k)))] [.int (lg_cmp (dgV I L S) (dgV I L S))] rfl ?_
  refine g_if_eq X 2256 dL_law_2251 (by decide) (fun hc3 => ?_) (fun hc3 => ?_)
  · refine g_lv (lv' := [(0, .ref b), (1, .ref (adC 0)), (2, .ref (adM 0)), (3, .ref ao), (4, .int (nI (6 * k)))]) (lsub_c 0 rfl (lsub_c 1 rfl (lsub_c 2 rfl (lsub_c 3 rfl (lsub_c 4 rfl (lsub_n)))))) ?_
    refine g_perm (ws' := (WC adC g I L S ++ ([OUT ao on ov] : va_W)) ++ WM adM g I L S (z4 (u2 Z 3 0 (nI 0)) hu2.1 hu2.2.1 hu2.2.2) (dgV I L S)) (List.perm_append_comm (l₁ := (WC adC g I L S ++ ([OUT ao on ov] : va_W))) (l₂ := WM adM g I L S (z4 (u2 Z 3 0 (nI 0)) hu2.1 hu2.2.1 hu2.2.2) (dgV I L S))) ?_
    refine g_widen (k := cells + 60) (n := slots + 1200) (by omega) (by omega) ?_
    exact kk I L S n (z4 (u2 Z 3 0 (nI 0)) hu2.1 hu2.2.1 hu2.2.2) (dgV I L S) hu2.1 on ov (hI) (hp_hu2) (rfl)
  · exact absurd lg_self hc3

theorem lq32 {p : Program} {l : Launch} {e : Env} {s : State} {m : MethodId} {below : List Frame} {meth : Method} {c : Code} {Q : State → Prop} {D : va_G} {A : Nat → Prop} {b N : Nat} {xs : Nat → Int32} {adC adM : Nat → Nat} {g : Nat → ClassId} {ao k cells slots : Nat} {I : Nat → Nat → Int32} {L : Nat → Nat → Int64} {S : Nat → Nat} {n : Nat} {Z : Nat → Nat → Int32} {Y : Int64} {R : Nat → Nat} {on : Int64} {ov : Value} (HX : LX p l s m meth c A b N xs) (hk : 6 * k + 6 ≤ N) (hroom : cells + 60 ≤ 600002 ∧ slots + 1200 ≤ 7302232) (hI : Inv I L S n) (hR : R16 R) (hZ : Z 0 = fun j => nI (R j)) (kk : LK p l e s m below meth c Q D A b adC adM g ao k cells slots 2256) : GL p l e room_1 s m #[.ref b] below meth c Q D CL (TYS g) A 9 (WL adC adM g ao I L S Z Y on ov) cells slots 2242 [(0, .ref b), (1, .ref (adC 0)), (2, .ref (adM 0)), (3, .ref ao), (4, .int (nI (6 * k)))] [] := by
  exact lq32_0 HX hk hroom hI hR hZ  kk

