def KL_law_1032_136 : List (Nat × Instr × Nat) := [(1032, .aload_n 1, 1), (1033, .aload_n 0, 1), (1034, .iload 4, 2), (1036, .iconst 1, 1), (1037, .iadd, 1)]
theorem KL_law_1032_136_d : ∀ z ∈ KL_law_1032_136, decode cL_law z.1 = .ok z.2 := by decide +kernel
def KL_law_1039_137 : List (Nat × Instr × Nat) := [(1039, .aload_n 0, 1), (1040, .iload 4, 2), (1042, .iconst 2, 1), (1043, .iadd, 1)]
theorem KL_law_1039_137_d : ∀ z ∈ KL_law_1039_137, decode cL_law z.1 = .ok z.2 := by decide +kernel
def KL_law_1045_138 : List (Nat × Instr × Nat) := [(1045, .aload_n 3, 1)]
theorem KL_law_1045_138_d : ∀ z ∈ KL_law_1045_138, decode cL_law z.1 = .ok z.2 := by decide +kernel
def KL_law_1049_139 : List (Nat × Instr × Nat) := [(1049, .istore 5, 2), (1051, .aload_n 2, 1), (1052, .aload_n 0, 1), (1053, .iload 4, 2), (1055, .iconst 1, 1), (1056, .iadd, 1)]
theorem KL_law_1049_139_d : ∀ z ∈ KL_law_1049_139, decode cL_law z.1 = .ok z.2 := by decide +kernel
def KL_law_1058_140 : List (Nat × Instr × Nat) := [(1058, .aload_n 0, 1), (1059, .iload 4, 2), (1061, .iconst 2, 1), (1062, .iadd, 1)]
theorem KL_law_1058_140_d : ∀ z ∈ KL_law_1058_140, decode cL_law z.1 = .ok z.2 := by decide +kernel
def KL_law_1067_141 : List (Nat × Instr × Nat) := [(1067, .istore 6, 2), (1069, .aload_n 2, 1)]
theorem KL_law_1067_141_d : ∀ z ∈ KL_law_1067_141, decode cL_law z.1 = .ok z.2 := by decide +kernel
def KL_law_1073_142 : List (Nat × Instr × Nat) := [(1073, .iload 5, 2)]
theorem KL_law_1073_142_d : ∀ z ∈ KL_law_1073_142, decode cL_law z.1 = .ok z.2 := by decide +kernel
def KL_law_1080_143 : List (Nat × Instr × Nat) := [(1080, .iload 5, 2)]
theorem KL_law_1080_143_d : ∀ z ∈ KL_law_1080_143, decode cL_law z.1 = .ok z.2 := by decide +kernel
def KL_law_1085_144 : List (Nat × Instr × Nat) := [(1085, .aload_n 3, 1)]
theorem KL_law_1085_144_d : ∀ z ∈ KL_law_1085_144, decode cL_law z.1 = .ok z.2 := by decide +kernel
def KL_law_1089_145 : List (Nat × Instr × Nat) := [(1089, .iload 6, 2), (1091, .i2l, 1), (1092, .lcmp, 1)]
theorem KL_law_1089_145_d : ∀ z ∈ KL_law_1089_145, decode cL_law z.1 = .ok z.2 := by decide +kernel
def KL_law_1098_146 : List (Nat × Instr × Nat) := [(1098, .goto 1158, 3)]
theorem KL_law_1098_146_d : ∀ z ∈ KL_law_1098_146, decode cL_law z.1 = .ok z.2 := by decide +kernel
set_option maxHeartbeats 4000000 in
set_option maxRecDepth 100000 in
theorem lq13_0 {p : Program} {l : Launch} {e : Env} {s : State} {m : MethodId} {below : List Frame} {meth : Method} {c : Code} {Q : State → Prop} {D : va_G} {A : Nat → Prop} {b N : Nat} {xs : Nat → Int32} {adC adM : Nat → Nat} {g : Nat → ClassId} {ao k cells slots : Nat} {I : Nat → Nat → Int32} {L : Nat → Nat → Int64} {S : Nat → Nat} {n : Nat} {Z : Nat → Nat → Int32} {Y : Int64} {R : Nat → Nat} {on : Int64} {ov : Value} (HX : LX p l s m meth c A b N xs) (hk : 6 * k + 6 ≤ N) (hroom : cells + 60 ≤ 600002 ∧ slots + 1200 ≤ 7302232) (hI : Inv I L S n) (hR : R16 R) (hZ : Z 0 = fun j => nI (R j)) (a1 : Nat) (hl1 : 0 ≤ a1) (hu1 : a1 < 16) (e1 : xs (6 * k + 1) = nI a1) (a2 : Nat) (hl2 : 0 ≤ a2) (hu2 : a2 < 16) (e2 : xs (6 * k + 2) = nI a2) (kk : LK p l e s m below meth c Q D A b adC adM g ao k cells slots 2256) : GL p l e room_1 s m #[.ref b] below meth c Q D CL (TYS g) A 9 (WL adC adM g ao I L S Z Y on ov) cells slots 1032 [(0, .ref b), (1, .ref (adC 0)), (2, .ref (adM 0)), (3, .ref ao), (4, .int (nI (6 * k)))] [] := by
  obtain ⟨X, hSB, hAf, hNC, hfl, hX, hbl, hbA, hN⟩ := HX
  refine g_run X KL_law_1032_136 KL_law_1032_136_d 1038 [(0, .ref b), (1, .ref (adC 0)), (2, .ref (adM 0)), (3, .ref ao), (4, .int (nI (6 * k)))] [.int ((nI (6 * k)) + (nI 1)), .ref b, .ref (adC 0)] rfl ?_
  refine g_nm (lv' := [(0, .ref b), (1, .ref (adC 0)), (2, .ref (adM 0)), (3, .ref ao), (4, .int (nI (6 * k)))]) (st' := [.int (nI ((6 * k) + 1)), .ref b, .ref (adC 0)]) (by simp only [nI_add]) (by simp only [nI_add]) ?_
  refine g_sld X hX hbl hbA hN (v := nI a1) (by omega) e1 dL_law_1038 ?_
  refine g_run X KL_law_1039_137 KL_law_1039_137_d 1044 [(0, .ref b), (1, .ref (adC 0)), (2, .ref (adM 0)), (3, .ref ao), (4, .int (nI (6 * k)))] [.int ((nI (6 * k)) + (nI 2)), .ref b, .int (nI a1), .ref (adC 0)] rfl ?_
  refine g_nm (lv' := [(0, .ref b), (1, .ref (adC 0)), (2, .ref (adM 0)), (3, .ref ao), (4, .int (nI (6 * k)))]) (st' := [.int (nI ((6 * k) + 2)), .ref b, .int (nI a1), .ref (adC 0)]) (by simp only [nI_add]) (by simp only [nI_add]) ?_
  refine g_sld X hX hbl hbA hN (v := nI a2) (by omega) e2 dL_law_1044 ?_
  refine g_run X KL_law_1045_138 KL_law_1045_138_d 1046 [(0, .ref b), (1, .ref (adC 0)), (2, .ref (adM 0)), (3, .ref ao), (4, .int (nI (6 * k)))] [.ref ao, .int (nI a2), .int (nI a1), .ref (adC 0)] rfl ?_
  refine g_callSW X hSB hAf hNC (As := [.ref (adC 0), .int (nI a1), .int (nI a2), .ref ao]) (wr := WM adM g I L S Z Y) (n := 4) (hc_times l D g adC I L S a1 a2 ao on ov (by first | assumption | omega) (by first | assumption | omega)) rfl w_681 w_679 w_680 w_0 (by decide +kernel) rfl ⟨Nat.le_of_ble_eq_true rfl, Nat.le_of_ble_eq_true rfl⟩ rfl rfl rfl (Nat.le_of_ble_eq_true rfl) ⟨by show cells + 0 ≤ 600002; omega, by show slots + 0 ≤ 7302232; omega⟩ dL_law_1046 (fun hu1 _ => ?_)
  refine g_af (ws' := (WC adC g I L S ++ ([OUT ao ((nI (gm a1 a2)).toInt64) ov] : va_W)) ++ WM adM g I L S Z Y) (st' := [.int (nI 0)]) (cells' := cells + 0) (slots' := slots + 0) (pc' := 1049) rfl rfl rfl rfl rfl ?_
  refine g_run X KL_law_1049_139 KL_law_1049_139_d 1057 [(5, .int (nI 0)), (0, .ref b), (1, .ref (adC 0)), (2, .ref (adM 0)), (3, .ref ao), (4, .int (nI (6 * k)))] [.int ((nI (6 * k)) + (nI 1)), .ref b, .ref (adM 0)] rfl ?_
  refine g_nm (lv' := [(5, .int (nI 0)), (0, .ref b), (1, .ref (adC 0)), (2, .ref (adM 0)), (3, .ref ao), (4, .int (nI (6 * k)))]) (st' := [.int (nI ((6 * k) + 1)), .ref b, .ref (adM 0)]) (by simp only [nI_add]) (by simp only [nI_add]) ?_
  refine g_sld X hX hbl hbA hN (v := nI a1) (by omega) e1 dL_law_1057 ?_
  refine g_run X KL_law_1058_140 KL_law_1058_140_d 1063 [(5, .int (nI 0)), (0, .ref b), (1, .ref (adC 0)), (2, .ref (adM 0)), (3, .ref ao), (4, .int (nI (6 * k)))] [.int ((nI (6 * k)) + (nI 2)), .ref b, .int (nI a1), .ref (adM 0)] rfl ?_
  refine g_nm (lv' := [(5, .int (nI 0)), (0, .ref b), (1, .ref (adC 0)), (2, .ref (adM 0)), (3, .ref ao), (4, .int (nI (6 * k)))]) (st' := [.int (nI ((6 * k) + 2)), .ref b, .int (nI a1), .ref (adM 0)]) (by simp only [nI_add]) (by simp only [nI_add]) ?_
  refine g_sld X hX hbl hbA hN (v := nI a2) (by omega) e2 dL_law_1063 ?_
  refine g_perm (ws' := WM adM g I L S Z Y ++ (WC adC g I L S ++ ([OUT ao ((nI (gm a1 a2)).toInt64) ov] : va_W))) (List.perm_append_comm (l₁ := WM adM g I L S Z Y) (l₂ := (WC adC g I L S ++ ([OUT ao ((nI (gm a1 a2)).toInt64) ov] : va_W)))) ?_
  refine g_callV X hSB hAf srcW (hrc1 := (rfl : CL[8]? = some _)) (wm_mem (k := 0) (by decide)) rfl (As := [.int (nI a1), .int (nI a2)]) (wr := WC adC g I L S ++ ([OUT ao ((nI (gm a1 a2)).toInt64) ov] : va_W)) (n := 2) (c_X9_times l D g adM I L S Z Y a1 a2 (by first | assumption | omega) (by first | assumption | omega)) rfl srcN hrdN w_1428 w_1425 w_1426 w_1427 w_6 (by decide +kernel) rfl ⟨Nat.le_of_ble_eq_true rfl, Nat.le_of_ble_eq_true rfl⟩ rfl rfl rfl (Nat.le_of_ble_eq_true rfl) ⟨by show cells + 0 + 0 ≤ 600002; omega, by show slots + 0 + 0 ≤ 7302232; omega⟩ dL_law_1064 (fun hu2 hp_hu2 => ?_)
  refine g_af (ws' := WM adM g I L S (u2 Z 3 0 (nI 0)) Y ++ (WC adC g I L S ++ ([OUT ao ((nI (gm a1 a2)).toInt64) ov] : va_W))) (st' := [.int (nI (gm a1 a2))]) (cells' := cells + 0 + 0) (slots' := slots + 0 + 0) (pc' := 1067) rfl rfl rfl rfl rfl ?_
  refine g_run X KL_law_1067_141 KL_law_1067_141_d 1070 [(6, .int (nI (gm a1 a2))), (5, .int (nI 0)), (0, .ref b), (1, .ref (adC 0)), (2, .ref (adM 0)), (3, .ref ao), (4, .int (nI (6 * k)))] [.ref (adM 0)] rfl ?_
  refine g_callV X hSB hAf srcW (hrc1 := (rfl : CL[8]? = some _)) (wm_mem (k := 0) (by decide)) rfl (As := []) (wr := WC adC g I L S ++ ([OUT ao ((nI (gm a1 a2)).toInt64) ov] : va_W)) (n := 0) (c_X9_thrown l D g adM I L S (u2 Z 3 0 (nI 0)) Y ) rfl srcN hrdN w_1250 w_1247 w_1248 w_1249 w_6 (by decide +kernel) rfl ⟨Nat.le_of_ble_eq_true rfl, Nat.le_of_ble_eq_true rfl⟩ rfl rfl rfl (Nat.le_of_ble_eq_true rfl) ⟨by show cells + 0 + 0 + 0 ≤ 600002; omega, by show slots + 0 + 0 + 0 ≤ 7302232; omega⟩ dL_law_1070 (fun hu3 hp_hu3 => ?_)
  refine g_af (ws' := WM adM g I L S (u2 Z 3 0 (nI 0)) Y ++ (WC adC g I L S ++ ([OUT ao ((nI (gm a1 a2)).toInt64) ov] : va_W))) (st' := [.int ((u2 Z 3 0 (nI 0)) 3 0)]) (cells' := cells + 0 + 0 + 0) (slots' := slots + 0 + 0 + 0) (pc' := 1073) rfl rfl rfl rfl rfl ?_
  refine g_st (st' := [.int (nI 0)]) (by first | rfl | (simp [z4, u2]; done)) ?_
  refine g_run X KL_law_1073_142 KL_law_1073_142_d 1075 [(6, .int (nI (gm a1 a2))), (5, .int (nI 0)), (0, .ref b), (1, .ref (adC 0)), (2, .ref (adM 0)), (3, .ref ao), (4, .int (nI (6 * k)))] [.int (nI 0), .int (nI 0)] rfl ?_
  refine g_icmp_eq X 1080 dL_law_1075 (by decide) (fun hc4 => ?_) (fun hc4 => ?_)
  · refine g_run X KL_law_1080_143 KL_law_1080_143_d 1082 [(6, .int (nI (gm a1 a2))), (5, .int (nI 0)), (0, .ref b), (1, .ref (adC 0)), (2, .ref (adM 0)), (3, .ref ao), (4, .int (nI (6 * k)))] [.int (nI 0)] rfl ?_
    refine g_if_ne X 1098 dL_law_1082 (by decide) (fun hc5 => ?_) (fun hc5 => ?_)
    · rw [nz_eq (by omega)] at hc5; first | omega | (simp at hc5)
    · refine g_run X KL_law_1085_144 KL_law_1085_144_d 1086 [(6, .int (nI (gm a1 a2))), (5, .int (nI 0)), (0, .ref b), (1, .ref (adC 0)), (2, .ref (adM 0)), (3, .ref ao), (4, .int (nI (6 * k)))] [.ref ao] rfl ?_
      refine g_getN X srcW (host := "ChipfieldLaw") (v := .long ((nI (gm a1 a2)).toInt64)) hinX6 rfl 0 (by decide) (nw_in n_489 rfl) rfl (List.mem_append_right _ (List.mem_append_right _ List.mem_cons_self)) rfl dL_law_1086 ?_
      refine g_run X KL_law_1089_145 KL_law_1089_145_d 1093 [(6, .int (nI (gm a1 a2))), (5, .int (nI 0)), (0, .ref b), (1, .ref (adC 0)), (2, .ref (adM 0)), (3, .ref ao), (4, .int (nI (6 * k)))] [.int (lg_cmp ((nI (gm a1 a2)).toInt64) ((nI (gm a1 a2)).toInt64))] rfl ?_
      refine g_if_eq X 1098 dL_law_1093 (by decide) (fun hc6 => ?_) (fun hc6 => ?_)
      · refine g_run X KL_law_1098_146 KL_law_1098_146_d 2256 [(6, .int (nI (gm a1 a2))), (5, .int (nI 0)), (0, .ref b), (1, .ref (adC 0)), (2, .ref (adM 0)), (3, .ref ao), (4, .int (nI (6 * k)))] [] rfl ?_
        refine g_lv (lv' := [(0, .ref b), (1, .ref (adC 0)), (2, .ref (adM 0)), (3, .ref ao), (4, .int (nI (6 * k)))]) (lsub_c 2 rfl (lsub_c 3 rfl (lsub_c 4 rfl (lsub_c 5 rfl (lsub_c 6 rfl (lsub_n)))))) ?_
        refine g_perm (ws' := (WC adC g I L S ++ ([OUT ao ((nI (gm a1 a2)).toInt64) ov] : va_W)) ++ WM adM g I L S (u2 Z 3 0 (nI 0)) Y) (List.perm_append_comm (l₁ := (WC adC g I L S ++ ([OUT ao ((nI (gm a1 a2)).toInt64) ov] : va_W))) (l₂ := WM adM g I L S (u2 Z 3 0 (nI 0)) Y)) ?_
        refine g_widen (k := cells + 60) (n := slots + 1200) (by omega) (by omega) ?_
        exact kk I L S n (u2 Z 3 0 (nI 0)) Y R ((nI (gm a1 a2)).toInt64) ov (hI) (hR) (by first | exact hZ | (rw [zrow]; exact hZ) | (rw [zrow, zrow]; exact hZ))
      · exact absurd lg_self hc6
  · rw [nI_eq (by omega) (by omega)] at hc4; first | omega | (simp at hc4)

set_option maxHeartbeats 4000000 in
set_option maxRecDepth 100000 in
theorem lq13_2 {p : Program} {l : Launch} {e : Env} {s : State} {m : MethodId} {below : List Frame} {meth : Method} {c : Code} {Q : State → Prop} {D : va_G} {A : Nat → Prop} {b N : Nat} {xs : Nat → Int32} {adC adM : Nat → Nat} {g : Nat → ClassId} {ao k cells slots : Nat} {I : Nat → Nat → Int32} {L : Nat → Nat → Int64} {S : Nat → Nat} {n : Nat} {Z : Nat → Nat → Int32} {Y : Int64} {R : Nat → Nat} {on : Int64} {ov : Value} (HX : LX p l s m meth c A b N xs) (hk : 6 * k + 6 ≤ N) (hroom : cells + 60 ≤ 600002 ∧ slots + 1200 ≤ 7302232) (hI : Inv I L S n) (hR : R16 R) (hZ : Z 0 = fun j => nI (R j)) (a1 : Nat) (hl1 : 0 ≤ a1) (hu1 : a1 < 16) (e1 : xs (6 * k + 1) = nI a1) (hw : (xs (6 * k + 2)).toInt < (0 : Nat) ∨ ((16 : Nat) : Int) ≤ (xs (6 * k + 2)).toInt) (kk : LK p l e s m below meth c Q D A b adC adM g ao k cells slots 2256) : GL p l e room_1 s m #[.ref b] below meth c Q D CL (TYS g) A 9 (WL adC adM g ao I L S Z Y on ov) cells slots 1032 [(0, .ref b), (1, .ref (adC 0)), (2, .ref (adM 0)), (3, .ref ao), (4, .int (nI (6 * k)))] [] := by
  obtain ⟨X, hSB, hAf, hNC, hfl, hX, hbl, hbA, hN⟩ := HX
  refine g_run X KL_law_1032_136 KL_law_1032_136_d 1038 [(0, .ref b), (1, .ref (adC 0)), (2, .ref (adM 0)), (3, .ref ao), (4, .int (nI (6 * k)))] [.int ((nI (6 * k)) + (nI 1)), .ref b, .ref (adC 0)] rfl ?_
  refine g_nm (lv' := [(0, .ref b), (1, .ref (adC 0)), (2, .ref (adM 0)), (3, .ref ao), (4, .int (nI (6 * k)))]) (st' := [.int (nI ((6 * k) + 1)), .ref b, .ref (adC 0)]) (by simp only [nI_add]) (by simp only [nI_add]) ?_
  refine g_sld X hX hbl hbA hN (v := nI a1) (by omega) e1 dL_law_1038 ?_
  refine g_run X KL_law_1039_137 KL_law_1039_137_d 1044 [(0, .ref b), (1, .ref (adC 0)), (2, .ref (adM 0)), (3, .ref ao), (4, .int (nI (6 * k)))] [.int ((nI (6 * k)) + (nI 2)), .ref b, .int (nI a1), .ref (adC 0)] rfl ?_
  refine g_nm (lv' := [(0, .ref b), (1, .ref (adC 0)), (2, .ref (adM 0)), (3, .ref ao), (4, .int (nI (6 * k)))]) (st' := [.int (nI ((6 * k) + 2)), .ref b, .int (nI a1), .ref (adC 0)]) (by simp only [nI_add]) (by simp only [nI_add]) ?_
  refine g_sld X hX hbl hbA hN (v := xs (6 * k + 2)) (by omega) rfl dL_law_1044 ?_
  refine g_run X KL_law_1045_138 KL_law_1045_138_d 1046 [(0, .ref b), (1, .ref (adC 0)), (2, .ref (adM 0)), (3, .ref ao), (4, .int (nI (6 * k)))] [.ref ao, .int (xs (6 * k + 2)), .int (nI a1), .ref (adC 0)] rfl ?_
  refine g_callSW X hSB hAf hNC (As := [.ref (adC 0), .int (nI a1), .int (xs (6 * k + 2)), .ref ao]) (wr := WM adM g I L S Z Y) (n := 4) (hx_times_2 l hfl D g adC I L S a1 (xs (6 * k + 2)) ao on ov (by first | assumption | omega) (out_le (by decide) hw)) rfl w_681 w_679 w_680 w_0 (by decide +kernel) rfl ⟨Nat.le_of_ble_eq_true rfl, Nat.le_of_ble_eq_true rfl⟩ rfl rfl rfl (Nat.le_of_ble_eq_true rfl) ⟨by show cells + 1 ≤ 600002; omega, by show slots + 6 ≤ 7302232; omega⟩ dL_law_1046 (fun hu1 _ => ?_)
  refine g_af (ws' := (WC adC g I L S ++ ([OUT ao on ov] : va_W)) ++ WM adM g I L S Z Y) (st' := [.int (nI 1)]) (cells' := cells + 1) (slots' := slots + 6) (pc' := 1049) rfl rfl rfl rfl rfl ?_
  refine g_run X KL_law_1049_139 KL_law_1049_139_d 1057 [(5, .int (nI 1)), (0, .ref b), (1, .ref (adC 0)), (2, .ref (adM 0)), (3, .ref ao), (4, .int (nI (6 * k)))] [.int ((nI (6 * k)) + (nI 1)), .ref b, .ref (adM 0)] rfl ?_
  refine g_nm (lv' := [(5, .int (nI 1)), (0, .ref b), (1, .ref (adC 0)), (2, .ref (adM 0)), (3, .ref ao), (4, .int (nI (6 * k)))]) (st' := [.int (nI ((6 * k) + 1)), .ref b, .ref (adM 0)]) (by simp only [nI_add]) (by simp only [nI_add]) ?_
  refine g_sld X hX hbl hbA hN (v := nI a1) (by omega) e1 dL_law_1057 ?_
  refine g_run X KL_law_1058_140 KL_law_1058_140_d 1063 [(5, .int (nI 1)), (0, .ref b), (1, .ref (adC 0)), (2, .ref (adM 0)), (3, .ref ao), (4, .int (nI (6 * k)))] [.int ((nI (6 * k)) + (nI 2)), .ref b, .int (nI a1), .ref (adM 0)] rfl ?_
  refine g_nm (lv' := [(5, .int (nI 1)), (0, .ref b), (1, .ref (adC 0)), (2, .ref (adM 0)), (3, .ref ao), (4, .int (nI (6 * k)))]) (st' := [.int (nI ((6 * k) + 2)), .ref b, .int (nI a1), .ref (adM 0)]) (by simp only [nI_add]) (by simp only [nI_add]) ?_
  refine g_sld X hX hbl hbA hN (v := xs (6 * k + 2)) (by omega) rfl dL_law_1063 ?_
  refine g_perm (ws' := WM adM g I L S Z Y ++ (WC adC g I L S ++ ([OUT ao on ov] : va_W))) (List.perm_append_comm (l₁ := WM adM g I L S Z Y) (l₂ := (WC adC g I L S ++ ([OUT ao on ov] : va_W)))) ?_
  refine g_callV X hSB hAf srcW (hrc1 := (rfl : CL[8]? = some _)) (wm_mem (k := 0) (by decide)) rfl (As := [.int (nI a1), .int (xs (6 * k + 2))]) (wr := WC adC g I L S ++ ([OUT ao on ov] : va_W)) (n := 2) (c_X9_times_2 l D g adM I L S Z Y a1 (xs (6 * k + 2)) (by first | assumption | omega) (out_lo (by decide) (by decide) hw)) rfl srcN hrdN w_1428 w_1425 w_1426 w_1427 w_6 (by decide +kernel) rfl ⟨Nat.le_of_ble_eq_true rfl, Nat.le_of_ble_eq_true rfl⟩ rfl rfl rfl (Nat.le_of_ble_eq_true rfl) ⟨by show cells + 1 + 0 ≤ 600002; omega, by show slots + 6 + 0 ≤ 7302232; omega⟩ dL_law_1064 (fun hu2 hp_hu2 => ?_)
  refine g_af (ws' := WM adM g I L S (u2 (u2 Z 3 0 (nI 0)) 3 0 (nI 1)) Y ++ (WC adC g I L S ++ ([OUT ao on ov] : va_W))) (st' := [.int (nI 0)]) (cells' := cells + 1 + 0) (slots' := slots + 6 + 0) (pc' := 1067) rfl rfl rfl rfl rfl ?_
  refine g_run X KL_law_1067_141 KL_law_1067_141_d 1070 [(6, .int (nI 0)), (5, .int (nI 1)), (0, .ref b), (1, .ref (adC 0)), (2, .ref (adM 0)), (3, .ref ao), (4, .int (nI (6 * k)))] [.ref (adM 0)] rfl ?_
  refine g_callV X hSB hAf srcW (hrc1 := (rfl : CL[8]? = some _)) (wm_mem (k := 0) (by decide)) rfl (As := []) (wr := WC adC g I L S ++ ([OUT ao on ov] : va_W)) (n := 0) (c_X9_thrown l D g adM I L S (u2 (u2 Z 3 0 (nI 0)) 3 0 (nI 1)) Y ) rfl srcN hrdN w_1250 w_1247 w_1248 w_1249 w_6 (by decide +kernel) rfl ⟨Nat.le_of_ble_eq_true rfl, Nat.le_of_ble_eq_true rfl⟩ rfl rfl rfl (Nat.le_of_ble_eq_true rfl) ⟨by show cells + 1 + 0 + 0 ≤ 600002; omega, by show slots + 6 + 0 + 0 ≤ 7302232; omega⟩ dL_law_1070 (fun hu3 hp_hu3 => ?_)
  refine g_af (ws' := WM adM g I L S (u2 (u2 Z 3 0 (nI 0)) 3 0 (nI 1)) Y ++ (WC adC g I L S ++ ([OUT ao on ov] : va_W))) (st' := [.int ((u2 (u2 Z 3 0 (nI 0)) 3 0 (nI 1)) 3 0)]) (cells' := cells + 1 + 0 + 0) (slots' := slots + 6 + 0 + 0) (pc' := 1073) rfl rfl rfl rfl rfl ?_
  refine g_st (st' := [.int (nI 1)]) (by first | rfl | (simp [z4, u2]; done)) ?_
  refine g_run X KL_law_1073_142 KL_law_1073_142_d 1075 [(6, .int (nI 0)), (5, .int (nI 1)), (0, .ref b), (1, .ref (adC 0)), (2, .ref (adM 0)), (3, .ref ao), (4, .int (nI (6 * k)))] [.int (nI 1), .int (nI 1)] rfl ?_
  refine g_icmp_eq X 1080 dL_law_1075 (by decide) (fun hc4 => ?_) (fun hc4 => ?_)
  · refine g_run X KL_law_1080_143 KL_law_1080_143_d 1082 [(6, .int (nI 0)), (5, .int (nI 1)), (0, .ref b), (1, .ref (adC 0)), (2, .ref (adM 0)), (3, .ref ao), (4, .int (nI (6 * k)))] [.int (nI 1)] rfl ?_
    refine g_if_ne X 1098 dL_law_1082 (by decide) (fun hc5 => ?_) (fun hc5 => ?_)
    · refine g_run X KL_law_1098_146 KL_law_1098_146_d 2256 [(6, .int (nI 0)), (5, .int (nI 1)), (0, .ref b), (1, .ref (adC 0)), (2, .ref (adM 0)), (3, .ref ao), (4, .int (nI (6 * k)))] [] rfl ?_
      refine g_lv (lv' := [(0, .ref b), (1, .ref (adC 0)), (2, .ref (adM 0)), (3, .ref ao), (4, .int (nI (6 * k)))]) (lsub_c 2 rfl (lsub_c 3 rfl (lsub_c 4 rfl (lsub_c 5 rfl (lsub_c 6 rfl (lsub_n)))))) ?_
      refine g_perm (ws' := (WC adC g I L S ++ ([OUT ao on ov] : va_W)) ++ WM adM g I L S (u2 (u2 Z 3 0 (nI 0)) 3 0 (nI 1)) Y) (List.perm_append_comm (l₁ := (WC adC g I L S ++ ([OUT ao on ov] : va_W))) (l₂ := WM adM g I L S (u2 (u2 Z 3 0 (nI 0)) 3 0 (nI 1)) Y)) ?_
      refine g_widen (k := cells + 60) (n := slots + 1200) (by omega) (by omega) ?_
      exact kk I L S n (u2 (u2 Z 3 0 (nI 0)) 3 0 (nI 1)) Y R on ov (hI) (hR) (by first | exact hZ | (rw [zrow]; exact hZ) | (rw [zrow, zrow]; exact hZ))
    · rw [nz_eq (by omega)] at hc5; first | omega | (simp at hc5)
  · rw [nI_eq (by omega) (by omega)] at hc4; first | omega | (simp at hc4)

set_option maxHeartbeats 4000000 in
set_option maxRecDepth 100000 in
theorem lq13_1 {p : Program} {l : Launch} {e : Env} {s : State} {m : MethodId} {below : List Frame} {meth : Method} {c : Code} {Q : State → Prop} {D : va_G} {A : Nat → Prop} {b N : Nat} {xs : Nat → Int32} {adC adM : Nat → Nat} {g : Nat → ClassId} {ao k cells slots : Nat} {I : Nat → Nat → Int32} {L : Nat → Nat → Int64} {S : Nat → Nat} {n : Nat} {Z : Nat → Nat → Int32} {Y : Int64} {R : Nat → Nat} {on : Int64} {ov : Value} (HX : LX p l s m meth c A b N xs) (hk : 6 * k + 6 ≤ N) (hroom : cells + 60 ≤ 600002 ∧ slots + 1200 ≤ 7302232) (hI : Inv I L S n) (hR : R16 R) (hZ : Z 0 = fun j => nI (R j)) (hw : (xs (6 * k + 1)).toInt < (0 : Nat) ∨ ((16 : Nat) : Int) ≤ (xs (6 * k + 1)).toInt) (kk : LK p l e s m below meth c Q D A b adC adM g ao k cells slots 2256) : GL p l e room_1 s m #[.ref b] below meth c Q D CL (TYS g) A 9 (WL adC adM g ao I L S Z Y on ov) cells slots 1032 [(0, .ref b), (1, .ref (adC 0)), (2, .ref (adM 0)), (3, .ref ao), (4, .int (nI (6 * k)))] [] := by
  obtain ⟨X, hSB, hAf, hNC, hfl, hX, hbl, hbA, hN⟩ := HX
  refine g_run X KL_law_1032_136 KL_law_1032_136_d 1038 [(0, .ref b), (1, .ref (adC 0)), (2, .ref (adM 0)), (3, .ref ao), (4, .int (nI (6 * k)))] [.int ((nI (6 * k)) + (nI 1)), .ref b, .ref (adC 0)] rfl ?_
  refine g_nm (lv' := [(0, .ref b), (1, .ref (adC 0)), (2, .ref (adM 0)), (3, .ref ao), (4, .int (nI (6 * k)))]) (st' := [.int (nI ((6 * k) + 1)), .ref b, .ref (adC 0)]) (by simp only [nI_add]) (by simp only [nI_add]) ?_
  refine g_sld X hX hbl hbA hN (v := xs (6 * k + 1)) (by omega) rfl dL_law_1038 ?_
  refine g_run X KL_law_1039_137 KL_law_1039_137_d 1044 [(0, .ref b), (1, .ref (adC 0)), (2, .ref (adM 0)), (3, .ref ao), (4, .int (nI (6 * k)))] [.int ((nI (6 * k)) + (nI 2)), .ref b, .int (xs (6 * k + 1)), .ref (adC 0)] rfl ?_
  refine g_nm (lv' := [(0, .ref b), (1, .ref (adC 0)), (2, .ref (adM 0)), (3, .ref ao), (4, .int (nI (6 * k)))]) (st' := [.int (nI ((6 * k) + 2)), .ref b, .int (xs (6 * k + 1)), .ref (adC 0)]) (by simp only [nI_add]) (by simp only [nI_add]) ?_
  refine g_sld X hX hbl hbA hN (v := xs (6 * k + 2)) (by omega) rfl dL_law_1044 ?_
  refine g_run X KL_law_1045_138 KL_law_1045_138_d 1046 [(0, .ref b), (1, .ref (adC 0)), (2, .ref (adM 0)), (3, .ref ao), (4, .int (nI (6 * k)))] [.ref ao, .int (xs (6 * k + 2)), .int (xs (6 * k + 1)), .ref (adC 0)] rfl ?_
  refine g_callSW X hSB hAf hNC (As := [.ref (adC 0), .int (xs (6 * k + 1)), .int (xs (6 * k + 2)), .ref ao]) (wr := WM adM g I L S Z Y) (n := 4) (hx_times_1 l hfl D g adC I L S (xs (6 * k + 1)) (xs (6 * k + 2)) ao on ov (out_le (by decide) hw)) rfl w_681 w_679 w_680 w_0 (by decide +kernel) rfl ⟨Nat.le_of_ble_eq_true rfl, Nat.le_of_ble_eq_true rfl⟩ rfl rfl rfl (Nat.le_of_ble_eq_true rfl) ⟨by show cells + 1 ≤ 600002; omega, by show slots + 6 ≤ 7302232; omega⟩ dL_law_1046 (fun hu1 _ => ?_)
  refine g_af (ws' := (WC adC g I L S ++ ([OUT ao on ov] : va_W)) ++ WM adM g I L S Z Y) (st' := [.int (nI 1)]) (cells' := cells + 1) (slots' := slots + 6) (pc' := 1049) rfl rfl rfl rfl rfl ?_
  refine g_run X KL_law_1049_139 KL_law_1049_139_d 1057 [(5, .int (nI 1)), (0, .ref b), (1, .ref (adC 0)), (2, .ref (adM 0)), (3, .ref ao), (4, .int (nI (6 * k)))] [.int ((nI (6 * k)) + (nI 1)), .ref b, .ref (adM 0)] rfl ?_
  refine g_nm (lv' := [(5, .int (nI 1)), (0, .ref b), (1, .ref (adC 0)), (2, .ref (adM 0)), (3, .ref ao), (4, .int (nI (6 * k)))]) (st' := [.int (nI ((6 * k) + 1)), .ref b, .ref (adM 0)]) (by simp only [nI_add]) (by simp only [nI_add]) ?_
  refine g_sld X hX hbl hbA hN (v := xs (6 * k + 1)) (by omega) rfl dL_law_1057 ?_
  refine g_run X KL_law_1058_140 KL_law_1058_140_d 1063 [(5, .int (nI 1)), (0, .ref b), (1, .ref (adC 0)), (2, .ref (adM 0)), (3, .ref ao), (4, .int (nI (6 * k)))] [.int ((nI (6 * k)) + (nI 2)), .ref b, .int (xs (6 * k + 1)), .ref (adM 0)] rfl ?_
  refine g_nm (lv' := [(5, .int (nI 1)), (0, .ref b), (1, .ref (adC 0)), (2, .ref (adM 0)), (3, .ref ao), (4, .int (nI (6 * k)))]) (st' := [.int (nI ((6 * k) + 2)), .ref b, .int (xs (6 * k + 1)), .ref (adM 0)]) (by simp only [nI_add]) (by simp only [nI_add]) ?_
  refine g_sld X hX hbl hbA hN (v := xs (6 * k + 2)) (by omega) rfl dL_law_1063 ?_
  refine g_perm (ws' := WM adM g I L S Z Y ++ (WC adC g I L S ++ ([OUT ao on ov] : va_W))) (List.perm_append_comm (l₁ := WM adM g I L S Z Y) (l₂ := (WC adC g I L S ++ ([OUT ao on ov] : va_W)))) ?_
  refine g_callV X hSB hAf srcW (hrc1 := (rfl : CL[8]? = some _)) (wm_mem (k := 0) (by decide)) rfl (As := [.int (xs (6 * k + 1)), .int (xs (6 * k + 2))]) (wr := WC adC g I L S ++ ([OUT ao on ov] : va_W)) (n := 2) (c_X9_times_1 l D g adM I L S Z Y (xs (6 * k + 1)) (xs (6 * k + 2)) (out_lo (by decide) (by decide) hw)) rfl srcN hrdN w_1428 w_1425 w_1426 w_1427 w_6 (by decide +kernel) rfl ⟨Nat.le_of_ble_eq_true rfl, Nat.le_of_ble_eq_true rfl⟩ rfl rfl rfl (Nat.le_of_ble_eq_true rfl) ⟨by show cells + 1 + 0 ≤ 600002; omega, by show slots + 6 + 0 ≤ 7302232; omega⟩ dL_law_1064 (fun hu2 hp_hu2 => ?_)
  refine g_af (ws' := WM adM g I L S (u2 (u2 Z 3 0 (nI 0)) 3 0 (nI 1)) Y ++ (WC adC g I L S ++ ([OUT ao on ov] : va_W))) (st' := [.int (nI 0)]) (cells' := cells + 1 + 0) (slots' := slots + 6 + 0) (pc' := 1067) rfl rfl rfl rfl rfl ?_
  refine g_run X KL_law_1067_141 KL_law_1067_141_d 1070 [(6, .int (nI 0)), (5, .int (nI 1)), (0, .ref b), (1, .ref (adC 0)), (2, .ref (adM 0)), (3, .ref ao), (4, .int (nI (6 * k)))] [.ref (adM 0)] rfl ?_
  refine g_callV X hSB hAf srcW (hrc1 := (rfl : CL[8]? = some _)) (wm_mem (k := 0) (by decide)) rfl (As := []) (wr := WC adC g I L S ++ ([OUT ao on ov] : va_W)) (n := 0) (c_X9_thrown l D g adM I L S (u2 (u2 Z 3 0 (nI 0)) 3 0 (nI 1)) Y ) rfl srcN hrdN w_1250 w_1247 w_1248 w_1249 w_6 (by decide +kernel) rfl ⟨Nat.le_of_ble_eq_true rfl, Nat.le_of_ble_eq_true rfl⟩ rfl rfl rfl (Nat.le_of_ble_eq_true rfl) ⟨by show cells + 1 + 0 + 0 ≤ 600002; omega, by show slots + 6 + 0 + 0 ≤ 7302232; omega⟩ dL_law_1070 (fun hu3 hp_hu3 => ?_)
  refine g_af (ws' := WM adM g I L S (u2 (u2 Z 3 0 (nI 0)) 3 0 (nI 1)) Y ++ (WC adC g I L S ++ ([OUT ao on ov] : va_W))) (st' := [.int ((u2 (u2 Z 3 0 (nI 0)) 3 0 (nI 1)) 3 0)]) (cells' := cells + 1 + 0 + 0) (slots' := slots + 6 + 0 + 0) (pc' := 1073) rfl rfl rfl rfl rfl ?_
  refine g_st (st' := [.int (nI 1)]) (by first | rfl | (simp [z4, u2]; done)) ?_
  refine g_run X KL_law_1073_142 KL_law_1073_142_d 1075 [(6, .int (nI 0)), (5, .int (nI 1)), (0, .ref b), (1, .ref (adC 0)), (2, .ref (adM 0)), (3, .ref ao), (4, .int (nI (6 * k)))] [.int (nI 1), .int (nI 1)] rfl ?_
  refine g_icmp_eq X 1080 dL_law_1075 (by decide) (fun hc4 => ?_) (fun hc4 => ?_)
  · refine g_run X KL_law_1080_143 KL_law_1080_143_d 1082 [(6, .int (nI 0)), (5, .int (nI 1)), (0, .ref b), (1, .ref (adC 0)), (2, .ref (adM 0)), (3, .ref ao), (4, .int (nI (6 * k)))] [.int (nI 1)] rfl ?_
    refine g_if_ne X 1098 dL_law_1082 (by decide) (fun hc5 => ?_) (fun hc5 => ?_)
    · refine g_run X KL_law_1098_146 KL_law_1098_146_d 2256 [(6, .int (nI 0)), (5, .int (nI 1)), (0, .ref b), (1, .ref (adC 0)), (2, .ref (adM 0)), (3, .ref ao), (4, .int (nI (6 * k)))] [] rfl ?_
      refine g_lv (lv' := [(0, .ref b), (1, .ref (adC 0)), (2, .ref (adM 0)), (3, .ref ao), (4, .int (nI (6 * k)))]) (lsub_c 2 rfl (lsub_c 3 rfl (lsub_c 4 rfl (lsub_c 5 rfl (lsub_c 6 rfl (lsub_n)))))) ?_
      refine g_perm (ws' := (WC adC g I L S ++ ([OUT ao on ov] : va_W)) ++ WM adM g I L S (u2 (u2 Z 3 0 (nI 0)) 3 0 (nI 1)) Y) (List.perm_append_comm (l₁ := (WC adC g I L S ++ ([OUT ao on ov] : va_W))) (l₂ := WM adM g I L S (u2 (u2 Z 3 0 (nI 0)) 3 0 (nI 1)) Y)) ?_
      refine g_widen (k := cells + 60) (n := slots + 1200) (by omega) (by omega) ?_
      exact kk I L S n (u2 (u2 Z 3 0 (nI 0)) 3 0 (nI 1)) Y R on ov (hI) (hR) (by first | exact hZ | (rw [zrow]; exact hZ) | (rw [zrow, zrow]; exact hZ))
    · rw [nz_eq (by omega)] at hc5; first | omega | (simp at hc5)
  · rw [nI_eq (by omega) (by omega)] at hc4; first | omega | (simp at hc4)

theorem lq13 {p : Program} {l : Launch} {e : Env} {s : State} {m : MethodId} {below : List Frame} {meth : Method} {c : Code} {Q : State → Prop} {D : va_G} {A : Nat → Prop} {b N : Nat} {xs : Nat → Int32} {adC adM : Nat → Nat} {g : Nat → ClassId} {ao k cells slots : Nat} {I : Nat → Nat → Int32} {L : Nat → Nat → Int64} {S : Nat → Nat} {n : Nat} {Z : Nat → Nat → Int32} {Y : Int64} {R : Nat → Nat} {on : Int64} {ov : Value} (HX : LX p l s m meth c A b N xs) (hk : 6 * k + 6 ≤ N) (hroom : cells + 60 ≤ 600002 ∧ slots + 1200 ≤ 7302232) (hI : Inv I L S n) (hR : R16 R) (hZ : Z 0 = fun j => nI (R j)) (kk : LK p l e s m below meth c Q D A b adC adM g ao k cells slots 2256) : GL p l e room_1 s m #[.ref b] below meth c Q D CL (TYS g) A 9 (WL adC adM g ao I L S Z Y on ov) cells slots 1032 [(0, .ref b), (1, .ref (adC 0)), (2, .ref (adM 0)), (3, .ref ao), (4, .int (nI (6 * k)))] [] := by
  rcases rg (xs (6 * k + 1)) 0 16 with ⟨a1, hl1, hu1, e1⟩ | hw
  · rcases rg (xs (6 * k + 2)) 0 16 with ⟨a2, hl2, hu2, e2⟩ | hw
    · exact lq13_0 HX hk hroom hI hR hZ  a1 hl1 hu1 e1 a2 hl2 hu2 e2 kk
    · exact lq13_2 HX hk hroom hI hR hZ  a1 hl1 hu1 e1 hw kk
  · exact lq13_1 HX hk hroom hI hR hZ  hw kk

def KL_law_1101_147 : List (Nat × Instr × Nat) := [(1101, .aload_n 1, 1), (1102, .aload_n 0, 1), (1103, .iload 4, 2), (1105, .iconst 1, 1), (1106, .iadd, 1)]
theorem KL_law_1101_147_d : ∀ z ∈ KL_law_1101_147, decode cL_law z.1 = .ok z.2 := by decide +kernel
def KL_law_1108_148 : List (Nat × Instr × Nat) := [(1108, .aload_n 3, 1)]
theorem KL_law_1108_148_d : ∀ z ∈ KL_law_1108_148, decode cL_law z.1 = .ok z.2 := by decide +kernel
def KL_law_1112_149 : List (Nat × Instr × Nat) := [(1112, .istore 5, 2), (1114, .aload_n 2, 1), (1115, .aload_n 0, 1), (1116, .iload 4, 2), (1118, .iconst 1, 1), (1119, .iadd, 1)]
theorem KL_law_1112_149_d : ∀ z ∈ KL_law_1112_149, decode cL_law z.1 = .ok z.2 := by decide +kernel
def KL_law_1124_150 : List (Nat × Instr × Nat) := [(1124, .istore 6, 2), (1126, .aload_n 2, 1)]
theorem KL_law_1124_150_d : ∀ z ∈ KL_law_1124_150, decode cL_law z.1 = .ok z.2 := by decide +kernel
def KL_law_1130_151 : List (Nat × Instr × Nat) := [(1130, .iload 5, 2)]
theorem KL_law_1130_151_d : ∀ z ∈ KL_law_1130_151, decode cL_law z.1 = .ok z.2 := by decide +kernel
def KL_law_1137_152 : List (Nat × Instr × Nat) := [(1137, .iload 5, 2)]
theorem KL_law_1137_152_d : ∀ z ∈ KL_law_1137_152, decode cL_law z.1 = .ok z.2 := by decide +kernel
def KL_law_1142_153 : List (Nat × Instr × Nat) := [(1142, .aload_n 3, 1)]
theorem KL_law_1142_153_d : ∀ z ∈ KL_law_1142_153, decode cL_law z.1 = .ok z.2 := by decide +kernel
def KL_law_1146_154 : List (Nat × Instr × Nat) := [(1146, .iload 6, 2), (1148, .i2l, 1), (1149, .lcmp, 1)]
theorem KL_law_1146_154_d : ∀ z ∈ KL_law_1146_154, decode cL_law z.1 = .ok z.2 := by decide +kernel
def KL_law_1155_155 : List (Nat × Instr × Nat) := [(1155, .goto 1101, 3)]
theorem KL_law_1155_155_d : ∀ z ∈ KL_law_1155_155, decode cL_law z.1 = .ok z.2 := by decide +kernel
set_option maxHeartbeats 4000000 in
set_option maxRecDepth 100000 in
theorem lq14_0 {p : Program} {l : Launch} {e : Env} {s : State} {m : MethodId} {below : List Frame} {meth : Method} {c : Code} {Q : State → Prop} {D : va_G} {A : Nat → Prop} {b N : Nat} {xs : Nat → Int32} {adC adM : Nat → Nat} {g : Nat → ClassId} {ao k cells slots : Nat} {I : Nat → Nat → Int32} {L : Nat → Nat → Int64} {S : Nat → Nat} {n : Nat} {Z : Nat → Nat → Int32} {Y : Int64} {R : Nat → Nat} {on : Int64} {ov : Value} (HX : LX p l s m meth c A b N xs) (hk : 6 * k + 6 ≤ N) (hroom : cells + 60 ≤ 600002 ∧ slots + 1200 ≤ 7302232) (hI : Inv I L S n) (hR : R16 R) (hZ : Z 0 = fun j => nI (R j)) (a1 : Nat) (hl1 : 0 ≤ a1) (hu1 : a1 < 1000) (e1 : xs (6 * k + 1) = nI a1) (kk : LK p l e s m below meth c Q D A b adC adM g ao k cells slots 2256) : GL p l e room_1 s m #[.ref b] below meth c Q D CL (TYS g) A 9 (WL adC adM g ao I L S Z Y on ov) cells slots 1101 [(0, .ref b), (1, .ref (adC 0)), (2, .ref (adM 0)), (3, .ref ao), (4, .int (nI (6 * k)))] [] := by
  obtain ⟨X, hSB, hAf, hNC, hfl, hX, hbl, hbA, hN⟩ := HX
  refine g_run X KL_law_1101_147 KL_law_1101_147_d 1107 [(0, .ref b), (1, .ref (adC 0)), (2, .ref (adM 0)), (3, .ref ao), (4, .int (nI (6 * k)))] [.int ((nI (6 * k)) + (nI 1)), .ref b, .ref (adC 0)] rfl ?_
  refine g_nm (lv' := [(0, .ref b), (1, .ref (adC 0)), (2, .ref (adM 0)), (3, .ref ao), (4, .int (nI (6 * k)))]) (st' := [.int (nI ((6 * k) + 1)), .ref b, .ref (adC 0)]) (by simp only [nI_add]) (by simp only [nI_add]) ?_
  refine g_sld X hX hbl hbA hN (v := nI a1) (by omega) e1 dL_law_1107 ?_
  refine g_run X KL_law_1108_148 KL_law_1108_148_d 1109 [(0, .ref b), (1, .ref (adC 0)), (2, .ref (adM 0)), (3, .ref ao), (4, .int (nI (6 * k)))] [.ref ao, .int (nI a1), .ref (adC 0)] rfl ?_
  refine g_callSW X hSB hAf hNC (As := [.ref (adC 0), .int (nI a1), .ref ao]) (wr := WM adM g I L S Z Y) (n := 3) (hc_power l D g adC I L S a1 ao on ov (by first | assumption | omega)) rfl w_689 w_687 w_688 w_0 (by decide +kernel) rfl ⟨Nat.le_of_ble_eq_true rfl, Nat.le_of_ble_eq_true rfl⟩ rfl rfl rfl (Nat.le_of_ble_eq_true rfl) ⟨by show cells + 0 ≤ 600002; omega, by show slots + 0 ≤ 7302232; omega⟩ dL_law_1109 (fun hu1 _ => ?_)
  refine g_af (ws' := (WC adC g I L S ++ ([OUT ao ((nI (tp 1 a1)).toInt64) ov] : va_W)) ++ WM adM g I L S Z Y) (st' := [.int (nI 0)]) (cells' := cells + 0) (slots' := slots + 0) (pc' := 1112) rfl rfl rfl rfl rfl ?_
  refine g_run X KL_law_1112_149 KL_law_1112_149_d 1120 [(5, .int (nI 0)), (0, .ref b), (1, .ref (adC 0)), (2, .ref (adM 0)), (3, .ref ao), (4, .int (nI (6 * k)))] [.int ((nI (6 * k)) + (nI 1)), .ref b, .ref (adM 0)] rfl ?_
  refine g_nm (lv' := [(5, .int (nI 0)), (0, .ref b), (1, .ref (adC 0)), (2, .ref (adM 0)), (3, .ref ao), (4, .int (nI (6 * k)))]) (st' := [.int (nI ((6 * k) + 1)), .ref b, .ref (adM 0)]) (by simp only [nI_add]) (by simp only [nI_add]) ?_
  refine g_sld X hX hbl hbA hN (v := nI a1) (by omega) e1 dL_law_1120 ?_
  refine g_perm (ws' := WM adM g I L S Z Y ++ (WC adC g I L S ++ ([OUT ao ((nI (tp 1 a1)).toInt64) ov] : va_W))) (List.perm_append_comm (l₁ := WM adM g I L S Z Y) (l₂ := (WC adC g I L S ++ ([OUT ao ((nI (tp 1 a1)).toInt64) ov] : va_W)))) ?_
  refine g_callV X hSB hAf srcW (hrc1 := (rfl : CL[8]? = some _)) (wm_mem (k := 0) (by decide)) rfl (As := [.int (nI a1)]) (wr := WC adC g I L S ++ ([OUT ao ((nI (tp 1 a1)).toInt64) ov] : va_W)) (n := 1) (c_X9_power l D g adM I L S Z Y a1 (by first | assumption | omega)) rfl srcN hrdN w_1432 w_1429 w_1430 w_1431 w_6 (by decide +kernel) rfl ⟨Nat.le_of_ble_eq_true rfl, Nat.le_of_ble_eq_true rfl⟩ rfl rfl rfl (Nat.le_of_ble_eq_true rfl) ⟨by show cells + 0 + 0 ≤ 600002; omega, by show slots + 0 + 0 ≤ 7302232; omega⟩ dL_law_1121 (fun hu2 hp_hu2 => ?_)
  refine g_af (ws' := WM adM g I L S (u2 Z 3 0 (nI 0)) Y ++ (WC adC g I L S ++ ([OUT ao ((nI (tp 1 a1)).toInt64) ov] : va_W))) (st' := [.int (nI (pw (a1 % 15)))]) (cells' := cells + 0 + 0) (slots' := slots + 0 + 0) (pc' := 1124) rfl rfl rfl rfl rfl ?_
  refine g_run X KL_law_1124_150 KL_law_1124_150_d 1127 [(6, .int (nI (pw (a1 % 15)))), (5, .int (nI 0)), (0, .ref b), (1, .ref (adC 0)), (2, .ref (adM 0)), (3, .ref ao), (4, .int (nI (6 * k)))] [.ref (adM 0)] rfl ?_
  refine g_callV X hSB hAf srcW (hrc1 := (rfl : CL[8]? = some _)) (wm_mem (k := 0) (by decide)) rfl (As := []) (wr := WC adC g I L S ++ ([OUT ao ((nI (tp 1 a1)).toInt64) ov] : va_W)) (n := 0) (c_X9_thrown l D g adM I L S (u2 Z 3 0 (nI 0)) Y ) rfl srcN hrdN w_1250 w_1247 w_1248 w_1249 w_6 (by decide +kernel) rfl ⟨Nat.le_of_ble_eq_true rfl, Nat.le_of_ble_eq_true rfl⟩ rfl rfl rfl (Nat.le_of_ble_eq_true rfl) ⟨by show cells + 0 + 0 + 0 ≤ 600002; omega, by show slots + 0 + 0 + 0 ≤ 7302232; omega⟩ dL_law_1127 (fun hu3 hp_hu3 => ?_)
  refine g_af (ws' := WM adM g I L S (u2 Z 3 0 (nI 0)) Y ++ (WC adC g I L S ++ ([OUT ao ((nI (tp 1 a1)).toInt64) ov] : va_W))) (st' := [.int ((u2 Z 3 0 (nI 0)) 3 0)]) (cells' := cells + 0 + 0 + 0) (slots' := slots + 0 + 0 + 0) (pc' := 1130) rfl rfl rfl rfl rfl ?_
  refine g_st (st' := [.int (nI 0)]) (by first | rfl | (simp [z4, u2]; done)) ?_
  refine g_run X KL_law_1130_151 KL_law_1130_151_d 1132 [(6, .int (nI (pw (a1 % 15)))), (5, .int (nI 0)), (0, .ref b), (1, .ref (adC 0)), (2, .ref (adM 0)), (3, .ref ao), (4, .int (nI (6 * k)))] [.int (nI 0), .int (nI 0)] rfl ?_
  refine g_icmp_eq X 1137 dL_law_1132 (by decide) (fun hc4 => ?_) (fun hc4 => ?_)
  · refine g_run X KL_law_1137_152 KL_law_1137_152_d 1139 [(6, .int (nI (pw (a1 % 15)))), (5, .int (nI 0)), (0, .ref b), (1, .ref (adC 0)), (2, .ref (adM 0)), (3, .ref ao), (4, .int (nI (6 * k)))] [.int (nI 0)] rfl ?_
    refine g_if_ne X 1155 dL_law_1139 (by decide) (fun hc5 => ?_) (fun hc5 => ?_)
    · rw [nz_eq (by omega)] at hc5; first | omega | (simp at hc5)
    · refine g_run X KL_law_1142_153 KL_law_1142_153_d 1143 [(6, .int (nI (pw (a1 % 15)))), (5, .int (nI 0)), (0, .ref b), (1, .ref (adC 0)), (2, .ref (adM 0)), (3, .ref ao), (4, .int (nI (6 * k)))] [.ref ao] rfl ?_
      refine g_getN X srcW (host := "ChipfieldLaw") (v := .long ((nI (tp 1 a1)).toInt64)) hinX6 rfl 0 (by decide) (nw_in n_489 rfl) rfl (List.mem_append_right _ (List.mem_append_right _ List.mem_cons_self)) rfl dL_law_1143 ?_
      refine g_run X KL_law_1146_154 KL_law_1146_154_d 1150 [(6, .int (nI (pw (a1 % 15)))), (5, .int (nI 0)), (0, .ref b), (1, .ref (adC 0)), (2, .ref (adM 0)), (3, .ref ao), (4, .int (nI (6 * k)))] [.int (lg_cmp ((nI (tp 1 a1)).toInt64) ((nI (pw (a1 % 15))).toInt64))] rfl ?_
      refine g_if_eq X 1155 dL_law_1150 (by decide) (fun hc6 => ?_) (fun hc6 => ?_)
      · refine g_run X KL_law_1155_155 KL_law_1155_155_d 2256 [(6, .int (nI (pw (a1 % 15)))), (5, .int (nI 0)), (0, .ref b), (1, .ref (adC 0)), (2, .ref (adM 0)), (3, .ref ao), (4, .int (nI (6 * k)))] [] rfl ?_
        refine g_lv (lv' := [(0, .ref b), (1, .ref (adC 0)), (2, .ref (adM 0)), (3, .ref ao), (4, .int (nI (6 * k)))]) (lsub_c 2 rfl (lsub_c 3 rfl (lsub_c 4 rfl (lsub_c 5 rfl (lsub_c 6 rfl (lsub_n)))))) ?_
        refine g_perm (ws' := (WC adC g I L S ++ ([OUT ao ((nI (tp 1 a1)).toInt64) ov] : va_W)) ++ WM adM g I L S (u2 Z 3 0 (nI 0)) Y) (List.perm_append_comm (l₁ := (WC adC g I L S ++ ([OUT ao ((nI (tp 1 a1)).toInt64) ov] : va_W))) (l₂ := WM adM g I L S (u2 Z 3 0 (nI 0)) Y)) ?_
        refine g_widen (k := cells + 60) (n := slots + 1200) (by omega) (by omega) ?_
        exact kk I L S n (u2 Z 3 0 (nI 0)) Y R ((nI (tp 1 a1)).toInt64) ov (hI) (hR) (by first | exact hZ | (rw [zrow]; exact hZ) | (rw [zrow, zrow]; exact hZ))
      · exact absurd (by rw [tp_1]; exact lg_self) hc6
  · rw [nI_eq (by omega) (by omega)] at hc4; first | omega | (simp at hc4)

set_option maxHeartbeats 4000000 in
set_option maxRecDepth 100000 in
theorem lq14_1 {p : Program} {l : Launch} {e : Env} {s : State} {m : MethodId} {below : List Frame} {meth : Method} {c : Code} {Q : State → Prop} {D : va_G} {A : Nat → Prop} {b N : Nat} {xs : Nat → Int32} {adC adM : Nat → Nat} {g : Nat → ClassId} {ao k cells slots : Nat} {I : Nat → Nat → Int32} {L : Nat → Nat → Int64} {S : Nat → Nat} {n : Nat} {Z : Nat → Nat → Int32} {Y : Int64} {R : Nat → Nat} {on : Int64} {ov : Value} (HX : LX p l s m meth c A b N xs) (hk : 6 * k + 6 ≤ N) (hroom : cells + 60 ≤ 600002 ∧ slots + 1200 ≤ 7302232) (hI : Inv I L S n) (hR : R16 R) (hZ : Z 0 = fun j => nI (R j)) (hw : (xs (6 * k + 1)).toInt < (0 : Nat) ∨ ((1000 : Nat) : Int) ≤ (xs (6 * k + 1)).toInt) (kk : LK p l e s m below meth c Q D A b adC adM g ao k cells slots 2256) : GL p l e room_1 s m #[.ref b] below meth c Q D CL (TYS g) A 9 (WL adC adM g ao I L S Z Y on ov) cells slots 1101 [(0, .ref b), (1, .ref (adC 0)), (2, .ref (adM 0)), (3, .ref ao), (4, .int (nI (6 * k)))] [] := by
  obtain ⟨X, hSB, hAf, hNC, hfl, hX, hbl, hbA, hN⟩ := HX
  refine g_run X KL_law_1101_147 KL_law_1101_147_d 1107 [(0, .ref b), (1, .ref (adC 0)), (2, .ref (adM 0)), (3, .ref ao), (4, .int (nI (6 * k)))] [.int ((nI (6 * k)) + (nI 1)), .ref b, .ref (adC 0)] rfl ?_
  refine g_nm (lv' := [(0, .ref b), (1, .ref (adC 0)), (2, .ref (adM 0)), (3, .ref ao), (4, .int (nI (6 * k)))]) (st' := [.int (nI ((6 * k) + 1)), .ref b, .ref (adC 0)]) (by simp only [nI_add]) (by simp only [nI_add]) ?_
  refine g_sld X hX hbl hbA hN (v := xs (6 * k + 1)) (by omega) rfl dL_law_1107 ?_
  refine g_run X KL_law_1108_148 KL_law_1108_148_d 1109 [(0, .ref b), (1, .ref (adC 0)), (2, .ref (adM 0)), (3, .ref ao), (4, .int (nI (6 * k)))] [.ref ao, .int (xs (6 * k + 1)), .ref (adC 0)] rfl ?_
  refine g_callSW X hSB hAf hNC (As := [.ref (adC 0), .int (xs (6 * k + 1)), .ref ao]) (wr := WM adM g I L S Z Y) (n := 3) (hx_power_1 l hfl D g adC I L S (xs (6 * k + 1)) ao on ov (out_le (by decide) hw)) rfl w_689 w_687 w_688 w_0 (by decide +kernel) rfl ⟨Nat.le_of_ble_eq_true rfl, Nat.le_of_ble_eq_true rfl⟩ rfl rfl rfl (Nat.le_of_ble_eq_true rfl) ⟨by show cells + 1 ≤ 600002; omega, by show slots + 6 ≤ 7302232; omega⟩ dL_law_1109 (fun hu1 _ => ?_)
  refine g_af (ws' := (WC adC g I L S ++ ([OUT ao on ov] : va_W)) ++ WM adM g I L S Z Y) (st' := [.int (nI 1)]) (cells' := cells + 1) (slots' := slots + 6) (pc' := 1112) rfl rfl rfl rfl rfl ?_
  refine g_run X KL_law_1112_149 KL_law_1112_149_d 1120 [(5, .int (nI 1)), (0, .ref b), (1, .ref (adC 0)), (2, .ref (adM 0)), (3, .ref ao), (4, .int (nI (6 * k)))] [.int ((nI (6 * k)) + (nI 1)), .ref b, .ref (adM 0)] rfl ?_
  refine g_nm (lv' := [(5, .int (nI 1)), (0, .ref b), (1, .ref (adC 0)), (2, .ref (adM 0)), (3, .ref ao), (4, .int (nI (6 * k)))]) (st' := [.int (nI ((6 * k) + 1)), .ref b, .ref (adM 0)]) (by simp only [nI_add]) (by simp only [nI_add]) ?_
  refine g_sld X hX hbl hbA hN (v := xs (6 * k + 1)) (by omega) rfl dL_law_1120 ?_
  refine g_perm (ws' := WM adM g I L S Z Y ++ (WC adC g I L S ++ ([OUT ao on ov] : va_W))) (List.perm_append_comm (l₁ := WM adM g I L S Z Y) (l₂ := (WC adC g I L S ++ ([OUT ao on ov] : va_W)))) ?_
  refine g_callV X hSB hAf srcW (hrc1 := (rfl : CL[8]? = some _)) (wm_mem (k := 0) (by decide)) rfl (As := [.int (xs (6 * k + 1))]) (wr := WC adC g I L S ++ ([OUT ao on ov] : va_W)) (n := 1) (c_X9_power_1 l D g adM I L S Z Y (xs (6 * k + 1)) (out_lo (by decide) (by decide) hw)) rfl srcN hrdN w_1432 w_1429 w_1430 w_1431 w_6 (by decide +kernel) rfl ⟨Nat.le_of_ble_eq_true rfl, Nat.le_of_ble_eq_true rfl⟩ rfl rfl rfl (Nat.le_of_ble_eq_true rfl) ⟨by show cells + 1 + 0 ≤ 600002; omega, by show slots + 6 + 0 ≤ 7302232; omega⟩ dL_law_1121 (fun hu2 hp_hu2 => ?_)
  refine g_af (ws' := WM adM g I L S (u2 (u2 Z 3 0 (nI 0)) 3 0 (nI 1)) Y ++ (WC adC g I L S ++ ([OUT ao on ov] : va_W))) (st' := [.int (nI 0)]) (cells' := cells + 1 + 0) (slots' := slots + 6 + 0) (pc' := 1124) rfl rfl rfl rfl rfl ?_
  refine g_run X KL_law_1124_150 KL_law_1124_150_d 1127 [(6, .int (nI 0)), (5, .int (nI 1)), (0, .ref b), (1, .ref (adC 0)), (2, .ref (adM 0)), (3, .ref ao), (4, .int (nI (6 * k)))] [.ref (adM 0)] rfl ?_
  refine g_callV X hSB hAf srcW (hrc1 := (rfl : CL[8]? = some _)) (wm_mem (k := 0) (by decide)) rfl (As := []) (wr := WC adC g I L S ++ ([OUT ao on ov] : va_W)) (n := 0) (c_X9_thrown l D g adM I L S (u2 (u2 Z 3 0 (nI 0)) 3 0 (nI 1)) Y ) rfl srcN hrdN w_1250 w_1247 w_1248 w_1249 w_6 (by decide +kernel) rfl ⟨Nat.le_of_ble_eq_true rfl, Nat.le_of_ble_eq_true rfl⟩ rfl rfl rfl (Nat.le_of_ble_eq_true rfl) ⟨by show cells + 1 + 0 + 0 ≤ 600002; omega, by show slots + 6 + 0 + 0 ≤ 7302232; omega⟩ dL_law_1127 (fun hu3 hp_hu3 => ?_)
  refine g_af (ws' := WM adM g I L S (u2 (u2 Z 3 0 (nI 0)) 3 0 (nI 1)) Y ++ (WC adC g I L S ++ ([OUT ao on ov] : va_W))) (st' := [.int ((u2 (u2 Z 3 0 (nI 0)) 3 0 (nI 1)) 3 0)]) (cells' := cells + 1 + 0 + 0) (slots' := slots + 6 + 0 + 0) (pc' := 1130) rfl rfl rfl rfl rfl ?_
  refine g_st (st' := [.int (nI 1)]) (by first | rfl | (simp [z4, u2]; done)) ?_
  refine g_run X KL_law_1130_151 KL_law_1130_151_d 1132 [(6, .int (nI 0)), (5, .int (nI 1)), (0, .ref b), (1, .ref (adC 0)), (2, .ref (adM 0)), (3, .ref ao), (4, .int (nI (6 * k)))] [.int (nI 1), .int (nI 1)] rfl ?_
  refine g_icmp_eq X 1137 dL_law_1132 (by decide) (fun hc4 => ?_) (fun hc4 => ?_)
  · refine g_run X KL_law_1137_152 KL_law_1137_152_d 1139 [(6, .int (nI 0)), (5, .int (nI 1)), (0, .ref b), (1, .ref (adC 0)), (2, .ref (adM 0)), (3, .ref ao), (4, .int (nI (6 * k)))] [.int (nI 1)] rfl ?_
    refine g_if_ne X 1155 dL_law_1139 (by decide) (fun hc5 => ?_) (fun hc5 => ?_)
    · refine g_run X KL_law_1155_155 KL_law_1155_155_d 2256 [(6, .int (nI 0)), (5, .int (nI 1)), (0, .ref b), (1, .ref (adC 0)), (2, .ref (adM 0)), (3, .ref ao), (4, .int (nI (6 * k)))] [] rfl ?_
      refine g_lv (lv' := [(0, .ref b), (1, .ref (adC 0)), (2, .ref (adM 0)), (3, .ref ao), (4, .int (nI (6 * k)))]) (lsub_c 2 rfl (lsub_c 3 rfl (lsub_c 4 rfl (lsub_c 5 rfl (lsub_c 6 rfl (lsub_n)))))) ?_
      refine g_perm (ws' := (WC adC g I L S ++ ([OUT ao on ov] : va_W)) ++ WM adM g I L S (u2 (u2 Z 3 0 (nI 0)) 3 0 (nI 1)) Y) (List.perm_append_comm (l₁ := (WC adC g I L S ++ ([OUT ao on ov] : va_W))) (l₂ := WM adM g I L S (u2 (u2 Z 3 0 (nI 0)) 3 0 (nI 1)) Y)) ?_
      refine g_widen (k := cells + 60) (n := slots + 1200) (by omega) (by omega) ?_
      exact kk I L S n (u2 (u2 Z 3 0 (nI 0)) 3 0 (nI 1)) Y R on ov (hI) (hR) (by first | exact hZ | (rw [zrow]; exact hZ) | (rw [zrow, zrow]; exact hZ))
    · rw [nz_eq (by omega)] at hc5; first | omega | (simp at hc5)
  · rw [nI_eq (by omega) (by omega)] at hc4; first | omega | (simp at hc4)

theorem lq14 {p : Program} {l : Launch} {e : Env} {s : State} {m : MethodId} {below : List Frame} {meth : Method} {c : Code} {Q : State → Prop} {D : va_G} {A : Nat → Prop} {b N : Nat} {xs : Nat → Int32} {adC adM : Nat → Nat} {g : Nat → ClassId} {ao k cells slots : Nat} {I : Nat → Nat → Int32} {L : Nat → Nat → Int64} {S : Nat → Nat} {n : Nat} {Z : Nat → Nat → Int32} {Y : Int64} {R : Nat → Nat} {on : Int64} {ov : Value} (HX : LX p l s m meth c A b N xs) (hk : 6 * k + 6 ≤ N) (hroom : cells + 60 ≤ 600002 ∧ slots + 1200 ≤ 7302232) (hI : Inv I L S n) (hR : R16 R) (hZ : Z 0 = fun j => nI (R j)) (kk : LK p l e s m below meth c Q D A b adC adM g ao k cells slots 2256) : GL p l e room_1 s m #[.ref b] below meth c Q D CL (TYS g) A 9 (WL adC adM g ao I L S Z Y on ov) cells slots 1101 [(0, .ref b), (1, .ref (adC 0)), (2, .ref (adM 0)), (3, .ref ao), (4, .int (nI (6 * k)))] [] := by
  rcases rg (xs (6 * k + 1)) 0 1000 with ⟨a1, hl1, hu1, e1⟩ | hw
  · exact lq14_0 HX hk hroom hI hR hZ  a1 hl1 hu1 e1 kk
  · exact lq14_1 HX hk hroom hI hR hZ  hw kk

def KL_law_1158_156 : List (Nat × Instr × Nat) := [(1158, .aload_n 1, 1), (1159, .aload_n 0, 1), (1160, .iload 4, 2), (1162, .iconst 1, 1), (1163, .iadd, 1)]
theorem KL_law_1158_156_d : ∀ z ∈ KL_law_1158_156, decode cL_law z.1 = .ok z.2 := by decide +kernel
def KL_law_1165_157 : List (Nat × Instr × Nat) := [(1165, .i2l, 1), (1166, .bipush 32, 2), (1168, .lshl, 1), (1169, .aload_n 0, 1), (1170, .iload 4, 2), (1172, .iconst 2, 1), (1173, .iadd, 1)]
theorem KL_law_1165_157_d : ∀ z ∈ KL_law_1165_157, decode cL_law z.1 = .ok z.2 := by decide +kernel
def KL_law_1175_158 : List (Nat × Instr × Nat) := [(1175, .i2l, 1)]
theorem KL_law_1175_158_d : ∀ z ∈ KL_law_1175_158, decode cL_law z.1 = .ok z.2 := by decide +kernel
def KL_law_1179_159 : List (Nat × Instr × Nat) := [(1179, .land, 1), (1180, .lor, 1)]
theorem KL_law_1179_159_d : ∀ z ∈ KL_law_1179_159, decode cL_law z.1 = .ok z.2 := by decide +kernel
def KL_law_1181_160 : List (Nat × Instr × Nat) := [(1181, .aload_n 0, 1), (1182, .iload 4, 2), (1184, .iconst 3, 1), (1185, .iadd, 1)]
theorem KL_law_1181_160_d : ∀ z ∈ KL_law_1181_160, decode cL_law z.1 = .ok z.2 := by decide +kernel
def KL_law_1187_161 : List (Nat × Instr × Nat) := [(1187, .aload_n 3, 1)]
theorem KL_law_1187_161_d : ∀ z ∈ KL_law_1187_161, decode cL_law z.1 = .ok z.2 := by decide +kernel
def KL_law_1191_162 : List (Nat × Instr × Nat) := [(1191, .istore 5, 2), (1193, .aload_n 2, 1), (1194, .aload_n 0, 1), (1195, .iload 4, 2), (1197, .iconst 1, 1), (1198, .iadd, 1)]
theorem KL_law_1191_162_d : ∀ z ∈ KL_law_1191_162, decode cL_law z.1 = .ok z.2 := by decide +kernel
def KL_law_1200_163 : List (Nat × Instr × Nat) := [(1200, .i2l, 1), (1201, .bipush 32, 2), (1203, .lshl, 1), (1204, .aload_n 0, 1), (1205, .iload 4, 2), (1207, .iconst 2, 1), (1208, .iadd, 1)]
theorem KL_law_1200_163_d : ∀ z ∈ KL_law_1200_163, decode cL_law z.1 = .ok z.2 := by decide +kernel
def KL_law_1210_164 : List (Nat × Instr × Nat) := [(1210, .i2l, 1)]
theorem KL_law_1210_164_d : ∀ z ∈ KL_law_1210_164, decode cL_law z.1 = .ok z.2 := by decide +kernel
def KL_law_1214_165 : List (Nat × Instr × Nat) := [(1214, .land, 1), (1215, .lor, 1)]
theorem KL_law_1214_165_d : ∀ z ∈ KL_law_1214_165, decode cL_law z.1 = .ok z.2 := by decide +kernel
def KL_law_1216_166 : List (Nat × Instr × Nat) := [(1216, .aload_n 0, 1), (1217, .iload 4, 2), (1219, .iconst 3, 1), (1220, .iadd, 1)]
theorem KL_law_1216_166_d : ∀ z ∈ KL_law_1216_166, decode cL_law z.1 = .ok z.2 := by decide +kernel
def KL_law_1225_167 : List (Nat × Instr × Nat) := [(1225, .istore 6, 2), (1227, .aload_n 2, 1)]
theorem KL_law_1225_167_d : ∀ z ∈ KL_law_1225_167, decode cL_law z.1 = .ok z.2 := by decide +kernel
def KL_law_1231_168 : List (Nat × Instr × Nat) := [(1231, .iload 5, 2)]
theorem KL_law_1231_168_d : ∀ z ∈ KL_law_1231_168, decode cL_law z.1 = .ok z.2 := by decide +kernel
def KL_law_1238_169 : List (Nat × Instr × Nat) := [(1238, .iload 5, 2)]
theorem KL_law_1238_169_d : ∀ z ∈ KL_law_1238_169, decode cL_law z.1 = .ok z.2 := by decide +kernel
def KL_law_1243_170 : List (Nat × Instr × Nat) := [(1243, .aload_n 3, 1)]
theorem KL_law_1243_170_d : ∀ z ∈ KL_law_1243_170, decode cL_law z.1 = .ok z.2 := by decide +kernel
def KL_law_1247_171 : List (Nat × Instr × Nat) := [(1247, .iload 6, 2), (1249, .i2l, 1), (1250, .lcmp, 1)]
theorem KL_law_1247_171_d : ∀ z ∈ KL_law_1247_171, decode cL_law z.1 = .ok z.2 := by decide +kernel
def KL_law_1256_172 : List (Nat × Instr × Nat) := [(1256, .goto 1000, 3)]
theorem KL_law_1256_172_d : ∀ z ∈ KL_law_1256_172, decode cL_law z.1 = .ok z.2 := by decide +kernel
set_option maxHeartbeats 4000000 in
set_option maxRecDepth 100000 in
theorem lq15_0 {p : Program} {l : Launch} {e : Env} {s : State} {m : MethodId} {below : List Frame} {meth : Method} {c : Code} {Q : State → Prop} {D : va_G} {A : Nat → Prop} {b N : Nat} {xs : Nat → Int32} {adC adM : Nat → Nat} {g : Nat → ClassId} {ao k cells slots : Nat} {I : Nat → Nat → Int32} {L : Nat → Nat → Int64} {S : Nat → Nat} {n : Nat} {Z : Nat → Nat → Int32} {Y : Int64} {R : Nat → Nat} {on : Int64} {ov : Value} (HX : LX p l s m meth c A b N xs) (hk : 6 * k + 6 ≤ N) (hroom : cells + 60 ≤ 600002 ∧ slots + 1200 ≤ 7302232) (hI : Inv I L S n) (hR : R16 R) (hZ : Z 0 = fun j => nI (R j)) (a3 : Nat) (hl3 : 0 ≤ a3) (hu3 : a3 < 15) (e3 : xs (6 * k + 3) = nI a3) (dd : Nat) (hdd : dd < 2 ^ 44) (ed : lg2 (xs (6 * k + 1)) (xs (6 * k + 2)) = lN dd) (kk : LK p l e s m below meth c Q D A b adC adM g ao k cells slots 2256) : GL p l e room_1 s m #[.ref b] below meth c Q D CL (TYS g) A 9 (WL adC adM g ao I L S Z Y on ov) cells slots 1158 [(0, .ref b), (1, .ref (adC 0)), (2, .ref (adM 0)), (3, .ref ao), (4, .int (nI (6 * k)))] [] := by
  obtain ⟨X, hSB, hAf, hNC, hfl, hX, hbl, hbA, hN⟩ := HX
  refine g_run X KL_law_1158_156 KL_law_1158_156_d 1164 [(0, .ref b), (1, .ref (adC 0)), (2, .ref (adM 0)), (3, .ref ao), (4, .int (nI (6 * k)))] [.int ((nI (6 * k)) + (nI 1)), .ref b, .ref (adC 0)] rfl ?_
  refine g_nm (lv' := [(0, .ref b), (1, .ref (adC 0)), (2, .ref (adM 0)), (3, .ref ao), (4, .int (nI (6 * k)))]) (st' := [.int (nI ((6 * k) + 1)), .ref b, .ref (adC 0)]) (by simp only [nI_add]) (by simp only [nI_add]) ?_
  refine g_sld X hX hbl hbA hN (v := xs (6 * k + 1)) (by omega) rfl dL_law_1164 ?_
  refine g_run X KL_law_1165_157 KL_law_1165_157_d 1174 [(0, .ref b), (1, .ref (adC 0)), (2, .ref (adM 0)), (3, .ref ao), (4, .int (nI (6 * k)))] [.int ((nI (6 * k)) + (nI 2)), .ref b, .long (((xs (6 * k + 1)).toInt64) <<< ((nI 32).toInt64 &&& 63)), .ref (adC 0)] rfl ?_
  refine g_nm (lv' := [(0, .ref b), (1, .ref (adC 0)), (2, .ref (adM 0)), (3, .ref ao), (4, .int (nI (6 * k)))]) (st' := [.int (nI ((6 * k) + 2)), .ref b, .long (((xs (6 * k + 1)).toInt64) <<< ((nI 32).toInt64 &&& 63)), .ref (adC 0)]) (by simp only [nI_add]) (by simp only [nI_add]) ?_
  refine g_sld X hX hbl hbA hN (v := xs (6 * k + 2)) (by omega) rfl dL_law_1174 ?_
  refine g_run X KL_law_1175_158 KL_law_1175_158_d 1176 [(0, .ref b), (1, .ref (adC 0)), (2, .ref (adM 0)), (3, .ref ao), (4, .int (nI (6 * k)))] [.long ((xs (6 * k + 2)).toInt64), .long (((xs (6 * k + 1)).toInt64) <<< ((nI 32).toInt64 &&& 63)), .ref (adC 0)] rfl ?_
  refine g_ldc2 X (v := (4294967295 : Int64)) w_1562 dL_law_1176 ?_
  refine g_run X KL_law_1179_159 KL_law_1179_159_d 1181 [(0, .ref b), (1, .ref (adC 0)), (2, .ref (adM 0)), (3, .ref ao), (4, .int (nI (6 * k)))] [.long ((((xs (6 * k + 1)).toInt64) <<< ((nI 32).toInt64 &&& 63)) ||| (((xs (6 * k + 2)).toInt64) &&& (4294967295 : Int64))), .ref (adC 0)] rfl ?_
  refine g_st (st' := [.long (lN dd), .ref (adC 0)]) (by rw [← ed]; rfl) ?_
  refine g_run X KL_law_1181_160 KL_law_1181_160_d 1186 [(0, .ref b), (1, .ref (adC 0)), (2, .ref (adM 0)), (3, .ref ao), (4, .int (nI (6 * k)))] [.int ((nI (6 * k)) + (nI 3)), .ref b, .long (lN dd), .ref (adC 0)] rfl ?_
  refine g_nm (lv' := [(0, .ref b), (1, .ref (adC 0)), (2, .ref (adM 0)), (3, .ref ao), (4, .int (nI (6 * k)))]) (st' := [.int (nI ((6 * k) + 3)), .ref b, .long (lN dd), .ref (adC 0)]) (by simp only [nI_add]) (by simp only [nI_add]) ?_
  refine g_sld X hX hbl hbA hN (v := nI a3) (by omega) e3 dL_law_1186 ?_
  refine g_run X KL_law_1187_161 KL_law_1187_161_d 1188 [(0, .ref b), (1, .ref (adC 0)), (2, .ref (adM 0)), (3, .ref ao), (4, .int (nI (6 * k)))] [.ref ao, .int (nI a3), .long (lN dd), .ref (adC 0)] rfl ?_
  refine g_callSW X hSB hAf hNC (As := [.ref (adC 0), .long (lN dd), .int (nI a3), .ref ao]) (wr := WM adM g I L S Z Y) (n := 4) (hc_symbol l D g adC I L S (lN dd) a3 ao on ov (dOK_l hdd) (by first | assumption | omega)) rfl w_698 w_696 w_697 w_0 (by decide +kernel) rfl ⟨Nat.le_of_ble_eq_true rfl, Nat.le_of_ble_eq_true rfl⟩ rfl rfl rfl (Nat.le_of_ble_eq_true rfl) ⟨by show cells + 0 ≤ 600002; omega, by show slots + 0 ≤ 7302232; omega⟩ dL_law_1188 (fun hu1 _ => ?_)
  refine g_af (ws' := (WC adC g I L S ++ ([OUT ao ((nI (nib (wdO (lN dd)) a3)).toInt64) ov] : va_W)) ++ WM adM g I L S Z Y) (st' := [.int (nI 0)]) (cells' := cells + 0) (slots' := slots + 0) (pc' := 1191) rfl rfl rfl rfl rfl ?_
  refine g_run X KL_law_1191_162 KL_law_1191_162_d 1199 [(5, .int (nI 0)), (0, .ref b), (1, .ref (adC 0)), (2, .ref (adM 0)), (3, .ref ao), (4, .int (nI (6 * k)))] [.int ((nI (6 * k)) + (nI 1)), .ref b, .ref (adM 0)] rfl ?_
  refine g_nm (lv' := [(5, .int (nI 0)), (0, .ref b), (1, .ref (adC 0)), (2, .ref (adM 0)), (3, .ref ao), (4, .int (nI (6 * k)))]) (st' := [.int (nI ((6 * k) + 1)), .ref b, .ref (adM 0)]) (by simp only [nI_add]) (by simp only [nI_add]) ?_
  refine g_sld X hX hbl hbA hN (v := xs (6 * k + 1)) (by omega) rfl dL_law_1199 ?_
  refine g_run X KL_law_1200_163 KL_law_1200_163_d 1209 [(5, .int (nI 0)), (0, .ref b), (1, .ref (adC 0)), (2, .ref (adM 0)), (3, .ref ao), (4, .int (nI (6 * k)))] [.int ((nI (6 * k)) + (nI 2)), .ref b, .long (((xs (6 * k + 1)).toInt64) <<< ((nI 32).toInt64 &&& 63)), .ref (adM 0)] rfl ?_
  refine g_nm (lv' := [(5, .int (nI 0)), (0, .ref b), (1, .ref (adC 0)), (2, .ref (adM 0)), (3, .ref ao), (4, .int (nI (6 * k)))]) (st' := [.int (nI ((6 * k) + 2)), .ref b, .long (((xs (6 * k + 1)).toInt64) <<< ((nI 32).toInt64 &&& 63)), .ref (adM 0)]) (by simp only [nI_add]) (by simp only [nI_add]) ?_
  refine g_sld X hX hbl hbA hN (v := xs (6 * k + 2)) (by omega) rfl dL_law_1209 ?_
  refine g_run X KL_law_1210_164 KL_law_1210_164_d 1211 [(5, .int (nI 0)), (0, .ref b), (1, .ref (adC 0)), (2, .ref (adM 0)), (3, .ref ao), (4, .int (nI (6 * k)))] [.long ((xs (6 * k + 2)).toInt64), .long (((xs (6 * k + 1)).toInt64) <<< ((nI 32).toInt64 &&& 63)), .ref (adM 0)] rfl ?_
  refine g_ldc2 X (v := (4294967295 : Int64)) w_1562 dL_law_1211 ?_
  refine g_run X KL_law_1214_165 KL_law_1214_165_d 1216 [(5, .int (nI 0)), (0, .ref b), (1, .ref (adC 0)), (2, .ref (adM 0)), (3, .ref ao), (4, .int (nI (6 * k)))] [.long ((((xs (6 * k + 1)).toInt64) <<< ((nI 32).toInt64 &&& 63)) ||| (((xs (6 * k + 2)).toInt64) &&& (4294967295 : Int64))), .ref (adM 0)] rfl ?_
  refine g_st (st' := [.long (lN dd), .ref (adM 0)]) (by rw [← ed]; rfl) ?_
  refine g_run X KL_law_1216_166 KL_law_1216_166_d 1221 [(5, .int (nI 0)), (0, .ref b), (1, .ref (adC 0)), (2, .ref (adM 0)), (3, .ref ao), (4, .int (nI (6 * k)))] [.int ((nI (6 * k)) + (nI 3)), .ref b, .long (lN dd), .ref (adM 0)] rfl ?_
  refine g_nm (lv' := [(5, .int (nI 0)), (0, .ref b), (1, .ref (adC 0)), (2, .ref (adM 0)), (3, .ref ao), (4, .int (nI (6 * k)))]) (st' := [.int (nI ((6 * k) + 3)), .ref b, .long (lN dd), .ref (adM 0)]) (by simp only [nI_add]) (by simp only [nI_add]) ?_
  refine g_sld X hX hbl hbA hN (v := nI a3) (by omega) e3 dL_law_1221 ?_
  refine g_perm (ws' := WM adM g I L S Z Y ++ (WC adC g I L S ++ ([OUT ao ((nI (nib (wdO (lN dd)) a3)).toInt64) ov] : va_W))) (List.perm_append_comm (l₁ := WM adM g I L S Z Y) (l₂ := (WC adC g I L S ++ ([OUT ao ((nI (nib (wdO (lN dd)) a3)).toInt64) ov] : va_W)))) ?_
  refine g_callV X hSB hAf srcW (hrc1 := (rfl : CL[8]? = some _)) (wm_mem (k := 0) (by decide)) rfl (As := [.long (lN dd), .int (nI a3)]) (wr := WC adC g I L S ++ ([OUT ao ((nI (nib (wdO (lN dd)) a3)).toInt64) ov] : va_W)) (n := 2) (c_X9_symbol l D g adM I L S Z Y dd a3 R (hR) (hZ) (by first | assumption | omega) (by first | assumption | omega)) rfl srcN hrdN w_1436 w_1433 w_1434 w_1435 w_6 (by decide +kernel) rfl ⟨Nat.le_of_ble_eq_true rfl, Nat.le_of_ble_eq_true rfl⟩ rfl rfl rfl (Nat.le_of_ble_eq_true rfl) ⟨by show cells + 0 + 1 ≤ 600002; omega, by show slots + 0 + 15 ≤ 7302232; omega⟩ dL_law_1222 (fun hu2 hp_hu2 => ?_)
  refine g_af (ws' := WM adM g I L S (z4 (u2 Z 3 0 (nI 0)) hu2.1 hu2.2 (wA (wdO (lN dd)))) Y ++ (WC adC g I L S ++ ([OUT ao ((nI (nib (wdO (lN dd)) a3)).toInt64) ov] : va_W))) (st' := [.int (nI (nib (wdO (lN dd)) a3))]) (cells' := cells + 0 + 1) (slots' := slots + 0 + 15) (pc' := 1225) rfl rfl rfl rfl rfl ?_
  refine g_run X KL_law_1225_167 KL_law_1225_167_d 1228 [(6, .int (nI (nib (wdO (lN dd)) a3))), (5, .int (nI 0)), (0, .ref b), (1, .ref (adC 0)), (2, .ref (adM 0)), (3, .ref ao), (4, .int (nI (6 * k)))] [.ref (adM 0)] rfl ?_
  refine g_callV X hSB hAf srcW (hrc1 := (rfl : CL[8]? = some _)) (wm_mem (k := 0) (by decide)) rfl (As := []) (wr := WC adC g I L S ++ ([OUT ao ((nI (nib (wdO (lN dd)) a3)).toInt64) ov] : va_W)) (n := 0) (c_X9_thrown l D g adM I L S (z4 (u2 Z 3 0 (nI 0)) hu2.1 hu2.2 (wA (wdO (lN dd)))) Y ) rfl srcN hrdN w_1250 w_1247 w_1248 w_1249 w_6 (by decide +kernel) rfl ⟨Nat.le_of_ble_eq_true rfl, Nat.le_of_ble_eq_true rfl⟩ rfl rfl rfl (Nat.le_of_ble_eq_true rfl) ⟨by show cells + 0 + 1 + 0 ≤ 600002; omega, by show slots + 0 + 15 + 0 ≤ 7302232; omega⟩ dL_law_1228 (fun hu3 hp_hu3 => ?_)
  refine g_af (ws' := WM adM g I L S (z4 (u2 Z 3 0 (nI 0)) hu2.1 hu2.2 (wA (wdO (lN dd)))) Y ++ (WC adC g I L S ++ ([OUT ao ((nI (nib (wdO (lN dd)) a3)).toInt64) ov] : va_W))) (st' := [.int ((z4 (u2 Z 3 0 (nI 0)) hu2.1 hu2.2 (wA (wdO (lN dd)))) 3 0)]) (cells' := cells + 0 + 1 + 0) (slots' := slots + 0 + 15 + 0) (pc' := 1231) rfl rfl rfl rfl rfl ?_
  refine g_st (st' := [.int (nI 0)]) (by first | rfl | (simp [z4, u2]; done)) ?_
  refine g_run X KL_law_1231_168 KL_law_1231_168_d 1233 [(6, .int (nI (nib (wdO (lN dd)) a3))), (5, .int (nI 0)), (0, .ref b), (1, .ref (adC 0)), (2, .ref (adM 0)), (3, .ref ao), (4, .int (nI (6 * k)))] [.int (nI 0), .int (nI 0)] rfl ?_
  refine g_icmp_eq X 1238 dL_law_1233 (by decide) (fun hc4 => ?_) (fun hc4 => ?_)
  · refine g_run X KL_law_1238_169 KL_law_1238_169_d 1240 [(6, .int (nI (nib (wdO (lN dd)) a3))), (5, .int (nI 0)), (0, .ref b), (1, .ref (adC 0)), (2, .ref (adM 0)), (3, .ref ao), (4, .int (nI (6 * k)))] [.int (nI 0)] rfl ?_
    refine g_if_ne X 1256 dL_law_1240 (by decide) (fun hc5 => ?_) (fun hc5 => ?_)
    · rw [nz_eq (by omega)] at hc5; first | omega | (simp at hc5)
    · refine g_run X KL_law_1243_170 KL_law_1243_170_d 1244 [(6, .int (nI (nib (wdO (lN dd)) a3))), (5, .int (nI 0)), (0, .ref b), (1, .ref (adC 0)), (2, .ref (adM 0)), (3, .ref ao), (4, .int (nI (6 * k)))] [.ref ao] rfl ?_
      refine g_getN X srcW (host := "ChipfieldLaw") (v := .long ((nI (nib (wdO (lN dd)) a3)).toInt64)) hinX6 rfl 0 (by decide) (nw_in n_489 rfl) rfl (List.mem_append_right _ (List.mem_append_right _ List.mem_cons_self)) rfl dL_law_1244 ?_
      refine g_run X KL_law_1247_171 KL_law_1247_171_d 1251 [(6, .int (nI (nib (wdO (lN dd)) a3))), (5, .int (nI 0)), (0, .ref b), (1, .ref (adC 0)), (2, .ref (adM 0)), (3, .ref ao), (4, .int (nI (6 * k)))] [.int (lg_cmp ((nI (nib (wdO (lN dd)) a3)).toInt64) ((nI (nib (wdO (lN dd)) a3)).toInt64))] rfl ?_
      refine g_if_eq X 1256 dL_law_1251 (by decide) (fun hc6 => ?_) (fun hc6 => ?_)
      · refine g_run X KL_law_1256_172 KL_law_1256_172_d 2256 [(6, .int (nI (nib (wdO (lN dd)) a3))), (5, .int (nI 0)), (0, .ref b), (1, .ref (adC 0)), (2, .ref (adM 0)), (3, .ref ao), (4, .int (nI (6 * k)))] [] rfl ?_
        refine g_lv (lv' := [(0, .ref b), (1, .ref (adC 0)), (2, .ref (adM 0)), (3, .ref ao), (4, .int (nI (6 * k)))]) (lsub_c 2 rfl (lsub_c 3 rfl (lsub_c 4 rfl (lsub_c 5 rfl (lsub_c 6 rfl (lsub_n)))))) ?_
        refine g_perm (ws' := (WC adC g I L S ++ ([OUT ao ((nI (nib (wdO (lN dd)) a3)).toInt64) ov] : va_W)) ++ WM adM g I L S (z4 (u2 Z 3 0 (nI 0)) hu2.1 hu2.2 (wA (wdO (lN dd)))) Y) (List.perm_append_comm (l₁ := (WC adC g I L S ++ ([OUT ao ((nI (nib (wdO (lN dd)) a3)).toInt64) ov] : va_W))) (l₂ := WM adM g I L S (z4 (u2 Z 3 0 (nI 0)) hu2.1 hu2.2 (wA (wdO (lN dd)))) Y)) ?_
        refine g_widen (k := cells + 60) (n := slots + 1200) (by omega) (by omega) ?_
        exact kk I L S n (z4 (u2 Z 3 0 (nI 0)) hu2.1 hu2.2 (wA (wdO (lN dd)))) Y hu2.1 ((nI (nib (wdO (lN dd)) a3)).toInt64) ov (hI) (hp_hu2) (rfl)
      · exact absurd lg_self hc6
  · rw [nI_eq (by omega) (by omega)] at hc4; first | omega | (simp at hc4)

set_option maxHeartbeats 4000000 in
set_option maxRecDepth 100000 in
theorem lq15_2 {p : Program} {l : Launch} {e : Env} {s : State} {m : MethodId} {below : List Frame} {meth : Method} {c : Code} {Q : State → Prop} {D : va_G} {A : Nat → Prop} {b N : Nat} {xs : Nat → Int32} {adC adM : Nat → Nat} {g : Nat → ClassId} {ao k cells slots : Nat} {I : Nat → Nat → Int32} {L : Nat → Nat → Int64} {S : Nat → Nat} {n : Nat} {Z : Nat → Nat → Int32} {Y : Int64} {R : Nat → Nat} {on : Int64} {ov : Value} (HX : LX p l s m meth c A b N xs) (hk : 6 * k + 6 ≤ N) (hroom : cells + 60 ≤ 600002 ∧ slots + 1200 ≤ 7302232) (hI : Inv I L S n) (hR : R16 R) (hZ : Z 0 = fun j => nI (R j)) (a3 : Nat) (hl3 : 0 ≤ a3) (hu3 : a3 < 15) (e3 : xs (6 * k + 3) = nI a3) (hnd : ¬ dOK (lg2 (xs (6 * k + 1)) (xs (6 * k + 2)))) (kk : LK p l e s m below meth c Q D A b adC adM g ao k cells slots 2256) : GL p l e room_1 s m #[.ref b] below meth c Q D CL (TYS g) A 9 (WL adC adM g ao I L S Z Y on ov) cells slots 1158 [(0, .ref b), (1, .ref (adC 0)), (2, .ref (adM 0)), (3, .ref ao), (4, .int (nI (6 * k)))] [] := by
  obtain ⟨X, hSB, hAf, hNC, hfl, hX, hbl, hbA, hN⟩ := HX
  refine g_run X KL_law_1158_156 KL_law_1158_156_d 1164 [(0, .ref b), (1, .ref (adC 0)), (2, .ref (adM 0)), (3, .ref ao), (4, .int (nI (6 * k)))] [.int ((nI (6 * k)) + (nI 1)), .ref b, .ref (adC 0)] rfl ?_
  refine g_nm (lv' := [(0, .ref b), (1, .ref (adC 0)), (2, .ref (adM 0)), (3, .ref ao), (4, .int (nI (6 * k)))]) (st' := [.int (nI ((6 * k) + 1)), .ref b, .ref (adC 0)]) (by simp only [nI_add]) (by simp only [nI_add]) ?_
  refine g_sld X hX hbl hbA hN (v := xs (6 * k + 1)) (by omega) rfl dL_law_1164 ?_
  refine g_run X KL_law_1165_157 KL_law_1165_157_d 1174 [(0, .ref b), (1, .ref (adC 0)), (2, .ref (adM 0)), (3, .ref ao), (4, .int (nI (6 * k)))] [.int ((nI (6 * k)) + (nI 2)), .ref b, .long (((xs (6 * k + 1)).toInt64) <<< ((nI 32).toInt64 &&& 63)), .ref (adC 0)] rfl ?_
  refine g_nm (lv' := [(0, .ref b), (1, .ref (adC 0)), (2, .ref (adM 0)), (3, .ref ao), (4, .int (nI (6 * k)))]) (st' := [.int (nI ((6 * k) + 2)), .ref b, .long (((xs (6 * k + 1)).toInt64) <<< ((nI 32).toInt64 &&& 63)), .ref (adC 0)]) (by simp only [nI_add]) (by simp only [nI_add]) ?_
  refine g_sld X hX hbl hbA hN (v := xs (6 * k + 2)) (by omega) rfl dL_law_1174 ?_
  refine g_run X KL_law_1175_158 KL_law_1175_158_d 1176 [(0, .ref b), (1, .ref (adC 0)), (2, .ref (adM 0)), (3, .ref ao), (4, .int (nI (6 * k)))] [.long ((xs (6 * k + 2)).toInt64), .long (((xs (6 * k + 1)).toInt64) <<< ((nI 32).toInt64 &&& 63)), .ref (adC 0)] rfl ?_
  refine g_ldc2 X (v := (4294967295 : Int64)) w_1562 dL_law_1176 ?_
  refine g_run X KL_law_1179_159 KL_law_1179_159_d 1181 [(0, .ref b), (1, .ref (adC 0)), (2, .ref (adM 0)), (3, .ref ao), (4, .int (nI (6 * k)))] [.long ((((xs (6 * k + 1)).toInt64) <<< ((nI 32).toInt64 &&& 63)) ||| (((xs (6 * k + 2)).toInt64) &&& (4294967295 : Int64))), .ref (adC 0)] rfl ?_
  refine g_st (st' := [.long (lg2 (xs (6 * k + 1)) (xs (6 * k + 2))), .ref (adC 0)]) (rfl) ?_
  refine g_run X KL_law_1181_160 KL_law_1181_160_d 1186 [(0, .ref b), (1, .ref (adC 0)), (2, .ref (adM 0)), (3, .ref ao), (4, .int (nI (6 * k)))] [.int ((nI (6 * k)) + (nI 3)), .ref b, .long (lg2 (xs (6 * k + 1)) (xs (6 * k + 2))), .ref (adC 0)] rfl ?_
  refine g_nm (lv' := [(0, .ref b), (1, .ref (adC 0)), (2, .ref (adM 0)), (3, .ref ao), (4, .int (nI (6 * k)))]) (st' := [.int (nI ((6 * k) + 3)), .ref b, .long (lg2 (xs (6 * k + 1)) (xs (6 * k + 2))), .ref (adC 0)]) (by simp only [nI_add]) (by simp only [nI_add]) ?_
  refine g_sld X hX hbl hbA hN (v := nI a3) (by omega) e3 dL_law_1186 ?_
  refine g_run X KL_law_1187_161 KL_law_1187_161_d 1188 [(0, .ref b), (1, .ref (adC 0)), (2, .ref (adM 0)), (3, .ref ao), (4, .int (nI (6 * k)))] [.ref ao, .int (nI a3), .long (lg2 (xs (6 * k + 1)) (xs (6 * k + 2))), .ref (adC 0)] rfl ?_
  refine g_callSW X hSB hAf hNC (As := [.ref (adC 0), .long (lg2 (xs (6 * k + 1)) (xs (6 * k + 2))), .int (nI a3), .ref ao]) (wr := WM adM g I L S Z Y) (n := 4) (hx_symbol_2 l hfl D g adC I L S (lg2 (xs (6 * k + 1)) (xs (6 * k + 2))) a3 ao on ov (by first | assumption | omega) (hnd)) rfl w_698 w_696 w_697 w_0 (by decide +kernel) rfl ⟨Nat.le_of_ble_eq_true rfl, Nat.le_of_ble_eq_true rfl⟩ rfl rfl rfl (Nat.le_of_ble_eq_true rfl) ⟨by show cells + 1 ≤ 600002; omega, by show slots + 6 ≤ 7302232; omega⟩ dL_law_1188 (fun hu1 _ => ?_)
  refine g_af (ws' := (WC adC g I L S ++ ([OUT ao on ov] : va_W)) ++ WM adM g I L S Z Y) (st' := [.int (nI 2)]) (cells' := cells + 1) (slots' := slots + 6) (pc' := 1191) rfl rfl rfl rfl rfl ?_
  refine g_run X KL_law_1191_162 KL_law_1191_162_d 1199 [(5, .int (nI 2)), (0, .ref b), (1, .ref (adC 0)), (2, .ref (adM 0)), (3, .ref ao), (4, .int (nI (6 * k)))] [.int ((nI (6 * k)) + (nI 1)), .ref b, .ref (adM 0)] rfl ?_
  refine g_nm (lv' := [(5, .int (nI 2)), (0, .ref b), (1, .ref (adC 0)), (2, .ref (adM 0)), (3, .ref ao), (4, .int (nI (6 * k)))]) (st' := [.int (nI ((6 * k) + 1)), .ref b, .ref (adM 0)]) (by simp only [nI_add]) (by simp only [nI_add]) ?_
  refine g_sld X hX hbl hbA hN (v := xs (6 * k + 1)) (by omega) rfl dL_law_1199 ?_
  refine g_run X KL_law_1200_163 KL_law_1200_163_d 1209 [(5, .int (nI 2)), (0, .ref b), (1, .ref (adC 0)), (2, .ref (adM 0)), (3, .ref ao), (4, .int (nI (6 * k)))] [.int ((nI (6 * k)) + (nI 2)), .ref b, .long (((xs (6 * k + 1)).toInt64) <<< ((nI 32).toInt64 &&& 63)), .ref (adM 0)] rfl ?_
  refine g_nm (lv' := [(5, .int (nI 2)), (0, .ref b), (1, .ref (adC 0)), (2, .ref (adM 0)), (3, .ref ao), (4, .int (nI (6 * k)))]) (st' := [.int (nI ((6 * k) + 2)), .ref b, .long (((xs (6 * k + 1)).toInt64) <<< ((nI 32).toInt64 &&& 63)), .ref (adM 0)]) (by simp only [nI_add]) (by simp only [nI_add]) ?_
  refine g_sld X hX hbl hbA hN (v := xs (6 * k + 2)) (by omega) rfl dL_law_1209 ?_
  refine g_run X KL_law_1210_164 KL_law_1210_164_d 1211 [(5, .int (nI 2)), (0, .ref b), (1, .ref (adC 0)), (2, .ref (adM 0)), (3, .ref ao), (4, .int (nI (6 * k)))] [.long ((xs (6 * k + 2)).toInt64), .long (((xs (6 * k + 1)).toInt64) <<< ((nI 32).toInt64 &&& 63)), .ref (adM 0)] rfl ?_
  refine g_ldc2 X (v := (4294967295 : Int64)) w_1562 dL_law_1211 ?_
  refine g_run X KL_law_1214_165 KL_law_1214_165_d 1216 [(5, .int (nI 2)), (0, .ref b), (1, .ref (adC 0)), (2, .ref (adM 0)), (3, .ref ao), (4, .int (nI (6 * k)))] [.long ((((xs (6 * k + 1)).toInt64) <<< ((nI 32).toInt64 &&& 63)) ||| (((xs (6 * k + 2)).toInt64) &&& (4294967295 : Int64))), .ref (adM 0)] rfl ?_
  refine g_st (st' := [.long (lg2 (xs (6 * k + 1)) (xs (6 * k + 2))), .ref (adM 0)]) (rfl) ?_
  refine g_run X KL_law_1216_166 KL_law_1216_166_d 1221 [(5, .int (nI 2)), (0, .ref b), (1, .ref (adC 0)), (2, .ref (adM 0)), (3, .ref ao), (4, .int (nI (6 * k)))] [.int ((nI (6 * k)) + (nI 3)), .ref b, .long (lg2 (xs (6 * k + 1)) (xs (6 * k + 2))), .ref (adM 0)] rfl ?_
  refine g_nm (lv' := [(5, .int (nI 2)), (0, .ref b), (1, .ref (adC 0)), (2, .ref (adM 0)), (3, .ref ao), (4, .int (nI (6 * k)))]) (st' := [.int (nI ((6 * k) + 3)), .ref b, .long (lg2 (xs (6 * k + 1)) (xs (6 * k + 2))), .ref (adM 0)]) (by simp only [nI_add]) (by simp only [nI_add]) ?_
  refine g_sld X hX hbl hbA hN (v := nI a3) (by omega) e3 dL_law_1221 ?_
  refine g_perm (ws' := WM adM g I L S Z Y ++ (WC adC g I L S ++ ([OUT ao on ov] : va_W))) (List.perm_append_comm (l₁ := WM adM g I L S Z Y) (l₂ := (WC adC g I L S ++ ([OUT ao on ov] : va_W)))) ?_
  refine g_callV X hSB hAf srcW (hrc1 := (rfl : CL[8]? = some _)) (wm_mem (k := 0) (by decide)) rfl (As := [.long (lg2 (xs (6 * k + 1)) (xs (6 * k + 2))), .int (nI a3)]) (wr := WC adC g I L S ++ ([OUT ao on ov] : va_W)) (n := 2) (c_X9_symbol_2 l D g adM I L S Z Y (lg2 (xs (6 * k + 1)) (xs (6 * k + 2))) a3 (by first | assumption | omega) (hnd)) rfl srcN hrdN w_1436 w_1433 w_1434 w_1435 w_6 (by decide +kernel) rfl ⟨Nat.le_of_ble_eq_true rfl, Nat.le_of_ble_eq_true rfl⟩ rfl rfl rfl (Nat.le_of_ble_eq_true rfl) ⟨by show cells + 1 + 0 ≤ 600002; omega, by show slots + 6 + 0 ≤ 7302232; omega⟩ dL_law_1222 (fun hu2 hp_hu2 => ?_)
  refine g_af (ws' := WM adM g I L S (u2 (u2 Z 3 0 (nI 0)) 3 0 (nI 2)) Y ++ (WC adC g I L S ++ ([OUT ao on ov] : va_W))) (st' := [.int (nI 0)]) (cells' := cells + 1 + 0) (slots' := slots + 6 + 0) (pc' := 1225) rfl rfl rfl rfl rfl ?_
  refine g_run X KL_law_1225_167 KL_law_1225_167_d 1228 [(6, .int (nI 0)), (5, .int (nI 2)), (0, .ref b), (1, .ref (adC 0)), (2, .ref (adM 0)), (3, .ref ao), (4, .int (nI (6 * k)))] [.ref (adM 0)] rfl ?_
  refine g_callV X hSB hAf srcW (hrc1 := (rfl : CL[8]? = some _)) (wm_mem (k := 0) (by decide)) rfl (As := []) (wr := WC adC g I L S ++ ([OUT ao on ov] : va_W)) (n := 0) (c_X9_thrown l D g adM I L S (u2 (u2 Z 3 0 (nI 0)) 3 0 (nI 2)) Y ) rfl srcN hrdN w_1250 w_1247 w_1248 w_1249 w_6 (by decide +kernel) rfl ⟨Nat.le_of_ble_eq_true rfl, Nat.le_of_ble_eq_true rfl⟩ rfl rfl rfl (Nat.le_of_ble_eq_true rfl) ⟨by show cells + 1 + 0 + 0 ≤ 600002; omega, by show slots + 6 + 0 + 0 ≤ 7302232; omega⟩ dL_law_1228 (fun hu3 hp_hu3 => ?_)
  refine g_af (ws' := WM adM g I L S (u2 (u2 Z 3 0 (nI 0)) 3 0 (nI 2)) Y ++ (WC adC g I L S ++ ([OUT ao on ov] : va_W))) (st' := [.int ((u2 (u2 Z 3 0 (nI 0)) 3 0 (nI 2)) 3 0)]) (cells' := cells + 1 + 0 + 0) (slots' := slots + 6 + 0 + 0) (pc' := 1231) rfl rfl rfl rfl rfl ?_
  refine g_st (st' := [.int (nI 2)]) (by first | rfl | (simp [z4, u2]; done)) ?_
  refine g_run X KL_law_1231_168 KL_law_1231_168_d 1233 [(6, .int (nI 0)), (5, .int (nI 2)), (0, .ref b), (1, .ref (adC 0)), (2, .ref (adM 0)), (3, .ref ao), (4, .int (nI (6 * k)))] [.int (nI 2), .int (nI 2)] rfl ?_
  refine g_icmp_eq X 1238 dL_law_1233 (by decide) (fun hc4 => ?_) (fun hc4 => ?_)
  · refine g_run X KL_law_1238_169 KL_law_1238_169_d 1240 [(6, .int (nI 0)), (5, .int (nI 2)), (0, .ref b), (1, .ref (adC 0)), (2, .ref (adM 0)), (3, .ref ao), (4, .int (nI (6 * k)))] [.int (nI 2)] rfl ?_
    refine g_if_ne X 1256 dL_law_1240 (by decide) (fun hc5 => ?_) (fun hc5 => ?_)
    · refine g_run X KL_law_1256_172 KL_law_1256_172_d 2256 [(6, .int (nI 0)), (5, .int (nI 2)), (0, .ref b), (1, .ref (adC 0)), (2, .ref (adM 0)), (3, .ref ao), (4, .int (nI (6 * k)))] [] rfl ?_
      refine g_lv (lv' := [(0, .ref b), (1, .ref (adC 0)), (2, .ref (adM 0)), (3, .ref ao), (4, .int (nI (6 * k)))]) (lsub_c 2 rfl (lsub_c 3 rfl (lsub_c 4 rfl (lsub_c 5 rfl (lsub_c 6 rfl (lsub_n)))))) ?_
      refine g_perm (ws' := (WC adC g I L S ++ ([OUT ao on ov] : va_W)) ++ WM adM g I L S (u2 (u2 Z 3 0 (nI 0)) 3 0 (nI 2)) Y) (List.perm_append_comm (l₁ := (WC adC g I L S ++ ([OUT ao on ov] : va_W))) (l₂ := WM adM g I L S (u2 (u2 Z 3 0 (nI 0)) 3 0 (nI 2)) Y)) ?_
      refine g_widen (k := cells + 60) (n := slots + 1200) (by omega) (by omega) ?_
      exact kk I L S n (u2 (u2 Z 3 0 (nI 0)) 3 0 (nI 2)) Y R on ov (hI) (hR) (by first | exact hZ | (rw [zrow]; exact hZ) | (rw [zrow, zrow]; exact hZ))
    · rw [nz_eq (by omega)] at hc5; first | omega | (simp at hc5)
  · rw [nI_eq (by omega) (by omega)] at hc4; first | omega | (simp at hc4)

set_option maxHeartbeats 4000000 in
set_option maxRecDepth 100000 in
theorem lq15_1 {p : Program} {l : Launch} {e : Env} {s : State} {m : MethodId} {below : List Frame} {meth : Method} {c : Code} {Q : State → Prop} {D : va_G} {A : Nat → Prop} {b N : Nat} {xs : Nat → Int32} {adC adM : Nat → Nat} {g : Nat → ClassId} {ao k cells slots : Nat} {I : Nat → Nat → Int32} {L : Nat → Nat → Int64} {S : Nat → Nat} {n : Nat} {Z : Nat → Nat → Int32} {Y : Int64} {R : Nat → Nat} {on : Int64} {ov : Value} (HX : LX p l s m meth c A b N xs) (hk : 6 * k + 6 ≤ N) (hroom : cells + 60 ≤ 600002 ∧ slots + 1200 ≤ 7302232) (hI : Inv I L S n) (hR : R16 R) (hZ : Z 0 = fun j => nI (R j)) (hw : (xs (6 * k + 3)).toInt < (0 : Nat) ∨ ((15 : Nat) : Int) ≤ (xs (6 * k + 3)).toInt) (kk : LK p l e s m below meth c Q D A b adC adM g ao k cells slots 2256) : GL p l e room_1 s m #[.ref b] below meth c Q D CL (TYS g) A 9 (WL adC adM g ao I L S Z Y on ov) cells slots 1158 [(0, .ref b), (1, .ref (adC 0)), (2, .ref (adM 0)), (3, .ref ao), (4, .int (nI (6 * k)))] [] := by
  obtain ⟨X, hSB, hAf, hNC, hfl, hX, hbl, hbA, hN⟩ := HX
  refine g_run X KL_law_1158_156 KL_law_1158_156_d 1164 [(0, .ref b), (1, .ref (adC 0)), (2, .ref (adM 0)), (3, .ref ao), (4, .int (nI (6 * k)))] [.int ((nI (6 * k)) + (nI 1)), .ref b, .ref (adC 0)] rfl ?_
  refine g_nm (lv' := [(0, .ref b), (1, .ref (adC 0)), (2, .ref (adM 0)), (3, .ref ao), (4, .int (nI (6 * k)))]) (st' := [.int (nI ((6 * k) + 1)), .ref b, .ref (adC 0)]) (by simp only [nI_add]) (by simp only [nI_add]) ?_
  refine g_sld X hX hbl hbA hN (v := xs (6 * k + 1)) (by omega) rfl dL_law_1164 ?_
  refine g_run X KL_law_1165_157 KL_law_1165_157_d 1174 [(0, .ref b), (1, .ref (adC 0)), (2, .ref (adM 0)), (3, .ref ao), (4, .int (nI (6 * k)))] [.int ((nI (6 * k)) + (nI 2)), .ref b, .long (((xs (6 * k + 1)).toInt64) <<< ((nI 32).toInt64 &&& 63)), .ref (adC 0)] rfl ?_
  refine g_nm (lv' := [(0, .ref b), (1, .ref (adC 0)), (2, .ref (adM 0)), (3, .ref ao), (4, .int (nI (6 * k)))]) (st' := [.int (nI ((6 * k) + 2)), .ref b, .long (((xs (6 * k + 1)).toInt64) <<< ((nI 32).toInt64 &&& 63)), .ref (adC 0)]) (by simp only [nI_add]) (by simp only [nI_add]) ?_
  refine g_sld X hX hbl hbA hN (v := xs (6 * k + 2)) (by omega) rfl dL_law_1174 ?_
  refine g_run X KL_law_1175_158 KL_law_1175_158_d 1176 [(0, .ref b), (1, .ref (adC 0)), (2, .ref (adM 0)), (3, .ref ao), (4, .int (nI (6 * k)))] [.long ((xs (6 * k + 2)).toInt64), .long (((xs (6 * k + 1)).toInt64) <<< ((nI 32).toInt64 &&& 63)), .ref (adC 0)] rfl ?_
  refine g_ldc2 X (v := (4294967295 : Int64)) w_1562 dL_law_1176 ?_
  refine g_run X KL_law_1179_159 KL_law_1179_159_d 1181 [(0, .ref b), (1, .ref (adC 0)), (2, .ref (adM 0)), (3, .ref ao), (4, .int (nI (6 * k)))] [.long ((((xs (6 * k + 1)).toInt64) <<< ((nI 32).toInt64 &&& 63)) ||| (((xs (6 * k + 2)).toInt64) &&& (4294967295 : Int64))), .ref (adC 0)] rfl ?_
  refine g_st (st' := [.long (lg2 (xs (6 * k + 1)) (xs (6 * k + 2))), .ref (adC 0)]) (rfl) ?_
  refine g_run X KL_law_1181_160 KL_law_1181_160_d 1186 [(0, .ref b), (1, .ref (adC 0)), (2, .ref (adM 0)), (3, .ref ao), (4, .int (nI (6 * k)))] [.int ((nI (6 * k)) + (nI 3)), .ref b, .long (lg2 (xs (6 * k + 1)) (xs (6 * k + 2))), .ref (adC 0)] rfl ?_
  refine g_nm (lv' := [(0, .ref b), (1, .ref (adC 0)), (2, .ref (adM 0)), (3, .ref ao), (4, .int (nI (6 * k)))]) (st' := [.int (nI ((6 * k) + 3)), .ref b, .long (lg2 (xs (6 * k + 1)) (xs (6 * k + 2))), .ref (adC 0)]) (by simp only [nI_add]) (by simp only [nI_add]) ?_
  refine g_sld X hX hbl hbA hN (v := xs (6 * k + 3)) (by omega) rfl dL_law_1186 ?_
  refine g_run X KL_law_1187_161 KL_law_1187_161_d 1188 [(0, .ref b), (1, .ref (adC 0)), (2, .ref (adM 0)), (3, .ref ao), (4, .int (nI (6 * k)))] [.ref ao, .int (xs (6 * k + 3)), .long (lg2 (xs (6 * k + 1)) (xs (6 * k + 2))), .ref (adC 0)] rfl ?_
  refine g_callSW X hSB hAf hNC (As := [.ref (adC 0), .long (lg2 (xs (6 * k + 1)) (xs (6 * k + 2))), .int (xs (6 * k + 3)), .ref ao]) (wr := WM adM g I L S Z Y) (n := 4) (hx_symbol_1 l hfl D g adC I L S (lg2 (xs (6 * k + 1)) (xs (6 * k + 2))) (xs (6 * k + 3)) ao on ov (out_lt (by decide) hw)) rfl w_698 w_696 w_697 w_0 (by decide +kernel) rfl ⟨Nat.le_of_ble_eq_true rfl, Nat.le_of_ble_eq_true rfl⟩ rfl rfl rfl (Nat.le_of_ble_eq_true rfl) ⟨by show cells + 1 ≤ 600002; omega, by show slots + 6 ≤ 7302232; omega⟩ dL_law_1188 (fun hu1 _ => ?_)
  refine g_af (ws' := (WC adC g I L S ++ ([OUT ao on ov] : va_W)) ++ WM adM g I L S Z Y) (st' := [.int (nI 1)]) (cells' := cells + 1) (slots' := slots + 6) (pc' := 1191) rfl rfl rfl rfl rfl ?_
  refine g_run X KL_law_1191_162 KL_law_1191_162_d 1199 [(5, .int (nI 1)), (0, .ref b), (1, .ref (adC 0)), (2, .ref (adM 0)), (3, .ref ao), (4, .int (nI (6 * k)))] [.int ((nI (6 * k)) + (nI 1)), .ref b, .ref (adM 0)] rfl ?_
  refine g_nm (lv' := [(5, .int (nI 1)), (0, .ref b), (1, .ref (adC 0)), (2, .ref (adM 0)), (3, .ref ao), (4, .int (nI (6 * k)))]) (st' := [.int (nI ((6 * k) + 1)), .ref b, .ref (adM 0)]) (by simp only [nI_add]) (by simp only [nI_add]) ?_
  refine g_sld X hX hbl hbA hN (v := xs (6 * k + 1)) (by omega) rfl dL_law_1199 ?_
  refine g_run X KL_law_1200_163 KL_law_1200_163_d 1209 [(5, .int (nI 1)), (0, .ref b), (1, .ref (adC 0)), (2, .ref (adM 0)), (3, .ref ao), (4, .int (nI (6 * k)))] [.int ((nI (6 * k)) + (nI 2)), .ref b, .long (((xs (6 * k + 1)).toInt64) <<< ((nI 32).toInt64 &&& 63)), .ref (adM 0)] rfl ?_
  refine g_nm (lv' := [(5, .int (nI 1)), (0, .ref b), (1, .ref (adC 0)), (2, .ref (adM 0)), (3, .ref ao), (4, .int (nI (6 * k)))]) (st' := [.int (nI ((6 * k) + 2)), .ref b, .long (((xs (6 * k + 1)).toInt64) <<< ((nI 32).toInt64 &&& 63)), .ref (adM 0)]) (by simp only [nI_add]) (by simp only [nI_add]) ?_
  refine g_sld X hX hbl hbA hN (v := xs (6 * k + 2)) (by omega) rfl dL_law_1209 ?_
  refine g_run X KL_law_1210_164 KL_law_1210_164_d 1211 [(5, .int (nI 1)), (0, .ref b), (1, .ref (adC 0)), (2, .ref (adM 0)), (3, .ref ao), (4, .int (nI (6 * k)))] [.long ((xs (6 * k + 2)).toInt64), .long (((xs (6 * k + 1)).toInt64) <<< ((nI 32).toInt64 &&& 63)), .ref (adM 0)] rfl ?_
  refine g_ldc2 X (v := (4294967295 : Int64)) w_1562 dL_law_1211 ?_
  refine g_run X KL_law_1214_165 KL_law_1214_165_d 1216 [(5, .int (nI 1)), (0, .ref b), (1, .ref (adC 0)), (2, .ref (adM 0)), (3, .ref ao), (4, .int (nI (6 * k)))] [.long ((((xs (6 * k + 1)).toInt64) <<< ((nI 32).toInt64 &&& 63)) ||| (((xs (6 * k + 2)).toInt64) &&& (4294967295 : Int64))), .ref (adM 0)] rfl ?_
  refine g_st (st' := [.long (lg2 (xs (6 * k + 1)) (xs (6 * k + 2))), .ref (adM 0)]) (rfl) ?_
  refine g_run X KL_law_1216_166 KL_law_1216_166_d 1221 [(5, .int (nI 1)), (0, .ref b), (1, .ref (adC 0)), (2, .ref (adM 0)), (3, .ref ao), (4, .int (nI (6 * k)))] [.int ((nI (6 * k)) + (nI 3)), .ref b, .long (lg2 (xs (6 * k + 1)) (xs (6 * k + 2))), .ref (adM 0)] rfl ?_
  refine g_nm (lv' := [(5, .int (nI 1)), (0, .ref b), (1, .ref (adC 0)), (2, .ref (adM 0)), (3, .ref ao), (4, .int (nI (6 * k)))]) (st' := [.int (nI ((6 * k) + 3)), .ref b, .long (lg2 (xs (6 * k + 1)) (xs (6 * k + 2))), .ref (adM 0)]) (by simp only [nI_add]) (by simp only [nI_add]) ?_
  refine g_sld X hX hbl hbA hN (v := xs (6 * k + 3)) (by omega) rfl dL_law_1221 ?_
  refine g_perm (ws' := WM adM g I L S Z Y ++ (WC adC g I L S ++ ([OUT ao on ov] : va_W))) (List.perm_append_comm (l₁ := WM adM g I L S Z Y) (l₂ := (WC adC g I L S ++ ([OUT ao on ov] : va_W)))) ?_
  refine g_callV X hSB hAf srcW (hrc1 := (rfl : CL[8]? = some _)) (wm_mem (k := 0) (by decide)) rfl (As := [.long (lg2 (xs (6 * k + 1)) (xs (6 * k + 2))), .int (xs (6 * k + 3))]) (wr := WC adC g I L S ++ ([OUT ao on ov] : va_W)) (n := 2) (c_X9_symbol_1 l D g adM I L S Z Y (lg2 (xs (6 * k + 1)) (xs (6 * k + 2))) (xs (6 * k + 3)) (out_le (by decide) hw)) rfl srcN hrdN w_1436 w_1433 w_1434 w_1435 w_6 (by decide +kernel) rfl ⟨Nat.le_of_ble_eq_true rfl, Nat.le_of_ble_eq_true rfl⟩ rfl rfl rfl (Nat.le_of_ble_eq_true rfl) ⟨by show cells + 1 + 0 ≤ 600002; omega, by show slots + 6 + 0 ≤ 7302232; omega⟩ dL_law_1222 (fun hu2 hp_hu2 => ?_)
  refine g_af (ws' := WM adM g I L S (u2 (u2 Z 3 0 (nI 0)) 3 0 (nI 1)) Y ++ (WC adC g I L S ++ ([OUT ao on ov] : va_W))) (st' := [.int (nI 0)]) (cells' := cells + 1 + 0) (slots' := slots + 6 + 0) (pc' := 1225) rfl rfl rfl rfl rfl ?_
  refine g_run X KL_law_1225_167 KL_law_1225_167_d 1228 [(6, .int (nI 0)), (5, .int (nI 1)), (0, .ref b), (1, .ref (adC 0)), (2, .ref (adM 0)), (3, .ref ao), (4, .int (nI (6 * k)))] [.ref (adM 0)] rfl ?_
  refine g_callV X hSB hAf srcW (hrc1 := (rfl : CL[8]? = some _)) (wm_mem (k := 0) (by decide)) rfl (As := []) (wr := WC adC g I L S ++ ([OUT ao on ov] : va_W)) (n := 0) (c_X9_thrown l D g adM I L S (u2 (u2 Z 3 0 (nI 0)) 3 0 (nI 1)) Y ) rfl srcN hrdN w_1250 w_1247 w_1248 w_1249 w_6 (by decide +kernel) rfl ⟨Nat.le_of_ble_eq_true rfl, Nat.le_of_ble_eq_true rfl⟩ rfl rfl rfl (Nat.le_of_ble_eq_true rfl) ⟨by show cells + 1 + 0 + 0 ≤ 600002; omega, by show slots + 6 + 0 + 0 ≤ 7302232; omega⟩ dL_law_1228 (fun hu3 hp_hu3 => ?_)
  refine g_af (ws' := WM adM g I L S (u2 (u2 Z 3 0 (nI 0)) 3 0 (nI 1)) Y ++ (WC adC g I L S ++ ([OUT ao on ov] : va_W))) (st' := [.int ((u2 (u2 Z 3 0 (nI 0)) 3 0 (nI 1)) 3 0)]) (cells' := cells + 1 + 0 + 0) (slots' := slots + 6 + 0 + 0) (pc' := 1231) rfl rfl rfl rfl rfl ?_
  refine g_st (st' := [.int (nI 1)]) (by first | rfl | (simp [z4, u2]; done)) ?_
  refine g_run X KL_law_1231_168 KL_law_1231_168_d 1233 [(6, .int (nI 0)), (5, .int (nI 1)), (0, .ref b), (1, .ref (adC 0)), (2, .ref (adM 0)), (3, .ref ao), (4, .int (nI (6 * k)))] [.int (nI 1), .int (nI 1)] rfl ?_
  refine g_icmp_eq X 1238 dL_law_1233 (by decide) (fun hc4 => ?_) (fun hc4 => ?_)
  · refine g_run X KL_law_1238_169 KL_law_1238_169_d 1240 [(6, .int (nI 0)), (5, .int (nI 1)), (0, .ref b), (1, .ref (adC 0)), (2, .ref (adM 0)), (3, .ref ao), (4, .int (nI (6 * k)))] [.int (nI 1)] rfl ?_
    refine g_if_ne X 1256 dL_law_1240 (by decide) (fun hc5 => ?_) (fun hc5 => ?_)
    · refine g_run X KL_law_1256_172 KL_law_1256_172_d 2256 [(6, .int (nI 0)), (5, .int (nI 1)), (0, .ref b), (1, .ref (adC 0)), (2, .ref (adM 0)), (3, .ref ao), (4, .int (nI (6 * k)))] [] rfl ?_
      refine g_lv (lv' := [(0, .ref b), (1, .ref (adC 0)), (2, .ref (adM 0)), (3, .ref ao), (4, .int (nI (6 * k)))]) (lsub_c 2 rfl (lsub_c 3 rfl (lsub_c 4 rfl (lsub_c 5 rfl (lsub_c 6 rfl (lsub_n)))))) ?_
      refine g_perm (ws' := (WC adC g I L S ++ ([OUT ao on ov] : va_W)) ++ WM adM g I L S (u2 (u2 Z 3 0 (nI 0)) 3 0 (nI 1)) Y) (List.perm_append_comm (l₁ := (WC adC g I L S ++ ([OUT ao on ov] : va_W))) (l₂ := WM adM g I L S (u2 (u2 Z 3 0 (nI 0)) 3 0 (nI 1)) Y)) ?_
      refine g_widen (k := cells + 60) (n := slots + 1200) (by omega) (by omega) ?_
      exact kk I L S n (u2 (u2 Z 3 0 (nI 0)) 3 0 (nI 1)) Y R on ov (hI) (hR) (by first | exact hZ | (rw [zrow]; exact hZ) | (rw [zrow, zrow]; exact hZ))
    · rw [nz_eq (by omega)] at hc5; first | omega | (simp at hc5)
  · rw [nI_eq (by omega) (by omega)] at hc4; first | omega | (simp at hc4)

theorem lq15 {p : Program} {l : Launch} {e : Env} {s : State} {m : MethodId} {below : List Frame} {meth : Method} {c : Code} {Q : State → Prop} {D : va_G} {A : Nat → Prop} {b N : Nat} {xs : Nat → Int32} {adC adM : Nat → Nat} {g : Nat → ClassId} {ao k cells slots : Nat} {I : Nat → Nat → Int32} {L : Nat → Nat → Int64} {S : Nat → Nat} {n : Nat} {Z : Nat → Nat → Int32} {Y : Int64} {R : Nat → Nat} {on : Int64} {ov : Value} (HX : LX p l s m meth c A b N xs) (hk : 6 * k + 6 ≤ N) (hroom : cells + 60 ≤ 600002 ∧ slots + 1200 ≤ 7302232) (hI : Inv I L S n) (hR : R16 R) (hZ : Z 0 = fun j => nI (R j)) (kk : LK p l e s m below meth c Q D A b adC adM g ao k cells slots 2256) : GL p l e room_1 s m #[.ref b] below meth c Q D CL (TYS g) A 9 (WL adC adM g ao I L S Z Y on ov) cells slots 1158 [(0, .ref b), (1, .ref (adC 0)), (2, .ref (adM 0)), (3, .ref ao), (4, .int (nI (6 * k)))] [] := by
  rcases rg (xs (6 * k + 3)) 0 15 with ⟨a3, hl3, hu3, e3⟩ | hw
  · rcases em_d (lg2 (xs (6 * k + 1)) (xs (6 * k + 2))) with ⟨dd, hdd, ed⟩ | hnd
    · exact lq15_0 HX hk hroom hI hR hZ  a3 hl3 hu3 e3 dd hdd ed kk
    · exact lq15_2 HX hk hroom hI hR hZ  a3 hl3 hu3 e3 hnd kk
  · exact lq15_1 HX hk hroom hI hR hZ  hw kk

def KL_law_1259_173 : List (Nat × Instr × Nat) := [(1259, .aload_n 1, 1), (1260, .aload_n 0, 1), (1261, .iload 4, 2), (1263, .iconst 1, 1), (1264, .iadd, 1)]
theorem KL_law_1259_173_d : ∀ z ∈ KL_law_1259_173, decode cL_law z.1 = .ok z.2 := by decide +kernel
def KL_law_1266_174 : List (Nat × Instr × Nat) := [(1266, .aload_n 0, 1), (1267, .iload 4, 2), (1269, .iconst 2, 1), (1270, .iadd, 1)]
theorem KL_law_1266_174_d : ∀ z ∈ KL_law_1266_174, decode cL_law z.1 = .ok z.2 := by decide +kernel
def KL_law_1272_175 : List (Nat × Instr × Nat) := [(1272, .aload_n 0, 1), (1273, .iload 4, 2), (1275, .iconst 3, 1), (1276, .iadd, 1)]
theorem KL_law_1272_175_d : ∀ z ∈ KL_law_1272_175, decode cL_law z.1 = .ok z.2 := by decide +kernel
def KL_law_1278_176 : List (Nat × Instr × Nat) := [(1278, .aload_n 0, 1), (1279, .iload 4, 2), (1281, .iconst 4, 1), (1282, .iadd, 1)]
theorem KL_law_1278_176_d : ∀ z ∈ KL_law_1278_176, decode cL_law z.1 = .ok z.2 := by decide +kernel
def KL_law_1284_177 : List (Nat × Instr × Nat) := [(1284, .aload_n 0, 1), (1285, .iload 4, 2), (1287, .iconst 5, 1), (1288, .iadd, 1)]
theorem KL_law_1284_177_d : ∀ z ∈ KL_law_1284_177, decode cL_law z.1 = .ok z.2 := by decide +kernel
def KL_law_1290_178 : List (Nat × Instr × Nat) := [(1290, .aload_n 3, 1)]
theorem KL_law_1290_178_d : ∀ z ∈ KL_law_1290_178, decode cL_law z.1 = .ok z.2 := by decide +kernel
def KL_law_1294_179 : List (Nat × Instr × Nat) := [(1294, .istore 5, 2), (1296, .aload_n 2, 1), (1297, .aload_n 0, 1), (1298, .iload 4, 2), (1300, .iconst 1, 1), (1301, .iadd, 1)]
theorem KL_law_1294_179_d : ∀ z ∈ KL_law_1294_179, decode cL_law z.1 = .ok z.2 := by decide +kernel
def KL_law_1303_180 : List (Nat × Instr × Nat) := [(1303, .aload_n 0, 1), (1304, .iload 4, 2), (1306, .iconst 2, 1), (1307, .iadd, 1)]
theorem KL_law_1303_180_d : ∀ z ∈ KL_law_1303_180, decode cL_law z.1 = .ok z.2 := by decide +kernel
def KL_law_1309_181 : List (Nat × Instr × Nat) := [(1309, .aload_n 0, 1), (1310, .iload 4, 2), (1312, .iconst 3, 1), (1313, .iadd, 1)]
theorem KL_law_1309_181_d : ∀ z ∈ KL_law_1309_181, decode cL_law z.1 = .ok z.2 := by decide +kernel
def KL_law_1315_182 : List (Nat × Instr × Nat) := [(1315, .aload_n 0, 1), (1316, .iload 4, 2), (1318, .iconst 4, 1), (1319, .iadd, 1)]
theorem KL_law_1315_182_d : ∀ z ∈ KL_law_1315_182, decode cL_law z.1 = .ok z.2 := by decide +kernel
def KL_law_1321_183 : List (Nat × Instr × Nat) := [(1321, .aload_n 0, 1), (1322, .iload 4, 2), (1324, .iconst 5, 1), (1325, .iadd, 1)]
theorem KL_law_1321_183_d : ∀ z ∈ KL_law_1321_183, decode cL_law z.1 = .ok z.2 := by decide +kernel
def KL_law_1330_184 : List (Nat × Instr × Nat) := [(1330, .istore 6, 2), (1332, .aload_n 2, 1)]
theorem KL_law_1330_184_d : ∀ z ∈ KL_law_1330_184, decode cL_law z.1 = .ok z.2 := by decide +kernel
def KL_law_1336_185 : List (Nat × Instr × Nat) := [(1336, .iload 5, 2)]
theorem KL_law_1336_185_d : ∀ z ∈ KL_law_1336_185, decode cL_law z.1 = .ok z.2 := by decide +kernel
def KL_law_1343_186 : List (Nat × Instr × Nat) := [(1343, .iload 5, 2)]
theorem KL_law_1343_186_d : ∀ z ∈ KL_law_1343_186, decode cL_law z.1 = .ok z.2 := by decide +kernel
def KL_law_1361_187 : List (Nat × Instr × Nat) := [(1361, .goto 895, 3)]
theorem KL_law_1361_187_d : ∀ z ∈ KL_law_1361_187, decode cL_law z.1 = .ok z.2 := by decide +kernel
set_option maxHeartbeats 4000000 in
set_option maxRecDepth 100000 in
theorem lq16_4 {p : Program} {l : Launch} {e : Env} {s : State} {m : MethodId} {below : List Frame} {meth : Method} {c : Code} {Q : State → Prop} {D : va_G} {A : Nat → Prop} {b N : Nat} {xs : Nat → Int32} {adC adM : Nat → Nat} {g : Nat → ClassId} {ao k cells slots : Nat} {I : Nat → Nat → Int32} {L : Nat → Nat → Int64} {S : Nat → Nat} {n : Nat} {Z : Nat → Nat → Int32} {Y : Int64} {R : Nat → Nat} {on : Int64} {ov : Value} (HX : LX p l s m meth c A b N xs) (hk : 6 * k + 6 ≤ N) (hroom : cells + 60 ≤ 600002 ∧ slots + 1200 ≤ 7302232) (hI : Inv I L S n) (hR : R16 R) (hZ : Z 0 = fun j => nI (R j)) (a1 : Nat) (hl1 : 0 ≤ a1) (hu1 : a1 < 15) (e1 : xs (6 * k + 1) = nI a1) (a2 : Nat) (hl2 : 0 ≤ a2) (hu2 : a2 < 15) (e2 : xs (6 * k + 2) = nI a2) (a3 : Nat) (hl3 : 0 ≤ a3) (hu3 : a3 < 15) (e3 : xs (6 * k + 3) = nI a3) (hds : a1 = a2 ∨ a1 = a3 ∨ a2 = a3) (kk : LK p l e s m below meth c Q D A b adC adM g ao k cells slots 2256) : GL p l e room_1 s m #[.ref b] below meth c Q D CL (TYS g) A 9 (WL adC adM g ao I L S Z Y on ov) cells slots 1259 [(0, .ref b), (1, .ref (adC 0)), (2, .ref (adM 0)), (3, .ref ao), (4, .int (nI (6 * k)))] [] := by
  obtain ⟨X, hSB, hAf, hNC, hfl, hX, hbl, hbA, hN⟩ := HX
  refine g_run X KL_law_1259_173 KL_law_1259_173_d 1265 [(0, .ref b), (1, .ref (adC 0)), (2, .ref (adM 0)), (3, .ref ao), (4, .int (nI (6 * k)))] [.int ((nI (6 * k)) + (nI 1)), .ref b, .ref (adC 0)] rfl ?_
  refine g_nm (lv' := [(0, .ref b), (1, .ref (adC 0)), (2, .ref (adM 0)), (3, .ref ao), (4, .int (nI (6 * k)))]) (st' := [.int (nI ((6 * k) + 1)), .ref b, .ref (adC 0)]) (by simp only [nI_add]) (by simp only [nI_add]) ?_
  refine g_sld X hX hbl hbA hN (v := nI a1) (by omega) e1 dL_law_1265 ?_
  refine g_run X KL_law_1266_174 KL_law_1266_174_d 1271 [(0, .ref b), (1, .ref (adC 0)), (2, .ref (adM 0)), (3, .ref ao), (4, .int (nI (6 * k)))] [.int ((nI (6 * k)) + (nI 2)), .ref b, .int (nI a1), .ref (adC 0)] rfl ?_
  refine g_nm (lv' := [(0, .ref b), (1, .ref (adC 0)), (2, .ref (adM 0)), (3, .ref ao), (4, .int (nI (6 * k)))]) (st' := [.int (nI ((6 * k) + 2)), .ref b, .int (nI a1), .ref (adC 0)]) (by simp only [nI_add]) (by simp only [nI_add]) ?_
  refine g_sld X hX hbl hbA hN (v := nI a2) (by omega) e2 dL_law_1271 ?_
  refine g_run X KL_law_1272_175 KL_law_1272_175_d 1277 [(0, .ref b), (1, .ref (adC 0)), (2, .ref (adM 0)), (3, .ref ao), (4, .int (nI (6 * k)))] [.int ((nI (6 * k)) + (nI 3)), .ref b, .int (nI a2), .int (nI a1), .ref (adC 0)] rfl ?_
  refine g_nm (lv' := [(0, .ref b), (1, .ref (adC 0)), (2, .ref (adM 0)), (3, .ref ao), (4, .int (nI (6 * k)))]) (st' := [.int (nI ((6 * k) + 3)), .ref b, .int (nI a2), .int (nI a1), .ref (adC 0)]) (by simp only [nI_add]) (by simp only [nI_add]) ?_
  refine g_sld X hX hbl hbA hN (v := nI a3) (by omega) e3 dL_law_1277 ?_
  refine g_run X KL_law_1278_176 KL_law_1278_176_d 1283 [(0, .ref b), (1, .ref (adC 0)), (2, .ref (adM 0)), (3, .ref ao), (4, .int (nI (6 * k)))] [.int ((nI (6 * k)) + (nI 4)), .ref b, .int (nI a3), .int (nI a2), .int (nI a1), .ref (adC 0)] rfl ?_
  refine g_nm (lv' := [(0, .ref b), (1, .ref (adC 0)), (2, .ref (adM 0)), (3, .ref ao), (4, .int (nI (6 * k)))]) (st' := [.int (nI ((6 * k) + 4)), .ref b, .int (nI a3), .int (nI a2), .int (nI a1), .ref (adC 0)]) (by simp only [nI_add]) (by simp only [nI_add]) ?_
  refine g_sld X hX hbl hbA hN (v := xs (6 * k + 4)) (by omega) rfl dL_law_1283 ?_
  refine g_run X KL_law_1284_177 KL_law_1284_177_d 1289 [(0, .ref b), (1, .ref (adC 0)), (2, .ref (adM 0)), (3, .ref ao), (4, .int (nI (6 * k)))] [.int ((nI (6 * k)) + (nI 5)), .ref b, .int (xs (6 * k + 4)), .int (nI a3), .int (nI a2), .int (nI a1), .ref (adC 0)] rfl ?_
  refine g_nm (lv' := [(0, .ref b), (1, .ref (adC 0)), (2, .ref (adM 0)), (3, .ref ao), (4, .int (nI (6 * k)))]) (st' := [.int (nI ((6 * k) + 5)), .ref b, .int (xs (6 * k + 4)), .int (nI a3), .int (nI a2), .int (nI a1), .ref (adC 0)]) (by simp only [nI_add]) (by simp only [nI_add]) ?_
  refine g_sld X hX hbl hbA hN (v := xs (6 * k + 5)) (by omega) rfl dL_law_1289 ?_
  refine g_run X KL_law_1290_178 KL_law_1290_178_d 1291 [(0, .ref b), (1, .ref (adC 0)), (2, .ref (adM 0)), (3, .ref ao), (4, .int (nI (6 * k)))] [.ref ao, .int (xs (6 * k + 5)), .int (xs (6 * k + 4)), .int (nI a3), .int (nI a2), .int (nI a1), .ref (adC 0)] rfl ?_
  refine g_callSW X hSB hAf hNC (As := [.ref (adC 0), .int (nI a1), .int (nI a2), .int (nI a3), .int (xs (6 * k + 4)), .int (xs (6 * k + 5)), .ref ao]) (wr := WM adM g I L S Z Y) (n := 7) (hx_fooled_4 l hfl D g adC I L S a1 a2 a3 (xs (6 * k + 4)) (xs (6 * k + 5)) ao on ov (by first | assumption | omega) (by first | assumption | omega) (by first | assumption | omega) (by first | assumption | omega)) rfl w_706 w_704 w_705 w_0 (by decide +kernel) rfl ⟨Nat.le_of_ble_eq_true rfl, Nat.le_of_ble_eq_true rfl⟩ rfl rfl rfl (Nat.le_of_ble_eq_true rfl) ⟨by show cells + 1 ≤ 600002; omega, by show slots + 6 ≤ 7302232; omega⟩ dL_law_1291 (fun hu1 _ => ?_)
  refine g_af (ws' := (WC adC g I L S ++ ([OUT ao on ov] : va_W)) ++ WM adM g I L S Z Y) (st' := [.int (nI 2)]) (cells' := cells + 1) (slots' := slots + 6) (pc' := 1294) rfl rfl rfl rfl rfl ?_
  refine g_run X KL_law_1294_179 KL_law_1294_179_d 1302 [(5, .int (nI 2)), (0, .ref b), (1, .ref (adC 0)), (2, .ref (adM 0)), (3, .ref ao), (4, .int (nI (6 * k)))] [.int ((nI (6 * k)) + (nI 1)), .ref b, .ref (adM 0)] rfl ?_
  refine g_nm (lv' := [(5, .int (nI 2)), (0, .ref b), (1, .ref (adC 0)), (2, .ref (adM 0)), (3, .ref ao), (4, .int (nI (6 * k)))]) (st' := [.int (nI ((6 * k) + 1)), .ref b, .ref (adM 0)]) (by simp only [nI_add]) (by simp only [nI_add]) ?_
  refine g_sld X hX hbl hbA hN (v := nI a1) (by omega) e1 dL_law_1302 ?_
  refine g_run X KL_law_1303_180 KL_law_1303_180_d 1308 [(5, .int (nI 2)), (0, .ref b), (1, .ref (adC 0)), (2, .ref (adM 0)), (3, .ref ao), (4, .int (nI (6 * k)))] [.int ((nI (6 * k)) + (nI 2)), .ref b, .int (nI a1), .ref (adM 0)] rfl ?_
  refine g_nm (lv' := [(5, .int (nI 2)), (0, .ref b), (1, .ref (adC 0)), (2, .ref (adM 0)), (3, .ref ao), (4, .int (nI (6 * k)))]) (st' := [.int (nI ((6 * k) + 2)), .ref b, .int (nI a1), .ref (adM 0)]) (by simp only [nI_add]) (by simp only [nI_add]) ?_
  refine g_sld X hX hbl hbA hN (v := nI a2) (by omega) e2 dL_law_1308 ?_
  refine g_run X KL_law_1309_181 KL_law_1309_181_d 1314 [(5, .int (nI 2)), (0, .ref b), (1, .ref (adC 0)), (2, .ref (adM 0)), (3, .ref ao), (4, .int (nI (6 * k)))] [.int ((nI (6 * k)) + (nI 3)), .ref b, .int (nI a2), .int (nI a1), .ref (adM 0)] rfl ?_
  refine g_nm (lv' := [(5, .int (nI 2)), (0, .ref b), (1, .ref (adC 0)), (2, .ref (adM 0)), (3, .ref ao), (4, .int (nI (6 * k)))]) (st' := [.int (nI ((6 * k) + 3)), .ref b, .int (nI a2), .int (nI a1), .ref (adM 0)]) (by simp only [nI_add]) (by simp only [nI_add]) ?_
  refine g_sld X hX hbl hbA hN (v := nI a3) (by omega) e3 dL_law_1314 ?_
  refine g_run X KL_law_1315_182 KL_law_1315_182_d 1320 [(5, .int (nI 2)), (0, .ref b), (1, .ref (adC 0)), (2, .ref (adM 0)), (3, .ref ao), (4, .int (nI (6 * k)))] [.int ((nI (6 * k)) + (nI 4)), .ref b, .int (nI a3), .int (nI a2), .int (nI a1), .ref (adM 0)] rfl ?_
  refine g_nm (lv' := [(5, .int (nI 2)), (0, .ref b), (1, .ref (adC 0)), (2, .ref (adM 0)), (3, .ref ao), (4, .int (nI (6 * k)))]) (st' := [.int (nI ((6 * k) + 4)), .ref b, .int (nI a3), .int (nI a2), .int (nI a1), .ref (adM 0)]) (by simp only [nI_add]) (by simp only [nI_add]) ?_
  refine g_sld X hX hbl hbA hN (v := xs (6 * k + 4)) (by omega) rfl dL_law_1320 ?_
  refine g_run X KL_law_1321_183 KL_law_1321_183_d 1326 [(5, .int (nI 2)), (0, .ref b), (1, .ref (adC 0)), (2, .ref (adM 0)), (3, .ref ao), (4, .int (nI (6 * k)))] [.int ((nI (6 * k)) + (nI 5)), .ref b, .int (xs (6 * k + 4)), .int (nI a3), .int (nI a2), .int (nI a1), .ref (adM 0)] rfl ?_
  refine g_nm (lv' := [(5, .int (nI 2)), (0, .ref b), (1, .ref (adC 0)), (2, .ref (adM 0)), (3, .ref ao), (4, .int (nI (6 * k)))]) (st' := [.int (nI ((6 * k) + 5)), .ref b, .int (xs (6 * k + 4)), .int (nI a3), .int (nI a2), .int (nI a1), .ref (adM 0)]) (by simp only [nI_add]) (by simp only [nI_add]) ?_
  refine g_sld X hX hbl hbA hN (v := xs (6 * k + 5)) (by omega) rfl dL_law_1326 ?_
  refine g_perm (ws' := WM adM g I L S Z Y ++ (WC adC g I L S ++ ([OUT ao on ov] : va_W))) (List.perm_append_comm (l₁ := WM adM g I L S Z Y) (l₂ := (WC adC g I L S ++ ([OUT ao on ov] : va_W)))) ?_
  refine g_callV X hSB hAf srcW (hrc1 := (rfl : CL[8]? = some _)) (wm_mem (k := 0) (by decide)) rfl (As := [.int (nI a1), .int (nI a2), .int (nI a3), .int (xs (6 * k + 4)), .int (xs (6 * k + 5))]) (wr := WC adC g I L S ++ ([OUT ao on ov] : va_W)) (n := 5) (c_X9_fooled_4 l D g adM I L S Z Y a1 a2 a3 (xs (6 * k + 4)) (xs (6 * k + 5)) (by first | assumption | omega) (by first | assumption | omega) (by first | assumption | omega) (by first | assumption | omega)) rfl srcN hrdN w_1440 w_1437 w_1438 w_1439 w_6 (by decide +kernel) rfl ⟨Nat.le_of_ble_eq_true rfl, Nat.le_of_ble_eq_true rfl⟩ rfl rfl rfl (Nat.le_of_ble_eq_true rfl) ⟨by show cells + 1 + 0 ≤ 600002; omega, by show slots + 6 + 0 ≤ 7302232; omega⟩ dL_law_1327 (fun hu2 hp_hu2 => ?_)
  refine g_af (ws' := WM adM g I L S (u2 (u2 Z 3 0 (nI 0)) 3 0 (nI 2)) Y ++ (WC adC g I L S ++ ([OUT ao on ov] : va_W))) (st' := [.int (nI 0)]) (cells' := cells + 1 + 0) (slots' := slots + 6 + 0) (pc' := 1330) rfl rfl rfl rfl rfl ?_
  refine g_run X KL_law_1330_184 KL_law_1330_184_d 1333 [(6, .int (nI 0)), (5, .int (nI 2)), (0, .ref b), (1, .ref (adC 0)), (2, .ref (adM 0)), (3, .ref ao), (4, .int (nI (6 * k)))] [.ref (adM 0)] rfl ?_
  refine g_callV X hSB hAf srcW (hrc1 := (rfl : CL[8]? = some _)) (wm_mem (k := 0) (by decide)) rfl (As := []) (wr := WC adC g I L S ++ ([OUT ao on ov] : va_W)) (n := 0) (c_X9_thrown l D g adM I L S (u2 (u2 Z 3 0 (nI 0)) 3 0 (nI 2)) Y ) rfl srcN hrdN w_1250 w_1247 w_1248 w_1249 w_6 (by decide +kernel) rfl ⟨Nat.le_of_ble_eq_true rfl, Nat.le_of_ble_eq_true rfl⟩ rfl rfl rfl (Nat.le_of_ble_eq_true rfl) ⟨by show cells + 1 + 0 + 0 ≤ 600002; omega, by show slots + 6 + 0 + 0 ≤ 7302232; omega⟩ dL_law_1333 (fun hu3 hp_hu3 => ?_)
  refine g_af (ws' := WM adM g I L S (u2 (u2 Z 3 0 (nI 0)) 3 0 (nI 2)) Y ++ (WC adC g I L S ++ ([OUT ao on ov] : va_W))) (st' := [.int ((u2 (u2 Z 3 0 (nI 0)) 3 0 (nI 2)) 3 0)]) (cells' := cells + 1 + 0 + 0) (slots' := slots + 6 + 0 + 0) (pc' := 1336) rfl rfl rfl rfl rfl ?_
  refine g_st (st' := [.int (nI 2)]) (by first | rfl | (simp [z4, u2]; done)) ?_
  refine g_run X KL_law_1336_185 KL_law_1336_185_d 1338 [(6, .int (nI 0)), (5, .int (nI 2)), (0, .ref b), (1, .ref (adC 0)), (2, .ref (adM 0)), (3, .ref ao), (4, .int (nI (6 * k)))] [.int (nI 2), .int (nI 2)] rfl ?_
  refine g_icmp_eq X 1343 dL_law_1338 (by decide) (fun hc4 => ?_) (fun hc4 => ?_)
  · refine g_run X KL_law_1343_186 KL_law_1343_186_d 1345 [(6, .int (nI 0)), (5, .int (nI 2)), (0, .ref b), (1, .ref (adC 0)), (2, .ref (adM 0)), (3, .ref ao), (4, .int (nI (6 * k)))] [.int (nI 2)] rfl ?_
    refine g_if_ne X 1361 dL_law_1345 (by decide) (fun hc5 => ?_) (fun hc5 => ?_)
    · refine g_run X KL_law_1361_187 KL_law_1361_187_d 2256 [(6, .int (nI 0)), (5, .int (nI 2)), (0, .ref b), (1, .ref (adC 0)), (2, .ref (adM 0)), (3, .ref ao), (4, .int (nI (6 * k)))] [] rfl ?_
      refine g_lv (lv' := [(0, .ref b), (1, .ref (adC 0)), (2, .ref (adM 0)), (3, .ref ao), (4, .int (nI (6 * k)))]) (lsub_c 2 rfl (lsub_c 3 rfl (lsub_c 4 rfl (lsub_c 5 rfl (lsub_c 6 rfl (lsub_n)))))) ?_
      refine g_perm (ws' := (WC adC g I L S ++ ([OUT ao on ov] : va_W)) ++ WM adM g I L S (u2 (u2 Z 3 0 (nI 0)) 3 0 (nI 2)) Y) (List.perm_append_comm (l₁ := (WC adC g I L S ++ ([OUT ao on ov] : va_W))) (l₂ := WM adM g I L S (u2 (u2 Z 3 0 (nI 0)) 3 0 (nI 2)) Y)) ?_
      refine g_widen (k := cells + 60) (n := slots + 1200) (by omega) (by omega) ?_
      exact kk I L S n (u2 (u2 Z 3 0 (nI 0)) 3 0 (nI 2)) Y R on ov (hI) (hR) (by first | exact hZ | (rw [zrow]; exact hZ) | (rw [zrow, zrow]; exact hZ))
    · rw [nz_eq (by omega)] at hc5; first | omega | (simp at hc5)
  · rw [nI_eq (by omega) (by omega)] at hc4; first | omega | (simp at hc4)

def KL_law_1348_188 : List (Nat × Instr × Nat) := [(1348, .aload_n 3, 1)]
theorem KL_law_1348_188_d : ∀ z ∈ KL_law_1348_188, decode cL_law z.1 = .ok z.2 := by decide +kernel
def KL_law_1352_189 : List (Nat × Instr × Nat) := [(1352, .iload 6, 2), (1354, .i2l, 1), (1355, .lcmp, 1)]
theorem KL_law_1352_189_d : ∀ z ∈ KL_law_1352_189, decode cL_law z.1 = .ok z.2 := by decide +kernel
set_option maxHeartbeats 4000000 in
set_option maxRecDepth 100000 in
theorem lq16_0 {p : Program} {l : Launch} {e : Env} {s : State} {m : MethodId} {below : List Frame} {meth : Method} {c : Code} {Q : State → Prop} {D : va_G} {A : Nat → Prop} {b N : Nat} {xs : Nat → Int32} {adC adM : Nat → Nat} {g : Nat → ClassId} {ao k cells slots : Nat} {I : Nat → Nat → Int32} {L : Nat → Nat → Int64} {S : Nat → Nat} {n : Nat} {Z : Nat → Nat → Int32} {Y : Int64} {R : Nat → Nat} {on : Int64} {ov : Value} (HX : LX p l s m meth c A b N xs) (hk : 6 * k + 6 ≤ N) (hroom : cells + 60 ≤ 600002 ∧ slots + 1200 ≤ 7302232) (hI : Inv I L S n) (hR : R16 R) (hZ : Z 0 = fun j => nI (R j)) (a1 : Nat) (hl1 : 0 ≤ a1) (hu1 : a1 < 15) (e1 : xs (6 * k + 1) = nI a1) (a2 : Nat) (hl2 : 0 ≤ a2) (hu2 : a2 < 15) (e2 : xs (6 * k + 2) = nI a2) (a3 : Nat) (hl3 : 0 ≤ a3) (hu3 : a3 < 15) (e3 : xs (6 * k + 3) = nI a3) (h12 : a1 ≠ a2) (h13 : a1 ≠ a3) (h23 : a2 ≠ a3) (a4 : Nat) (hl4 : 1 ≤ a4) (hu4 : a4 < 16) (e4 : xs (6 * k + 4) = nI a4) (a5 : Nat) (hl5 : 1 ≤ a5) (hu5 : a5 < 16) (e5 : xs (6 * k + 5) = nI a5) (kk : LK p l e s m below meth c Q D A b adC adM g ao k cells slots 2256) : GL p l e room_1 s m #[.ref b] below meth c Q D CL (TYS g) A 9 (WL adC adM g ao I L S Z Y on ov) cells slots 1259 [(0, .ref b), (1, .ref (adC 0)), (2, .ref (adM 0)), (3, .ref ao), (4, .int (nI (6 * k)))] [] := by
  obtain ⟨X, hSB, hAf, hNC, hfl, hX, hbl, hbA, hN⟩ := HX
  refine g_run X KL_law_1259_173 KL_law_1259_173_d 1265 [(0, .ref b), (1, .ref (adC 0)), (2, .ref (adM 0)), (3, .ref ao), (4, .int (nI (6 * k)))] [.int ((nI (6 * k)) + (nI 1)), .ref b, .ref (adC 0)] rfl ?_
  refine g_nm (lv' := [(0, .ref b), (1, .ref (adC 0)), (2, .ref (adM 0)), (3, .ref ao), (4, .int (nI (6 * k)))]) (st' := [.int (nI ((6 * k) + 1)), .ref b, .ref (adC 0)]) (by simp only [nI_add]) (by simp only [nI_add]) ?_
  refine g_sld X hX hbl hbA hN (v := nI a1) (by omega) e1 dL_law_1265 ?_
  refine g_run X KL_law_1266_174 KL_law_1266_174_d 1271 [(0, .ref b), (1, .ref (adC 0)), (2, .ref (adM 0)), (3, .ref ao), (4, .int (nI (6 * k)))] [.int ((nI (6 * k)) + (nI 2)), .ref b, .int (nI a1), .ref (adC 0)] rfl ?_
  refine g_nm (lv' := [(0, .ref b), (1, .ref (adC 0)), (2, .ref (adM 0)), (3, .ref ao), (4, .int (nI (6 * k)))]) (st' := [.int (nI ((6 * k) + 2)), .ref b, .int (nI a1), .ref (adC 0)]) (by simp only [nI_add]) (by simp only [nI_add]) ?_
  refine g_sld X hX hbl hbA hN (v := nI a2) (by omega) e2 dL_law_1271 ?_
  refine g_run X KL_law_1272_175 KL_law_1272_175_d 1277 [(0, .ref b), (1, .ref (adC 0)), (2, .ref (adM 0)), (3, .ref ao), (4, .int (nI (6 * k)))] [.int ((nI (6 * k)) + (nI 3)), .ref b, .int (nI a2), .int (nI a1), .ref (adC 0)] rfl ?_
  refine g_nm (lv' := [(0, .ref b), (1, .ref (adC 0)), (2, .ref (adM 0)), (3, .ref ao), (4, .int (nI (6 * k)))]) (st' := [.int (nI ((6 * k) + 3)), .ref b, .int (nI a2), .int (nI a1), .ref (adC 0)]) (by simp only [nI_add]) (by simp only [nI_add]) ?_
  refine g_sld X hX hbl hbA hN (v := nI a3) (by omega) e3 dL_law_1277 ?_
  refine g_run X KL_law_1278_176 KL_law_1278_176_d 1283 [(0, .ref b), (1, .ref (adC 0)), (2, .ref (adM 0)), (3, .ref ao), (4, .int (nI (6 * k)))] [.int ((nI (6 * k)) + (nI 4)), .ref b, .int (nI a3), .int (nI a2), .int (nI a1), .ref (adC 0)] rfl ?_
  refine g_nm (lv' := [(0, .ref b), (1, .ref (adC 0)), (2, .ref (adM 0)), (3, .ref ao), (4, .int (nI (6 * k)))]) (st' := [.int (nI ((6 * k) + 4)), .ref b, .int (nI a3), .int (nI a2), .int (nI a1), .ref (adC 0)]) (by simp only [nI_add]) (by simp only [nI_add]) ?_
  refine g_sld X hX hbl hbA hN (v := nI a4) (by omega) e4 dL_law_1283 ?_
  refine g_run X KL_law_1284_177 KL_law_1284_177_d 1289 [(0, .ref b), (1, .ref (adC 0)), (2, .ref (adM 0)), (3, .ref ao), (4, .int (nI (6 * k)))] [.int ((nI (6 * k)) + (nI 5)), .ref b, .int (nI a4), .int (nI a3), .int (nI a2), .int (nI a1), .ref (adC 0)] rfl ?_
  refine g_nm (lv' := [(0, .ref b), (1, .ref (adC 0)), (2, .ref (adM 0)), (3, .ref ao), (4, .int (nI (6 * k)))]) (st' := [.int (nI ((6 * k) + 5)), .ref b, .int (nI a4), .int (nI a3), .int (nI a2), .int (nI a1), .ref (adC 0)]) (by simp only [nI_add]) (by simp only [nI_add]) ?_
  refine g_sld X hX hbl hbA hN (v := nI a5) (by omega) e5 dL_law_1289 ?_
  refine g_run X KL_law_1290_178 KL_law_1290_178_d 1291 [(0, .ref b), (1, .ref (adC 0)), (2, .ref (adM 0)), (3, .ref ao), (4, .int (nI (6 * k)))] [.ref ao, .int (nI a5), .int (nI a4), .int (nI a3), .int (nI a2), .int (nI a1), .ref (adC 0)] rfl ?_
  refine g_callSW X hSB hAf hNC (As := [.ref (adC 0), .int (nI a1), .int (nI a2), .int (nI a3), .int (nI a4), .int (nI a5), .ref ao]) (wr := WM adM g I L S Z Y) (n := 7) (hc_fooled l D g adC I L S a1 a2 a3 a4 a5 ao on ov (by first | assumption | omega) (by first | assumption | omega) (by first | assumption | omega) (by first | assumption | omega) (by first | assumption | omega) (by first | assumption | omega) (by first | assumption | omega) (by first | assumption | omega) (by first | assumption | omega) (by first | assumption | omega)) rfl w_706 w_704 w_705 w_0 (by decide +kernel) rfl ⟨Nat.le_of_ble_eq_true rfl, Nat.le_of_ble_eq_true rfl⟩ rfl rfl rfl (Nat.le_of_ble_eq_true rfl) ⟨by show cells + 0 ≤ 600002; omega, by show slots + 0 ≤ 7302232; omega⟩ dL_law_1291 (fun hu1 _ => ?_)
  refine g_af (ws' := (WC adC g I L S ++ ([OUT ao ((nI (flV a1 a2 a3 a4 a5 15)).toInt64) ov] : va_W)) ++ WM adM g I L S Z Y) (st' := [.int (nI 0)]) (cells' := cells + 0) (slots' := slots + 0) (pc' := 1294) rfl rfl rfl rfl rfl ?_
  refine g_run X KL_law_1294_179 KL_law_1294_179_d 1302 [(5, .int (nI 0)), (0, .ref b), (1, .ref (adC 0)), (2, .ref (adM 0)), (3, .ref ao), (4, .int (nI (6 * k)))] [.int ((nI (6 * k)) + (nI 1)), .ref b, .ref (adM 0)] rfl ?_
  refine g_nm (lv' := [(5, .int (nI 0)), (0, .ref b), (1, .ref (adC 0)), (2, .ref (adM 0)), (3, .ref ao), (4, .int (nI (6 * k)))]) (st' := [.int (nI ((6 * k) + 1)), .ref b, .ref (adM 0)]) (by simp only [nI_add]) (by simp only [nI_add]) ?_
  refine g_sld X hX hbl hbA hN (v := nI a1) (by omega) e1 dL_law_1302 ?_
  refine g_run X KL_law_1303_180 KL_law_1303_180_d 1308 [(5, .int (nI 0)), (0, .ref b), (1, .ref (adC 0)), (2, .ref (adM 0)), (3, .ref ao), (4, .int (nI (6 * k)))] [.int ((nI (6 * k)) + (nI 2)), .ref b, .int (nI a1), .ref (adM 0)] rfl ?_
  refine g_nm (lv' := [(5, .int (nI 0)), (0, .ref b), (1, .ref (adC 0)), (2, .ref (adM 0)), (3, .ref ao), (4, .int (nI (6 * k)))]) (st' := [.int (nI ((6 * k) + 2)), .ref b, .int (nI a1), .ref (adM 0)]) (by simp only [nI_add]) (by simp only [nI_add]) ?_
  refine g_sld X hX hbl hbA hN (v := nI a2) (by omega) e2 dL_law_1308 ?_
  refine g_run X KL_law_1309_181 KL_law_1309_181_d 1314 [(5, .int (nI 0)), (0, .ref b), (1, .ref (adC 0)), (2, .ref (adM 0)), (3, .ref ao), (4, .int (nI (6 * k)))] [.int ((nI (6 * k)) + (nI 3)), .ref b, .int (nI a2), .int (nI a1), .ref (adM 0)] rfl ?_
  refine g_nm (lv' := [(5, .int (nI 0)), (0, .ref b), (1, .ref (adC 0)), (2, .ref (adM 0)), (3, .ref ao), (4, .int (nI (6 * k)))]) (st' := [.int (nI ((6 * k) + 3)), .ref b, .int (nI a2), .int (nI a1), .ref (adM 0)]) (by simp only [nI_add]) (by simp only [nI_add]) ?_
  refine g_sld X hX hbl hbA hN (v := nI a3) (by omega) e3 dL_law_1314 ?_
  refine g_run X KL_law_1315_182 KL_law_1315_182_d 1320 [(5, .int (nI 0)), (0, .ref b), (1, .ref (adC 0)), (2, .ref (adM 0)), (3, .ref ao), (4, .int (nI (6 * k)))] [.int ((nI (6 * k)) + (nI 4)), .ref b, .int (nI a3), .int (nI a2), .int (nI a1), .ref (adM 0)] rfl ?_
  refine g_nm (lv' := [(5, .int (nI 0)), (0, .ref b), (1, .ref (adC 0)), (2, .ref (adM 0)), (3, .ref ao), (4, .int (nI (6 * k)))]) (st' := [.int (nI ((6 * k) + 4)), .ref b, .int (nI a3), .int (nI a2), .int (nI a1), .ref (adM 0)]) (by simp only [nI_add]) (by simp only [nI_add]) ?_
  refine g_sld X hX hbl hbA hN (v := nI a4) (by omega) e4 dL_law_1320 ?_
  refine g_run X KL_law_1321_183 KL_law_1321_183_d 1326 [(5, .int (nI 0)), (0, .ref b), (1, .ref (adC 0)), (2, .ref (adM 0)), (3, .ref ao), (4, .int (nI (6 * k)))] [.int ((nI (6 * k)) + (nI 5)), .ref b, .int (nI a4), .int (nI a3), .int (nI a2), .int (nI a1), .ref (adM 0)] rfl ?_
  refine g_nm (lv' := [(5, .int (nI 0)), (0, .ref b), (1, .ref (adC 0)), (2, .ref (adM 0)), (3, .ref ao), (4, .int (nI (6 * k)))]) (st' := [.int (nI ((6 * k) + 5)), .ref b, .int (nI a4), .int (nI a3), .int (nI a2), .int (nI a1), .ref (adM 0)]) (by simp only [nI_add]) (by simp only [nI_add]) ?_
  refine g_sld X hX hbl hbA hN (v := nI a5) (by omega) e5 dL_law_1326 ?_
  refine g_perm (ws' := WM adM g I L S Z Y ++ (WC adC g I L S ++ ([OUT ao ((nI (flV a1 a2 a3 a4 a5 15)).toInt64) ov] : va_W))) (List.perm_append_comm (l₁ := WM adM g I L S Z Y) (l₂ := (WC adC g I L S ++ ([OUT ao ((nI (flV a1 a2 a3 a4 a5 15)).toInt64) ov] : va_W)))) ?_
  refine g_callV X hSB hAf srcW (hrc1 := (rfl : CL[8]? = some _)) (wm_mem (k := 0) (by decide)) rfl (As := [.int (nI a1), .int (nI a2), .int (nI a3), .int (nI a4), .int (nI a5)]) (wr := WC adC g I L S ++ ([OUT ao ((nI (flV a1 a2 a3 a4 a5 15)).toInt64) ov] : va_W)) (n := 5) (c_X9_fooled l D g adM I L S Z Y a1 a2 a3 a4 a5 R (hR) (hZ) (by first | assumption | omega) (by first | assumption | omega) (by first | assumption | omega) (by first | assumption | omega) (by first | assumption | omega) (by first | assumption | omega) (by first | assumption | omega) (by first | assumption | omega) (by first | assumption | omega) (by first | assumption | omega)) rfl srcN hrdN w_1440 w_1437 w_1438 w_1439 w_6 (by decide +kernel) rfl ⟨Nat.le_of_ble_eq_true rfl, Nat.le_of_ble_eq_true rfl⟩ rfl rfl rfl (Nat.le_of_ble_eq_true rfl) ⟨by show cells + 0 + 1 ≤ 600002; omega, by show slots + 0 + 15 ≤ 7302232; omega⟩ dL_law_1327 (fun hu2 hp_hu2 => ?_)
  refine g_af (ws' := WM adM g I L S (z4 (u2 Z 3 0 (nI 0)) hu2.1 hu2.2.1 hu2.2.2) Y ++ (WC adC g I L S ++ ([OUT ao ((nI (flV a1 a2 a3 a4 a5 15)).toInt64) ov] : va_W))) (st' := [.int (nI (flV a1 a2 a3 a4 a5 15))]) (cells' := cells + 0 + 1) (slots' := slots + 0 + 15) (pc' := 1330) rfl rfl rfl rfl rfl ?_
  refine g_run X KL_law_1330_184 KL_law_1330_184_d 1333 [(6, .int (nI (flV a1 a2 a3 a4 a5 15))), (5, .int (nI 0)), (0, .ref b), (1, .ref (adC 0)), (2, .ref (adM 0)), (3, .ref ao), (4, .int (nI (6 * k)))] [.ref (adM 0)] rfl ?_
  refine g_callV X hSB hAf srcW (hrc1 := (rfl : CL[8]? = some _)) (wm_mem (k := 0) (by decide)) rfl (As := []) (wr := WC adC g I L S ++ ([OUT ao ((nI (flV a1 a2 a3 a4 a5 15)).toInt64) ov] : va_W)) (n := 0) (c_X9_thrown l D g adM I L S (z4 (u2 Z 3 0 (nI 0)) hu2.1 hu2.2.1 hu2.2.2) Y ) rfl srcN hrdN w_1250 w_1247 w_1248 w_1249 w_6 (by decide +kernel) rfl ⟨Nat.le_of_ble_eq_true rfl, Nat.le_of_ble_eq_true rfl⟩ rfl rfl rfl (Nat.le_of_ble_eq_true rfl) ⟨by show cells + 0 + 1 + 0 ≤ 600002; omega, by show slots + 0 + 15 + 0 ≤ 7302232; omega⟩ dL_law_1333 (fun hu3 hp_hu3 => ?_)
  refine g_af (ws' := WM adM g I L S (z4 (u2 Z 3 0 (nI 0)) hu2.1 hu2.2.1 hu2.2.2) Y ++ (WC adC g I L S ++ ([OUT ao ((nI (flV a1 a2 a3 a4 a5 15)).toInt64) ov] : va_W))) (st' := [.int ((z4 (u2 Z 3 0 (nI 0)) hu2.1 hu2.2.1 hu2.2.2) 3 0)]) (cells' := cells + 0 + 1 + 0) (slots' := slots + 0 + 15 + 0) (pc' := 1336) rfl rfl rfl rfl rfl ?_
  refine g_st (st' := [.int (nI 0)]) (by first | rfl | (simp [z4, u2]; done)) ?_
  refine g_run X KL_law_1336_185 KL_law_1336_185_d 1338 [(6, .int (nI (flV a1 a2 a3 a4 a5 15))), (5, .int (nI 0)), (0, .ref b), (1, .ref (adC 0)), (2, .ref (adM 0)), (3, .ref ao), (4, .int (nI (6 * k)))] [.int (nI 0), .int (nI 0)] rfl ?_
  refine g_icmp_eq X 1343 dL_law_1338 (by decide) (fun hc4 => ?_) (fun hc4 => ?_)
  · refine g_run X KL_law_1343_186 KL_law_1343_186_d 1345 [(6, .int (nI (flV a1 a2 a3 a4 a5 15))), (5, .int (nI 0)), (0, .ref b), (1, .ref (adC 0)), (2, .ref (adM 0)), (3, .ref ao), (4, .int (nI (6 * k)))] [.int (nI 0)] rfl ?_
    refine g_if_ne X 1361 dL_law_1345 (by decide) (fun hc5 => ?_) (fun hc5 => ?_)
    · rw [nz_eq (by omega)] at hc5; first | omega | (simp at hc5)
    · refine g_run X KL_law_1348_188 KL_law_1348_188_d 1349 [(6, .int (nI (flV a1 a2 a3 a4 a5 15))), (5, .int (nI 0)), (0, .ref b), (1, .ref (adC 0)), (2, .ref (adM 0)), (3, .ref ao), (4, .int (nI (6 * k)))] [.ref ao] rfl ?_
      refine g_getN X srcW (host := "ChipfieldLaw") (v := .long ((nI (flV a1 a2 a3 a4 a5 15)).toInt64)) hinX6 rfl 0 (by decide) (nw_in n_489 rfl) rfl (List.mem_append_right _ (List.mem_append_right _ List.mem_cons_self)) rfl dL_law_1349 ?_
      refine g_run X KL_law_1352_189 KL_law_1352_189_d 1356 [(6, .int (nI (flV a1 a2 a3 a4 a5 15))), (5, .int (nI 0)), (0, .ref b), (1, .ref (adC 0)), (2, .ref (adM 0)), (3, .ref ao), (4, .int (nI (6 * k)))] [.int (lg_cmp ((nI (flV a1 a2 a3 a4 a5 15)).toInt64) ((nI (flV a1 a2 a3 a4 a5 15)).toInt64))] rfl ?_
      refine g_if_eq X 1361 dL_law_1356 (by decide) (fun hc6 => ?_) (fun hc6 => ?_)
      · refine g_run X KL_law_1361_187 KL_law_1361_187_d 2256 [(6, .int (nI (flV a1 a2 a3 a4 a5 15))), (5, .int (nI 0)), (0, .ref b), (1, .ref (adC 0)), (2, .ref (adM 0)), (3, .ref ao), (4, .int (nI (6 * k)))] [] rfl ?_
        refine g_lv (lv' := [(0, .ref b), (1, .ref (adC 0)), (2, .ref (adM 0)), (3, .ref ao), (4, .int (nI (6 * k)))]) (lsub_c 2 rfl (lsub_c 3 rfl (lsub_c 4 rfl (lsub_c 5 rfl (lsub_c 6 rfl (lsub_n)))))) ?_
        refine g_perm (ws' := (WC adC g I L S ++ ([OUT ao ((nI (flV a1 a2 a3 a4 a5 15)).toInt64) ov] : va_W)) ++ WM adM g I L S (z4 (u2 Z 3 0 (nI 0)) hu2.1 hu2.2.1 hu2.2.2) Y) (List.perm_append_comm (l₁ := (WC adC g I L S ++ ([OUT ao ((nI (flV a1 a2 a3 a4 a5 15)).toInt64) ov] : va_W))) (l₂ := WM adM g I L S (z4 (u2 Z 3 0 (nI 0)) hu2.1 hu2.2.1 hu2.2.2) Y)) ?_
        refine g_widen (k := cells + 60) (n := slots + 1200) (by omega) (by omega) ?_
        exact kk I L S n (z4 (u2 Z 3 0 (nI 0)) hu2.1 hu2.2.1 hu2.2.2) Y hu2.1 ((nI (flV a1 a2 a3 a4 a5 15)).toInt64) ov (hI) (hp_hu2) (rfl)
      · exact absurd lg_self hc6
  · rw [nI_eq (by omega) (by omega)] at hc4; first | omega | (simp at hc4)

set_option maxHeartbeats 4000000 in
set_option maxRecDepth 100000 in
theorem lq16_6 {p : Program} {l : Launch} {e : Env} {s : State} {m : MethodId} {below : List Frame} {meth : Method} {c : Code} {Q : State → Prop} {D : va_G} {A : Nat → Prop} {b N : Nat} {xs : Nat → Int32} {adC adM : Nat → Nat} {g : Nat → ClassId} {ao k cells slots : Nat} {I : Nat → Nat → Int32} {L : Nat → Nat → Int64} {S : Nat → Nat} {n : Nat} {Z : Nat → Nat → Int32} {Y : Int64} {R : Nat → Nat} {on : Int64} {ov : Value} (HX : LX p l s m meth c A b N xs) (hk : 6 * k + 6 ≤ N) (hroom : cells + 60 ≤ 600002 ∧ slots + 1200 ≤ 7302232) (hI : Inv I L S n) (hR : R16 R) (hZ : Z 0 = fun j => nI (R j)) (a1 : Nat) (hl1 : 0 ≤ a1) (hu1 : a1 < 15) (e1 : xs (6 * k + 1) = nI a1) (a2 : Nat) (hl2 : 0 ≤ a2) (hu2 : a2 < 15) (e2 : xs (6 * k + 2) = nI a2) (a3 : Nat) (hl3 : 0 ≤ a3) (hu3 : a3 < 15) (e3 : xs (6 * k + 3) = nI a3) (h12 : a1 ≠ a2) (h13 : a1 ≠ a3) (h23 : a2 ≠ a3) (a4 : Nat) (hl4 : 1 ≤ a4) (hu4 : a4 < 16) (e4 : xs (6 * k + 4) = nI a4) (hw : (xs (6 * k + 5)).toInt < (1 : Nat) ∨ ((16 : Nat) : Int) ≤ (xs (6 * k + 5)).toInt) (kk : LK p l e s m below meth c Q D A b adC adM g ao k cells slots 2256) : GL p l e room_1 s m #[.ref b] below meth c Q D CL (TYS g) A 9 (WL adC adM g ao I L S Z Y on ov) cells slots 1259 [(0, .ref b), (1, .ref (adC 0)), (2, .ref (adM 0)), (3, .ref ao), (4, .int (nI (6 * k)))] [] := by
  obtain ⟨X, hSB, hAf, hNC, hfl, hX, hbl, hbA, hN⟩ := HX
  refine g_run X KL_law_1259_173 KL_law_1259_173_d 1265 [(0, .ref b), (1, .ref (adC 0)), (2, .ref (adM 0)), (3, .ref ao), (4, .int (nI (6 * k)))] [.int ((nI (6 * k)) + (nI 1)), .ref b, .ref (adC 0)] rfl ?_
  refine g_nm (lv' := [(0, .ref b), (1, .ref (adC 0)), (2, .ref (adM 0)), (3, .ref ao), (4, .int (nI (6 * k)))]) (st' := [.int (nI ((6 * k) + 1)), .ref b, .ref (adC 0)]) (by simp only [nI_add]) (by simp only [nI_add]) ?_
  refine g_sld X hX hbl hbA hN (v := nI a1) (by omega) e1 dL_law_1265 ?_
  refine g_run X KL_law_1266_174 KL_law_1266_174_d 1271 [(0, .ref b), (1, .ref (adC 0)), (2, .ref (adM 0)), (3, .ref ao), (4, .int (nI (6 * k)))] [.int ((nI (6 * k)) + (nI 2)), .ref b, .int (nI a1), .ref (adC 0)] rfl ?_
  refine g_nm (lv' := [(0, .ref b), (1, .ref (adC 0)), (2, .ref (adM 0)), (3, .ref ao), (4, .int (nI (6 * k)))]) (st' := [.int (nI ((6 * k) + 2)), .ref b, .int (nI a1), .ref (adC 0)]) (by simp only [nI_add]) (by simp only [nI_add]) ?_
  refine g_sld X hX hbl hbA hN (v := nI a2) (by omega) e2 dL_law_1271 ?_
  refine g_run X KL_law_1272_175 KL_law_1272_175_d 1277 [(0, .ref b), (1, .ref (adC 0)), (2, .ref (adM 0)), (3, .ref ao), (4, .int (nI (6 * k)))] [.int ((nI (6 * k)) + (nI 3)), .ref b, .int (nI a2), .int (nI a1), .ref (adC 0)] rfl ?_
  refine g_nm (lv' := [(0, .ref b), (1, .ref (adC 0)), (2, .ref (adM 0)), (3, .ref ao), (4, .int (nI (6 * k)))]) (st' := [.int (nI ((6 * k) + 3)), .ref b, .int (nI a2), .int (nI a1), .ref (adC 0)]) (by simp only [nI_add]) (by simp only [nI_add]) ?_
  refine g_sld X hX hbl hbA hN (v := nI a3) (by omega) e3 dL_law_1277 ?_
  refine g_run X KL_law_1278_176 KL_law_1278_176_d 1283 [(0, .ref b), (1, .ref (adC 0)), (2, .ref (adM 0)), (3, .ref ao), (4, .int (nI (6 * k)))] [.int ((nI (6 * k)) + (nI 4)), .ref b, .int (nI a3), .int (nI a2), .int (nI a1), .ref (adC 0)] rfl ?_
  refine g_nm (lv' := [(0, .ref b), (1, .ref (adC 0)), (2, .ref (adM 0)), (3, .ref ao), (4, .int (nI (6 * k)))]) (st' := [.int (nI ((6 * k) + 4)), .ref b, .int (nI a3), .int (nI a2), .int (nI a1), .ref (adC 0)]) (by simp only [nI_add]) (by simp only [nI_add]) ?_
  refine g_sld X hX hbl hbA hN (v := nI a4) (by omega) e4 dL_law_1283 ?_
  refine g_run X KL_law_1284_177 KL_law_1284_177_d 1289 [(0, .ref b), (1, .ref (adC 0)), (2, .ref (adM 0)), (3, .ref ao), (4, .int (nI (6 * k)))] [.int ((nI (6 * k)) + (nI 5)), .ref b, .int (nI a4), .int (nI a3), .int (nI a2), .int (nI a1), .ref (adC 0)] rfl ?_
  refine g_nm (lv' := [(0, .ref b), (1, .ref (adC 0)), (2, .ref (adM 0)), (3, .ref ao), (4, .int (nI (6 * k)))]) (st' := [.int (nI ((6 * k) + 5)), .ref b, .int (nI a4), .int (nI a3), .int (nI a2), .int (nI a1), .ref (adC 0)]) (by simp only [nI_add]) (by simp only [nI_add]) ?_
  refine g_sld X hX hbl hbA hN (v := xs (6 * k + 5)) (by omega) rfl dL_law_1289 ?_
  refine g_run X KL_law_1290_178 KL_law_1290_178_d 1291 [(0, .ref b), (1, .ref (adC 0)), (2, .ref (adM 0)), (3, .ref ao), (4, .int (nI (6 * k)))] [.ref ao, .int (xs (6 * k + 5)), .int (nI a4), .int (nI a3), .int (nI a2), .int (nI a1), .ref (adC 0)] rfl ?_
  refine g_callSW X hSB hAf hNC (As := [.ref (adC 0), .int (nI a1), .int (nI a2), .int (nI a3), .int (nI a4), .int (xs (6 * k + 5)), .ref ao]) (wr := WM adM g I L S Z Y) (n := 7) (hx_fooled_6 l hfl D g adC I L S a1 a2 a3 a4 (xs (6 * k + 5)) ao on ov (by first | assumption | omega) (by first | assumption | omega) (by first | assumption | omega) (by first | assumption | omega) (by first | assumption | omega) (by first | assumption | omega) (by first | assumption | omega) (by first | assumption | omega) (out_lo (by decide) (by decide) hw)) rfl w_706 w_704 w_705 w_0 (by decide +kernel) rfl ⟨Nat.le_of_ble_eq_true rfl, Nat.le_of_ble_eq_true rfl⟩ rfl rfl rfl (Nat.le_of_ble_eq_true rfl) ⟨by show cells + 1 ≤ 600002; omega, by show slots + 6 ≤ 7302232; omega⟩ dL_law_1291 (fun hu1 _ => ?_)
  refine g_af (ws' := (WC adC g I L S ++ ([OUT ao on ov] : va_W)) ++ WM adM g I L S Z Y) (st' := [.int (nI 2)]) (cells' := cells + 1) (slots' := slots + 6) (pc' := 1294) rfl rfl rfl rfl rfl ?_
  refine g_run X KL_law_1294_179 KL_law_1294_179_d 1302 [(5, .int (nI 2)), (0, .ref b), (1, .ref (adC 0)), (2, .ref (adM 0)), (3, .ref ao), (4, .int (nI (6 * k)))] [.int ((nI (6 * k)) + (nI 1)), .ref b, .ref (adM 0)] rfl ?_
  refine g_nm (lv' := [(5, .int (nI 2)), (0, .ref b), (1, .ref (adC 0)), (2, .ref (adM 0)), (3, .ref ao), (4, .int (nI (6 * k)))]) (st' := [.int (nI ((6 * k) + 1)), .ref b, .ref (adM 0)]) (by simp only [nI_add]) (by simp only [nI_add]) ?_
  refine g_sld X hX hbl hbA hN (v := nI a1) (by omega) e1 dL_law_1302 ?_
  refine g_run X KL_law_1303_180 KL_law_1303_180_d 1308 [(5, .int (nI 2)), (0, .ref b), (1, .ref (adC 0)), (2, .ref (adM 0)), (3, .ref ao), (4, .int (nI (6 * k)))] [.int ((nI (6 * k)) + (nI 2)), .ref b, .int (nI a1), .ref (adM 0)] rfl ?_
  refine g_nm (lv' := [(5, .int (nI 2)), (0, .ref b), (1, .ref (adC 0)), (2, .ref (adM 0)), (3, .ref ao), (4, .int (nI (6 * k)))]) (st' := [.int (nI ((6 * k) + 2)), .ref b, .int (nI a1), .ref (adM 0)]) (by simp only [nI_add]) (by simp only [nI_add]) ?_
  refine g_sld X hX hbl hbA hN (v := nI a2) (by omega) e2 dL_law_1308 ?_
  refine g_run X KL_law_1309_181 KL_law_1309_181_d 1314 [(5, .int (nI 2)), (0, .ref b), (1, .ref (adC 0)), (2, .ref (adM 0)), (3, .ref ao), (4, .int (nI (6 * k)))] [.int ((nI (6 * k)) + (nI 3)), .ref b, .int (nI a2), .int (nI a1), .ref (adM 0)] rfl ?_
  refine g_nm (lv' := [(5, .int (nI 2)), (0, .ref b), (1, .ref (adC 0)), (2, .ref (adM 0)), (3, .ref ao), (4, .int (nI (6 * k)))]) (st' := [.int (nI ((6 * k) + 3)), .ref b, .int (nI a2), .int (nI a1), .ref (adM 0)]) (by simp only [nI_add]) (by simp only [nI_add]) ?_
  refine g_sld X hX hbl hbA hN (v := nI a3) (by omega) e3 dL_law_1314 ?_
  refine g_run X KL_law_1315_182 KL_law_1315_182_d 1320 [(5, .int (nI 2)), (0, .ref b), (1, .ref (adC 0)), (2, .ref (adM 0)), (3, .ref ao), (4, .int (nI (6 * k)))] [.int ((nI (6 * k)) + (nI 4)), .ref b, .int (nI a3), .int (nI a2), .int (nI a1), .ref (adM 0)] rfl ?_
  refine g_nm (lv' := [(5, .int (nI 2)), (0, .ref b), (1, .ref (adC 0)), (2, .ref (adM 0)), (3, .ref ao), (4, .int (nI (6 * k)))]) (st' := [.int (nI ((6 * k) + 4)), .ref b, .int (nI a3), .int (nI a2), .int (nI a1), .ref (adM 0)]) (by simp only [nI_add]) (by simp only [nI_add]) ?_
  refine g_sld X hX hbl hbA hN (v := nI a4) (by omega) e4 dL_law_1320 ?_
  refine g_run X KL_law_1321_183 KL_law_1321_183_d 1326 [(5, .int (nI 2)), (0, .ref b), (1, .ref (adC 0)), (2, .ref (adM 0)), (3, .ref ao), (4, .int (nI (6 * k)))] [.int ((nI (6 * k)) + (nI 5)), .ref b, .int (nI a4), .int (nI a3), .int (nI a2), .int (nI a1), .ref (adM 0)] rfl ?_
  refine g_nm (lv' := [(5, .int (nI 2)), (0, .ref b), (1, .ref (adC 0)), (2, .ref (adM 0)), (3, .ref ao), (4, .int (nI (6 * k)))]) (st' := [.int (nI ((6 * k) + 5)), .ref b, .int (nI a4), .int (nI a3), .int (nI a2), .int (nI a1), .ref (adM 0)]) (by simp only [nI_add]) (by simp only [nI_add]) ?_
  refine g_sld X hX hbl hbA hN (v := xs (6 * k + 5)) (by omega) rfl dL_law_1326 ?_
  refine g_perm (ws' := WM adM g I L S Z Y ++ (WC adC g I L S ++ ([OUT ao on ov] : va_W))) (List.perm_append_comm (l₁ := WM adM g I L S Z Y) (l₂ := (WC adC g I L S ++ ([OUT ao on ov] : va_W)))) ?_
  refine g_callV X hSB hAf srcW (hrc1 := (rfl : CL[8]? = some _)) (wm_mem (k := 0) (by decide)) rfl (As := [.int (nI a1), .int (nI a2), .int (nI a3), .int (nI a4), .int (xs (6 * k + 5))]) (wr := WC adC g I L S ++ ([OUT ao on ov] : va_W)) (n := 5) (c_X9_fooled_6 l D g adM I L S Z Y a1 a2 a3 a4 (xs (6 * k + 5)) (by first | assumption | omega) (by first | assumption | omega) (by first | assumption | omega) (by first | assumption | omega) (by first | assumption | omega) (by first | assumption | omega) (by first | assumption | omega) (by first | assumption | omega) (out_lo (by decide) (by decide) hw)) rfl srcN hrdN w_1440 w_1437 w_1438 w_1439 w_6 (by decide +kernel) rfl ⟨Nat.le_of_ble_eq_true rfl, Nat.le_of_ble_eq_true rfl⟩ rfl rfl rfl (Nat.le_of_ble_eq_true rfl) ⟨by show cells + 1 + 0 ≤ 600002; omega, by show slots + 6 + 0 ≤ 7302232; omega⟩ dL_law_1327 (fun hu2 hp_hu2 => ?_)
  refine g_af (ws' := WM adM g I L S (u2 (u2 Z 3 0 (nI 0)) 3 0 (nI 2)) Y ++ (WC adC g I L S ++ ([OUT ao on ov] : va_W))) (st' := [.int (nI 0)]) (cells' := cells + 1 + 0) (slots' := slots + 6 + 0) (pc' := 1330) rfl rfl rfl rfl rfl ?_
  refine g_run X KL_law_1330_184 KL_law_1330_184_d 1333 [(6, .int (nI 0)), (5, .int (nI 2)), (0, .ref b), (1, .ref (adC 0)), (2, .ref (adM 0)), (3, .ref ao), (4, .int (nI (6 * k)))] [.ref (adM 0)] rfl ?_
  refine g_callV X hSB hAf srcW (hrc1 := (rfl : CL[8]? = some _)) (wm_mem (k := 0) (by decide)) rfl (As := []) (wr := WC adC g I L S ++ ([OUT ao on ov] : va_W)) (n := 0) (c_X9_thrown l D g adM I L S (u2 (u2 Z 3 0 (nI 0)) 3 0 (nI 2)) Y ) rfl srcN hrdN w_1250 w_1247 w_1248 w_1249 w_6 (by decide +kernel) rfl ⟨Nat.le_of_ble_eq_true rfl, Nat.le_of_ble_eq_true rfl⟩ rfl rfl rfl (Nat.le_of_ble_eq_true rfl) ⟨by show cells + 1 + 0 + 0 ≤ 600002; omega, by show slots + 6 + 0 + 0 ≤ 7302232; omega⟩ dL_law_1333 (fun hu3 hp_hu3 => ?_)
  refine g_af (ws' := WM adM g I L S (u2 (u2 Z 3 0 (nI 0)) 3 0 (nI 2)) Y ++ (WC adC g I L S ++ ([OUT ao on ov] : va_W))) (st' := [.int ((u2 (u2 Z 3 0 (nI 0)) 3 0 (nI 2)) 3 0)]) (cells' := cells + 1 + 0 + 0) (slots' := slots + 6 + 0 + 0) (pc' := 1336) rfl rfl rfl rfl rfl ?_
  refine g_st (st' := [.int (nI 2)]) (by first | rfl | (simp [z4, u2]; done)) ?_
  refine g_run X KL_law_1336_185 KL_law_1336_185_d 1338 [(6, .int (nI 0)), (5, .int (nI 2)), (0, .ref b), (1, .ref (adC 0)), (2, .ref (adM 0)), (3, .ref ao), (4, .int (nI (6 * k)))] [.int (nI 2), .int (nI 2)] rfl ?_
  refine g_icmp_eq X 1343 dL_law_1338 (by decide) (fun hc4 => ?_) (fun hc4 => ?_)
  · refine g_run X KL_law_1343_186 KL_law_1343_186_d 1345 [(6, .int (nI 0)), (5, .int (nI 2)), (0, .ref b), (1, .ref (adC 0)), (2, .ref (adM 0)), (3, .ref ao), (4, .int (nI (6 * k)))] [.int (nI 2)] rfl ?_
    refine g_if_ne X 1361 dL_law_1345 (by decide) (fun hc5 => ?_) (fun hc5 => ?_)
    · refine g_run X KL_law_1361_187 KL_law_1361_187_d 2256 [(6, .int (nI 0)), (5, .int (nI 2)), (0, .ref b), (1, .ref (adC 0)), (2, .ref (adM 0)), (3, .ref ao), (4, .int (nI (6 * k)))] [] rfl ?_
      refine g_lv (lv' := [(0, .ref b), (1, .ref (adC 0)), (2, .ref (adM 0)), (3, .ref ao), (4, .int (nI (6 * k)))]) (lsub_c 2 rfl (lsub_c 3 rfl (lsub_c 4 rfl (lsub_c 5 rfl (lsub_c 6 rfl (lsub_n)))))) ?_
      refine g_perm (ws' := (WC adC g I L S ++ ([OUT ao on ov] : va_W)) ++ WM adM g I L S (u2 (u2 Z 3 0 (nI 0)) 3 0 (nI 2)) Y) (List.perm_append_comm (l₁ := (WC adC g I L S ++ ([OUT ao on ov] : va_W))) (l₂ := WM adM g I L S (u2 (u2 Z 3 0 (nI 0)) 3 0 (nI 2)) Y)) ?_
      refine g_widen (k := cells + 60) (n := slots + 1200) (by omega) (by omega) ?_
      exact kk I L S n (u2 (u2 Z 3 0 (nI 0)) 3 0 (nI 2)) Y R on ov (hI) (hR) (by first | exact hZ | (rw [zrow]; exact hZ) | (rw [zrow, zrow]; exact hZ))
    · rw [nz_eq (by omega)] at hc5; first | omega | (simp at hc5)
  · rw [nI_eq (by omega) (by omega)] at hc4; first | omega | (simp at hc4)

set_option maxHeartbeats 4000000 in
set_option maxRecDepth 100000 in
theorem lq16_5 {p : Program} {l : Launch} {e : Env} {s : State} {m : MethodId} {below : List Frame} {meth : Method} {c : Code} {Q : State → Prop} {D : va_G} {A : Nat → Prop} {b N : Nat} {xs : Nat → Int32} {adC adM : Nat → Nat} {g : Nat → ClassId} {ao k cells slots : Nat} {I : Nat → Nat → Int32} {L : Nat → Nat → Int64} {S : Nat → Nat} {n : Nat} {Z : Nat → Nat → Int32} {Y : Int64} {R : Nat → Nat} {on : Int64} {ov : Value} (HX : LX p l s m meth c A b N xs) (hk : 6 * k + 6 ≤ N) (hroom : cells + 60 ≤ 600002 ∧ slots + 1200 ≤ 7302232) (hI : Inv I L S n) (hR : R16 R) (hZ : Z 0 = fun j => nI (R j)) (a1 : Nat) (hl1 : 0 ≤ a1) (hu1 : a1 < 15) (e1 : xs (6 * k + 1) = nI a1) (a2 : Nat) (hl2 : 0 ≤ a2) (hu2 : a2 < 15) (e2 : xs (6 * k + 2) = nI a2) (a3 : Nat) (hl3 : 0 ≤ a3) (hu3 : a3 < 15) (e3 : xs (6 * k + 3) = nI a3) (h12 : a1 ≠ a2) (h13 : a1 ≠ a3) (h23 : a2 ≠ a3) (hw : (xs (6 * k + 4)).toInt < (1 : Nat) ∨ ((16 : Nat) : Int) ≤ (xs (6 * k + 4)).toInt) (kk : LK p l e s m below meth c Q D A b adC adM g ao k cells slots 2256) : GL p l e room_1 s m #[.ref b] below meth c Q D CL (TYS g) A 9 (WL adC adM g ao I L S Z Y on ov) cells slots 1259 [(0, .ref b), (1, .ref (adC 0)), (2, .ref (adM 0)), (3, .ref ao), (4, .int (nI (6 * k)))] [] := by
  obtain ⟨X, hSB, hAf, hNC, hfl, hX, hbl, hbA, hN⟩ := HX
  refine g_run X KL_law_1259_173 KL_law_1259_173_d 1265 [(0, .ref b), (1, .ref (adC 0)), (2, .ref (adM 0)), (3, .ref ao), (4, .int (nI (6 * k)))] [.int ((nI (6 * k)) + (nI 1)), .ref b, .ref (adC 0)] rfl ?_
  refine g_nm (lv' := [(0, .ref b), (1, .ref (adC 0)), (2, .ref (adM 0)), (3, .ref ao), (4, .int (nI (6 * k)))]) (st' := [.int (nI ((6 * k) + 1)), .ref b, .ref (adC 0)]) (by simp only [nI_add]) (by simp only [nI_add]) ?_
  refine g_sld X hX hbl hbA hN (v := nI a1) (by omega) e1 dL_law_1265 ?_
  refine g_run X KL_law_1266_174 KL_law_1266_174_d 1271 [(0, .ref b), (1, .ref (adC 0)), (2, .ref (adM 0)), (3, .ref ao), (4, .int (nI (6 * k)))] [.int ((nI (6 * k)) + (nI 2)), .ref b, .int (nI a1), .ref (adC 0)] rfl ?_
  refine g_nm (lv' := [(0, .ref b), (1, .ref (adC 0)), (2, .ref (adM 0)), (3, .ref ao), (4, .int (nI (6 * k)))]) (st' := [.int (nI ((6 * k) + 2)), .ref b, .int (nI a1), .ref (adC 0)]) (by simp only [nI_add]) (by simp only [nI_add]) ?_
  refine g_sld X hX hbl hbA hN (v := nI a2) (by omega) e2 dL_law_1271 ?_
  refine g_run X KL_law_1272_175 KL_law_1272_175_d 1277 [(0, .ref b), (1, .ref (adC 0)), (2, .ref (adM 0)), (3, .ref ao), (4, .int (nI (6 * k)))] [.int ((nI (6 * k)) + (nI 3)), .ref b, .int (nI a2), .int (nI a1), .ref (adC 0)] rfl ?_
  refine g_nm (lv' := [(0, .ref b), (1, .ref (adC 0)), (2, .ref (adM 0)), (3, .ref ao), (4, .int (nI (6 * k)))]) (st' := [.int (nI ((6 * k) + 3)), .ref b, .int (nI a2), .int (nI a1), .ref (adC 0)]) (by simp only [nI_add]) (by simp only [nI_add]) ?_
  refine g_sld X hX hbl hbA hN (v := nI a3) (by omega) e3 dL_law_1277 ?_
  refine g_run X KL_law_1278_176 KL_law_1278_176_d 1283 [(0, .ref b), (1, .ref (adC 0)), (2, .ref (adM 0)), (3, .ref ao), (4, .int (nI (6 * k)))] [.int ((nI (6 * k)) + (nI 4)), .ref b, .int (nI a3), .int (nI a2), .int (nI a1), .ref (adC 0)] rfl ?_
  refine g_nm (lv' := [(0, .ref b), (1, .ref (adC 0)), (2, .ref (adM 0)), (3, .ref ao), (4, .int (nI (6 * k)))]) (st' := [.int (nI ((6 * k) + 4)), .ref b, .int (nI a3), .int (nI a2), .int (nI a1), .ref (adC 0)]) (by simp only [nI_add]) (by simp only [nI_add]) ?_
  refine g_sld X hX hbl hbA hN (v := xs (6 * k + 4)) (by omega) rfl dL_law_1283 ?_
  refine g_run X KL_law_1284_177 KL_law_1284_177_d 1289 [(0, .ref b), (1, .ref (adC 0)), (2, .ref (adM 0)), (3, .ref ao), (4, .int (nI (6 * k)))] [.int ((nI (6 * k)) + (nI 5)), .ref b, .int (xs (6 * k + 4)), .int (nI a3), .int (nI a2), .int (nI a1), .ref (adC 0)] rfl ?_
  refine g_nm (lv' := [(0, .ref b), (1, .ref (adC 0)), (2, .ref (adM 0)), (3, .ref ao), (4, .int (nI (6 * k)))]) (st' := [.int (nI ((6 * k) + 5)), .ref b, .int (xs (6 * k + 4)), .int (nI a3), .int (nI a2), .int (nI a1), .ref (adC 0)]) (by simp only [nI_add]) (by simp only [nI_add]) ?_
  refine g_sld X hX hbl hbA hN (v := xs (6 * k + 5)) (by omega) rfl dL_law_1289 ?_
  refine g_run X KL_law_1290_178 KL_law_1290_178_d 1291 [(0, .ref b), (1, .ref (adC 0)), (2, .ref (adM 0)), (3, .ref ao), (4, .int (nI (6 * k)))] [.ref ao, .int (xs (6 * k + 5)), .int (xs (6 * k + 4)), .int (nI a3), .int (nI a2), .int (nI a1), .ref (adC 0)] rfl ?_
  refine g_callSW X hSB hAf hNC (As := [.ref (adC 0), .int (nI a1), .int (nI a2), .int (nI a3), .int (xs (6 * k + 4)), .int (xs (6 * k + 5)), .ref ao]) (wr := WM adM g I L S Z Y) (n := 7) (hx_fooled_5 l hfl D g adC I L S a1 a2 a3 (xs (6 * k + 4)) (xs (6 * k + 5)) ao on ov (by first | assumption | omega) (by first | assumption | omega) (by first | assumption | omega) (by first | assumption | omega) (by first | assumption | omega) (by first | assumption | omega) (out_lo (by decide) (by decide) hw)) rfl w_706 w_704 w_705 w_0 (by decide +kernel) rfl ⟨Nat.le_of_ble_eq_true rfl, Nat.le_of_ble_eq_true rfl⟩ rfl rfl rfl (Nat.le_of_ble_eq_true rfl) ⟨by show cells + 1 ≤ 600002; omega, by show slots + 6 ≤ 7302232; omega⟩ dL_law_1291 (fun hu1 _ => ?_)
  refine g_af (ws' := (WC adC g I L S ++ ([OUT ao on ov] : va_W)) ++ WM adM g I L S Z Y) (st' := [.int (nI 2)]) (cells' := cells + 1) (slots' := slots + 6) (pc' := 1294) rfl rfl rfl rfl rfl ?_
  refine g_run X KL_law_1294_179 KL_law_1294_179_d 1302 [(5, .int (nI 2)), (0, .ref b), (1, .ref (adC 0)), (2, .ref (adM 0)), (3, .ref ao), (4, .int (nI (6 * k)))] [.int ((nI (6 * k)) + (nI 1)), .ref b, .ref (adM 0)] rfl ?_
  refine g_nm (lv' := [(5, .int (nI 2)), (0, .ref b), (1, .ref (adC 0)), (2, .ref (adM 0)), (3, .ref ao), (4, .int (nI (6 * k)))]) (st' := [.int (nI ((6 * k) + 1)), .ref b, .ref (adM 0)]) (by simp only [nI_add]) (by simp only [nI_add]) ?_
  refine g_sld X hX hbl hbA hN (v := nI a1) (by omega) e1 dL_law_1302 ?_
  refine g_run X KL_law_1303_180 KL_law_1303_180_d 1308 [(5, .int (nI 2)), (0, .ref b), (1, .ref (adC 0)), (2, .ref (adM 0)), (3, .ref ao), (4, .int (nI (6 * k)))] [.int ((nI (6 * k)) + (nI 2)), .ref b, .int (nI a1), .ref (adM 0)] rfl ?_
  refine g_nm (lv' := [(5, .int (nI 2)), (0, .ref b), (1, .ref (adC 0)), (2, .ref (adM 0)), (3, .ref ao), (4, .int (nI (6 * k)))]) (st' := [.int (nI ((6 * k) + 2)), .ref b, .int (nI a1), .ref (adM 0)]) (by simp only [nI_add]) (by simp only [nI_add]) ?_
  refine g_sld X hX hbl hbA hN (v := nI a2) (by omega) e2 dL_law_1308 ?_
  refine g_run X KL_law_1309_181 KL_law_1309_181_d 1314 [(5, .int (nI 2)), (0, .ref b), (1, .ref (adC 0)), (2, .ref (adM 0)), (3, .ref ao), (4, .int (nI (6 * k)))] [.int ((nI (6 * k)) + (nI 3)), .ref b, .int (nI a2), .int (nI a1), .ref (adM 0)] rfl ?_
  refine g_nm (lv' := [(5, .int (nI 2)), (0, .ref b), (1, .ref (adC 0)), (2, .ref (adM 0)), (3, .ref ao), (4, .int (nI (6 * k)))]) (st' := [.int (nI ((6 * k) + 3)), .ref b, .int (nI a2), .int (nI a1), .ref (adM 0)]) (by simp only [nI_add]) (by simp only [nI_add]) ?_
  refine g_sld X hX hbl hbA hN (v := nI a3) (by omega) e3 dL_law_1314 ?_
  refine g_run X KL_law_1315_182 KL_law_1315_182_d 1320 [(5, .int (nI 2)), (0, .ref b), (1, .ref (adC 0)), (2, .ref (adM 0)), (3, .ref ao), (4, .int (nI (6 * k)))] [.int ((nI (6 * k)) + (nI 4)), .ref b, .int (nI a3), .int (nI a2), .int (nI a1), .ref (adM 0)] rfl ?_
  refine g_nm (lv' := [(5, .int (nI 2)), (0, .ref b), (1, .ref (adC 0)), (2, .ref (adM 0)), (3, .ref ao), (4, .int (nI (6 * k)))]) (st' := [.int (nI ((6 * k) + 4)), .ref b, .int (nI a3), .int (nI a2), .int (nI a1), .ref (adM 0)]) (by simp only [nI_add]) (by simp only [nI_add]) ?_
  refine g_sld X hX hbl hbA hN (v := xs (6 * k + 4)) (by omega) rfl dL_law_1320 ?_
  refine g_run X KL_law_1321_183 KL_law_1321_183_d 1326 [(5, .int (nI 2)), (0, .ref b), (1, .ref (adC 0)), (2, .ref (adM 0)), (3, .ref ao), (4, .int (nI (6 * k)))] [.int ((nI (6 * k)) + (nI 5)), .ref b, .int (xs (6 * k + 4)), .int (nI a3), .int (nI a2), .int (nI a1), .ref (adM 0)] rfl ?_
  refine g_nm (lv' := [(5, .int (nI 2)), (0, .ref b), (1, .ref (adC 0)), (2, .ref (adM 0)), (3, .ref ao), (4, .int (nI (6 * k)))]) (st' := [.int (nI ((6 * k) + 5)), .ref b, .int (xs (6 * k + 4)), .int (nI a3), .int (nI a2), .int (nI a1), .ref (adM 0)]) (by simp only [nI_add]) (by simp only [nI_add]) ?_
  refine g_sld X hX hbl hbA hN (v := xs (6 * k + 5)) (by omega) rfl dL_law_1326 ?_
  refine g_perm (ws' := WM adM g I L S Z Y ++ (WC adC g I L S ++ ([OUT ao on ov] : va_W))) (List.perm_append_comm (l₁ := WM adM g I L S Z Y) (l₂ := (WC adC g I L S ++ ([OUT ao on ov] : va_W)))) ?_
  refine g_callV X hSB hAf srcW (hrc1 := (rfl : CL[8]? = some _)) (wm_mem (k := 0) (by decide)) rfl (As := [.int (nI a1), .int (nI a2), .int (nI a3), .int (xs (6 * k + 4)), .int (xs (6 * k + 5))]) (wr := WC adC g I L S ++ ([OUT ao on ov] : va_W)) (n := 5) (c_X9_fooled_5 l D g adM I L S Z Y a1 a2 a3 (xs (6 * k + 4)) (xs (6 * k + 5)) (by first | assumption | omega) (by first | assumption | omega) (by first | assumption | omega) (by first | assumption | omega) (by first | assumption | omega) (by first | assumption | omega) (out_lo (by decide) (by decide) hw)) rfl srcN hrdN w_1440 w_1437 w_1438 w_1439 w_6 (by decide +kernel) rfl ⟨Nat.le_of_ble_eq_true rfl, Nat.le_of_ble_eq_true rfl⟩ rfl rfl rfl (Nat.le_of_ble_eq_true rfl) ⟨by show cells + 1 + 0 ≤ 600002; omega, by show slots + 6 + 0 ≤ 7302232; omega⟩ dL_law_1327 (fun hu2 hp_hu2 => ?_)
  refine g_af (ws' := WM adM g I L S (u2 (u2 Z 3 0 (nI 0)) 3 0 (nI 2)) Y ++ (WC adC g I L S ++ ([OUT ao on ov] : va_W))) (st' := [.int (nI 0)]) (cells' := cells + 1 + 0) (slots' := slots + 6 + 0) (pc' := 1330) rfl rfl rfl rfl rfl ?_
  refine g_run X KL_law_1330_184 KL_law_1330_184_d 1333 [(6, .int (nI 0)), (5, .int (nI 2)), (0, .ref b), (1, .ref (adC 0)), (2, .ref (adM 0)), (3, .ref ao), (4, .int (nI (6 * k)))] [.ref (adM 0)] rfl ?_
  refine g_callV X hSB hAf srcW (hrc1 := (rfl : CL[8]? = some _)) (wm_mem (k := 0) (by decide)) rfl (As := []) (wr := WC adC g I L S ++ ([OUT ao on ov] : va_W)) (n := 0) (c_X9_thrown l D g adM I L S (u2 (u2 Z 3 0 (nI 0)) 3 0 (nI 2)) Y ) rfl srcN hrdN w_1250 w_1247 w_1248 w_1249 w_6 (by decide +kernel) rfl ⟨Nat.le_of_ble_eq_true rfl, Nat.le_of_ble_eq_true rfl⟩ rfl rfl rfl (Nat.le_of_ble_eq_true rfl) ⟨by show cells + 1 + 0 + 0 ≤ 600002; omega, by show slots + 6 + 0 + 0 ≤ 7302232; omega⟩ dL_law_1333 (fun hu3 hp_hu3 => ?_)
  refine g_af (ws' := WM adM g I L S (u2 (u2 Z 3 0 (nI 0)) 3 0 (nI 2)) Y ++ (WC adC g I L S ++ ([OUT ao on ov] : va_W))) (st' := [.int ((u2 (u2 Z 3 0 (nI 0)) 3 0 (nI 2)) 3 0)]) (cells' := cells + 1 + 0 + 0) (slots' := slots + 6 + 0 + 0) (pc' := 1336) rfl rfl rfl rfl rfl ?_
  refine g_st (st' := [.int (nI 2)]) (by first | rfl | (simp [z4, u2]; done)) ?_
  refine g_run X KL_law_1336_185 KL_law_1336_185_d 1338 [(6, .int (nI 0)), (5, .int (nI 2)), (0, .ref b), (1, .ref (adC 0)), (2, .ref (adM 0)), (3, .ref ao), (4, .int (nI (6 * k)))] [.int (nI 2), .int (nI 2)] rfl ?_
  refine g_icmp_eq X 1343 dL_law_1338 (by decide) (fun hc4 => ?_) (fun hc4 => ?_)
  · refine g_run X KL_law_1343_186 KL_law_1343_186_d 1345 [(6, .int (nI 0)), (5, .int (nI 2)), (0, .ref b), (1, .ref (adC 0)), (2, .ref (adM 0)), (3, .ref ao), (4, .int (nI (6 * k)))] [.int (nI 2)] rfl ?_
    refine g_if_ne X 1361 dL_law_1345 (by decide) (fun hc5 => ?_) (fun hc5 => ?_)
    · refine g_run X KL_law_1361_187 KL_law_1361_187_d 2256 [(6, .int (nI 0)), (5, .int (nI 2)), (0, .ref b), (1, .ref (adC 0)), (2, .ref (adM 0)), (3, .ref ao), (4, .int (nI (6 * k)))] [] rfl ?_
      refine g_lv (lv' := [(0, .ref b), (1, .ref (adC 0)), (2, .ref (adM 0)), (3, .ref ao), (4, .int (nI (6 * k)))]) (lsub_c 2 rfl (lsub_c 3 rfl (lsub_c 4 rfl (lsub_c 5 rfl (lsub_c 6 rfl (lsub_n)))))) ?_
      refine g_perm (ws' := (WC adC g I L S ++ ([OUT ao on ov] : va_W)) ++ WM adM g I L S (u2 (u2 Z 3 0 (nI 0)) 3 0 (nI 2)) Y) (List.perm_append_comm (l₁ := (WC adC g I L S ++ ([OUT ao on ov] : va_W))) (l₂ := WM adM g I L S (u2 (u2 Z 3 0 (nI 0)) 3 0 (nI 2)) Y)) ?_
      refine g_widen (k := cells + 60) (n := slots + 1200) (by omega) (by omega) ?_
      exact kk I L S n (u2 (u2 Z 3 0 (nI 0)) 3 0 (nI 2)) Y R on ov (hI) (hR) (by first | exact hZ | (rw [zrow]; exact hZ) | (rw [zrow, zrow]; exact hZ))
    · rw [nz_eq (by omega)] at hc5; first | omega | (simp at hc5)
  · rw [nI_eq (by omega) (by omega)] at hc4; first | omega | (simp at hc4)

set_option maxHeartbeats 4000000 in
set_option maxRecDepth 100000 in
theorem lq16_3 {p : Program} {l : Launch} {e : Env} {s : State} {m : MethodId} {below : List Frame} {meth : Method} {c : Code} {Q : State → Prop} {D : va_G} {A : Nat → Prop} {b N : Nat} {xs : Nat → Int32} {adC adM : Nat → Nat} {g : Nat → ClassId} {ao k cells slots : Nat} {I : Nat → Nat → Int32} {L : Nat → Nat → Int64} {S : Nat → Nat} {n : Nat} {Z : Nat → Nat → Int32} {Y : Int64} {R : Nat → Nat} {on : Int64} {ov : Value} (HX : LX p l s m meth c A b N xs) (hk : 6 * k + 6 ≤ N) (hroom : cells + 60 ≤ 600002 ∧ slots + 1200 ≤ 7302232) (hI : Inv I L S n) (hR : R16 R) (hZ : Z 0 = fun j => nI (R j)) (a1 : Nat) (hl1 : 0 ≤ a1) (hu1 : a1 < 15) (e1 : xs (6 * k + 1) = nI a1) (a2 : Nat) (hl2 : 0 ≤ a2) (hu2 : a2 < 15) (e2 : xs (6 * k + 2) = nI a2) (hw : (xs (6 * k + 3)).toInt < (0 : Nat) ∨ ((15 : Nat) : Int) ≤ (xs (6 * k + 3)).toInt) (kk : LK p l e s m below meth c Q D A b adC adM g ao k cells slots 2256) : GL p l e room_1 s m #[.ref b] below meth c Q D CL (TYS g) A 9 (WL adC adM g ao I L S Z Y on ov) cells slots 1259 [(0, .ref b), (1, .ref (adC 0)), (2, .ref (adM 0)), (3, .ref ao), (4, .int (nI (6 * k)))] [] := by
  obtain ⟨X, hSB, hAf, hNC, hfl, hX, hbl, hbA, hN⟩ := HX
  refine g_run X KL_law_1259_173 KL_law_1259_173_d 1265 [(0, .ref b), (1, .ref (adC 0)), (2, .ref (adM 0)), (3, .ref ao), (4, .int (nI (6 * k)))] [.int ((nI (6 * k)) + (nI 1)), .ref b, .ref (adC 0)] rfl ?_
  refine g_nm (lv' := [(0, .ref b), (1, .ref (adC 0)), (2, .ref (adM 0)), (3, .ref ao), (4, .int (nI (6 * k)))]) (st' := [.int (nI ((6 * k) + 1)), .ref b, .ref (adC 0)]) (by simp only [nI_add]) (by simp only [nI_add]) ?_
  refine g_sld X hX hbl hbA hN (v := nI a1) (by omega) e1 dL_law_1265 ?_
  refine g_run X KL_law_1266_174 KL_law_1266_174_d 1271 [(0, .ref b), (1, .ref (adC 0)), (2, .ref (adM 0)), (3, .ref ao), (4, .int (nI (6 * k)))] [.int ((nI (6 * k)) + (nI 2)), .ref b, .int (nI a1), .ref (adC 0)] rfl ?_
  refine g_nm (lv' := [(0, .ref b), (1, .ref (adC 0)), (2, .ref (adM 0)), (3, .ref ao), (4, .int (nI (6 * k)))]) (st' := [.int (nI ((6 * k) + 2)), .ref b, .int (nI a1), .ref (adC 0)]) (by simp only [nI_add]) (by simp only [nI_add]) ?_
  refine g_sld X hX hbl hbA hN (v := nI a2) (by omega) e2 dL_law_1271 ?_
  refine g_run X KL_law_1272_175 KL_law_1272_175_d 1277 [(0, .ref b), (1, .ref (adC 0)), (2, .ref (adM 0)), (3, .ref ao), (4, .int (nI (6 * k)))] [.int ((nI (6 * k)) + (nI 3)), .ref b, .int (nI a2), .int (nI a1), .ref (adC 0)] rfl ?_
  refine g_nm (lv' := [(0, .ref b), (1, .ref (adC 0)), (2, .ref (adM 0)), (3, .ref ao), (4, .int (nI (6 * k)))]) (st' := [.int (nI ((6 * k) + 3)), .ref b, .int (nI a2), .int (nI a1), .ref (adC 0)]) (by simp only [nI_add]) (by simp only [nI_add]) ?_
  refine g_sld X hX hbl hbA hN (v := xs (6 * k + 3)) (by omega) rfl dL_law_1277 ?_
  refine g_run X KL_law_1278_176 KL_law_1278_176_d 1283 [(0, .ref b), (1, .ref (adC 0)), (2, .ref (adM 0)), (3, .ref ao), (4, .int (nI (6 * k)))] [.int ((nI (6 * k)) + (nI 4)), .ref b, .int (xs (6 * k + 3)), .int (nI a2), .int (nI a1), .ref (adC 0)] rfl ?_
  refine g_nm (lv' := [(0, .ref b), (1, .ref (adC 0)), (2, .ref (adM 0)), (3, .ref ao), (4, .int (nI (6 * k)))]) (st' := [.int (nI ((6 * k) + 4)), .ref b, .int (xs (6 * k + 3)), .int (nI a2), .int (nI a1), .ref (adC 0)]) (by simp only [nI_add]) (by simp only [nI_add]) ?_
  refine g_sld X hX hbl hbA hN (v := xs (6 * k + 4)) (by omega) rfl dL_law_1283 ?_
  refine g_run X KL_law_1284_177 KL_law_1284_177_d 1289 [(0, .ref b), (1, .ref (adC 0)), (2, .ref (adM 0)), (3, .ref ao), (4, .int (nI (6 * k)))] [.int ((nI (6 * k)) + (nI 5)), .ref b, .int (xs (6 * k + 4)), .int (xs (6 * k + 3)), .int (nI a2), .int (nI a1), .ref (adC 0)] rfl ?_
  refine g_nm (lv' := [(0, .ref b), (1, .ref (adC 0)), (2, .ref (adM 0)), (3, .ref ao), (4, .int (nI (6 * k)))]) (st' := [.int (nI ((6 * k) + 5)), .ref b, .int (xs (6 * k + 4)), .int (xs (6 * k + 3)), .int (nI a2), .int (nI a1), .ref (adC 0)]) (by simp only [nI_add]) (by simp only [nI_add]) ?_
  refine g_sld X hX hbl hbA hN (v := xs (6 * k + 5)) (by omega) rfl dL_law_1289 ?_
  refine g_run X KL_law_1290_178 KL_law_1290_178_d 1291 [(0, .ref b), (1, .ref (adC 0)), (2, .ref (adM 0)), (3, .ref ao), (4, .int (nI (6 * k)))] [.ref ao, .int (xs (6 * k + 5)), .int (xs (6 * k + 4)), .int (xs (6 * k + 3)), .int (nI a2), .int (nI a1), .ref (adC 0)] rfl ?_
  refine g_callSW X hSB hAf hNC (As := [.ref (adC 0), .int (nI a1), .int (nI a2), .int (xs (6 * k + 3)), .int (xs (6 * k + 4)), .int (xs (6 * k + 5)), .ref ao]) (wr := WM adM g I L S Z Y) (n := 7) (hx_fooled_3 l hfl D g adC I L S a1 a2 (xs (6 * k + 3)) (xs (6 * k + 4)) (xs (6 * k + 5)) ao on ov (by first | assumption | omega) (by first | assumption | omega) (out_lt (by decide) hw)) rfl w_706 w_704 w_705 w_0 (by decide +kernel) rfl ⟨Nat.le_of_ble_eq_true rfl, Nat.le_of_ble_eq_true rfl⟩ rfl rfl rfl (Nat.le_of_ble_eq_true rfl) ⟨by show cells + 1 ≤ 600002; omega, by show slots + 6 ≤ 7302232; omega⟩ dL_law_1291 (fun hu1 _ => ?_)
  refine g_af (ws' := (WC adC g I L S ++ ([OUT ao on ov] : va_W)) ++ WM adM g I L S Z Y) (st' := [.int (nI 1)]) (cells' := cells + 1) (slots' := slots + 6) (pc' := 1294) rfl rfl rfl rfl rfl ?_
  refine g_run X KL_law_1294_179 KL_law_1294_179_d 1302 [(5, .int (nI 1)), (0, .ref b), (1, .ref (adC 0)), (2, .ref (adM 0)), (3, .ref ao), (4, .int (nI (6 * k)))] [.int ((nI (6 * k)) + (nI 1)), .ref b, .ref (adM 0)] rfl ?_
  refine g_nm (lv' := [(5, .int (nI 1)), (0, .ref b), (1, .ref (adC 0)), (2, .ref (adM 0)), (3, .ref ao), (4, .int (nI (6 * k)))]) (st' := [.int (nI ((6 * k) + 1)), .ref b, .ref (adM 0)]) (by simp only [nI_add]) (by simp only [nI_add]) ?_
  refine g_sld X hX hbl hbA hN (v := nI a1) (by omega) e1 dL_law_1302 ?_
  refine g_run X KL_law_1303_180 KL_law_1303_180_d 1308 [(5, .int (nI 1)), (0, .ref b), (1, .ref (adC 0)), (2, .ref (adM 0)), (3, .ref ao), (4, .int (nI (6 * k)))] [.int ((nI (6 * k)) + (nI 2)), .ref b, .int (nI a1), .ref (adM 0)] rfl ?_
  refine g_nm (lv' := [(5, .int (nI 1)), (0, .ref b), (1, .ref (adC 0)), (2, .ref (adM 0)), (3, .ref ao), (4, .int (nI (6 * k)))]) (st' := [.int (nI ((6 * k) + 2)), .ref b, .int (nI a1), .ref (adM 0)]) (by simp only [nI_add]) (by simp only [nI_add]) ?_
  refine g_sld X hX hbl hbA hN (v := nI a2) (by omega) e2 dL_law_1308 ?_
  refine g_run X KL_law_1309_181 KL_law_1309_181_d 1314 [(5, .int (nI 1)), (0, .ref b), (1, .ref (adC 0)), (2, .ref (adM 0)), (3, .ref ao), (4, .int (nI (6 * k)))] [.int ((nI (6 * k)) + (nI 3)), .ref b, .int (nI a2), .int (nI a1), .ref (adM 0)] rfl ?_
  refine g_nm (lv' := [(5, .int (nI 1)), (0, .ref b), (1, .ref (adC 0)), (2, .ref (adM 0)), (3, .ref ao), (4, .int (nI (6 * k)))]) (st' := [.int (nI ((6 * k) + 3)), .ref b, .int (nI a2), .int (nI a1), .ref (adM 0)]) (by simp only [nI_add]) (by simp only [nI_add]) ?_
  refine g_sld X hX hbl hbA hN (v := xs (6 * k + 3)) (by omega) rfl dL_law_1314 ?_
  refine g_run X KL_law_1315_182 KL_law_1315_182_d 1320 [(5, .int (nI 1)), (0, .ref b), (1, .ref (adC 0)), (2, .ref (adM 0)), (3, .ref ao), (4, .int (nI (6 * k)))] [.int ((nI (6 * k)) + (nI 4)), .ref b, .int (xs (6 * k + 3)), .int (nI a2), .int (nI a1), .ref (adM 0)] rfl ?_
  refine g_nm (lv' := [(5, .int (nI 1)), (0, .ref b), (1, .ref (adC 0)), (2, .ref (adM 0)), (3, .ref ao), (4, .int (nI (6 * k)))]) (st' := [.int (nI ((6 * k) + 4)), .ref b, .int (xs (6 * k + 3)), .int (nI a2), .int (nI a1), .ref (adM 0)]) (by simp only [nI_add]) (by simp only [nI_add]) ?_
  refine g_sld X hX hbl hbA hN (v := xs (6 * k + 4)) (by omega) rfl dL_law_1320 ?_
  refine g_run X KL_law_1321_183 KL_law_1321_183_d 1326 [(5, .int (nI 1)), (0, .ref b), (1, .ref (adC 0)), (2, .ref (adM 0)), (3, .ref ao), (4, .int (nI (6 * k)))] [.int ((nI (6 * k)) + (nI 5)), .ref b, .int (xs (6 * k + 4)), .int (xs (6 * k + 3)), .int (nI a2), .int (nI a1), .ref (adM 0)] rfl ?_
  refine g_nm (lv' := [(5, .int (nI 1)), (0, .ref b), (1, .ref (adC 0)), (2, .ref (adM 0)), (3, .ref ao), (4, .int (nI (6 * k)))]) (st' := [.int (nI ((6 * k) + 5)), .ref b, .int (xs (6 * k + 4)), .int (xs (6 * k + 3)), .int (nI a2), .int (nI a1), .ref (adM 0)]) (by simp only [nI_add]) (by simp only [nI_add]) ?_
  refine g_sld X hX hbl hbA hN (v := xs (6 * k + 5)) (by omega) rfl dL_law_1326 ?_
  refine g_perm (ws' := WM adM g I L S Z Y ++ (WC adC g I L S ++ ([OUT ao on ov] : va_W))) (List.perm_append_comm (l₁ := WM adM g I L S Z Y) (l₂ := (WC adC g I L S ++ ([OUT ao on ov] : va_W)))) ?_
  refine g_callV X hSB hAf srcW (hrc1 := (rfl : CL[8]? = some _)) (wm_mem (k := 0) (by decide)) rfl (As := [.int (nI a1), .int (nI a2), .int (xs (6 * k + 3)), .int (xs (6 * k + 4)), .int (xs (6 * k + 5))]) (wr := WC adC g I L S ++ ([OUT ao on ov] : va_W)) (n := 5) (c_X9_fooled_3 l D g adM I L S Z Y a1 a2 (xs (6 * k + 3)) (xs (6 * k + 4)) (xs (6 * k + 5)) (by first | assumption | omega) (by first | assumption | omega) (out_le (by decide) hw)) rfl srcN hrdN w_1440 w_1437 w_1438 w_1439 w_6 (by decide +kernel) rfl ⟨Nat.le_of_ble_eq_true rfl, Nat.le_of_ble_eq_true rfl⟩ rfl rfl rfl (Nat.le_of_ble_eq_true rfl) ⟨by show cells + 1 + 0 ≤ 600002; omega, by show slots + 6 + 0 ≤ 7302232; omega⟩ dL_law_1327 (fun hu2 hp_hu2 => ?_)
  refine g_af (ws' := WM adM g I L S (u2 (u2 Z 3 0 (nI 0)) 3 0 (nI 1)) Y ++ (WC adC g I L S ++ ([OUT ao on ov] : va_W))) (st' := [.int (nI 0)]) (cells' := cells + 1 + 0) (slots' := slots + 6 + 0) (pc' := 1330) rfl rfl rfl rfl rfl ?_
  refine g_run X KL_law_1330_184 KL_law_1330_184_d 1333 [(6, .int (nI 0)), (5, .int (nI 1)), (0, .ref b), (1, .ref (adC 0)), (2, .ref (adM 0)), (3, .ref ao), (4, .int (nI (6 * k)))] [.ref (adM 0)] rfl ?_
  refine g_callV X hSB hAf srcW (hrc1 := (rfl : CL[8]? = some _)) (wm_mem (k := 0) (by decide)) rfl (As := []) (wr := WC adC g I L S ++ ([OUT ao on ov] : va_W)) (n := 0) (c_X9_thrown l D g adM I L S (u2 (u2 Z 3 0 (nI 0)) 3 0 (nI 1)) Y ) rfl srcN hrdN w_1250 w_1247 w_1248 w_1249 w_6 (by decide +kernel) rfl ⟨Nat.le_of_ble_eq_true rfl, Nat.le_of_ble_eq_true rfl⟩ rfl rfl rfl (Nat.le_of_ble_eq_true rfl) ⟨by show cells + 1 + 0 + 0 ≤ 600002; omega, by show slots + 6 + 0 + 0 ≤ 7302232; omega⟩ dL_law_1333 (fun hu3 hp_hu3 => ?_)
  refine g_af (ws' := WM adM g I L S (u2 (u2 Z 3 0 (nI 0)) 3 0 (nI 1)) Y ++ (WC adC g I L S ++ ([OUT ao on ov] : va_W))) (st' := [.int ((u2 (u2 Z 3 0 (nI 0)) 3 0 (nI 1)) 3 0)]) (cells' := cells + 1 + 0 + 0) (slots' := slots + 6 + 0 + 0) (pc' := 1336) rfl rfl rfl rfl rfl ?_
  refine g_st (st' := [.int (nI 1)]) (by first | rfl | (simp [z4, u2]; done)) ?_
  refine g_run X KL_law_1336_185 KL_law_1336_185_d 1338 [(6, .int (nI 0)), (5, .int (nI 1)), (0, .ref b), (1, .ref (adC 0)), (2, .ref (adM 0)), (3, .ref ao), (4, .int (nI (6 * k)))] [.int (nI 1), .int (nI 1)] rfl ?_
  refine g_icmp_eq X 1343 dL_law_1338 (by decide) (fun hc4 => ?_) (fun hc4 => ?_)
  · refine g_run X KL_law_1343_186 KL_law_1343_186_d 1345 [(6, .int (nI 0)), (5, .int (nI 1)), (0, .ref b), (1, .ref (adC 0)), (2, .ref (adM 0)), (3, .ref ao), (4, .int (nI (6 * k)))] [.int (nI 1)] rfl ?_
    refine g_if_ne X 1361 dL_law_1345 (by decide) (fun hc5 => ?_) (fun hc5 => ?_)
    · refine g_run X KL_law_1361_187 KL_law_1361_187_d 2256 [(6, .int (nI 0)), (5, .int (nI 1)), (0, .ref b), (1, .ref (adC 0)), (2, .ref (adM 0)), (3, .ref ao), (4, .int (nI (6 * k)))] [] rfl ?_
      refine g_lv (lv' := [(0, .ref b), (1, .ref (adC 0)), (2, .ref (adM 0)), (3, .ref ao), (4, .int (nI (6 * k)))]) (lsub_c 2 rfl (lsub_c 3 rfl (lsub_c 4 rfl (lsub_c 5 rfl (lsub_c 6 rfl (lsub_n)))))) ?_
      refine g_perm (ws' := (WC adC g I L S ++ ([OUT ao on ov] : va_W)) ++ WM adM g I L S (u2 (u2 Z 3 0 (nI 0)) 3 0 (nI 1)) Y) (List.perm_append_comm (l₁ := (WC adC g I L S ++ ([OUT ao on ov] : va_W))) (l₂ := WM adM g I L S (u2 (u2 Z 3 0 (nI 0)) 3 0 (nI 1)) Y)) ?_
      refine g_widen (k := cells + 60) (n := slots + 1200) (by omega) (by omega) ?_
      exact kk I L S n (u2 (u2 Z 3 0 (nI 0)) 3 0 (nI 1)) Y R on ov (hI) (hR) (by first | exact hZ | (rw [zrow]; exact hZ) | (rw [zrow, zrow]; exact hZ))
    · rw [nz_eq (by omega)] at hc5; first | omega | (simp at hc5)
  · rw [nI_eq (by omega) (by omega)] at hc4; first | omega | (simp at hc4)

set_option maxHeartbeats 4000000 in
set_option maxRecDepth 100000 in
theorem lq16_2 {p : Program} {l : Launch} {e : Env} {s : State} {m : MethodId} {below : List Frame} {meth : Method} {c : Code} {Q : State → Prop} {D : va_G} {A : Nat → Prop} {b N : Nat} {xs : Nat → Int32} {adC adM : Nat → Nat} {g : Nat → ClassId} {ao k cells slots : Nat} {I : Nat → Nat → Int32} {L : Nat → Nat → Int64} {S : Nat → Nat} {n : Nat} {Z : Nat → Nat → Int32} {Y : Int64} {R : Nat → Nat} {on : Int64} {ov : Value} (HX : LX p l s m meth c A b N xs) (hk : 6 * k + 6 ≤ N) (hroom : cells + 60 ≤ 600002 ∧ slots + 1200 ≤ 7302232) (hI : Inv I L S n) (hR : R16 R) (hZ : Z 0 = fun j => nI (R j)) (a1 : Nat) (hl1 : 0 ≤ a1) (hu1 : a1 < 15) (e1 : xs (6 * k + 1) = nI a1) (hw : (xs (6 * k + 2)).toInt < (0 : Nat) ∨ ((15 : Nat) : Int) ≤ (xs (6 * k + 2)).toInt) (kk : LK p l e s m below meth c Q D A b adC adM g ao k cells slots 2256) : GL p l e room_1 s m #[.ref b] below meth c Q D CL (TYS g) A 9 (WL adC adM g ao I L S Z Y on ov) cells slots 1259 [(0, .ref b), (1, .ref (adC 0)), (2, .ref (adM 0)), (3, .ref ao), (4, .int (nI (6 * k)))] [] := by
  obtain ⟨X, hSB, hAf, hNC, hfl, hX, hbl, hbA, hN⟩ := HX
  refine g_run X KL_law_1259_173 KL_law_1259_173_d 1265 [(0, .ref b), (1, .ref (adC 0)), (2, .ref (adM 0)), (3, .ref ao), (4, .int (nI (6 * k)))] [.int ((nI (6 * k)) + (nI 1)), .ref b, .ref (adC 0)] rfl ?_
  refine g_nm (lv' := [(0, .ref b), (1, .ref (adC 0)), (2, .ref (adM 0)), (3, .ref ao), (4, .int (nI (6 * k)))]) (st' := [.int (nI ((6 * k) + 1)), .ref b, .ref (adC 0)]) (by simp only [nI_add]) (by simp only [nI_add]) ?_
  refine g_sld X hX hbl hbA hN (v := nI a1) (by omega) e1 dL_law_1265 ?_
  refine g_run X KL_law_1266_174 KL_law_1266_174_d 1271 [(0, .ref b), (1, .ref (adC 0)), (2, .ref (adM 0)), (3, .ref ao), (4, .int (nI (6 * k)))] [.int ((nI (6 * k)) + (nI 2)), .ref b, .int (nI a1), .ref (adC 0)] rfl ?_
  refine g_nm (lv' := [(0, .ref b), (1, .ref (adC 0)), (2, .ref (adM 0)), (3, .ref ao), (4, .int (nI (6 * k)))]) (st' := [.int (nI ((6 * k) + 2)), .ref b, .int (nI a1), .ref (adC 0)]) (by simp only [nI_add]) (by simp only [nI_add]) ?_
  refine g_sld X hX hbl hbA hN (v := xs (6 * k + 2)) (by omega) rfl dL_law_1271 ?_
  refine g_run X KL_law_1272_175 KL_law_1272_175_d 1277 [(0, .ref b), (1, .ref (adC 0)), (2, .ref (adM 0)), (3, .ref ao), (4, .int (nI (6 * k)))] [.int ((nI (6 * k)) + (nI 3)), .ref b, .int (xs (6 * k + 2)), .int (nI a1), .ref (adC 0)] rfl ?_
  refine g_nm (lv' := [(0, .ref b), (1, .ref (adC 0)), (2, .ref (adM 0)), (3, .ref ao), (4, .int (nI (6 * k)))]) (st' := [.int (nI ((6 * k) + 3)), .ref b, .int (xs (6 * k + 2)), .int (nI a1), .ref (adC 0)]) (by simp only [nI_add]) (by simp only [nI_add]) ?_
  refine g_sld X hX hbl hbA hN (v := xs (6 * k + 3)) (by omega) rfl dL_law_1277 ?_
  refine g_run X KL_law_1278_176 KL_law_1278_176_d 1283 [(0, .ref b), (1, .ref (adC 0)), (2, .ref (adM 0)), (3, .ref ao), (4, .int (nI (6 * k)))] [.int ((nI (6 * k)) + (nI 4)), .ref b, .int (xs (6 * k + 3)), .int (xs (6 * k + 2)), .int (nI a1), .ref (adC 0)] rfl ?_
  refine g_nm (lv' := [(0, .ref b), (1, .ref (adC 0)), (2, .ref (adM 0)), (3, .ref ao), (4, .int (nI (6 * k)))]) (st' := [.int (nI ((6 * k) + 4)), .ref b, .int (xs (6 * k + 3)), .int (xs (6 * k + 2)), .int (nI a1), .ref (adC 0)]) (by simp only [nI_add]) (by simp only [nI_add]) ?_
  refine g_sld X hX hbl hbA hN (v := xs (6 * k + 4)) (by omega) rfl dL_law_1283 ?_
  refine g_run X KL_law_1284_177 KL_law_1284_177_d 1289 [(0, .ref b), (1, .ref (adC 0)), (2, .ref (adM 0)), (3, .ref ao), (4, .int (nI (6 * k)))] [.int ((nI (6 * k)) + (nI 5)), .ref b, .int (xs (6 * k + 4)), .int (xs (6 * k + 3)), .int (xs (6 * k + 2)), .int (nI a1), .ref (adC 0)] rfl ?_
  refine g_nm (lv' := [(0, .ref b), (1, .ref (adC 0)), (2, .ref (adM 0)), (3, .ref ao), (4, .int (nI (6 * k)))]) (st' := [.int (nI ((6 * k) + 5)), .ref b, .int (xs (6 * k + 4)), .int (xs (6 * k + 3)), .int (xs (6 * k + 2)), .int (nI a1), .ref (adC 0)]) (by simp only [nI_add]) (by simp only [nI_add]) ?_
  refine g_sld X hX hbl hbA hN (v := xs (6 * k + 5)) (by omega) rfl dL_law_1289 ?_
  refine g_run X KL_law_1290_178 KL_law_1290_178_d 1291 [(0, .ref b), (1, .ref (adC 0)), (2, .ref (adM 0)), (3, .ref ao), (4, .int (nI (6 * k)))] [.ref ao, .int (xs (6 * k + 5)), .int (xs (6 * k + 4)), .int (xs (6 * k + 3)), .int (xs (6 * k + 2)), .int (nI a1), .ref (adC 0)] rfl ?_
  refine g_callSW X hSB hAf hNC (As := [.ref (adC 0), .int (nI a1), .int (xs (6 * k + 2)), .int (xs (6 * k + 3)), .int (xs (6 * k + 4)), .int (xs (6 * k + 5)), .ref ao]) (wr := WM adM g I L S Z Y) (n := 7) (hx_fooled_2 l hfl D g adC I L S a1 (xs (6 * k + 2)) (xs (6 * k + 3)) (xs (6 * k + 4)) (xs (6 * k + 5)) ao on ov (by first | assumption | omega) (out_lt (by decide) hw)) rfl w_706 w_704 w_705 w_0 (by decide +kernel) rfl ⟨Nat.le_of_ble_eq_true rfl, Nat.le_of_ble_eq_true rfl⟩ rfl rfl rfl (Nat.le_of_ble_eq_true rfl) ⟨by show cells + 1 ≤ 600002; omega, by show slots + 6 ≤ 7302232; omega⟩ dL_law_1291 (fun hu1 _ => ?_)
  refine g_af (ws' := (WC adC g I L S ++ ([OUT ao on ov] : va_W)) ++ WM adM g I L S Z Y) (st' := [.int (nI 1)]) (cells' := cells + 1) (slots' := slots + 6) (pc' := 1294) rfl rfl rfl rfl rfl ?_
  refine g_run X KL_law_1294_179 KL_law_1294_179_d 1302 [(5, .int (nI 1)), (0, .ref b), (1, .ref (adC 0)), (2, .ref (adM 0)), (3, .ref ao), (4, .int (nI (6 * k)))] [.int ((nI (6 * k)) + (nI 1)), .ref b, .ref (adM 0)] rfl ?_
  refine g_nm (lv' := [(5, .int (nI 1)), (0, .ref b), (1, .ref (adC 0)), (2, .ref (adM 0)), (3, .ref ao), (4, .int (nI (6 * k)))]) (st' := [.int (nI ((6 * k) + 1)), .ref b, .ref (adM 0)]) (by simp only [nI_add]) (by simp only [nI_add]) ?_
  refine g_sld X hX hbl hbA hN (v := nI a1) (by omega) e1 dL_law_1302 ?_
  refine g_run X KL_law_1303_180 KL_law_1303_180_d 1308 [(5, .int (nI 1)), (0, .ref b), (1, .ref (adC 0)), (2, .ref (adM 0)), (3, .ref ao), (4, .int (nI (6 * k)))] [.int ((nI (6 * k)) + (nI 2)), .ref b, .int (nI a1), .ref (adM 0)] rfl ?_
  refine g_nm (lv' := [(5, .int (nI 1)), (0, .ref b), (1, .ref (adC 0)), (2, .ref (adM 0)), (3, .ref ao), (4, .int (nI (6 * k)))]) (st' := [.int (nI ((6 * k) + 2)), .ref b, .int (nI a1), .ref (adM 0)]) (by simp only [nI_add]) (by simp only [nI_add]) ?_
  refine g_sld X hX hbl hbA hN (v := xs (6 * k + 2)) (by omega) rfl dL_law_1308 ?_
  refine g_run X KL_law_1309_181 KL_law_1309_181_d 1314 [(5, .int (nI 1)), (0, .ref b), (1, .ref (adC 0)), (2, .ref (adM 0)), (3, .ref ao), (4, .int (nI (6 * k)))] [.int ((nI (6 * k)) + (nI 3)), .ref b, .int (xs (6 * k + 2)), .int (nI a1), .ref (adM 0)] rfl ?_
  refine g_nm (lv' := [(5, .int (nI 1)), (0, .ref b), (1, .ref (adC 0)), (2, .ref (adM 0)), (3, .ref ao), (4, .int (nI (6 * k)))]) (st' := [.int (nI ((6 * k) + 3)), .ref b, .int (xs (6 * k + 2)), .int (nI a1), .ref (adM 0)]) (by simp only [nI_add]) (by simp only [nI_add]) ?_
  refine g_sld X hX hbl hbA hN (v := xs (6 * k + 3)) (by omega) rfl dL_law_1314 ?_
  refine g_run X KL_law_1315_182 KL_law_1315_182_d 1320 [(5, .int (nI 1)), (0, .ref b), (1, .ref (adC 0)), (2, .ref (adM 0)), (3, .ref ao), (4, .int (nI (6 * k)))] [.int ((nI (6 * k)) + (nI 4)), .ref b, .int (xs (6 * k + 3)), .int (xs (6 * k + 2)), .int (nI a1), .ref (adM 0)] rfl ?_
  refine g_nm (lv' := [(5, .int (nI 1)), (0, .ref b), (1, .ref (adC 0)), (2, .ref (adM 0)), (3, .ref ao), (4, .int (nI (6 * k)))]) (st' := [.int (nI ((6 * k) + 4)), .ref b, .int (xs (6 * k + 3)), .int (xs (6 * k + 2)), .int (nI a1), .ref (adM 0)]) (by simp only [nI_add]) (by simp only [nI_add]) ?_
  refine g_sld X hX hbl hbA hN (v := xs (6 * k + 4)) (by omega) rfl dL_law_1320 ?_
  refine g_run X KL_law_1321_183 KL_law_1321_183_d 1326 [(5, .int (nI 1)), (0, .ref b), (1, .ref (adC 0)), (2, .ref (adM 0)), (3, .ref ao), (4, .int (nI (6 * k)))] [.int ((nI (6 * k)) + (nI 5)), .ref b, .int (xs (6 * k + 4)), .int (xs (6 * k + 3)), .int (xs (6 * k + 2)), .int (nI a1), .ref (adM 0)] rfl ?_
  refine g_nm (lv' := [(5, .int (nI 1)), (0, .ref b), (1, .ref (adC 0)), (2, .ref (adM 0)), (3, .ref ao), (4, .int (nI (6 * k)))]) (st' := [.int (nI ((6 * k) + 5)), .ref b, .int (xs (6 * k + 4)), .int (xs (6 * k + 3)), .int (xs (6 * k + 2)), .int (nI a1), .ref (adM 0)]) (by simp only [nI_add]) (by simp only [nI_add]) ?_
  refine g_sld X hX hbl hbA hN (v := xs (6 * k + 5)) (by omega) rfl dL_law_1326 ?_
  refine g_perm (ws' := WM adM g I L S Z Y ++ (WC adC g I L S ++ ([OUT ao on ov] : va_W))) (List.perm_append_comm (l₁ := WM adM g I L S Z Y) (l₂ := (WC adC g I L S ++ ([OUT ao on ov] : va_W)))) ?_
  refine g_callV X hSB hAf srcW (hrc1 := (rfl : CL[8]? = some _)) (wm_mem (k := 0) (by decide)) rfl (As := [.int (nI a1), .int (xs (6 * k + 2)), .int (xs (6 * k + 3)), .int (xs (6 * k + 4)), .int (xs (6 * k + 5))]) (wr := WC adC g I L S ++ ([OUT ao on ov] : va_W)) (n := 5) (c_X9_fooled_2 l D g adM I L S Z Y a1 (xs (6 * k + 2)) (xs (6 * k + 3)) (xs (6 * k + 4)) (xs (6 * k + 5)) (by first | assumption | omega) (out_le (by decide) hw)) rfl srcN hrdN w_1440 w_1437 w_1438 w_1439 w_6 (by decide +kernel) rfl ⟨Nat.le_of_ble_eq_true rfl, Nat.le_of_ble_eq_true rfl⟩ rfl rfl rfl (Nat.le_of_ble_eq_true rfl) ⟨by show cells + 1 + 0 ≤ 600002; omega, by show slots + 6 + 0 ≤ 7302232; omega⟩ dL_law_1327 (fun hu2 hp_hu2 => ?_)
  refine g_af (ws' := WM adM g I L S (u2 (u2 Z 3 0 (nI 0)) 3 0 (nI 1)) Y ++ (WC adC g I L S ++ ([OUT ao on ov] : va_W))) (st' := [.int (nI 0)]) (cells' := cells + 1 + 0) (slots' := slots + 6 + 0) (pc' := 1330) rfl rfl rfl rfl rfl ?_
  refine g_run X KL_law_1330_184 KL_law_1330_184_d 1333 [(6, .int (nI 0)), (5, .int (nI 1)), (0, .ref b), (1, .ref (adC 0)), (2, .ref (adM 0)), (3, .ref ao), (4, .int (nI (6 * k)))] [.ref (adM 0)] rfl ?_
  refine g_callV X hSB hAf srcW (hrc1 := (rfl : CL[8]? = some _)) (wm_mem (k := 0) (by decide)) rfl (As := []) (wr := WC adC g I L S ++ ([OUT ao on ov] : va_W)) (n := 0) (c_X9_thrown l D g adM I L S (u2 (u2 Z 3 0 (nI 0)) 3 0 (nI 1)) Y ) rfl srcN hrdN w_1250 w_1247 w_1248 w_1249 w_6 (by decide +kernel) rfl ⟨Nat.le_of_ble_eq_true rfl, Nat.le_of_ble_eq_true rfl⟩ rfl rfl rfl (Nat.le_of_ble_eq_true rfl) ⟨by show cells + 1 + 0 + 0 ≤ 600002; omega, by show slots + 6 + 0 + 0 ≤ 7302232; omega⟩ dL_law_1333 (fun hu3 hp_hu3 => ?_)
  refine g_af (ws' := WM adM g I L S (u2 (u2 Z 3 0 (nI 0)) 3 0 (nI 1)) Y ++ (WC adC g I L S ++ ([OUT ao on ov] : va_W))) (st' := [.int ((u2 (u2 Z 3 0 (nI 0)) 3 0 (nI 1)) 3 0)]) (cells' := cells + 1 + 0 + 0) (slots' := slots + 6 + 0 + 0) (pc' := 1336) rfl rfl rfl rfl rfl ?_
  refine g_st (st' := [.int (nI 1)]) (by first | rfl | (simp [z4, u2]; done)) ?_
  refine g_run X KL_law_1336_185 KL_law_1336_185_d 1338 [(6, .int (nI 0)), (5, .int (nI 1)), (0, .ref b), (1, .ref (adC 0)), (2, .ref (adM 0)), (3, .ref ao), (4, .int (nI (6 * k)))] [.int (nI 1), .int (nI 1)] rfl ?_
  refine g_icmp_eq X 1343 dL_law_1338 (by decide) (fun hc4 => ?_) (fun hc4 => ?_)
  · refine g_run X KL_law_1343_186 KL_law_1343_186_d 1345 [(6, .int (nI 0)), (5, .int (nI 1)), (0, .ref b), (1, .ref (adC 0)), (2, .ref (adM 0)), (3, .ref ao), (4, .int (nI (6 * k)))] [.int (nI 1)] rfl ?_
    refine g_if_ne X 1361 dL_law_1345 (by decide) (fun hc5 => ?_) (fun hc5 => ?_)
    · refine g_run X KL_law_1361_187 KL_law_1361_187_d 2256 [(6, .int (nI 0)), (5, .int (nI 1)), (0, .ref b), (1, .ref (adC 0)), (2, .ref (adM 0)), (3, .ref ao), (4, .int (nI (6 * k)))] [] rfl ?_
      refine g_lv (lv' := [(0, .ref b), (1, .ref (adC 0)), (2, .ref (adM 0)), (3, .ref ao), (4, .int (nI (6 * k)))]) (lsub_c 2 rfl (lsub_c 3 rfl (lsub_c 4 rfl (lsub_c 5 rfl (lsub_c 6 rfl (lsub_n)))))) ?_
      refine g_perm (ws' := (WC adC g I L S ++ ([OUT ao on ov] : va_W)) ++ WM adM g I L S (u2 (u2 Z 3 0 (nI 0)) 3 0 (nI 1)) Y) (List.perm_append_comm (l₁ := (WC adC g I L S ++ ([OUT ao on ov] : va_W))) (l₂ := WM adM g I L S (u2 (u2 Z 3 0 (nI 0)) 3 0 (nI 1)) Y)) ?_
      refine g_widen (k := cells + 60) (n := slots + 1200) (by omega) (by omega) ?_
      exact kk I L S n (u2 (u2 Z 3 0 (nI 0)) 3 0 (nI 1)) Y R on ov (hI) (hR) (by first | exact hZ | (rw [zrow]; exact hZ) | (rw [zrow, zrow]; exact hZ))
    · rw [nz_eq (by omega)] at hc5; first | omega | (simp at hc5)
  · rw [nI_eq (by omega) (by omega)] at hc4; first | omega | (simp at hc4)

set_option maxHeartbeats 4000000 in
set_option maxRecDepth 100000 in
theorem lq16_1 {p : Program} {l : Launch} {e : Env} {s : State} {m : MethodId} {below : List Frame} {meth : Method} {c : Code} {Q : State → Prop} {D : va_G} {A : Nat → Prop} {b N : Nat} {xs : Nat → Int32} {adC adM : Nat → Nat} {g : Nat → ClassId} {ao k cells slots : Nat} {I : Nat → Nat → Int32} {L : Nat → Nat → Int64} {S : Nat → Nat} {n : Nat} {Z : Nat → Nat → Int32} {Y : Int64} {R : Nat → Nat} {on : Int64} {ov : Value} (HX : LX p l s m meth c A b N xs) (hk : 6 * k + 6 ≤ N) (hroom : cells + 60 ≤ 600002 ∧ slots + 1200 ≤ 7302232) (hI : Inv I L S n) (hR : R16 R) (hZ : Z 0 = fun j => nI (R j)) (hw : (xs (6 * k + 1)).toInt < (0 : Nat) ∨ ((15 : Nat) : Int) ≤ (xs (6 * k + 1)).toInt) (kk : LK p l e s m below meth c Q D A b adC adM g ao k cells slots 2256) : GL p l e room_1 s m #[.ref b] below meth c Q D CL (TYS g) A 9 (WL adC adM g ao I L S Z Y on ov) cells slots 1259 [(0, .ref b), (1, .ref (adC 0)), (2, .ref (adM 0)), (3, .ref ao), (4, .int (nI (6 * k)))] [] := by
  obtain ⟨X, hSB, hAf, hNC, hfl, hX, hbl, hbA, hN⟩ := HX
  refine g_run X KL_law_1259_173 KL_law_1259_173_d 1265 [(0, .ref b), (1, .ref (adC 0)), (2, .ref (adM 0)), (3, .ref ao), (4, .int (nI (6 * k)))] [.int ((nI (6 * k)) + (nI 1)), .ref b, .ref (adC 0)] rfl ?_
  refine g_nm (lv' := [(0, .ref b), (1, .ref (adC 0)), (2, .ref (adM 0)), (3, .ref ao), (4, .int (nI (6 * k)))]) (st' := [.int (nI ((6 * k) + 1)), .ref b, .ref (adC 0)]) (by simp only [nI_add]) (by simp only [nI_add]) ?_
  refine g_sld X hX hbl hbA hN (v := xs (6 * k + 1)) (by omega) rfl dL_law_1265 ?_
  refine g_run X KL_law_1266_174 KL_law_1266_174_d 1271 [(0, .ref b), (1, .ref (adC 0)), (2, .ref (adM 0)), (3, .ref ao), (4, .int (nI (6 * k)))] [.int ((nI (6 * k)) + (nI 2)), .ref b, .int (xs (6 * k + 1)), .ref (adC 0)] rfl ?_
  refine g_nm (lv' := [(0, .ref b), (1, .ref (adC 0)), (2, .ref (adM 0)), (3, .ref ao), (4, .int (nI (6 * k)))]) (st' := [.int (nI ((6 * k) + 2)), .ref b, .int (xs (6 * k + 1)), .ref (adC 0)]) (by simp only [nI_add]) (by simp only [nI_add]) ?_
  refine g_sld X hX hbl hbA hN (v := xs (6 * k + 2)) (by omega) rfl dL_law_1271 ?_
  refine g_run X KL_law_1272_175 KL_law_1272_175_d 1277 [(0, .ref b), (1, .ref (adC 0)), (2, .ref (adM 0)), (3, .ref ao), (4, .int (nI (6 * k)))] [.int ((nI (6 * k)) + (nI 3)), .ref b, .int (xs (6 * k + 2)), .int (xs (6 * k + 1)), .ref (adC 0)] rfl ?_
  refine g_nm (lv' := [(0, .ref b), (1, .ref (adC 0)), (2, .ref (adM 0)), (3, .ref ao), (4, .int (nI (6 * k)))]) (st' := [.int (nI ((6 * k) + 3)), .ref b, .int (xs (6 * k + 2)), .int (xs (6 * k + 1)), .ref (adC 0)]) (by simp only [nI_add]) (by simp only [nI_add]) ?_
  refine g_sld X hX hbl hbA hN (v := xs (6 * k + 3)) (by omega) rfl dL_law_1277 ?_
  refine g_run X KL_law_1278_176 KL_law_1278_176_d 1283 [(0, .ref b), (1, .ref (adC 0)), (2, .ref (adM 0)), (3, .ref ao), (4, .int (nI (6 * k)))] [.int ((nI (6 * k)) + (nI 4)), .ref b, .int (xs (6 * k + 3)), .int (xs (6 * k + 2)), .int (xs (6 * k + 1)), .ref (adC 0)] rfl ?_
  refine g_nm (lv' := [(0, .ref b), (1, .ref (adC 0)), (2, .ref (adM 0)), (3, .ref ao), (4, .int (nI (6 * k)))]) (st' := [.int (nI ((6 * k) + 4)), .ref b, .int (xs (6 * k + 3)), .int (xs (6 * k + 2)), .int (xs (6 * k + 1)), .ref (adC 0)]) (by simp only [nI_add]) (by simp only [nI_add]) ?_
  refine g_sld X hX hbl hbA hN (v := xs (6 * k + 4)) (by omega) rfl dL_law_1283 ?_
  refine g_run X KL_law_1284_177 KL_law_1284_177_d 1289 [(0, .ref b), (1, .ref (adC 0)), (2, .ref (adM 0)), (3, .ref ao), (4, .int (nI (6 * k)))] [.int ((nI (6 * k)) + (nI 5)), .ref b, .int (xs (6 * k + 4)), .int (xs (6 * k + 3)), .int (xs (6 * k + 2)), .int (xs (6 * k + 1)), .ref (adC 0)] rfl ?_
  refine g_nm (lv' := [(0, .ref b), (1, .ref (adC 0)), (2, .ref (adM 0)), (3, .ref ao), (4, .int (nI (6 * k)))]) (st' := [.int (nI ((6 * k) + 5)), .ref b, .int (xs (6 * k + 4)), .int (xs (6 * k + 3)), .int (xs (6 * k + 2)), .int (xs (6 * k + 1)), .ref (adC 0)]) (by simp only [nI_add]) (by simp only [nI_add]) ?_
  refine g_sld X hX hbl hbA hN (v := xs (6 * k + 5)) (by omega) rfl dL_law_1289 ?_
  refine g_run X KL_law_1290_178 KL_law_1290_178_d 1291 [(0, .ref b), (1, .ref (adC 0)), (2, .ref (adM 0)), (3, .ref ao), (4, .int (nI (6 * k)))] [.ref ao, .int (xs (6 * k + 5)), .int (xs (6 * k + 4)), .int (xs (6 * k + 3)), .int (xs (6 * k + 2)), .int (xs (6 * k + 1)), .ref (adC 0)] rfl ?_
  refine g_callSW X hSB hAf hNC (As := [.ref (adC 0), .int (xs (6 * k + 1)), .int (xs (6 * k + 2)), .int (xs (6 * k + 3)), .int (xs (6 * k + 4)), .int (xs (6 * k + 5)), .ref ao]) (wr := WM adM g I L S Z Y) (n := 7) (hx_fooled_1 l hfl D g adC I L S (xs (6 * k + 1)) (xs (6 * k + 2)) (xs (6 * k + 3)) (xs (6 * k + 4)) (xs (6 * k + 5)) ao on ov (out_lt (by decide) hw)) rfl w_706 w_704 w_705 w_0 (by decide +kernel) rfl ⟨Nat.le_of_ble_eq_true rfl, Nat.le_of_ble_eq_true rfl⟩ rfl rfl rfl (Nat.le_of_ble_eq_true rfl) ⟨by show cells + 1 ≤ 600002; omega, by show slots + 6 ≤ 7302232; omega⟩ dL_law_1291 (fun hu1 _ => ?_)
  refine g_af (ws' := (WC adC g I L S ++ ([OUT ao on ov] : va_W)) ++ WM adM g I L S Z Y) (st' := [.int (nI 1)]) (cells' := cells + 1) (slots' := slots + 6) (pc' := 1294) rfl rfl rfl rfl rfl ?_
  refine g_run X KL_law_1294_179 KL_law_1294_179_d 1302 [(5, .int (nI 1)), (0, .ref b), (1, .ref (adC 0)), (2, .ref (adM 0)), (3, .ref ao), (4, .int (nI (6 * k)))] [.int ((nI (6 * k)) + (nI 1)), .ref b, .ref (adM 0)] rfl ?_
  refine g_nm (lv' := [(5, .int (nI 1)), (0, .ref b), (1, .ref (adC 0)), (2, .ref (adM 0)), (3, .ref ao), (4, .int (nI (6 * k)))]) (st' := [.int (nI ((6 * k) + 1)), .ref b, .ref (adM 0)]) (by simp only [nI_add]) (by simp only [nI_add]) ?_
  refine g_sld X hX hbl hbA hN (v := xs (6 * k + 1)) (by omega) rfl dL_law_1302 ?_
  refine g_run X KL_law_1303_180 KL_law_1303_180_d 1308 [(5, .int (nI 1)), (0, .ref b), (1, .ref (adC 0)), (2, .ref (adM 0)), (3, .ref ao), (4, .int (nI (6 * k)))] [.int ((nI (6 * k)) + (nI 2)), .ref b, .int (xs (6 * k + 1)), .ref (adM 0)] rfl ?_
  refine g_nm (lv' := [(5, .int (nI 1)), (0, .ref b), (1, .ref (adC 0)), (2, .ref (adM 0)), (3, .ref ao), (4, .int (nI (6 * k)))]) (st' := [.int (nI ((6 * k) + 2)), .ref b, .int (xs (6 * k + 1)), .ref (adM 0)]) (by simp only [nI_add]) (by simp only [nI_add]) ?_
  refine g_sld X hX hbl hbA hN (v := xs (6 * k + 2)) (by omega) rfl dL_law_1308 ?_
  refine g_run X KL_law_1309_181 KL_law_1309_181_d 1314 [(5, .int (nI 1)), (0, .ref b), (1, .ref (adC 0)), (2, .ref (adM 0)), (3, .ref ao), (4, .int (nI (6 * k)))] [.int ((nI (6 * k)) + (nI 3)), .ref b, .int (xs (6 * k + 2)), .int (xs (6 * k + 1)), .ref (adM 0)] rfl ?_
  refine g_nm (lv' := [(5, .int (nI 1)), (0, .ref b), (1, .ref (adC 0)), (2, .ref (adM 0)), (3, .ref ao), (4, .int (nI (6 * k)))]) (st' := [.int (nI ((6 * k) + 3)), .ref b, .int (xs (6 * k + 2)), .int (xs (6 * k + 1)), .ref (adM 0)]) (by simp only [nI_add]) (by simp only [nI_add]) ?_
  refine g_sld X hX hbl hbA hN (v := xs (6 * k + 3)) (by omega) rfl dL_law_1314 ?_
  refine g_run X KL_law_1315_182 KL_law_1315_182_d 1320 [(5, .int (nI 1)), (0, .ref b), (1, .ref (adC 0)), (2, .ref (adM 0)), (3, .ref ao), (4, .int (nI (6 * k)))] [.int ((nI (6 * k)) + (nI 4)), .ref b, .int (xs (6 * k + 3)), .int (xs (6 * k + 2)), .int (xs (6 * k + 1)), .ref (adM 0)] rfl ?_
  refine g_nm (lv' := [(5, .int (nI 1)), (0, .ref b), (1, .ref (adC 0)), (2, .ref (adM 0)), (3, .ref ao), (4, .int (nI (6 * k)))]) (st' := [.int (nI ((6 * k) + 4)), .ref b, .int (xs (6 * k + 3)), .int (xs (6 * k + 2)), .int (xs (6 * k + 1)), .ref (adM 0)]) (by simp only [nI_add]) (by simp only [nI_add]) ?_
  refine g_sld X hX hbl hbA hN (v := xs (6 * k + 4)) (by omega) rfl dL_law_1320 ?_
  refine g_run X KL_law_1321_183 KL_law_1321_183_d 1326 [(5, .int (nI 1)), (0, .ref b), (1, .ref (adC 0)), (2, .ref (adM 0)), (3, .ref ao), (4, .int (nI (6 * k)))] [.int ((nI (6 * k)) + (nI 5)), .ref b, .int (xs (6 * k + 4)), .int (xs (6 * k + 3)), .int (xs (6 * k + 2)), .int (xs (6 * k + 1)), .ref (adM 0)] rfl ?_
  refine g_nm (lv' := [(5, .int (nI 1)), (0, .ref b), (1, .ref (adC 0)), (2, .ref (adM 0)), (3, .ref ao), (4, .int (nI (6 * k)))]) (st' := [.int (nI ((6 * k) + 5)), .ref b, .int (xs (6 * k + 4)), .int (xs (6 * k + 3)), .int (xs (6 * k + 2)), .int (xs (6 * k + 1)), .ref (adM 0)]) (by simp only [nI_add]) (by simp only [nI_add]) ?_
  refine g_sld X hX hbl hbA hN (v := xs (6 * k + 5)) (by omega) rfl dL_law_1326 ?_
  refine g_perm (ws' := WM adM g I L S Z Y ++ (WC adC g I L S ++ ([OUT ao on ov] : va_W))) (List.perm_append_comm (l₁ := WM adM g I L S Z Y) (l₂ := (WC adC g I L S ++ ([OUT ao on ov] : va_W)))) ?_
  refine g_callV X hSB hAf srcW (hrc1 := (rfl : CL[8]? = some _)) (wm_mem (k := 0) (by decide)) rfl (As := [.int (xs (6 * k + 1)), .int (xs (6 * k + 2)), .int (xs (6 * k + 3)), .int (xs (6 * k + 4)), .int (xs (6 * k + 5))]) (wr := WC adC g I L S ++ ([OUT ao on ov] : va_W)) (n := 5) (c_X9_fooled_1 l D g adM I L S Z Y (xs (6 * k + 1)) (xs (6 * k + 2)) (xs (6 * k + 3)) (xs (6 * k + 4)) (xs (6 * k + 5)) (out_le (by decide) hw)) rfl srcN hrdN w_1440 w_1437 w_1438 w_1439 w_6 (by decide +kernel) rfl ⟨Nat.le_of_ble_eq_true rfl, Nat.le_of_ble_eq_true rfl⟩ rfl rfl rfl (Nat.le_of_ble_eq_true rfl) ⟨by show cells + 1 + 0 ≤ 600002; omega, by show slots + 6 + 0 ≤ 7302232; omega⟩ dL_law_1327 (fun hu2 hp_hu2 => ?_)
  refine g_af (ws' := WM adM g I L S (u2 (u2 Z 3 0 (nI 0)) 3 0 (nI 1)) Y ++ (WC adC g I L S ++ ([OUT ao on ov] : va_W))) (st' := [.int (nI 0)]) (cells' := cells + 1 + 0) (slots' := slots + 6 + 0) (pc' := 1330) rfl rfl rfl rfl rfl ?_
  refine g_run X KL_law_1330_184 KL_law_1330_184_d 1333 [(6, .int (nI 0)), (5, .int (nI 1)), (0, .ref b), (1, .ref (adC 0)), (2, .ref (adM 0)), (3, .ref ao), (4, .int (nI (6 * k)))] [.ref (adM 0)] rfl ?_
  refine g_callV X hSB hAf srcW (hrc1 := (rfl : CL[8]? = some _)) (wm_mem (k := 0) (by decide)) rfl (As := []) (wr := WC adC g I L S ++ ([OUT ao on ov] : va_W)) (n := 0) (c_X9_thrown l D g adM I L S (u2 (u2 Z 3 0 (nI 0)) 3 0 (nI 1)) Y ) rfl srcN hrdN w_1250 w_1247 w_1248 w_1249 w_6 (by decide +kernel) rfl ⟨Nat.le_of_ble_eq_true rfl, Nat.le_of_ble_eq_true rfl⟩ rfl rfl rfl (Nat.le_of_ble_eq_true rfl) ⟨by show cells + 1 + 0 + 0 ≤ 600002; omega, by show slots + 6 + 0 + 0 ≤ 7302232; omega⟩ dL_law_1333 (fun hu3 hp_hu3 => ?_)
  refine g_af (ws' := WM adM g I L S (u2 (u2 Z 3 0 (nI 0)) 3 0 (nI 1)) Y ++ (WC adC g I L S ++ ([OUT ao on ov] : va_W))) (st' := [.int ((u2 (u2 Z 3 0 (nI 0)) 3 0 (nI 1)) 3 0)]) (cells' := cells + 1 + 0 + 0) (slots' := slots + 6 + 0 + 0) (pc' := 1336) rfl rfl rfl rfl rfl ?_
  refine g_st (st' := [.int (nI 1)]) (by first | rfl | (simp [z4, u2]; done)) ?_
  refine g_run X KL_law_1336_185 KL_law_1336_185_d 1338 [(6, .int (nI 0)), (5, .int (nI 1)), (0, .ref b), (1, .ref (adC 0)), (2, .ref (adM 0)), (3, .ref ao), (4, .int (nI (6 * k)))] [.int (nI 1), .int (nI 1)] rfl ?_
  refine g_icmp_eq X 1343 dL_law_1338 (by decide) (fun hc4 => ?_) (fun hc4 => ?_)
  · refine g_run X KL_law_1343_186 KL_law_1343_186_d 1345 [(6, .int (nI 0)), (5, .int (nI 1)), (0, .ref b), (1, .ref (adC 0)), (2, .ref (adM 0)), (3, .ref ao), (4, .int (nI (6 * k)))] [.int (nI 1)] rfl ?_
    refine g_if_ne X 1361 dL_law_1345 (by decide) (fun hc5 => ?_) (fun hc5 => ?_)
    · refine g_run X KL_law_1361_187 KL_law_1361_187_d 2256 [(6, .int (nI 0)), (5, .int (nI 1)), (0, .ref b), (1, .ref (adC 0)), (2, .ref (adM 0)), (3, .ref ao), (4, .int (nI (6 * k)))] [] rfl ?_
      refine g_lv (lv' := [(0, .ref b), (1, .ref (adC 0)), (2, .ref (adM 0)), (3, .ref ao), (4, .int (nI (6 * k)))]) (lsub_c 2 rfl (lsub_c 3 rfl (lsub_c 4 rfl (lsub_c 5 rfl (lsub_c 6 rfl (lsub_n)))))) ?_
      refine g_perm (ws' := (WC adC g I L S ++ ([OUT ao on ov] : va_W)) ++ WM adM g I L S (u2 (u2 Z 3 0 (nI 0)) 3 0 (nI 1)) Y) (List.perm_append_comm (l₁ := (WC adC g I L S ++ ([OUT ao on ov] : va_W))) (l₂ := WM adM g I L S (u2 (u2 Z 3 0 (nI 0)) 3 0 (nI 1)) Y)) ?_
      refine g_widen (k := cells + 60) (n := slots + 1200) (by omega) (by omega) ?_
      exact kk I L S n (u2 (u2 Z 3 0 (nI 0)) 3 0 (nI 1)) Y R on ov (hI) (hR) (by first | exact hZ | (rw [zrow]; exact hZ) | (rw [zrow, zrow]; exact hZ))
    · rw [nz_eq (by omega)] at hc5; first | omega | (simp at hc5)
  · rw [nI_eq (by omega) (by omega)] at hc4; first | omega | (simp at hc4)

theorem lq16 {p : Program} {l : Launch} {e : Env} {s : State} {m : MethodId} {below : List Frame} {meth : Method} {c : Code} {Q : State → Prop} {D : va_G} {A : Nat → Prop} {b N : Nat} {xs : Nat → Int32} {adC adM : Nat → Nat} {g : Nat → ClassId} {ao k cells slots : Nat} {I : Nat → Nat → Int32} {L : Nat → Nat → Int64} {S : Nat → Nat} {n : Nat} {Z : Nat → Nat → Int32} {Y : Int64} {R : Nat → Nat} {on : Int64} {ov : Value} (HX : LX p l s m meth c A b N xs) (hk : 6 * k + 6 ≤ N) (hroom : cells + 60 ≤ 600002 ∧ slots + 1200 ≤ 7302232) (hI : Inv I L S n) (hR : R16 R) (hZ : Z 0 = fun j => nI (R j)) (kk : LK p l e s m below meth c Q D A b adC adM g ao k cells slots 2256) : GL p l e room_1 s m #[.ref b] below meth c Q D CL (TYS g) A 9 (WL adC adM g ao I L S Z Y on ov) cells slots 1259 [(0, .ref b), (1, .ref (adC 0)), (2, .ref (adM 0)), (3, .ref ao), (4, .int (nI (6 * k)))] [] := by
  rcases rg (xs (6 * k + 1)) 0 15 with ⟨a1, hl1, hu1, e1⟩ | hw
  · rcases rg (xs (6 * k + 2)) 0 15 with ⟨a2, hl2, hu2, e2⟩ | hw
    · rcases rg (xs (6 * k + 3)) 0 15 with ⟨a3, hl3, hu3, e3⟩ | hw
      · by_cases hds : a1 = a2 ∨ a1 = a3 ∨ a2 = a3
        · exact lq16_4 HX hk hroom hI hR hZ  a1 hl1 hu1 e1 a2 hl2 hu2 e2 a3 hl3 hu3 e3 hds kk
        · have h12 : a1 ≠ a2 := fun z => hds (Or.inl z)
          have h13 : a1 ≠ a3 := fun z => hds (Or.inr (Or.inl z))
          have h23 : a2 ≠ a3 := fun z => hds (Or.inr (Or.inr z))
          rcases rg (xs (6 * k + 4)) 1 16 with ⟨a4, hl4, hu4, e4⟩ | hw
          · rcases rg (xs (6 * k + 5)) 1 16 with ⟨a5, hl5, hu5, e5⟩ | hw
            · exact lq16_0 HX hk hroom hI hR hZ  a1 hl1 hu1 e1 a2 hl2 hu2 e2 a3 hl3 hu3 e3 h12 h13 h23 a4 hl4 hu4 e4 a5 hl5 hu5 e5 kk
            · exact lq16_6 HX hk hroom hI hR hZ  a1 hl1 hu1 e1 a2 hl2 hu2 e2 a3 hl3 hu3 e3 h12 h13 h23 a4 hl4 hu4 e4 hw kk
          · exact lq16_5 HX hk hroom hI hR hZ  a1 hl1 hu1 e1 a2 hl2 hu2 e2 a3 hl3 hu3 e3 h12 h13 h23 hw kk
      · exact lq16_3 HX hk hroom hI hR hZ  a1 hl1 hu1 e1 a2 hl2 hu2 e2 hw kk
    · exact lq16_2 HX hk hroom hI hR hZ  a1 hl1 hu1 e1 hw kk
  · exact lq16_1 HX hk hroom hI hR hZ  hw kk

def KL_law_1364_190 : List (Nat × Instr × Nat) := [(1364, .aload_n 1, 1), (1365, .aload_n 0, 1), (1366, .iload 4, 2), (1368, .iconst 1, 1), (1369, .iadd, 1)]
theorem KL_law_1364_190_d : ∀ z ∈ KL_law_1364_190, decode cL_law z.1 = .ok z.2 := by decide +kernel
def KL_law_1371_191 : List (Nat × Instr × Nat) := [(1371, .aload_n 0, 1), (1372, .iload 4, 2), (1374, .iconst 2, 1), (1375, .iadd, 1)]
theorem KL_law_1371_191_d : ∀ z ∈ KL_law_1371_191, decode cL_law z.1 = .ok z.2 := by decide +kernel
def KL_law_1377_192 : List (Nat × Instr × Nat) := [(1377, .aload_n 3, 1)]
theorem KL_law_1377_192_d : ∀ z ∈ KL_law_1377_192, decode cL_law z.1 = .ok z.2 := by decide +kernel
def KL_law_1381_193 : List (Nat × Instr × Nat) := [(1381, .istore 5, 2), (1383, .aload_n 2, 1), (1384, .aload_n 0, 1), (1385, .iload 4, 2), (1387, .iconst 1, 1), (1388, .iadd, 1)]
theorem KL_law_1381_193_d : ∀ z ∈ KL_law_1381_193, decode cL_law z.1 = .ok z.2 := by decide +kernel
def KL_law_1390_194 : List (Nat × Instr × Nat) := [(1390, .aload_n 0, 1), (1391, .iload 4, 2), (1393, .iconst 2, 1), (1394, .iadd, 1)]
theorem KL_law_1390_194_d : ∀ z ∈ KL_law_1390_194, decode cL_law z.1 = .ok z.2 := by decide +kernel
def KL_law_1399_195 : List (Nat × Instr × Nat) := [(1399, .istore 6, 2), (1401, .aload_n 2, 1)]
theorem KL_law_1399_195_d : ∀ z ∈ KL_law_1399_195, decode cL_law z.1 = .ok z.2 := by decide +kernel
def KL_law_1405_196 : List (Nat × Instr × Nat) := [(1405, .iload 5, 2)]
theorem KL_law_1405_196_d : ∀ z ∈ KL_law_1405_196, decode cL_law z.1 = .ok z.2 := by decide +kernel
def KL_law_1412_197 : List (Nat × Instr × Nat) := [(1412, .iload 5, 2)]
theorem KL_law_1412_197_d : ∀ z ∈ KL_law_1412_197, decode cL_law z.1 = .ok z.2 := by decide +kernel
def KL_law_1417_198 : List (Nat × Instr × Nat) := [(1417, .aload_n 3, 1)]
theorem KL_law_1417_198_d : ∀ z ∈ KL_law_1417_198, decode cL_law z.1 = .ok z.2 := by decide +kernel
def KL_law_1421_199 : List (Nat × Instr × Nat) := [(1421, .iload 6, 2), (1423, .i2l, 1), (1424, .lcmp, 1)]
theorem KL_law_1421_199_d : ∀ z ∈ KL_law_1421_199, decode cL_law z.1 = .ok z.2 := by decide +kernel
def KL_law_1430_200 : List (Nat × Instr × Nat) := [(1430, .goto 826, 3)]
theorem KL_law_1430_200_d : ∀ z ∈ KL_law_1430_200, decode cL_law z.1 = .ok z.2 := by decide +kernel
set_option maxHeartbeats 4000000 in
set_option maxRecDepth 100000 in
theorem lq17_0 {p : Program} {l : Launch} {e : Env} {s : State} {m : MethodId} {below : List Frame} {meth : Method} {c : Code} {Q : State → Prop} {D : va_G} {A : Nat → Prop} {b N : Nat} {xs : Nat → Int32} {adC adM : Nat → Nat} {g : Nat → ClassId} {ao k cells slots : Nat} {I : Nat → Nat → Int32} {L : Nat → Nat → Int64} {S : Nat → Nat} {n : Nat} {Z : Nat → Nat → Int32} {Y : Int64} {R : Nat → Nat} {on : Int64} {ov : Value} (HX : LX p l s m meth c A b N xs) (hk : 6 * k + 6 ≤ N) (hroom : cells + 60 ≤ 600002 ∧ slots + 1200 ≤ 7302232) (hI : Inv I L S n) (hR : R16 R) (hZ : Z 0 = fun j => nI (R j)) (a1 : Nat) (hl1 : 0 ≤ a1) (hu1 : a1 < 16) (e1 : xs (6 * k + 1) = nI a1) (a2 : Nat) (hl2 : 0 ≤ a2) (hu2 : a2 < 15) (e2 : xs (6 * k + 2) = nI a2) (kk : LK p l e s m below meth c Q D A b adC adM g ao k cells slots 2256) : GL p l e room_1 s m #[.ref b] below meth c Q D CL (TYS g) A 9 (WL adC adM g ao I L S Z Y on ov) cells slots 1364 [(0, .ref b), (1, .ref (adC 0)), (2, .ref (adM 0)), (3, .ref ao), (4, .int (nI (6 * k)))] [] := by
  obtain ⟨X, hSB, hAf, hNC, hfl, hX, hbl, hbA, hN⟩ := HX
  refine g_run X KL_law_1364_190 KL_law_1364_190_d 1370 [(0, .ref b), (1, .ref (adC 0)), (2, .ref (adM 0)), (3, .ref ao), (4, .int (nI (6 * k)))] [.int ((nI (6 * k)) + (nI 1)), .ref b, .ref (adC 0)] rfl ?_
  refine g_nm (lv' := [(0, .ref b), (1, .ref (adC 0)), (2, .ref (adM 0)), (3, .ref ao), (4, .int (nI (6 * k)))]) (st' := [.int (nI ((6 * k) + 1)), .ref b, .ref (adC 0)]) (by simp only [nI_add]) (by simp only [nI_add]) ?_
  refine g_sld X hX hbl hbA hN (v := nI a1) (by omega) e1 dL_law_1370 ?_
  refine g_run X KL_law_1371_191 KL_law_1371_191_d 1376 [(0, .ref b), (1, .ref (adC 0)), (2, .ref (adM 0)), (3, .ref ao), (4, .int (nI (6 * k)))] [.int ((nI (6 * k)) + (nI 2)), .ref b, .int (nI a1), .ref (adC 0)] rfl ?_
  refine g_nm (lv' := [(0, .ref b), (1, .ref (adC 0)), (2, .ref (adM 0)), (3, .ref ao), (4, .int (nI (6 * k)))]) (st' := [.int (nI ((6 * k) + 2)), .ref b, .int (nI a1), .ref (adC 0)]) (by simp only [nI_add]) (by simp only [nI_add]) ?_
  refine g_sld X hX hbl hbA hN (v := nI a2) (by omega) e2 dL_law_1376 ?_
  refine g_run X KL_law_1377_192 KL_law_1377_192_d 1378 [(0, .ref b), (1, .ref (adC 0)), (2, .ref (adM 0)), (3, .ref ao), (4, .int (nI (6 * k)))] [.ref ao, .int (nI a2), .int (nI a1), .ref (adC 0)] rfl ?_
  refine g_callSW X hSB hAf hNC (As := [.ref (adC 0), .int (nI a1), .int (nI a2), .ref ao]) (wr := WM adM g I L S Z Y) (n := 4) (hc_seen l D g adC I L S a1 a2 ao on ov (hI.s18) (by first | assumption | omega) (by first | assumption | omega)) rfl w_716 w_714 w_715 w_0 (by decide +kernel) rfl ⟨Nat.le_of_ble_eq_true rfl, Nat.le_of_ble_eq_true rfl⟩ rfl rfl rfl (Nat.le_of_ble_eq_true rfl) ⟨by show cells + 0 ≤ 600002; omega, by show slots + 0 ≤ 7302232; omega⟩ dL_law_1378 (fun hu1 _ => ?_)
  refine g_af (ws' := (WC adC g I L S ++ ([OUT ao ((nI (rd I L (S a2) a1)).toInt64) ov] : va_W)) ++ WM adM g I L S Z Y) (st' := [.int (nI 0)]) (cells' := cells + 0) (slots' := slots + 0) (pc' := 1381) rfl rfl rfl rfl rfl ?_
  refine g_run X KL_law_1381_193 KL_law_1381_193_d 1389 [(5, .int (nI 0)), (0, .ref b), (1, .ref (adC 0)), (2, .ref (adM 0)), (3, .ref ao), (4, .int (nI (6 * k)))] [.int ((nI (6 * k)) + (nI 1)), .ref b, .ref (adM 0)] rfl ?_
  refine g_nm (lv' := [(5, .int (nI 0)), (0, .ref b), (1, .ref (adC 0)), (2, .ref (adM 0)), (3, .ref ao), (4, .int (nI (6 * k)))]) (st' := [.int (nI ((6 * k) + 1)), .ref b, .ref (adM 0)]) (by simp only [nI_add]) (by simp only [nI_add]) ?_
  refine g_sld X hX hbl hbA hN (v := nI a1) (by omega) e1 dL_law_1389 ?_
  refine g_run X KL_law_1390_194 KL_law_1390_194_d 1395 [(5, .int (nI 0)), (0, .ref b), (1, .ref (adC 0)), (2, .ref (adM 0)), (3, .ref ao), (4, .int (nI (6 * k)))] [.int ((nI (6 * k)) + (nI 2)), .ref b, .int (nI a1), .ref (adM 0)] rfl ?_
  refine g_nm (lv' := [(5, .int (nI 0)), (0, .ref b), (1, .ref (adC 0)), (2, .ref (adM 0)), (3, .ref ao), (4, .int (nI (6 * k)))]) (st' := [.int (nI ((6 * k) + 2)), .ref b, .int (nI a1), .ref (adM 0)]) (by simp only [nI_add]) (by simp only [nI_add]) ?_
  refine g_sld X hX hbl hbA hN (v := nI a2) (by omega) e2 dL_law_1395 ?_
  refine g_perm (ws' := WM adM g I L S Z Y ++ (WC adC g I L S ++ ([OUT ao ((nI (rd I L (S a2) a1)).toInt64) ov] : va_W))) (List.perm_append_comm (l₁ := WM adM g I L S Z Y) (l₂ := (WC adC g I L S ++ ([OUT ao ((nI (rd I L (S a2) a1)).toInt64) ov] : va_W)))) ?_
  refine g_callV X hSB hAf srcW (hrc1 := (rfl : CL[8]? = some _)) (wm_mem (k := 0) (by decide)) rfl (As := [.int (nI a1), .int (nI a2)]) (wr := WC adC g I L S ++ ([OUT ao ((nI (rd I L (S a2) a1)).toInt64) ov] : va_W)) (n := 2) (c_X9_seen l D g adM I L S Z Y a1 a2 (hI.s18) (hI.ky) (by first | assumption | omega) (by first | assumption | omega)) rfl srcN hrdN w_1444 w_1441 w_1442 w_1443 w_6 (by decide +kernel) rfl ⟨Nat.le_of_ble_eq_true rfl, Nat.le_of_ble_eq_true rfl⟩ rfl rfl rfl (Nat.le_of_ble_eq_true rfl) ⟨by show cells + 0 + 0 ≤ 600002; omega, by show slots + 0 + 0 ≤ 7302232; omega⟩ dL_law_1396 (fun hu2 hp_hu2 => ?_)
  refine g_af (ws' := WM adM g I L S (u2 Z 3 0 (nI 0)) Y ++ (WC adC g I L S ++ ([OUT ao ((nI (rd I L (S a2) a1)).toInt64) ov] : va_W))) (st' := [.int (nI (rd I L (S a2) a1))]) (cells' := cells + 0 + 0) (slots' := slots + 0 + 0) (pc' := 1399) rfl rfl rfl rfl rfl ?_
  refine g_run X KL_law_1399_195 KL_law_1399_195_d 1402 [(6, .int (nI (rd I L (S a2) a1))), (5, .int (nI 0)), (0, .ref b), (1, .ref (adC 0)), (2, .ref (adM 0)), (3, .ref ao), (4, .int (nI (6 * k)))] [.ref (adM 0)] rfl ?_
  refine g_callV X hSB hAf srcW (hrc1 := (rfl : CL[8]? = some _)) (wm_mem (k := 0) (by decide)) rfl (As := []) (wr := WC adC g I L S ++ ([OUT ao ((nI (rd I L (S a2) a1)).toInt64) ov] : va_W)) (n := 0) (c_X9_thrown l D g adM I L S (u2 Z 3 0 (nI 0)) Y ) rfl srcN hrdN w_1250 w_1247 w_1248 w_1249 w_6 (by decide +kernel) rfl ⟨Nat.le_of_ble_eq_true rfl, Nat.le_of_ble_eq_true rfl⟩ rfl rfl rfl (Nat.le_of_ble_eq_true rfl) ⟨by show cells + 0 + 0 + 0 ≤ 600002; omega, by show slots + 0 + 0 + 0 ≤ 7302232; omega⟩ dL_law_1402 (fun hu3 hp_hu3 => ?_)
  refine g_af (ws' := WM adM g I L S (u2 Z 3 0 (nI 0)) Y ++ (WC adC g I L S ++ ([OUT ao ((nI (rd I L (S a2) a1)).toInt64) ov] : va_W))) (st' := [.int ((u2 Z 3 0 (nI 0)) 3 0)]) (cells' := cells + 0 + 0 + 0) (slots' := slots + 0 + 0 + 0) (pc' := 1405) rfl rfl rfl rfl rfl ?_
  refine g_st (st' := [.int (nI 0)]) (by first | rfl | (simp [z4, u2]; done)) ?_
  refine g_run X KL_law_1405_196 KL_law_1405_196_d 1407 [(6, .int (nI (rd I L (S a2) a1))), (5, .int (nI 0)), (0, .ref b), (1, .ref (adC 0)), (2, .ref (adM 0)), (3, .ref ao), (4, .int (nI (6 * k)))] [.int (nI 0), .int (nI 0)] rfl ?_
  refine g_icmp_eq X 1412 dL_law_1407 (by decide) (fun hc4 => ?_) (fun hc4 => ?_)
  · refine g_run X KL_law_1412_197 KL_law_1412_197_d 1414 [(6, .int (nI (rd I L (S a2) a1))), (5, .int (nI 0)), (0, .ref b), (1, .ref (adC 0)), (2, .ref (adM 0)), (3, .ref ao), (4, .int (nI (6 * k)))] [.int (nI 0)] rfl ?_
    refine g_if_ne X 1430 dL_law_1414 (by decide) (fun hc5 => ?_) (fun hc5 => ?_)
    · rw [nz_eq (by omega)] at hc5; first | omega | (simp at hc5)
    · refine g_run X KL_law_1417_198 KL_law_1417_198_d 1418 [(6, .int (nI (rd I L (S a2) a1))), (5, .int (nI 0)), (0, .ref b), (1, .ref (adC 0)), (2, .ref (adM 0)), (3, .ref ao), (4, .int (nI (6 * k)))] [.ref ao] rfl ?_
      refine g_getN X srcW (host := "ChipfieldLaw") (v := .long ((nI (rd I L (S a2) a1)).toInt64)) hinX6 rfl 0 (by decide) (nw_in n_489 rfl) rfl (List.mem_append_right _ (List.mem_append_right _ List.mem_cons_self)) rfl dL_law_1418 ?_
      refine g_run X KL_law_1421_199 KL_law_1421_199_d 1425 [(6, .int (nI (rd I L (S a2) a1))), (5, .int (nI 0)), (0, .ref b), (1, .ref (adC 0)), (2, .ref (adM 0)), (3, .ref ao), (4, .int (nI (6 * k)))] [.int (lg_cmp ((nI (rd I L (S a2) a1)).toInt64) ((nI (rd I L (S a2) a1)).toInt64))] rfl ?_
      refine g_if_eq X 1430 dL_law_1425 (by decide) (fun hc6 => ?_) (fun hc6 => ?_)
      · refine g_run X KL_law_1430_200 KL_law_1430_200_d 2256 [(6, .int (nI (rd I L (S a2) a1))), (5, .int (nI 0)), (0, .ref b), (1, .ref (adC 0)), (2, .ref (adM 0)), (3, .ref ao), (4, .int (nI (6 * k)))] [] rfl ?_
        refine g_lv (lv' := [(0, .ref b), (1, .ref (adC 0)), (2, .ref (adM 0)), (3, .ref ao), (4, .int (nI (6 * k)))]) (lsub_c 2 rfl (lsub_c 3 rfl (lsub_c 4 rfl (lsub_c 5 rfl (lsub_c 6 rfl (lsub_n)))))) ?_
        refine g_perm (ws' := (WC adC g I L S ++ ([OUT ao ((nI (rd I L (S a2) a1)).toInt64) ov] : va_W)) ++ WM adM g I L S (u2 Z 3 0 (nI 0)) Y) (List.perm_append_comm (l₁ := (WC adC g I L S ++ ([OUT ao ((nI (rd I L (S a2) a1)).toInt64) ov] : va_W))) (l₂ := WM adM g I L S (u2 Z 3 0 (nI 0)) Y)) ?_
        refine g_widen (k := cells + 60) (n := slots + 1200) (by omega) (by omega) ?_
        exact kk I L S n (u2 Z 3 0 (nI 0)) Y R ((nI (rd I L (S a2) a1)).toInt64) ov (hI) (hR) (by first | exact hZ | (rw [zrow]; exact hZ) | (rw [zrow, zrow]; exact hZ))
      · exact absurd lg_self hc6
  · rw [nI_eq (by omega) (by omega)] at hc4; first | omega | (simp at hc4)

set_option maxHeartbeats 4000000 in
set_option maxRecDepth 100000 in
theorem lq17_2 {p : Program} {l : Launch} {e : Env} {s : State} {m : MethodId} {below : List Frame} {meth : Method} {c : Code} {Q : State → Prop} {D : va_G} {A : Nat → Prop} {b N : Nat} {xs : Nat → Int32} {adC adM : Nat → Nat} {g : Nat → ClassId} {ao k cells slots : Nat} {I : Nat → Nat → Int32} {L : Nat → Nat → Int64} {S : Nat → Nat} {n : Nat} {Z : Nat → Nat → Int32} {Y : Int64} {R : Nat → Nat} {on : Int64} {ov : Value} (HX : LX p l s m meth c A b N xs) (hk : 6 * k + 6 ≤ N) (hroom : cells + 60 ≤ 600002 ∧ slots + 1200 ≤ 7302232) (hI : Inv I L S n) (hR : R16 R) (hZ : Z 0 = fun j => nI (R j)) (a1 : Nat) (hl1 : 0 ≤ a1) (hu1 : a1 < 16) (e1 : xs (6 * k + 1) = nI a1) (hw : (xs (6 * k + 2)).toInt < (0 : Nat) ∨ ((15 : Nat) : Int) ≤ (xs (6 * k + 2)).toInt) (kk : LK p l e s m below meth c Q D A b adC adM g ao k cells slots 2256) : GL p l e room_1 s m #[.ref b] below meth c Q D CL (TYS g) A 9 (WL adC adM g ao I L S Z Y on ov) cells slots 1364 [(0, .ref b), (1, .ref (adC 0)), (2, .ref (adM 0)), (3, .ref ao), (4, .int (nI (6 * k)))] [] := by
  obtain ⟨X, hSB, hAf, hNC, hfl, hX, hbl, hbA, hN⟩ := HX
  refine g_run X KL_law_1364_190 KL_law_1364_190_d 1370 [(0, .ref b), (1, .ref (adC 0)), (2, .ref (adM 0)), (3, .ref ao), (4, .int (nI (6 * k)))] [.int ((nI (6 * k)) + (nI 1)), .ref b, .ref (adC 0)] rfl ?_
  refine g_nm (lv' := [(0, .ref b), (1, .ref (adC 0)), (2, .ref (adM 0)), (3, .ref ao), (4, .int (nI (6 * k)))]) (st' := [.int (nI ((6 * k) + 1)), .ref b, .ref (adC 0)]) (by simp only [nI_add]) (by simp only [nI_add]) ?_
  refine g_sld X hX hbl hbA hN (v := nI a1) (by omega) e1 dL_law_1370 ?_
  refine g_run X KL_law_1371_191 KL_law_1371_191_d 1376 [(0, .ref b), (1, .ref (adC 0)), (2, .ref (adM 0)), (3, .ref ao), (4, .int (nI (6 * k)))] [.int ((nI (6 * k)) + (nI 2)), .ref b, .int (nI a1), .ref (adC 0)] rfl ?_
  refine g_nm (lv' := [(0, .ref b), (1, .ref (adC 0)), (2, .ref (adM 0)), (3, .ref ao), (4, .int (nI (6 * k)))]) (st' := [.int (nI ((6 * k) + 2)), .ref b, .int (nI a1), .ref (adC 0)]) (by simp only [nI_add]) (by simp only [nI_add]) ?_
  refine g_sld X hX hbl hbA hN (v := xs (6 * k + 2)) (by omega) rfl dL_law_1376 ?_
  refine g_run X KL_law_1377_192 KL_law_1377_192_d 1378 [(0, .ref b), (1, .ref (adC 0)), (2, .ref (adM 0)), (3, .ref ao), (4, .int (nI (6 * k)))] [.ref ao, .int (xs (6 * k + 2)), .int (nI a1), .ref (adC 0)] rfl ?_
  refine g_callSW X hSB hAf hNC (As := [.ref (adC 0), .int (nI a1), .int (xs (6 * k + 2)), .ref ao]) (wr := WM adM g I L S Z Y) (n := 4) (hx_seen_2 l hfl D g adC I L S a1 (xs (6 * k + 2)) ao on ov (by first | assumption | omega) (out_lt (by decide) hw)) rfl w_716 w_714 w_715 w_0 (by decide +kernel) rfl ⟨Nat.le_of_ble_eq_true rfl, Nat.le_of_ble_eq_true rfl⟩ rfl rfl rfl (Nat.le_of_ble_eq_true rfl) ⟨by show cells + 1 ≤ 600002; omega, by show slots + 6 ≤ 7302232; omega⟩ dL_law_1378 (fun hu1 _ => ?_)
  refine g_af (ws' := (WC adC g I L S ++ ([OUT ao on ov] : va_W)) ++ WM adM g I L S Z Y) (st' := [.int (nI 1)]) (cells' := cells + 1) (slots' := slots + 6) (pc' := 1381) rfl rfl rfl rfl rfl ?_
  refine g_run X KL_law_1381_193 KL_law_1381_193_d 1389 [(5, .int (nI 1)), (0, .ref b), (1, .ref (adC 0)), (2, .ref (adM 0)), (3, .ref ao), (4, .int (nI (6 * k)))] [.int ((nI (6 * k)) + (nI 1)), .ref b, .ref (adM 0)] rfl ?_
  refine g_nm (lv' := [(5, .int (nI 1)), (0, .ref b), (1, .ref (adC 0)), (2, .ref (adM 0)), (3, .ref ao), (4, .int (nI (6 * k)))]) (st' := [.int (nI ((6 * k) + 1)), .ref b, .ref (adM 0)]) (by simp only [nI_add]) (by simp only [nI_add]) ?_
  refine g_sld X hX hbl hbA hN (v := nI a1) (by omega) e1 dL_law_1389 ?_
  refine g_run X KL_law_1390_194 KL_law_1390_194_d 1395 [(5, .int (nI 1)), (0, .ref b), (1, .ref (adC 0)), (2, .ref (adM 0)), (3, .ref ao), (4, .int (nI (6 * k)))] [.int ((nI (6 * k)) + (nI 2)), .ref b, .int (nI a1), .ref (adM 0)] rfl ?_
  refine g_nm (lv' := [(5, .int (nI 1)), (0, .ref b), (1, .ref (adC 0)), (2, .ref (adM 0)), (3, .ref ao), (4, .int (nI (6 * k)))]) (st' := [.int (nI ((6 * k) + 2)), .ref b, .int (nI a1), .ref (adM 0)]) (by simp only [nI_add]) (by simp only [nI_add]) ?_
  refine g_sld X hX hbl hbA hN (v := xs (6 * k + 2)) (by omega) rfl dL_law_1395 ?_
  refine g_perm (ws' := WM adM g I L S Z Y ++ (WC adC g I L S ++ ([OUT ao on ov] : va_W))) (List.perm_append_comm (l₁ := WM adM g I L S Z Y) (l₂ := (WC adC g I L S ++ ([OUT ao on ov] : va_W)))) ?_
  refine g_callV X hSB hAf srcW (hrc1 := (rfl : CL[8]? = some _)) (wm_mem (k := 0) (by decide)) rfl (As := [.int (nI a1), .int (xs (6 * k + 2))]) (wr := WC adC g I L S ++ ([OUT ao on ov] : va_W)) (n := 2) (c_X9_seen_2 l D g adM I L S Z Y a1 (xs (6 * k + 2)) (by first | assumption | omega) (out_le (by decide) hw)) rfl srcN hrdN w_1444 w_1441 w_1442 w_1443 w_6 (by decide +kernel) rfl ⟨Nat.le_of_ble_eq_true rfl, Nat.le_of_ble_eq_true rfl⟩ rfl rfl rfl (Nat.le_of_ble_eq_true rfl) ⟨by show cells + 1 + 0 ≤ 600002; omega, by show slots + 6 + 0 ≤ 7302232; omega⟩ dL_law_1396 (fun hu2 hp_hu2 => ?_)
  refine g_af (ws' := WM adM g I L S (u2 (u2 Z 3 0 (nI 0)) 3 0 (nI 1)) Y ++ (WC adC g I L S ++ ([OUT ao on ov] : va_W))) (st' := [.int (nI 0)]) (cells' := cells + 1 + 0) (slots' := slots + 6 + 0) (pc' := 1399) rfl rfl rfl rfl rfl ?_
  refine g_run X KL_law_1399_195 KL_law_1399_195_d 1402 [(6, .int (nI 0)), (5, .int (nI 1)), (0, .ref b), (1, .ref (adC 0)), (2, .ref (adM 0)), (3, .ref ao), (4, .int (nI (6 * k)))] [.ref (adM 0)] rfl ?_
  refine g_callV X hSB hAf srcW (hrc1 := (rfl : CL[8]? = some _)) (wm_mem (k := 0) (by decide)) rfl (As := []) (wr := WC adC g I L S ++ ([OUT ao on ov] : va_W)) (n := 0) (c_X9_thrown l D g adM I L S (u2 (u2 Z 3 0 (nI 0)) 3 0 (nI 1)) Y ) rfl srcN hrdN w_1250 w_1247 w_1248 w_1249 w_6 (by decide +kernel) rfl ⟨Nat.le_of_ble_eq_true rfl, Nat.le_of_ble_eq_true rfl⟩ rfl rfl rfl (Nat.le_of_ble_eq_true rfl) ⟨by show cells + 1 + 0 + 0 ≤ 600002; omega, by show slots + 6 + 0 + 0 ≤ 7302232; omega⟩ dL_law_1402 (fun hu3 hp_hu3 => ?_)
  refine g_af (ws' := WM adM g I L S (u2 (u2 Z 3 0 (nI 0)) 3 0 (nI 1)) Y ++ (WC adC g I L S ++ ([OUT ao on ov] : va_W))) (st' := [.int ((u2 (u2 Z 3 0 (nI 0)) 3 0 (nI 1)) 3 0)]) (cells' := cells + 1 + 0 + 0) (slots' := slots + 6 + 0 + 0) (pc' := 1405) rfl rfl rfl rfl rfl ?_
  refine g_st (st' := [.int (nI 1)]) (by first | rfl | (simp [z4, u2]; done)) ?_
  refine g_run X KL_law_1405_196 KL_law_1405_196_d 1407 [(6, .int (nI 0)), (5, .int (nI 1)), (0, .ref b), (1, .ref (adC 0)), (2, .ref (adM 0)), (3, .ref ao), (4, .int (nI (6 * k)))] [.int (nI 1), .int (nI 1)] rfl ?_
  refine g_icmp_eq X 1412 dL_law_1407 (by decide) (fun hc4 => ?_) (fun hc4 => ?_)
  · refine g_run X KL_law_1412_197 KL_law_1412_197_d 1414 [(6, .int (nI 0)), (5, .int (nI 1)), (0, .ref b), (1, .ref (adC 0)), (2, .ref (adM 0)), (3, .ref ao), (4, .int (nI (6 * k)))] [.int (nI 1)] rfl ?_
    refine g_if_ne X 1430 dL_law_1414 (by decide) (fun hc5 => ?_) (fun hc5 => ?_)
    · refine g_run X KL_law_1430_200 KL_law_1430_200_d 2256 [(6, .int (nI 0)), (5, .int (nI 1)), (0, .ref b), (1, .ref (adC 0)), (2, .ref (adM 0)), (3, .ref ao), (4, .int (nI (6 * k)))] [] rfl ?_
      refine g_lv (lv' := [(0, .ref b), (1, .ref (adC 0)), (2, .ref (adM 0)), (3, .ref ao), (4, .int (nI (6 * k)))]) (lsub_c 2 rfl (lsub_c 3 rfl (lsub_c 4 rfl (lsub_c 5 rfl (lsub_c 6 rfl (lsub_n)))))) ?_
      refine g_perm (ws' := (WC adC g I L S ++ ([OUT ao on ov] : va_W)) ++ WM adM g I L S (u2 (u2 Z 3 0 (nI 0)) 3 0 (nI 1)) Y) (List.perm_append_comm (l₁ := (WC adC g I L S ++ ([OUT ao on ov] : va_W))) (l₂ := WM adM g I L S (u2 (u2 Z 3 0 (nI 0)) 3 0 (nI 1)) Y)) ?_
      refine g_widen (k := cells + 60) (n := slots + 1200) (by omega) (by omega) ?_
      exact kk I L S n (u2 (u2 Z 3 0 (nI 0)) 3 0 (nI 1)) Y R on ov (hI) (hR) (by first | exact hZ | (rw [zrow]; exact hZ) | (rw [zrow, zrow]; exact hZ))
    · rw [nz_eq (by omega)] at hc5; first | omega | (simp at hc5)
  · rw [nI_eq (by omega) (by omega)] at hc4; first | omega | (simp at hc4)

set_option maxHeartbeats 4000000 in
set_option maxRecDepth 100000 in
theorem lq17_1 {p : Program} {l : Launch} {e : Env} {s : State} {m : MethodId} {below : List Frame} {meth : Method} {c : Code} {Q : State → Prop} {D : va_G} {A : Nat → Prop} {b N : Nat} {xs : Nat → Int32} {adC adM : Nat → Nat} {g : Nat → ClassId} {ao k cells slots : Nat} {I : Nat → Nat → Int32} {L : Nat → Nat → Int64} {S : Nat → Nat} {n : Nat} {Z : Nat → Nat → Int32} {Y : Int64} {R : Nat → Nat} {on : Int64} {ov : Value} (HX : LX p l s m meth c A b N xs) (hk : 6 * k + 6 ≤ N) (hroom : cells + 60 ≤ 600002 ∧ slots + 1200 ≤ 7302232) (hI : Inv I L S n) (hR : R16 R) (hZ : Z 0 = fun j => nI (R j)) (hw : (xs (6 * k + 1)).toInt < (0 : Nat) ∨ ((16 : Nat) : Int) ≤ (xs (6 * k + 1)).toInt) (kk : LK p l e s m below meth c Q D A b adC adM g ao k cells slots 2256) : GL p l e room_1 s m #[.ref b] below meth c Q D CL (TYS g) A 9 (WL adC adM g ao I L S Z Y on ov) cells slots 1364 [(0, .ref b), (1, .ref (adC 0)), (2, .ref (adM 0)), (3, .ref ao), (4, .int (nI (6 * k)))] [] := by
  obtain ⟨X, hSB, hAf, hNC, hfl, hX, hbl, hbA, hN⟩ := HX
  refine g_run X KL_law_1364_190 KL_law_1364_190_d 1370 [(0, .ref b), (1, .ref (adC 0)), (2, .ref (adM 0)), (3, .ref ao), (4, .int (nI (6 * k)))] [.int ((nI (6 * k)) + (nI 1)), .ref b, .ref (adC 0)] rfl ?_
  refine g_nm (lv' := [(0, .ref b), (1, .ref (adC 0)), (2, .ref (adM 0)), (3, .ref ao), (4, .int (nI (6 * k)))]) (st' := [.int (nI ((6 * k) + 1)), .ref b, .ref (adC 0)]) (by simp only [nI_add]) (by simp only [nI_add]) ?_
  refine g_sld X hX hbl hbA hN (v := xs (6 * k + 1)) (by omega) rfl dL_law_1370 ?_
  refine g_run X KL_law_1371_191 KL_law_1371_191_d 1376 [(0, .ref b), (1, .ref (adC 0)), (2, .ref (adM 0)), (3, .ref ao), (4, .int (nI (6 * k)))] [.int ((nI (6 * k)) + (nI 2)), .ref b, .int (xs (6 * k + 1)), .ref (adC 0)] rfl ?_
  refine g_nm (lv' := [(0, .ref b), (1, .ref (adC 0)), (2, .ref (adM 0)), (3, .ref ao), (4, .int (nI (6 * k)))]) (st' := [.int (nI ((6 * k) + 2)), .ref b, .int (xs (6 * k + 1)), .ref (adC 0)]) (by simp only [nI_add]) (by simp only [nI_add]) ?_
  refine g_sld X hX hbl hbA hN (v := xs (6 * k + 2)) (by omega) rfl dL_law_1376 ?_
  refine g_run X KL_law_1377_192 KL_law_1377_192_d 1378 [(0, .ref b), (1, .ref (adC 0)), (2, .ref (adM 0)), (3, .ref ao), (4, .int (nI (6 * k)))] [.ref ao, .int (xs (6 * k + 2)), .int (xs (6 * k + 1)), .ref (adC 0)] rfl ?_
  refine g_callSW X hSB hAf hNC (As := [.ref (adC 0), .int (xs (6 * k + 1)), .int (xs (6 * k + 2)), .ref ao]) (wr := WM adM g I L S Z Y) (n := 4) (hx_seen_1 l hfl D g adC I L S (xs (6 * k + 1)) (xs (6 * k + 2)) ao on ov (out_lt (by decide) hw)) rfl w_716 w_714 w_715 w_0 (by decide +kernel) rfl ⟨Nat.le_of_ble_eq_true rfl, Nat.le_of_ble_eq_true rfl⟩ rfl rfl rfl (Nat.le_of_ble_eq_true rfl) ⟨by show cells + 1 ≤ 600002; omega, by show slots + 6 ≤ 7302232; omega⟩ dL_law_1378 (fun hu1 _ => ?_)
  refine g_af (ws' := (WC adC g I L S ++ ([OUT ao on ov] : va_W)) ++ WM adM g I L S Z Y) (st' := [.int (nI 1)]) (cells' := cells + 1) (slots' := slots + 6) (pc' := 1381) rfl rfl rfl rfl rfl ?_
  refine g_run X KL_law_1381_193 KL_law_1381_193_d 1389 [(5, .int (nI 1)), (0, .ref b), (1, .ref (adC 0)), (2, .ref (adM 0)), (3, .ref ao), (4, .int (nI (6 * k)))] [.int ((nI (6 * k)) + (nI 1)), .ref b, .ref (adM 0)] rfl ?_
  refine g_nm (lv' := [(5, .int (nI 1)), (0, .ref b), (1, .ref (adC 0)), (2, .ref (adM 0)), (3, .ref ao), (4, .int (nI (6 * k)))]) (st' := [.int (nI ((6 * k) + 1)), .ref b, .ref (adM 0)]) (by simp only [nI_add]) (by simp only [nI_add]) ?_
  refine g_sld X hX hbl hbA hN (v := xs (6 * k + 1)) (by omega) rfl dL_law_1389 ?_
  refine g_run X KL_law_1390_194 KL_law_1390_194_d 1395 [(5, .int (nI 1)), (0, .ref b), (1, .ref (adC 0)), (2, .ref (adM 0)), (3, .ref ao), (4, .int (nI (6 * k)))] [.int ((nI (6 * k)) + (nI 2)), .ref b, .int (xs (6 * k + 1)), .ref (adM 0)] rfl ?_
  refine g_nm (lv' := [(5, .int (nI 1)), (0, .ref b), (1, .ref (adC 0)), (2, .ref (adM 0)), (3, .ref ao), (4, .int (nI (6 * k)))]) (st' := [.int (nI ((6 * k) + 2)), .ref b, .int (xs (6 * k + 1)), .ref (adM 0)]) (by simp only [nI_add]) (by simp only [nI_add]) ?_
  refine g_sld X hX hbl hbA hN (v := xs (6 * k + 2)) (by omega) rfl dL_law_1395 ?_
  refine g_perm (ws' := WM adM g I L S Z Y ++ (WC adC g I L S ++ ([OUT ao on ov] : va_W))) (List.perm_append_comm (l₁ := WM adM g I L S Z Y) (l₂ := (WC adC g I L S ++ ([OUT ao on ov] : va_W)))) ?_
  refine g_callV X hSB hAf srcW (hrc1 := (rfl : CL[8]? = some _)) (wm_mem (k := 0) (by decide)) rfl (As := [.int (xs (6 * k + 1)), .int (xs (6 * k + 2))]) (wr := WC adC g I L S ++ ([OUT ao on ov] : va_W)) (n := 2) (c_X9_seen_1 l D g adM I L S Z Y (xs (6 * k + 1)) (xs (6 * k + 2)) (out_le (by decide) hw)) rfl srcN hrdN w_1444 w_1441 w_1442 w_1443 w_6 (by decide +kernel) rfl ⟨Nat.le_of_ble_eq_true rfl, Nat.le_of_ble_eq_true rfl⟩ rfl rfl rfl (Nat.le_of_ble_eq_true rfl) ⟨by show cells + 1 + 0 ≤ 600002; omega, by show slots + 6 + 0 ≤ 7302232; omega⟩ dL_law_1396 (fun hu2 hp_hu2 => ?_)
  refine g_af (ws' := WM adM g I L S (u2 (u2 Z 3 0 (nI 0)) 3 0 (nI 1)) Y ++ (WC adC g I L S ++ ([OUT ao on ov] : va_W))) (st' := [.int (nI 0)]) (cells' := cells + 1 + 0) (slots' := slots + 6 + 0) (pc' := 1399) rfl rfl rfl rfl rfl ?_
  refine g_run X KL_law_1399_195 KL_law_1399_195_d 1402 [(6, .int (nI 0)), (5, .int (nI 1)), (0, .ref b), (1, .ref (adC 0)), (2, .ref (adM 0)), (3, .ref ao), (4, .int (nI (6 * k)))] [.ref (adM 0)] rfl ?_
  refine g_callV X hSB hAf srcW (hrc1 := (rfl : CL[8]? = some _)) (wm_mem (k := 0) (by decide)) rfl (As := []) (wr := WC adC g I L S ++ ([OUT ao on ov] : va_W)) (n := 0) (c_X9_thrown l D g adM I L S (u2 (u2 Z 3 0 (nI 0)) 3 0 (nI 1)) Y ) rfl srcN hrdN w_1250 w_1247 w_1248 w_1249 w_6 (by decide +kernel) rfl ⟨Nat.le_of_ble_eq_true rfl, Nat.le_of_ble_eq_true rfl⟩ rfl rfl rfl (Nat.le_of_ble_eq_true rfl) ⟨by show cells + 1 + 0 + 0 ≤ 600002; omega, by show slots + 6 + 0 + 0 ≤ 7302232; omega⟩ dL_law_1402 (fun hu3 hp_hu3 => ?_)
  refine g_af (ws' := WM adM g I L S (u2 (u2 Z 3 0 (nI 0)) 3 0 (nI 1)) Y ++ (WC adC g I L S ++ ([OUT ao on ov] : va_W))) (st' := [.int ((u2 (u2 Z 3 0 (nI 0)) 3 0 (nI 1)) 3 0)]) (cells' := cells + 1 + 0 + 0) (slots' := slots + 6 + 0 + 0) (pc' := 1405) rfl rfl rfl rfl rfl ?_
  refine g_st (st' := [.int (nI 1)]) (by first | rfl | (simp [z4, u2]; done)) ?_
  refine g_run X KL_law_1405_196 KL_law_1405_196_d 1407 [(6, .int (nI 0)), (5, .int (nI 1)), (0, .ref b), (1, .ref (adC 0)), (2, .ref (adM 0)), (3, .ref ao), (4, .int (nI (6 * k)))] [.int (nI 1), .int (nI 1)] rfl ?_
  refine g_icmp_eq X 1412 dL_law_1407 (by decide) (fun hc4 => ?_) (fun hc4 => ?_)
  · refine g_run X KL_law_1412_197 KL_law_1412_197_d 1414 [(6, .int (nI 0)), (5, .int (nI 1)), (0, .ref b), (1, .ref (adC 0)), (2, .ref (adM 0)), (3, .ref ao), (4, .int (nI (6 * k)))] [.int (nI 1)] rfl ?_
    refine g_if_ne X 1430 dL_law_1414 (by decide) (fun hc5 => ?_) (fun hc5 => ?_)
    · refine g_run X KL_law_1430_200 KL_law_1430_200_d 2256 [(6, .int (nI 0)), (5, .int (nI 1)), (0, .ref b), (1, .ref (adC 0)), (2, .ref (adM 0)), (3, .ref ao), (4, .int (nI (6 * k)))] [] rfl ?_
      refine g_lv (lv' := [(0, .ref b), (1, .ref (adC 0)), (2, .ref (adM 0)), (3, .ref ao), (4, .int (nI (6 * k)))]) (lsub_c 2 rfl (lsub_c 3 rfl (lsub_c 4 rfl (lsub_c 5 rfl (lsub_c 6 rfl (lsub_n)))))) ?_
      refine g_perm (ws' := (WC adC g I L S ++ ([OUT ao on ov] : va_W)) ++ WM adM g I L S (u2 (u2 Z 3 0 (nI 0)) 3 0 (nI 1)) Y) (List.perm_append_comm (l₁ := (WC adC g I L S ++ ([OUT ao on ov] : va_W))) (l₂ := WM adM g I L S (u2 (u2 Z 3 0 (nI 0)) 3 0 (nI 1)) Y)) ?_
      refine g_widen (k := cells + 60) (n := slots + 1200) (by omega) (by omega) ?_
      exact kk I L S n (u2 (u2 Z 3 0 (nI 0)) 3 0 (nI 1)) Y R on ov (hI) (hR) (by first | exact hZ | (rw [zrow]; exact hZ) | (rw [zrow, zrow]; exact hZ))
    · rw [nz_eq (by omega)] at hc5; first | omega | (simp at hc5)
  · rw [nI_eq (by omega) (by omega)] at hc4; first | omega | (simp at hc4)

theorem lq17 {p : Program} {l : Launch} {e : Env} {s : State} {m : MethodId} {below : List Frame} {meth : Method} {c : Code} {Q : State → Prop} {D : va_G} {A : Nat → Prop} {b N : Nat} {xs : Nat → Int32} {adC adM : Nat → Nat} {g : Nat → ClassId} {ao k cells slots : Nat} {I : Nat → Nat → Int32} {L : Nat → Nat → Int64} {S : Nat → Nat} {n : Nat} {Z : Nat → Nat → Int32} {Y : Int64} {R : Nat → Nat} {on : Int64} {ov : Value} (HX : LX p l s m meth c A b N xs) (hk : 6 * k + 6 ≤ N) (hroom : cells + 60 ≤ 600002 ∧ slots + 1200 ≤ 7302232) (hI : Inv I L S n) (hR : R16 R) (hZ : Z 0 = fun j => nI (R j)) (kk : LK p l e s m below meth c Q D A b adC adM g ao k cells slots 2256) : GL p l e room_1 s m #[.ref b] below meth c Q D CL (TYS g) A 9 (WL adC adM g ao I L S Z Y on ov) cells slots 1364 [(0, .ref b), (1, .ref (adC 0)), (2, .ref (adM 0)), (3, .ref ao), (4, .int (nI (6 * k)))] [] := by
  rcases rg (xs (6 * k + 1)) 0 16 with ⟨a1, hl1, hu1, e1⟩ | hw
  · rcases rg (xs (6 * k + 2)) 0 15 with ⟨a2, hl2, hu2, e2⟩ | hw
    · exact lq17_0 HX hk hroom hI hR hZ  a1 hl1 hu1 e1 a2 hl2 hu2 e2 kk
    · exact lq17_2 HX hk hroom hI hR hZ  a1 hl1 hu1 e1 hw kk
  · exact lq17_1 HX hk hroom hI hR hZ  hw kk

def KL_law_1433_201 : List (Nat × Instr × Nat) := [(1433, .aload_n 1, 1), (1434, .aload_n 0, 1), (1435, .iload 4, 2), (1437, .iconst 1, 1), (1438, .iadd, 1)]
theorem KL_law_1433_201_d : ∀ z ∈ KL_law_1433_201, decode cL_law z.1 = .ok z.2 := by decide +kernel
def KL_law_1440_202 : List (Nat × Instr × Nat) := [(1440, .aload_n 0, 1), (1441, .iload 4, 2), (1443, .iconst 2, 1), (1444, .iadd, 1)]
theorem KL_law_1440_202_d : ∀ z ∈ KL_law_1440_202, decode cL_law z.1 = .ok z.2 := by decide +kernel
def KL_law_1446_203 : List (Nat × Instr × Nat) := [(1446, .aload_n 3, 1)]
theorem KL_law_1446_203_d : ∀ z ∈ KL_law_1446_203, decode cL_law z.1 = .ok z.2 := by decide +kernel
def KL_law_1450_204 : List (Nat × Instr × Nat) := [(1450, .istore 5, 2), (1452, .aload_n 2, 1), (1453, .aload_n 0, 1), (1454, .iload 4, 2), (1456, .iconst 1, 1), (1457, .iadd, 1)]
theorem KL_law_1450_204_d : ∀ z ∈ KL_law_1450_204, decode cL_law z.1 = .ok z.2 := by decide +kernel
def KL_law_1459_205 : List (Nat × Instr × Nat) := [(1459, .aload_n 0, 1), (1460, .iload 4, 2), (1462, .iconst 2, 1), (1463, .iadd, 1)]
theorem KL_law_1459_205_d : ∀ z ∈ KL_law_1459_205, decode cL_law z.1 = .ok z.2 := by decide +kernel
def KL_law_1468_206 : List (Nat × Instr × Nat) := [(1468, .istore 6, 2), (1470, .aload_n 2, 1)]
theorem KL_law_1468_206_d : ∀ z ∈ KL_law_1468_206, decode cL_law z.1 = .ok z.2 := by decide +kernel
def KL_law_1474_207 : List (Nat × Instr × Nat) := [(1474, .iload 5, 2)]
theorem KL_law_1474_207_d : ∀ z ∈ KL_law_1474_207, decode cL_law z.1 = .ok z.2 := by decide +kernel
def KL_law_1481_208 : List (Nat × Instr × Nat) := [(1481, .iload 5, 2)]
theorem KL_law_1481_208_d : ∀ z ∈ KL_law_1481_208, decode cL_law z.1 = .ok z.2 := by decide +kernel
def KL_law_1486_209 : List (Nat × Instr × Nat) := [(1486, .aload_n 3, 1)]
theorem KL_law_1486_209_d : ∀ z ∈ KL_law_1486_209, decode cL_law z.1 = .ok z.2 := by decide +kernel
def KL_law_1490_210 : List (Nat × Instr × Nat) := [(1490, .iload 6, 2), (1492, .i2l, 1), (1493, .lcmp, 1)]
theorem KL_law_1490_210_d : ∀ z ∈ KL_law_1490_210, decode cL_law z.1 = .ok z.2 := by decide +kernel
def KL_law_1499_211 : List (Nat × Instr × Nat) := [(1499, .goto 757, 3)]
theorem KL_law_1499_211_d : ∀ z ∈ KL_law_1499_211, decode cL_law z.1 = .ok z.2 := by decide +kernel
set_option maxHeartbeats 4000000 in
set_option maxRecDepth 100000 in
theorem lq18_0 {p : Program} {l : Launch} {e : Env} {s : State} {m : MethodId} {below : List Frame} {meth : Method} {c : Code} {Q : State → Prop} {D : va_G} {A : Nat → Prop} {b N : Nat} {xs : Nat → Int32} {adC adM : Nat → Nat} {g : Nat → ClassId} {ao k cells slots : Nat} {I : Nat → Nat → Int32} {L : Nat → Nat → Int64} {S : Nat → Nat} {n : Nat} {Z : Nat → Nat → Int32} {Y : Int64} {R : Nat → Nat} {on : Int64} {ov : Value} (HX : LX p l s m meth c A b N xs) (hk : 6 * k + 6 ≤ N) (hroom : cells + 60 ≤ 600002 ∧ slots + 1200 ≤ 7302232) (hI : Inv I L S n) (hR : R16 R) (hZ : Z 0 = fun j => nI (R j)) (a1 : Nat) (hl1 : 0 ≤ a1) (hu1 : a1 < 16) (e1 : xs (6 * k + 1) = nI a1) (a2 : Nat) (hl2 : 1 ≤ a2) (hu2 : a2 < 5) (e2 : xs (6 * k + 2) = nI a2) (kk : LK p l e s m below meth c Q D A b adC adM g ao k cells slots 2256) : GL p l e room_1 s m #[.ref b] below meth c Q D CL (TYS g) A 9 (WL adC adM g ao I L S Z Y on ov) cells slots 1433 [(0, .ref b), (1, .ref (adC 0)), (2, .ref (adM 0)), (3, .ref ao), (4, .int (nI (6 * k)))] [] := by
  obtain ⟨X, hSB, hAf, hNC, hfl, hX, hbl, hbA, hN⟩ := HX
  refine g_run X KL_law_1433_201 KL_law_1433_201_d 1439 [(0, .ref b), (1, .ref (adC 0)), (2, .ref (adM 0)), (3, .ref ao), (4, .int (nI (6 * k)))] [.int ((nI (6 * k)) + (nI 1)), .ref b, .ref (adC 0)] rfl ?_
  refine g_nm (lv' := [(0, .ref b), (1, .ref (adC 0)), (2, .ref (adM 0)), (3, .ref ao), (4, .int (nI (6 * k)))]) (st' := [.int (nI ((6 * k) + 1)), .ref b, .ref (adC 0)]) (by simp only [nI_add]) (by simp only [nI_add]) ?_
  refine g_sld X hX hbl hbA hN (v := nI a1) (by omega) e1 dL_law_1439 ?_
  refine g_run X KL_law_1440_202 KL_law_1440_202_d 1445 [(0, .ref b), (1, .ref (adC 0)), (2, .ref (adM 0)), (3, .ref ao), (4, .int (nI (6 * k)))] [.int ((nI (6 * k)) + (nI 2)), .ref b, .int (nI a1), .ref (adC 0)] rfl ?_
  refine g_nm (lv' := [(0, .ref b), (1, .ref (adC 0)), (2, .ref (adM 0)), (3, .ref ao), (4, .int (nI (6 * k)))]) (st' := [.int (nI ((6 * k) + 2)), .ref b, .int (nI a1), .ref (adC 0)]) (by simp only [nI_add]) (by simp only [nI_add]) ?_
  refine g_sld X hX hbl hbA hN (v := nI a2) (by omega) e2 dL_law_1445 ?_
  refine g_run X KL_law_1446_203 KL_law_1446_203_d 1447 [(0, .ref b), (1, .ref (adC 0)), (2, .ref (adM 0)), (3, .ref ao), (4, .int (nI (6 * k)))] [.ref ao, .int (nI a2), .int (nI a1), .ref (adC 0)] rfl ?_
  refine g_callSW X hSB hAf hNC (As := [.ref (adC 0), .int (nI a1), .int (nI a2), .ref ao]) (wr := WM adM g I L S Z Y) (n := 4) (hc_sum l D g adC I L S a1 a2 ao on ov (hI.s18) (by first | assumption | omega) (by first | assumption | omega) (by first | assumption | omega)) rfl w_724 w_722 w_723 w_0 (by decide +kernel) rfl ⟨Nat.le_of_ble_eq_true rfl, Nat.le_of_ble_eq_true rfl⟩ rfl rfl rfl (Nat.le_of_ble_eq_true rfl) ⟨by show cells + 0 ≤ 600002; omega, by show slots + 0 ≤ 7302232; omega⟩ dL_law_1447 (fun hu1 _ => ?_)
  refine g_af (ws' := (WC adC g I L S ++ ([OUT ao ((nI (sm (rwd I L S a1 15) a2 15)).toInt64) ov] : va_W)) ++ WM adM g I L S Z Y) (st' := [.int (nI 0)]) (cells' := cells + 0) (slots' := slots + 0) (pc' := 1450) rfl rfl rfl rfl rfl ?_
  refine g_run X KL_law_1450_204 KL_law_1450_204_d 1458 [(5, .int (nI 0)), (0, .ref b), (1, .ref (adC 0)), (2, .ref (adM 0)), (3, .ref ao), (4, .int (nI (6 * k)))] [.int ((nI (6 * k)) + (nI 1)), .ref b, .ref (adM 0)] rfl ?_
  refine g_nm (lv' := [(5, .int (nI 0)), (0, .ref b), (1, .ref (adC 0)), (2, .ref (adM 0)), (3, .ref ao), (4, .int (nI (6 * k)))]) (st' := [.int (nI ((6 * k) + 1)), .ref b, .ref (adM 0)]) (by simp only [nI_add]) (by simp only [nI_add]) ?_
  refine g_sld X hX hbl hbA hN (v := nI a1) (by omega) e1 dL_law_1458 ?_
  refine g_run X KL_law_1459_205 KL_law_1459_205_d 1464 [(5, .int (nI 0)), (0, .ref b), (1, .ref (adC 0)), (2, .ref (adM 0)), (3, .ref ao), (4, .int (nI (6 * k)))] [.int ((nI (6 * k)) + (nI 2)), .ref b, .int (nI a1), .ref (adM 0)] rfl ?_
  refine g_nm (lv' := [(5, .int (nI 0)), (0, .ref b), (1, .ref (adC 0)), (2, .ref (adM 0)), (3, .ref ao), (4, .int (nI (6 * k)))]) (st' := [.int (nI ((6 * k) + 2)), .ref b, .int (nI a1), .ref (adM 0)]) (by simp only [nI_add]) (by simp only [nI_add]) ?_
  refine g_sld X hX hbl hbA hN (v := nI a2) (by omega) e2 dL_law_1464 ?_
  refine g_perm (ws' := WM adM g I L S Z Y ++ (WC adC g I L S ++ ([OUT ao ((nI (sm (rwd I L S a1 15) a2 15)).toInt64) ov] : va_W))) (List.perm_append_comm (l₁ := WM adM g I L S Z Y) (l₂ := (WC adC g I L S ++ ([OUT ao ((nI (sm (rwd I L S a1 15) a2 15)).toInt64) ov] : va_W)))) ?_
  refine g_callV X hSB hAf srcW (hrc1 := (rfl : CL[8]? = some _)) (wm_mem (k := 0) (by decide)) rfl (As := [.int (nI a1), .int (nI a2)]) (wr := WC adC g I L S ++ ([OUT ao ((nI (sm (rwd I L S a1 15) a2 15)).toInt64) ov] : va_W)) (n := 2) (c_X9_sum l D g adM I L S Z Y a1 a2 (hI.s18) (hI.ky) (by first | assumption | omega) (by first | assumption | omega) (by first | assumption | omega)) rfl srcN hrdN w_1448 w_1445 w_1446 w_1447 w_6 (by decide +kernel) rfl ⟨Nat.le_of_ble_eq_true rfl, Nat.le_of_ble_eq_true rfl⟩ rfl rfl rfl (Nat.le_of_ble_eq_true rfl) ⟨by show cells + 0 + 1 ≤ 600002; omega, by show slots + 0 + 15 ≤ 7302232; omega⟩ dL_law_1465 (fun hu2 hp_hu2 => ?_)
  refine g_af (ws' := WM adM g I L S (u2 Z 3 0 (nI 0)) Y ++ (WC adC g I L S ++ ([OUT ao ((nI (sm (rwd I L S a1 15) a2 15)).toInt64) ov] : va_W))) (st' := [.int (nI (sm (rwd I L S a1 15) a2 15))]) (cells' := cells + 0 + 1) (slots' := slots + 0 + 15) (pc' := 1468) rfl rfl rfl rfl rfl ?_
  refine g_run X KL_law_1468_206 KL_law_1468_206_d 1471 [(6, .int (nI (sm (rwd I L S a1 15) a2 15))), (5, .int (nI 0)), (0, .ref b), (1, .ref (adC 0)), (2, .ref (adM 0)), (3, .ref ao), (4, .int (nI (6 * k)))] [.ref (adM 0)] rfl ?_
  refine g_callV X hSB hAf srcW (hrc1 := (rfl : CL[8]? = some _)) (wm_mem (k := 0) (by decide)) rfl (As := []) (wr := WC adC g I L S ++ ([OUT ao ((nI (sm (rwd I L S a1 15) a2 15)).toInt64) ov] : va_W)) (n := 0) (c_X9_thrown l D g adM I L S (u2 Z 3 0 (nI 0)) Y ) rfl srcN hrdN w_1250 w_1247 w_1248 w_1249 w_6 (by decide +kernel) rfl ⟨Nat.le_of_ble_eq_true rfl, Nat.le_of_ble_eq_true rfl⟩ rfl rfl rfl (Nat.le_of_ble_eq_true rfl) ⟨by show cells + 0 + 1 + 0 ≤ 600002; omega, by show slots + 0 + 15 + 0 ≤ 7302232; omega⟩ dL_law_1471 (fun hu3 hp_hu3 => ?_)
  refine g_af (ws' := WM adM g I L S (u2 Z 3 0 (nI 0)) Y ++ (WC adC g I L S ++ ([OUT ao ((nI (sm (rwd I L S a1 15) a2 15)).toInt64) ov] : va_W))) (st' := [.int ((u2 Z 3 0 (nI 0)) 3 0)]) (cells' := cells + 0 + 1 + 0) (slots' := slots + 0 + 15 + 0) (pc' := 1474) rfl rfl rfl rfl rfl ?_
  refine g_st (st' := [.int (nI 0)]) (by first | rfl | (simp [z4, u2]; done)) ?_
  refine g_run X KL_law_1474_207 KL_law_1474_207_d 1476 [(6, .int (nI (sm (rwd I L S a1 15) a2 15))), (5, .int (nI 0)), (0, .ref b), (1, .ref (adC 0)), (2, .ref (adM 0)), (3, .ref ao), (4, .int (nI (6 * k)))] [.int (nI 0), .int (nI 0)] rfl ?_
  refine g_icmp_eq X 1481 dL_law_1476 (by decide) (fun hc4 => ?_) (fun hc4 => ?_)
  · refine g_run X KL_law_1481_208 KL_law_1481_208_d 1483 [(6, .int (nI (sm (rwd I L S a1 15) a2 15))), (5, .int (nI 0)), (0, .ref b), (1, .ref (adC 0)), (2, .ref (adM 0)), (3, .ref ao), (4, .int (nI (6 * k)))] [.int (nI 0)] rfl ?_
    refine g_if_ne X 1499 dL_law_1483 (by decide) (fun hc5 => ?_) (fun hc5 => ?_)
    · rw [nz_eq (by omega)] at hc5; first | omega | (simp at hc5)
    · refine g_run X KL_law_1486_209 KL_law_1486_209_d 1487 [(6, .int (nI (sm (rwd I L S a1 15) a2 15))), (5, .int (nI 0)), (0, .ref b), (1, .ref (adC 0)), (2, .ref (adM 0)), (3, .ref ao), (4, .int (nI (6 * k)))] [.ref ao] rfl ?_
      refine g_getN X srcW (host := "ChipfieldLaw") (v := .long ((nI (sm (rwd I L S a1 15) a2 15)).toInt64)) hinX6 rfl 0 (by decide) (nw_in n_489 rfl) rfl (List.mem_append_right _ (List.mem_append_right _ List.mem_cons_self)) rfl dL_law_1487 ?_
      refine g_run X KL_law_1490_210 KL_law_1490_210_d 1494 [(6, .int (nI (sm (rwd I L S a1 15) a2 15))), (5, .int (nI 0)), (0, .ref b), (1, .ref (adC 0)), (2, .ref (adM 0)), (3, .ref ao), (4, .int (nI (6 * k)))] [.int (lg_cmp ((nI (sm (rwd I L S a1 15) a2 15)).toInt64) ((nI (sm (rwd I L S a1 15) a2 15)).toInt64))] rfl ?_
      refine g_if_eq X 1499 dL_law_1494 (by decide) (fun hc6 => ?_) (fun hc6 => ?_)
      · refine g_run X KL_law_1499_211 KL_law_1499_211_d 2256 [(6, .int (nI (sm (rwd I L S a1 15) a2 15))), (5, .int (nI 0)), (0, .ref b), (1, .ref (adC 0)), (2, .ref (adM 0)), (3, .ref ao), (4, .int (nI (6 * k)))] [] rfl ?_
        refine g_lv (lv' := [(0, .ref b), (1, .ref (adC 0)), (2, .ref (adM 0)), (3, .ref ao), (4, .int (nI (6 * k)))]) (lsub_c 2 rfl (lsub_c 3 rfl (lsub_c 4 rfl (lsub_c 5 rfl (lsub_c 6 rfl (lsub_n)))))) ?_
        refine g_perm (ws' := (WC adC g I L S ++ ([OUT ao ((nI (sm (rwd I L S a1 15) a2 15)).toInt64) ov] : va_W)) ++ WM adM g I L S (u2 Z 3 0 (nI 0)) Y) (List.perm_append_comm (l₁ := (WC adC g I L S ++ ([OUT ao ((nI (sm (rwd I L S a1 15) a2 15)).toInt64) ov] : va_W))) (l₂ := WM adM g I L S (u2 Z 3 0 (nI 0)) Y)) ?_
        refine g_widen (k := cells + 60) (n := slots + 1200) (by omega) (by omega) ?_
        exact kk I L S n (u2 Z 3 0 (nI 0)) Y R ((nI (sm (rwd I L S a1 15) a2 15)).toInt64) ov (hI) (hR) (by first | exact hZ | (rw [zrow]; exact hZ) | (rw [zrow, zrow]; exact hZ))
      · exact absurd lg_self hc6
  · rw [nI_eq (by omega) (by omega)] at hc4; first | omega | (simp at hc4)

set_option maxHeartbeats 4000000 in
set_option maxRecDepth 100000 in
theorem lq18_2 {p : Program} {l : Launch} {e : Env} {s : State} {m : MethodId} {below : List Frame} {meth : Method} {c : Code} {Q : State → Prop} {D : va_G} {A : Nat → Prop} {b N : Nat} {xs : Nat → Int32} {adC adM : Nat → Nat} {g : Nat → ClassId} {ao k cells slots : Nat} {I : Nat → Nat → Int32} {L : Nat → Nat → Int64} {S : Nat → Nat} {n : Nat} {Z : Nat → Nat → Int32} {Y : Int64} {R : Nat → Nat} {on : Int64} {ov : Value} (HX : LX p l s m meth c A b N xs) (hk : 6 * k + 6 ≤ N) (hroom : cells + 60 ≤ 600002 ∧ slots + 1200 ≤ 7302232) (hI : Inv I L S n) (hR : R16 R) (hZ : Z 0 = fun j => nI (R j)) (a1 : Nat) (hl1 : 0 ≤ a1) (hu1 : a1 < 16) (e1 : xs (6 * k + 1) = nI a1) (hw : (xs (6 * k + 2)).toInt < (1 : Nat) ∨ ((5 : Nat) : Int) ≤ (xs (6 * k + 2)).toInt) (kk : LK p l e s m below meth c Q D A b adC adM g ao k cells slots 2256) : GL p l e room_1 s m #[.ref b] below meth c Q D CL (TYS g) A 9 (WL adC adM g ao I L S Z Y on ov) cells slots 1433 [(0, .ref b), (1, .ref (adC 0)), (2, .ref (adM 0)), (3, .ref ao), (4, .int (nI (6 * k)))] [] := by
  obtain ⟨X, hSB, hAf, hNC, hfl, hX, hbl, hbA, hN⟩ := HX
  refine g_run X KL_law_1433_201 KL_law_1433_201_d 1439 [(0, .ref b), (1, .ref (adC 0)), (2, .ref (adM 0)), (3, .ref ao), (4, .int (nI (6 * k)))] [.int ((nI (6 * k)) + (nI 1)), .ref b, .ref (adC 0)] rfl ?_
  refine g_nm (lv' := [(0, .ref b), (1, .ref (adC 0)), (2, .ref (adM 0)), (3, .ref ao), (4, .int (nI (6 * k)))]) (st' := [.int (nI ((6 * k) + 1)), .ref b, .ref (adC 0)]) (by simp only [nI_add]) (by simp only [nI_add]) ?_
  refine g_sld X hX hbl hbA hN (v := nI a1) (by omega) e1 dL_law_1439 ?_
  refine g_run X KL_law_1440_202 KL_law_1440_202_d 1445 [(0, .ref b), (1, .ref (adC 0)), (2, .ref (adM 0)), (3, .ref ao), (4, .int (nI (6 * k)))] [.int ((nI (6 * k)) + (nI 2)), .ref b, .int (nI a1), .ref (adC 0)] rfl ?_
  refine g_nm (lv' := [(0, .ref b), (1, .ref (adC 0)), (2, .ref (adM 0)), (3, .ref ao), (4, .int (nI (6 * k)))]) (st' := [.int (nI ((6 * k) + 2)), .ref b, .int (nI a1), .ref (adC 0)]) (by simp only [nI_add]) (by simp only [nI_add]) ?_
  refine g_sld X hX hbl hbA hN (v := xs (6 * k + 2)) (by omega) rfl dL_law_1445 ?_
  refine g_run X KL_law_1446_203 KL_law_1446_203_d 1447 [(0, .ref b), (1, .ref (adC 0)), (2, .ref (adM 0)), (3, .ref ao), (4, .int (nI (6 * k)))] [.ref ao, .int (xs (6 * k + 2)), .int (nI a1), .ref (adC 0)] rfl ?_
  refine g_callSW X hSB hAf hNC (As := [.ref (adC 0), .int (nI a1), .int (xs (6 * k + 2)), .ref ao]) (wr := WM adM g I L S Z Y) (n := 4) (hx_sum_2 l hfl D g adC I L S a1 (xs (6 * k + 2)) ao on ov (by first | assumption | omega) (out_lo (by decide) (by decide) hw)) rfl w_724 w_722 w_723 w_0 (by decide +kernel) rfl ⟨Nat.le_of_ble_eq_true rfl, Nat.le_of_ble_eq_true rfl⟩ rfl rfl rfl (Nat.le_of_ble_eq_true rfl) ⟨by show cells + 1 ≤ 600002; omega, by show slots + 6 ≤ 7302232; omega⟩ dL_law_1447 (fun hu1 _ => ?_)
  refine g_af (ws' := (WC adC g I L S ++ ([OUT ao on ov] : va_W)) ++ WM adM g I L S Z Y) (st' := [.int (nI 2)]) (cells' := cells + 1) (slots' := slots + 6) (pc' := 1450) rfl rfl rfl rfl rfl ?_
  refine g_run X KL_law_1450_204 KL_law_1450_204_d 1458 [(5, .int (nI 2)), (0, .ref b), (1, .ref (adC 0)), (2, .ref (adM 0)), (3, .ref ao), (4, .int (nI (6 * k)))] [.int ((nI (6 * k)) + (nI 1)), .ref b, .ref (adM 0)] rfl ?_
  refine g_nm (lv' := [(5, .int (nI 2)), (0, .ref b), (1, .ref (adC 0)), (2, .ref (adM 0)), (3, .ref ao), (4, .int (nI (6 * k)))]) (st' := [.int (nI ((6 * k) + 1)), .ref b, .ref (adM 0)]) (by simp only [nI_add]) (by simp only [nI_add]) ?_
  refine g_sld X hX hbl hbA hN (v := nI a1) (by omega) e1 dL_law_1458 ?_
  refine g_run X KL_law_1459_205 KL_law_1459_205_d 1464 [(5, .int (nI 2)), (0, .ref b), (1, .ref (adC 0)), (2, .ref (adM 0)), (3, .ref ao), (4, .int (nI (6 * k)))] [.int ((nI (6 * k)) + (nI 2)), .ref b, .int (nI a1), .ref (adM 0)] rfl ?_
  refine g_nm (lv' := [(5, .int (nI 2)), (0, .ref b), (1, .ref (adC 0)), (2, .ref (adM 0)), (3, .ref ao), (4, .int (nI (6 * k)))]) (st' := [.int (nI ((6 * k) + 2)), .ref b, .int (nI a1), .ref (adM 0)]) (by simp only [nI_add]) (by simp only [nI_add]) ?_
  refine g_sld X hX hbl hbA hN (v := xs (6 * k + 2)) (by omega) rfl dL_law_1464 ?_
  refine g_perm (ws' := WM adM g I L S Z Y ++ (WC adC g I L S ++ ([OUT ao on ov] : va_W))) (List.perm_append_comm (l₁ := WM adM g I L S Z Y) (l₂ := (WC adC g I L S ++ ([OUT ao on ov] : va_W)))) ?_
  refine g_callV X hSB hAf srcW (hrc1 := (rfl : CL[8]? = some _)) (wm_mem (k := 0) (by decide)) rfl (As := [.int (nI a1), .int (xs (6 * k + 2))]) (wr := WC adC g I L S ++ ([OUT ao on ov] : va_W)) (n := 2) (c_X9_sum_2 l D g adM I L S Z Y a1 (xs (6 * k + 2)) (by first | assumption | omega) (out_lo (by decide) (by decide) hw)) rfl srcN hrdN w_1448 w_1445 w_1446 w_1447 w_6 (by decide +kernel) rfl ⟨Nat.le_of_ble_eq_true rfl, Nat.le_of_ble_eq_true rfl⟩ rfl rfl rfl (Nat.le_of_ble_eq_true rfl) ⟨by show cells + 1 + 0 ≤ 600002; omega, by show slots + 6 + 0 ≤ 7302232; omega⟩ dL_law_1465 (fun hu2 hp_hu2 => ?_)
  refine g_af (ws' := WM adM g I L S (u2 (u2 Z 3 0 (nI 0)) 3 0 (nI 2)) Y ++ (WC adC g I L S ++ ([OUT ao on ov] : va_W))) (st' := [.int (nI 0)]) (cells' := cells + 1 + 0) (slots' := slots + 6 + 0) (pc' := 1468) rfl rfl rfl rfl rfl ?_
  refine g_run X KL_law_1468_206 KL_law_1468_206_d 1471 [(6, .int (nI 0)), (5, .int (nI 2)), (0, .ref b), (1, .ref (adC 0)), (2, .ref (adM 0)), (3, .ref ao), (4, .int (nI (6 * k)))] [.ref (adM 0)] rfl ?_
  refine g_callV X hSB hAf srcW (hrc1 := (rfl : CL[8]? = some _)) (wm_mem (k := 0) (by decide)) rfl (As := []) (wr := WC adC g I L S ++ ([OUT ao on ov] : va_W)) (n := 0) (c_X9_thrown l D g adM I L S (u2 (u2 Z 3 0 (nI 0)) 3 0 (nI 2)) Y ) rfl srcN hrdN w_1250 w_1247 w_1248 w_1249 w_6 (by decide +kernel) rfl ⟨Nat.le_of_ble_eq_true rfl, Nat.le_of_ble_eq_true rfl⟩ rfl rfl rfl (Nat.le_of_ble_eq_true rfl) ⟨by show cells + 1 + 0 + 0 ≤ 600002; omega, by show slots + 6 + 0 + 0 ≤ 7302232; omega⟩ dL_law_1471 (fun hu3 hp_hu3 => ?_)
  refine g_af (ws' := WM adM g I L S (u2 (u2 Z 3 0 (nI 0)) 3 0 (nI 2)) Y ++ (WC adC g I L S ++ ([OUT ao on ov] : va_W))) (st' := [.int ((u2 (u2 Z 3 0 (nI 0)) 3 0 (nI 2)) 3 0)]) (cells' := cells + 1 + 0 + 0) (slots' := slots + 6 + 0 + 0) (pc' := 1474) rfl rfl rfl rfl rfl ?_
  refine g_st (st' := [.int (nI 2)]) (by first | rfl | (simp [z4, u2]; done)) ?_
  refine g_run X KL_law_1474_207 KL_law_1474_207_d 1476 [(6, .int (nI 0)), (5, .int (nI 2)), (0, .ref b), (1, .ref (adC 0)), (2, .ref (adM 0)), (3, .ref ao), (4, .int (nI (6 * k)))] [.int (nI 2), .int (nI 2)] rfl ?_
  refine g_icmp_eq X 1481 dL_law_1476 (by decide) (fun hc4 => ?_) (fun hc4 => ?_)
  · refine g_run X KL_law_1481_208 KL_law_1481_208_d 1483 [(6, .int (nI 0)), (5, .int (nI 2)), (0, .ref b), (1, .ref (adC 0)), (2, .ref (adM 0)), (3, .ref ao), (4, .int (nI (6 * k)))] [.int (nI 2)] rfl ?_
    refine g_if_ne X 1499 dL_law_1483 (by decide) (fun hc5 => ?_) (fun hc5 => ?_)
    · refine g_run X KL_law_1499_211 KL_law_1499_211_d 2256 [(6, .int (nI 0)), (5, .int (nI 2)), (0, .ref b), (1, .ref (adC 0)), (2, .ref (adM 0)), (3, .ref ao), (4, .int (nI (6 * k)))] [] rfl ?_
      refine g_lv (lv' := [(0, .ref b), (1, .ref (adC 0)), (2, .ref (adM 0)), (3, .ref ao), (4, .int (nI (6 * k)))]) (lsub_c 2 rfl (lsub_c 3 rfl (lsub_c 4 rfl (lsub_c 5 rfl (lsub_c 6 rfl (lsub_n)))))) ?_
      refine g_perm (ws' := (WC adC g I L S ++ ([OUT ao on ov] : va_W)) ++ WM adM g I L S (u2 (u2 Z 3 0 (nI 0)) 3 0 (nI 2)) Y) (List.perm_append_comm (l₁ := (WC adC g I L S ++ ([OUT ao on ov] : va_W))) (l₂ := WM adM g I L S (u2 (u2 Z 3 0 (nI 0)) 3 0 (nI 2)) Y)) ?_
      refine g_widen (k := cells + 60) (n := slots + 1200) (by omega) (by omega) ?_
      exact kk I L S n (u2 (u2 Z 3 0 (nI 0)) 3 0 (nI 2)) Y R on ov (hI) (hR) (by first | exact hZ | (rw [zrow]; exact hZ) | (rw [zrow, zrow]; exact hZ))
    · rw [nz_eq (by omega)] at hc5; first | omega | (simp at hc5)
  · rw [nI_eq (by omega) (by omega)] at hc4; first | omega | (simp at hc4)

set_option maxHeartbeats 4000000 in
set_option maxRecDepth 100000 in
theorem lq18_1 {p : Program} {l : Launch} {e : Env} {s : State} {m : MethodId} {below : List Frame} {meth : Method} {c : Code} {Q : State → Prop} {D : va_G} {A : Nat → Prop} {b N : Nat} {xs : Nat → Int32} {adC adM : Nat → Nat} {g : Nat → ClassId} {ao k cells slots : Nat} {I : Nat → Nat → Int32} {L : Nat → Nat → Int64} {S : Nat → Nat} {n : Nat} {Z : Nat → Nat → Int32} {Y : Int64} {R : Nat → Nat} {on : Int64} {ov : Value} (HX : LX p l s m meth c A b N xs) (hk : 6 * k + 6 ≤ N) (hroom : cells + 60 ≤ 600002 ∧ slots + 1200 ≤ 7302232) (hI : Inv I L S n) (hR : R16 R) (hZ : Z 0 = fun j => nI (R j)) (hw : (xs (6 * k + 1)).toInt < (0 : Nat) ∨ ((16 : Nat) : Int) ≤ (xs (6 * k + 1)).toInt) (kk : LK p l e s m below meth c Q D A b adC adM g ao k cells slots 2256) : GL p l e room_1 s m #[.ref b] below meth c Q D CL (TYS g) A 9 (WL adC adM g ao I L S Z Y on ov) cells slots 1433 [(0, .ref b), (1, .ref (adC 0)), (2, .ref (adM 0)), (3, .ref ao), (4, .int (nI (6 * k)))] [] := by
  obtain ⟨X, hSB, hAf, hNC, hfl, hX, hbl, hbA, hN⟩ := HX
  refine g_run X KL_law_1433_201 KL_law_1433_201_d 1439 [(0, .ref b), (1, .ref (adC 0)), (2, .ref (adM 0)), (3, .ref ao), (4, .int (nI (6 * k)))] [.int ((nI (6 * k)) + (nI 1)), .ref b, .ref (adC 0)] rfl ?_
  refine g_nm (lv' := [(0, .ref b), (1, .ref (adC 0)), (2, .ref (adM 0)), (3, .ref ao), (4, .int (nI (6 * k)))]) (st' := [.int (nI ((6 * k) + 1)), .ref b, .ref (adC 0)]) (by simp only [nI_add]) (by simp only [nI_add]) ?_
  refine g_sld X hX hbl hbA hN (v := xs (6 * k + 1)) (by omega) rfl dL_law_1439 ?_
  refine g_run X KL_law_1440_202 KL_law_1440_202_d 1445 [(0, .ref b), (1, .ref (adC 0)), (2, .ref (adM 0)), (3, .ref ao), (4, .int (nI (6 * k)))] [.int ((nI (6 * k)) + (nI 2)), .ref b, .int (xs (6 * k + 1)), .ref (adC 0)] rfl ?_
  refine g_nm (lv' := [(0, .ref b), (1, .ref (adC 0)), (2, .ref (adM 0)), (3, .ref ao), (4, .int (nI (6 * k)))]) (st' := [.int (nI ((6 * k) + 2)), .ref b, .int (xs (6 * k + 1)), .ref (adC 0)]) (by simp only [nI_add]) (by simp only [nI_add]) ?_
  refine g_sld X hX hbl hbA hN (v := xs (6 * k + 2)) (by omega) rfl dL_law_1445 ?_
  refine g_run X KL_law_1446_203 KL_law_1446_203_d 1447 [(0, .ref b), (1, .ref (adC 0)), (2, .ref (adM 0)), (3, .ref ao), (4, .int (nI (6 * k)))] [.ref ao, .int (xs (6 * k + 2)), .int (xs (6 * k + 1)), .ref (adC 0)] rfl ?_
  refine g_callSW X hSB hAf hNC (As := [.ref (adC 0), .int (xs (6 * k + 1)), .int (xs (6 * k + 2)), .ref ao]) (wr := WM adM g I L S Z Y) (n := 4) (hx_sum_1 l hfl D g adC I L S (xs (6 * k + 1)) (xs (6 * k + 2)) ao on ov (out_lt (by decide) hw)) rfl w_724 w_722 w_723 w_0 (by decide +kernel) rfl ⟨Nat.le_of_ble_eq_true rfl, Nat.le_of_ble_eq_true rfl⟩ rfl rfl rfl (Nat.le_of_ble_eq_true rfl) ⟨by show cells + 1 ≤ 600002; omega, by show slots + 6 ≤ 7302232; omega⟩ dL_law_1447 (fun hu1 _ => ?_)
  refine g_af (ws' := (WC adC g I L S ++ ([OUT ao on ov] : va_W)) ++ WM adM g I L S Z Y) (st' := [.int (nI 1)]) (cells' := cells + 1) (slots' := slots + 6) (pc' := 1450) rfl rfl rfl rfl rfl ?_
  refine g_run X KL_law_1450_204 KL_law_1450_204_d 1458 [(5, .int (nI 1)), (0, .ref b), (1, .ref (adC 0)), (2, .ref (adM 0)), (3, .ref ao), (4, .int (nI (6 * k)))] [.int ((nI (6 * k)) + (nI 1)), .ref b, .ref (adM 0)] rfl ?_
  refine g_nm (lv' := [(5, .int (nI 1)), (0, .ref b), (1, .ref (adC 0)), (2, .ref (adM 0)), (3, .ref ao), (4, .int (nI (6 * k)))]) (st' := [.int (nI ((6 * k) + 1)), .ref b, .ref (adM 0)]) (by simp only [nI_add]) (by simp only [nI_add]) ?_
  refine g_sld X hX hbl hbA hN (v := xs (6 * k + 1)) (by omega) rfl dL_law_1458 ?_
  refine g_run X KL_law_1459_205 KL_law_1459_205_d 1464 [(5, .int (nI 1)), (0, .ref b), (1, .ref (adC 0)), (2, .ref (adM 0)), (3, .ref ao), (4, .int (nI (6 * k)))] [.int ((nI (6 * k)) + (nI 2)), .ref b, .int (xs (6 * k + 1)), .ref (adM 0)] rfl ?_
  refine g_nm (lv' := [(5, .int (nI 1)), (0, .ref b), (1, .ref (adC 0)), (2, .ref (adM 0)), (3, .ref ao), (4, .int (nI (6 * k)))]) (st' := [.int (nI ((6 * k) + 2)), .ref b, .int (xs (6 * k + 1)), .ref (adM 0)]) (by simp only [nI_add]) (by simp only [nI_add]) ?_
  refine g_sld X hX hbl hbA hN (v := xs (6 * k + 2)) (by omega) rfl dL_law_1464 ?_
  refine g_perm (ws' := WM adM g I L S Z Y ++ (WC adC g I L S ++ ([OUT ao on ov] : va_W))) (List.perm_append_comm (l₁ := WM adM g I L S Z Y) (l₂ := (WC adC g I L S ++ ([OUT ao on ov] : va_W)))) ?_
  refine g_callV X hSB hAf srcW (hrc1 := (rfl : CL[8]? = some _)) (wm_mem (k := 0) (by decide)) rfl (As := [.int (xs (6 * k + 1)), .int (xs (6 * k + 2))]) (wr := WC adC g I L S ++ ([OUT ao on ov] : va_W)) (n := 2) (c_X9_sum_1 l D g adM I L S Z Y (xs (6 * k + 1)) (xs (6 * k + 2)) (out_le (by decide) hw)) rfl srcN hrdN w_1448 w_1445 w_1446 w_1447 w_6 (by decide +kernel) rfl ⟨Nat.le_of_ble_eq_true rfl, Nat.le_of_ble_eq_true rfl⟩ rfl rfl rfl (Nat.le_of_ble_eq_true rfl) ⟨by show cells + 1 + 0 ≤ 600002; omega, by show slots + 6 + 0 ≤ 7302232; omega⟩ dL_law_1465 (fun hu2 hp_hu2 => ?_)
  refine g_af (ws' := WM adM g I L S (u2 (u2 Z 3 0 (nI 0)) 3 0 (nI 1)) Y ++ (WC adC g I L S ++ ([OUT ao on ov] : va_W))) (st' := [.int (nI 0)]) (cells' := cells + 1 + 0) (slots' := slots + 6 + 0) (pc' := 1468) rfl rfl rfl rfl rfl ?_
  refine g_run X KL_law_1468_206 KL_law_1468_206_d 1471 [(6, .int (nI 0)), (5, .int (nI 1)), (0, .ref b), (1, .ref (adC 0)), (2, .ref (adM 0)), (3, .ref ao), (4, .int (nI (6 * k)))] [.ref (adM 0)] rfl ?_
  refine g_callV X hSB hAf srcW (hrc1 := (rfl : CL[8]? = some _)) (wm_mem (k := 0) (by decide)) rfl (As := []) (wr := WC adC g I L S ++ ([OUT ao on ov] : va_W)) (n := 0) (c_X9_thrown l D g adM I L S (u2 (u2 Z 3 0 (nI 0)) 3 0 (nI 1)) Y ) rfl srcN hrdN w_1250 w_1247 w_1248 w_1249 w_6 (by decide +kernel) rfl ⟨Nat.le_of_ble_eq_true rfl, Nat.le_of_ble_eq_true rfl⟩ rfl rfl rfl (Nat.le_of_ble_eq_true rfl) ⟨by show cells + 1 + 0 + 0 ≤ 600002; omega, by show slots + 6 + 0 + 0 ≤ 7302232; omega⟩ dL_law_1471 (fun hu3 hp_hu3 => ?_)
  refine g_af (ws' := WM adM g I L S (u2 (u2 Z 3 0 (nI 0)) 3 0 (nI 1)) Y ++ (WC adC g I L S ++ ([OUT ao on ov] : va_W))) (st' := [.int ((u2 (u2 Z 3 0 (nI 0)) 3 0 (nI 1)) 3 0)]) (cells' := cells + 1 + 0 + 0) (slots' := slots + 6 + 0 + 0) (pc' := 1474) rfl rfl rfl rfl rfl ?_
  refine g_st (st' := [.int (nI 1)]) (by first | rfl | (simp [z4, u2]; done)) ?_
  refine g_run X KL_law_1474_207 KL_law_1474_207_d 1476 [(6, .int (nI 0)), (5, .int (nI 1)), (0, .ref b), (1, .ref (adC 0)), (2, .ref (adM 0)), (3, .ref ao), (4, .int (nI (6 * k)))] [.int (nI 1), .int (nI 1)] rfl ?_
  refine g_icmp_eq X 1481 dL_law_1476 (by decide) (fun hc4 => ?_) (fun hc4 => ?_)
  · refine g_run X KL_law_1481_208 KL_law_1481_208_d 1483 [(6, .int (nI 0)), (5, .int (nI 1)), (0, .ref b), (1, .ref (adC 0)), (2, .ref (adM 0)), (3, .ref ao), (4, .int (nI (6 * k)))] [.int (nI 1)] rfl ?_
    refine g_if_ne X 1499 dL_law_1483 (by decide) (fun hc5 => ?_) (fun hc5 => ?_)
    · refine g_run X KL_law_1499_211 KL_law_1499_211_d 2256 [(6, .int (nI 0)), (5, .int (nI 1)), (0, .ref b), (1, .ref (adC 0)), (2, .ref (adM 0)), (3, .ref ao), (4, .int (nI (6 * k)))] [] rfl ?_
      refine g_lv (lv' := [(0, .ref b), (1, .ref (adC 0)), (2, .ref (adM 0)), (3, .ref ao), (4, .int (nI (6 * k)))]) (lsub_c 2 rfl (lsub_c 3 rfl (lsub_c 4 rfl (lsub_c 5 rfl (lsub_c 6 rfl (lsub_n)))))) ?_
      refine g_perm (ws' := (WC adC g I L S ++ ([OUT ao on ov] : va_W)) ++ WM adM g I L S (u2 (u2 Z 3 0 (nI 0)) 3 0 (nI 1)) Y) (List.perm_append_comm (l₁ := (WC adC g I L S ++ ([OUT ao on ov] : va_W))) (l₂ := WM adM g I L S (u2 (u2 Z 3 0 (nI 0)) 3 0 (nI 1)) Y)) ?_
      refine g_widen (k := cells + 60) (n := slots + 1200) (by omega) (by omega) ?_
      exact kk I L S n (u2 (u2 Z 3 0 (nI 0)) 3 0 (nI 1)) Y R on ov (hI) (hR) (by first | exact hZ | (rw [zrow]; exact hZ) | (rw [zrow, zrow]; exact hZ))
    · rw [nz_eq (by omega)] at hc5; first | omega | (simp at hc5)
  · rw [nI_eq (by omega) (by omega)] at hc4; first | omega | (simp at hc4)

theorem lq18 {p : Program} {l : Launch} {e : Env} {s : State} {m : MethodId} {below : List Frame} {meth : Method} {c : Code} {Q : State → Prop} {D : va_G} {A : Nat → Prop} {b N : Nat} {xs : Nat → Int32} {adC adM : Nat → Nat} {g : Nat → ClassId} {ao k cells slots : Nat} {I : Nat → Nat → Int32} {L : Nat → Nat → Int64} {S : Nat → Nat} {n : Nat} {Z : Nat → Nat → Int32} {Y : Int64} {R : Nat → Nat} {on : Int64} {ov : Value} (HX : LX p l s m meth c A b N xs) (hk : 6 * k + 6 ≤ N) (hroom : cells + 60 ≤ 600002 ∧ slots + 1200 ≤ 7302232) (hI : Inv I L S n) (hR : R16 R) (hZ : Z 0 = fun j => nI (R j)) (kk : LK p l e s m below meth c Q D A b adC adM g ao k cells slots 2256) : GL p l e room_1 s m #[.ref b] below meth c Q D CL (TYS g) A 9 (WL adC adM g ao I L S Z Y on ov) cells slots 1433 [(0, .ref b), (1, .ref (adC 0)), (2, .ref (adM 0)), (3, .ref ao), (4, .int (nI (6 * k)))] [] := by
  rcases rg (xs (6 * k + 1)) 0 16 with ⟨a1, hl1, hu1, e1⟩ | hw
  · rcases rg (xs (6 * k + 2)) 1 5 with ⟨a2, hl2, hu2, e2⟩ | hw
    · exact lq18_0 HX hk hroom hI hR hZ  a1 hl1 hu1 e1 a2 hl2 hu2 e2 kk
    · exact lq18_2 HX hk hroom hI hR hZ  a1 hl1 hu1 e1 hw kk
  · exact lq18_1 HX hk hroom hI hR hZ  hw kk

def KL_law_1502_212 : List (Nat × Instr × Nat) := [(1502, .aload_n 1, 1), (1503, .aload_n 0, 1), (1504, .iload 4, 2), (1506, .iconst 1, 1), (1507, .iadd, 1)]
theorem KL_law_1502_212_d : ∀ z ∈ KL_law_1502_212, decode cL_law z.1 = .ok z.2 := by decide +kernel
def KL_law_1509_213 : List (Nat × Instr × Nat) := [(1509, .aload_n 3, 1)]
theorem KL_law_1509_213_d : ∀ z ∈ KL_law_1509_213, decode cL_law z.1 = .ok z.2 := by decide +kernel
def KL_law_1513_214 : List (Nat × Instr × Nat) := [(1513, .istore 5, 2), (1515, .aload_n 2, 1), (1516, .aload_n 0, 1), (1517, .iload 4, 2), (1519, .iconst 1, 1), (1520, .iadd, 1)]
theorem KL_law_1513_214_d : ∀ z ∈ KL_law_1513_214, decode cL_law z.1 = .ok z.2 := by decide +kernel
def KL_law_1525_215 : List (Nat × Instr × Nat) := [(1525, .istore 6, 2), (1527, .aload_n 2, 1)]
theorem KL_law_1525_215_d : ∀ z ∈ KL_law_1525_215, decode cL_law z.1 = .ok z.2 := by decide +kernel
def KL_law_1531_216 : List (Nat × Instr × Nat) := [(1531, .iload 5, 2)]
theorem KL_law_1531_216_d : ∀ z ∈ KL_law_1531_216, decode cL_law z.1 = .ok z.2 := by decide +kernel
def KL_law_1538_217 : List (Nat × Instr × Nat) := [(1538, .iload 5, 2)]
theorem KL_law_1538_217_d : ∀ z ∈ KL_law_1538_217, decode cL_law z.1 = .ok z.2 := by decide +kernel
def KL_law_1543_218 : List (Nat × Instr × Nat) := [(1543, .aload_n 3, 1)]
theorem KL_law_1543_218_d : ∀ z ∈ KL_law_1543_218, decode cL_law z.1 = .ok z.2 := by decide +kernel
def KL_law_1547_219 : List (Nat × Instr × Nat) := [(1547, .iload 6, 2), (1549, .i2l, 1), (1550, .lcmp, 1)]
theorem KL_law_1547_219_d : ∀ z ∈ KL_law_1547_219, decode cL_law z.1 = .ok z.2 := by decide +kernel
def KL_law_1556_220 : List (Nat × Instr × Nat) := [(1556, .goto 700, 3)]
theorem KL_law_1556_220_d : ∀ z ∈ KL_law_1556_220, decode cL_law z.1 = .ok z.2 := by decide +kernel
set_option maxHeartbeats 4000000 in
set_option maxRecDepth 100000 in
theorem lq19_0 {p : Program} {l : Launch} {e : Env} {s : State} {m : MethodId} {below : List Frame} {meth : Method} {c : Code} {Q : State → Prop} {D : va_G} {A : Nat → Prop} {b N : Nat} {xs : Nat → Int32} {adC adM : Nat → Nat} {g : Nat → ClassId} {ao k cells slots : Nat} {I : Nat → Nat → Int32} {L : Nat → Nat → Int64} {S : Nat → Nat} {n : Nat} {Z : Nat → Nat → Int32} {Y : Int64} {R : Nat → Nat} {on : Int64} {ov : Value} (HX : LX p l s m meth c A b N xs) (hk : 6 * k + 6 ≤ N) (hroom : cells + 60 ≤ 600002 ∧ slots + 1200 ≤ 7302232) (hI : Inv I L S n) (hR : R16 R) (hZ : Z 0 = fun j => nI (R j)) (a1 : Nat) (hl1 : 0 ≤ a1) (hu1 : a1 < 16) (e1 : xs (6 * k + 1) = nI a1) (kk : LK p l e s m below meth c Q D A b adC adM g ao k cells slots 2256) : GL p l e room_1 s m #[.ref b] below meth c Q D CL (TYS g) A 9 (WL adC adM g ao I L S Z Y on ov) cells slots 1502 [(0, .ref b), (1, .ref (adC 0)), (2, .ref (adM 0)), (3, .ref ao), (4, .int (nI (6 * k)))] [] := by
  obtain ⟨X, hSB, hAf, hNC, hfl, hX, hbl, hbA, hN⟩ := HX
  refine g_run X KL_law_1502_212 KL_law_1502_212_d 1508 [(0, .ref b), (1, .ref (adC 0)), (2, .ref (adM 0)), (3, .ref ao), (4, .int (nI (6 * k)))] [.int ((nI (6 * k)) + (nI 1)), .ref b, .ref (adC 0)] rfl ?_
  refine g_nm (lv' := [(0, .ref b), (1, .ref (adC 0)), (2, .ref (adM 0)), (3, .ref ao), (4, .int (nI (6 * k)))]) (st' := [.int (nI ((6 * k) + 1)), .ref b, .ref (adC 0)]) (by simp only [nI_add]) (by simp only [nI_add]) ?_
  refine g_sld X hX hbl hbA hN (v := nI a1) (by omega) e1 dL_law_1508 ?_
  refine g_run X KL_law_1509_213 KL_law_1509_213_d 1510 [(0, .ref b), (1, .ref (adC 0)), (2, .ref (adM 0)), (3, .ref ao), (4, .int (nI (6 * k)))] [.ref ao, .int (nI a1), .ref (adC 0)] rfl ?_
  refine g_callSW X hSB hAf hNC (As := [.ref (adC 0), .int (nI a1), .ref ao]) (wr := WM adM g I L S Z Y) (n := 3) (hc_mended l D g adC I L S a1 ao on ov (hI.s18) (by first | assumption | omega)) rfl w_733 w_731 w_732 w_0 (by decide +kernel) rfl ⟨Nat.le_of_ble_eq_true rfl, Nat.le_of_ble_eq_true rfl⟩ rfl rfl rfl (Nat.le_of_ble_eq_true rfl) ⟨by show cells + 0 ≤ 600002; omega, by show slots + 0 ≤ 7302232; omega⟩ dL_law_1510 (fun hu1 _ => ?_)
  refine g_af (ws' := (WC adC g I L S ++ ([OUT ao ((mdV I L S a1).toInt64) ov] : va_W)) ++ WM adM g I L S Z Y) (st' := [.int (nI 0)]) (cells' := cells + 0) (slots' := slots + 0) (pc' := 1513) rfl rfl rfl rfl rfl ?_
  refine g_run X KL_law_1513_214 KL_law_1513_214_d 1521 [(5, .int (nI 0)), (0, .ref b), (1, .ref (adC 0)), (2, .ref (adM 0)), (3, .ref ao), (4, .int (nI (6 * k)))] [.int ((nI (6 * k)) + (nI 1)), .ref b, .ref (adM 0)] rfl ?_
  refine g_nm (lv' := [(5, .int (nI 0)), (0, .ref b), (1, .ref (adC 0)), (2, .ref (adM 0)), (3, .ref ao), (4, .int (nI (6 * k)))]) (st' := [.int (nI ((6 * k) + 1)), .ref b, .ref (adM 0)]) (by simp only [nI_add]) (by simp only [nI_add]) ?_
  refine g_sld X hX hbl hbA hN (v := nI a1) (by omega) e1 dL_law_1521 ?_
  refine g_perm (ws' := WM adM g I L S Z Y ++ (WC adC g I L S ++ ([OUT ao ((mdV I L S a1).toInt64) ov] : va_W))) (List.perm_append_comm (l₁ := WM adM g I L S Z Y) (l₂ := (WC adC g I L S ++ ([OUT ao ((mdV I L S a1).toInt64) ov] : va_W)))) ?_
  refine g_callV X hSB hAf srcW (hrc1 := (rfl : CL[8]? = some _)) (wm_mem (k := 0) (by decide)) rfl (As := [.int (nI a1)]) (wr := WC adC g I L S ++ ([OUT ao ((mdV I L S a1).toInt64) ov] : va_W)) (n := 1) (c_X9_mended l D g adM I L S Z Y a1 R (hR) (hZ) (hI.s18) (hI.ky) (by first | assumption | omega)) rfl srcN hrdN w_1452 w_1449 w_1450 w_1451 w_6 (by decide +kernel) rfl ⟨Nat.le_of_ble_eq_true rfl, Nat.le_of_ble_eq_true rfl⟩ rfl rfl rfl (Nat.le_of_ble_eq_true rfl) ⟨by show cells + 0 + 1 ≤ 600002; omega, by show slots + 0 + 15 ≤ 7302232; omega⟩ dL_law_1522 (fun hu2 hp_hu2 => ?_)
  refine g_af (ws' := WM adM g I L S (z4 (u2 Z 3 0 (nI 0)) hu2.1 hu2.2 (mdA (Z 2) (mw (ers I S 15) (rwd I L S a1 15)))) Y ++ (WC adC g I L S ++ ([OUT ao ((mdV I L S a1).toInt64) ov] : va_W))) (st' := [.int (mdV I L S a1)]) (cells' := cells + 0 + 1) (slots' := slots + 0 + 15) (pc' := 1525) rfl rfl rfl rfl rfl ?_
  refine g_run X KL_law_1525_215 KL_law_1525_215_d 1528 [(6, .int (mdV I L S a1)), (5, .int (nI 0)), (0, .ref b), (1, .ref (adC 0)), (2, .ref (adM 0)), (3, .ref ao), (4, .int (nI (6 * k)))] [.ref (adM 0)] rfl ?_
  refine g_callV X hSB hAf srcW (hrc1 := (rfl : CL[8]? = some _)) (wm_mem (k := 0) (by decide)) rfl (As := []) (wr := WC adC g I L S ++ ([OUT ao ((mdV I L S a1).toInt64) ov] : va_W)) (n := 0) (c_X9_thrown l D g adM I L S (z4 (u2 Z 3 0 (nI 0)) hu2.1 hu2.2 (mdA (Z 2) (mw (ers I S 15) (rwd I L S a1 15)))) Y ) rfl srcN hrdN w_1250 w_1247 w_1248 w_1249 w_6 (by decide +kernel) rfl ⟨Nat.le_of_ble_eq_true rfl, Nat.le_of_ble_eq_true rfl⟩ rfl rfl rfl (Nat.le_of_ble_eq_true rfl) ⟨by show cells + 0 + 1 + 0 ≤ 600002; omega, by show slots + 0 + 15 + 0 ≤ 7302232; omega⟩ dL_law_1528 (fun hu3 hp_hu3 => ?_)
  refine g_af (ws' := WM adM g I L S (z4 (u2 Z 3 0 (nI 0)) hu2.1 hu2.2 (mdA (Z 2) (mw (ers I S 15) (rwd I L S a1 15)))) Y ++ (WC adC g I L S ++ ([OUT ao ((mdV I L S a1).toInt64) ov] : va_W))) (st' := [.int ((z4 (u2 Z 3 0 (nI 0)) hu2.1 hu2.2 (mdA (Z 2) (mw (ers I S 15) (rwd I L S a1 15)))) 3 0)]) (cells' := cells + 0 + 1 + 0) (slots' := slots + 0 + 15 + 0) (pc' := 1531) rfl rfl rfl rfl rfl ?_
  refine g_st (st' := [.int (nI 0)]) (by first | rfl | (simp [z4, u2]; done)) ?_
  refine g_run X KL_law_1531_216 KL_law_1531_216_d 1533 [(6, .int (mdV I L S a1)), (5, .int (nI 0)), (0, .ref b), (1, .ref (adC 0)), (2, .ref (adM 0)), (3, .ref ao), (4, .int (nI (6 * k)))] [.int (nI 0), .int (nI 0)] rfl ?_
  refine g_icmp_eq X 1538 dL_law_1533 (by decide) (fun hc4 => ?_) (fun hc4 => ?_)
  · refine g_run X KL_law_1538_217 KL_law_1538_217_d 1540 [(6, .int (mdV I L S a1)), (5, .int (nI 0)), (0, .ref b), (1, .ref (adC 0)), (2, .ref (adM 0)), (3, .ref ao), (4, .int (nI (6 * k)))] [.int (nI 0)] rfl ?_
    refine g_if_ne X 1556 dL_law_1540 (by decide) (fun hc5 => ?_) (fun hc5 => ?_)
    · rw [nz_eq (by omega)] at hc5; first | omega | (simp at hc5)
    · refine g_run X KL_law_1543_218 KL_law_1543_218_d 1544 [(6, .int (mdV I L S a1)), (5, .int (nI 0)), (0, .ref b), (1, .ref (adC 0)), (2, .ref (adM 0)), (3, .ref ao), (4, .int (nI (6 * k)))] [.ref ao] rfl ?_
      refine g_getN X srcW (host := "ChipfieldLaw") (v := .long ((mdV I L S a1).toInt64)) hinX6 rfl 0 (by decide) (nw_in n_489 rfl) rfl (List.mem_append_right _ (List.mem_append_right _ List.mem_cons_self)) rfl dL_law_1544 ?_
      refine g_run X KL_law_1547_219 KL_law_1547_219_d 1551 [(6, .int (mdV I L S a1)), (5, .int (nI 0)), (0, .ref b), (1, .ref (adC 0)), (2, .ref (adM 0)), (3, .ref ao), (4, .int (nI (6 * k)))] [.int (lg_cmp ((mdV I L S a1).toInt64) ((mdV I L S a1).toInt64))] rfl ?_
      refine g_if_eq X 1556 dL_law_1551 (by decide) (fun hc6 => ?_) (fun hc6 => ?_)
      · refine g_run X KL_law_1556_220 KL_law_1556_220_d 2256 [(6, .int (mdV I L S a1)), (5, .int (nI 0)), (0, .ref b), (1, .ref (adC 0)), (2, .ref (adM 0)), (3, .ref ao), (4, .int (nI (6 * k)))] [] rfl ?_
        refine g_lv (lv' := [(0, .ref b), (1, .ref (adC 0)), (2, .ref (adM 0)), (3, .ref ao), (4, .int (nI (6 * k)))]) (lsub_c 2 rfl (lsub_c 3 rfl (lsub_c 4 rfl (lsub_c 5 rfl (lsub_c 6 rfl (lsub_n)))))) ?_
        refine g_perm (ws' := (WC adC g I L S ++ ([OUT ao ((mdV I L S a1).toInt64) ov] : va_W)) ++ WM adM g I L S (z4 (u2 Z 3 0 (nI 0)) hu2.1 hu2.2 (mdA (Z 2) (mw (ers I S 15) (rwd I L S a1 15)))) Y) (List.perm_append_comm (l₁ := (WC adC g I L S ++ ([OUT ao ((mdV I L S a1).toInt64) ov] : va_W))) (l₂ := WM adM g I L S (z4 (u2 Z 3 0 (nI 0)) hu2.1 hu2.2 (mdA (Z 2) (mw (ers I S 15) (rwd I L S a1 15)))) Y)) ?_
        refine g_widen (k := cells + 60) (n := slots + 1200) (by omega) (by omega) ?_
        exact kk I L S n (z4 (u2 Z 3 0 (nI 0)) hu2.1 hu2.2 (mdA (Z 2) (mw (ers I S 15) (rwd I L S a1 15)))) Y hu2.1 ((mdV I L S a1).toInt64) ov (hI) (hp_hu2) (rfl)
      · exact absurd lg_self hc6
  · rw [nI_eq (by omega) (by omega)] at hc4; first | omega | (simp at hc4)

set_option maxHeartbeats 4000000 in
set_option maxRecDepth 100000 in
theorem lq19_1 {p : Program} {l : Launch} {e : Env} {s : State} {m : MethodId} {below : List Frame} {meth : Method} {c : Code} {Q : State → Prop} {D : va_G} {A : Nat → Prop} {b N : Nat} {xs : Nat → Int32} {adC adM : Nat → Nat} {g : Nat → ClassId} {ao k cells slots : Nat} {I : Nat → Nat → Int32} {L : Nat → Nat → Int64} {S : Nat → Nat} {n : Nat} {Z : Nat → Nat → Int32} {Y : Int64} {R : Nat → Nat} {on : Int64} {ov : Value} (HX : LX p l s m meth c A b N xs) (hk : 6 * k + 6 ≤ N) (hroom : cells + 60 ≤ 600002 ∧ slots + 1200 ≤ 7302232) (hI : Inv I L S n) (hR : R16 R) (hZ : Z 0 = fun j => nI (R j)) (hw : (xs (6 * k + 1)).toInt < (0 : Nat) ∨ ((16 : Nat) : Int) ≤ (xs (6 * k + 1)).toInt) (kk : LK p l e s m below meth c Q D A b adC adM g ao k cells slots 2256) : GL p l e room_1 s m #[.ref b] below meth c Q D CL (TYS g) A 9 (WL adC adM g ao I L S Z Y on ov) cells slots 1502 [(0, .ref b), (1, .ref (adC 0)), (2, .ref (adM 0)), (3, .ref ao), (4, .int (nI (6 * k)))] [] := by
  obtain ⟨X, hSB, hAf, hNC, hfl, hX, hbl, hbA, hN⟩ := HX
  refine g_run X KL_law_1502_212 KL_law_1502_212_d 1508 [(0, .ref b), (1, .ref (adC 0)), (2, .ref (adM 0)), (3, .ref ao), (4, .int (nI (6 * k)))] [.int ((nI (6 * k)) + (nI 1)), .ref b, .ref (adC 0)] rfl ?_
  refine g_nm (lv' := [(0, .ref b), (1, .ref (adC 0)), (2, .ref (adM 0)), (3, .ref ao), (4, .int (nI (6 * k)))]) (st' := [.int (nI ((6 * k) + 1)), .ref b, .ref (adC 0)]) (by simp only [nI_add]) (by simp only [nI_add]) ?_
  refine g_sld X hX hbl hbA hN (v := xs (6 * k + 1)) (by omega) rfl dL_law_1508 ?_
  refine g_run X KL_law_1509_213 KL_law_1509_213_d 1510 [(0, .ref b), (1, .ref (adC 0)), (2, .ref (adM 0)), (3, .ref ao), (4, .int (nI (6 * k)))] [.ref ao, .int (xs (6 * k + 1)), .ref (adC 0)] rfl ?_
  refine g_callSW X hSB hAf hNC (As := [.ref (adC 0), .int (xs (6 * k + 1)), .ref ao]) (wr := WM adM g I L S Z Y) (n := 3) (hx_mended_1 l hfl D g adC I L S (xs (6 * k + 1)) ao on ov (out_lt (by decide) hw)) rfl w_733 w_731 w_732 w_0 (by decide +kernel) rfl ⟨Nat.le_of_ble_eq_true rfl, Nat.le_of_ble_eq_true rfl⟩ rfl rfl rfl (Nat.le_of_ble_eq_true rfl) ⟨by show cells + 1 ≤ 600002; omega, by show slots + 6 ≤ 7302232; omega⟩ dL_law_1510 (fun hu1 _ => ?_)
  refine g_af (ws' := (WC adC g I L S ++ ([OUT ao on ov] : va_W)) ++ WM adM g I L S Z Y) (st' := [.int (nI 1)]) (cells' := cells + 1) (slots' := slots + 6) (pc' := 1513) rfl rfl rfl rfl rfl ?_
  refine g_run X KL_law_1513_214 KL_law_1513_214_d 1521 [(5, .int (nI 1)), (0, .ref b), (1, .ref (adC 0)), (2, .ref (adM 0)), (3, .ref ao), (4, .int (nI (6 * k)))] [.int ((nI (6 * k)) + (nI 1)), .ref b, .ref (adM 0)] rfl ?_
  refine g_nm (lv' := [(5, .int (nI 1)), (0, .ref b), (1, .ref (adC 0)), (2, .ref (adM 0)), (3, .ref ao), (4, .int (nI (6 * k)))]) (st' := [.int (nI ((6 * k) + 1)), .ref b, .ref (adM 0)]) (by simp only [nI_add]) (by simp only [nI_add]) ?_
  refine g_sld X hX hbl hbA hN (v := xs (6 * k + 1)) (by omega) rfl dL_law_1521 ?_
  refine g_perm (ws' := WM adM g I L S Z Y ++ (WC adC g I L S ++ ([OUT ao on ov] : va_W))) (List.perm_append_comm (l₁ := WM adM g I L S Z Y) (l₂ := (WC adC g I L S ++ ([OUT ao on ov] : va_W)))) ?_
  refine g_callV X hSB hAf srcW (hrc1 := (rfl : CL[8]? = some _)) (wm_mem (k := 0) (by decide)) rfl (As := [.int (xs (6 * k + 1))]) (wr := WC adC g I L S ++ ([OUT ao on ov] : va_W)) (n := 1) (c_X9_mended_1 l D g adM I L S Z Y (xs (6 * k + 1)) (out_le (by decide) hw)) rfl srcN hrdN w_1452 w_1449 w_1450 w_1451 w_6 (by decide +kernel) rfl ⟨Nat.le_of_ble_eq_true rfl, Nat.le_of_ble_eq_true rfl⟩ rfl rfl rfl (Nat.le_of_ble_eq_true rfl) ⟨by show cells + 1 + 0 ≤ 600002; omega, by show slots + 6 + 0 ≤ 7302232; omega⟩ dL_law_1522 (fun hu2 hp_hu2 => ?_)
  refine g_af (ws' := WM adM g I L S (u2 (u2 Z 3 0 (nI 0)) 3 0 (nI 1)) Y ++ (WC adC g I L S ++ ([OUT ao on ov] : va_W))) (st' := [.int (nI 0)]) (cells' := cells + 1 + 0) (slots' := slots + 6 + 0) (pc' := 1525) rfl rfl rfl rfl rfl ?_
  refine g_run X KL_law_1525_215 KL_law_1525_215_d 1528 [(6, .int (nI 0)), (5, .int (nI 1)), (0, .ref b), (1, .ref (adC 0)), (2, .ref (adM 0)), (3, .ref ao), (4, .int (nI (6 * k)))] [.ref (adM 0)] rfl ?_
  refine g_callV X hSB hAf srcW (hrc1 := (rfl : CL[8]? = some _)) (wm_mem (k := 0) (by decide)) rfl (As := []) (wr := WC adC g I L S ++ ([OUT ao on ov] : va_W)) (n := 0) (c_X9_thrown l D g adM I L S (u2 (u2 Z 3 0 (nI 0)) 3 0 (nI 1)) Y ) rfl srcN hrdN w_1250 w_1247 w_1248 w_1249 w_6 (by decide +kernel) rfl ⟨Nat.le_of_ble_eq_true rfl, Nat.le_of_ble_eq_true rfl⟩ rfl rfl rfl (Nat.le_of_ble_eq_true rfl) ⟨by show cells + 1 + 0 + 0 ≤ 600002; omega, by show slots + 6 + 0 + 0 ≤ 7302232; omega⟩ dL_law_1528 (fun hu3 hp_hu3 => ?_)
  refine g_af (ws' := WM adM g I L S (u2 (u2 Z 3 0 (nI 0)) 3 0 (nI 1)) Y ++ (WC adC g I L S ++ ([OUT ao on ov] : va_W))) (st' := [.int ((u2 (u2 Z 3 0 (nI 0)) 3 0 (nI 1)) 3 0)]) (cells' := cells + 1 + 0 + 0) (slots' := slots + 6 + 0 + 0) (pc' := 1531) rfl rfl rfl rfl rfl ?_
  refine g_st (st' := [.int (nI 1)]) (by first | rfl | (simp [z4, u2]; done)) ?_
  refine g_run X KL_law_1531_216 KL_law_1531_216_d 1533 [(6, .int (nI 0)), (5, .int (nI 1)), (0, .ref b), (1, .ref (adC 0)), (2, .ref (adM 0)), (3, .ref ao), (4, .int (nI (6 * k)))] [.int (nI 1), .int (nI 1)] rfl ?_
  refine g_icmp_eq X 1538 dL_law_1533 (by decide) (fun hc4 => ?_) (fun hc4 => ?_)
  · refine g_run X KL_law_1538_217 KL_law_1538_217_d 1540 [(6, .int (nI 0)), (5, .int (nI 1)), (0, .ref b), (1, .ref (adC 0)), (2, .ref (adM 0)), (3, .ref ao), (4, .int (nI (6 * k)))] [.int (nI 1)] rfl ?_
    refine g_if_ne X 1556 dL_law_1540 (by decide) (fun hc5 => ?_) (fun hc5 => ?_)
    · refine g_run X KL_law_1556_220 KL_law_1556_220_d 2256 [(6, .int (nI 0)), (5, .int (nI 1)), (0, .ref b), (1, .ref (adC 0)), (2, .ref (adM 0)), (3, .ref ao), (4, .int (nI (6 * k)))] [] rfl ?_
      refine g_lv (lv' := [(0, .ref b), (1, .ref (adC 0)), (2, .ref (adM 0)), (3, .ref ao), (4, .int (nI (6 * k)))]) (lsub_c 2 rfl (lsub_c 3 rfl (lsub_c 4 rfl (lsub_c 5 rfl (lsub_c 6 rfl (lsub_n)))))) ?_
      refine g_perm (ws' := (WC adC g I L S ++ ([OUT ao on ov] : va_W)) ++ WM adM g I L S (u2 (u2 Z 3 0 (nI 0)) 3 0 (nI 1)) Y) (List.perm_append_comm (l₁ := (WC adC g I L S ++ ([OUT ao on ov] : va_W))) (l₂ := WM adM g I L S (u2 (u2 Z 3 0 (nI 0)) 3 0 (nI 1)) Y)) ?_
      refine g_widen (k := cells + 60) (n := slots + 1200) (by omega) (by omega) ?_
      exact kk I L S n (u2 (u2 Z 3 0 (nI 0)) 3 0 (nI 1)) Y R on ov (hI) (hR) (by first | exact hZ | (rw [zrow]; exact hZ) | (rw [zrow, zrow]; exact hZ))
    · rw [nz_eq (by omega)] at hc5; first | omega | (simp at hc5)
  · rw [nI_eq (by omega) (by omega)] at hc4; first | omega | (simp at hc4)

theorem lq19 {p : Program} {l : Launch} {e : Env} {s : State} {m : MethodId} {below : List Frame} {meth : Method} {c : Code} {Q : State → Prop} {D : va_G} {A : Nat → Prop} {b N : Nat} {xs : Nat → Int32} {adC adM : Nat → Nat} {g : Nat → ClassId} {ao k cells slots : Nat} {I : Nat → Nat → Int32} {L : Nat → Nat → Int64} {S : Nat → Nat} {n : Nat} {Z : Nat → Nat → Int32} {Y : Int64} {R : Nat → Nat} {on : Int64} {ov : Value} (HX : LX p l s m meth c A b N xs) (hk : 6 * k + 6 ≤ N) (hroom : cells + 60 ≤ 600002 ∧ slots + 1200 ≤ 7302232) (hI : Inv I L S n) (hR : R16 R) (hZ : Z 0 = fun j => nI (R j)) (kk : LK p l e s m below meth c Q D A b adC adM g ao k cells slots 2256) : GL p l e room_1 s m #[.ref b] below meth c Q D CL (TYS g) A 9 (WL adC adM g ao I L S Z Y on ov) cells slots 1502 [(0, .ref b), (1, .ref (adC 0)), (2, .ref (adM 0)), (3, .ref ao), (4, .int (nI (6 * k)))] [] := by
  rcases rg (xs (6 * k + 1)) 0 16 with ⟨a1, hl1, hu1, e1⟩ | hw
  · exact lq19_0 HX hk hroom hI hR hZ  a1 hl1 hu1 e1 kk
  · exact lq19_1 HX hk hroom hI hR hZ  hw kk

