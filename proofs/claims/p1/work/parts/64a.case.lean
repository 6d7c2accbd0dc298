def KL_law_192_0 : List (Nat × Instr × Nat) := [(192, .aload_n 1, 1), (193, .aload_n 0, 1), (194, .iload 4, 2), (196, .iconst 1, 1), (197, .iadd, 1)]
theorem KL_law_192_0_d : ∀ z ∈ KL_law_192_0, decode cL_law z.1 = .ok z.2 := by decide +kernel
def KL_law_199_1 : List (Nat × Instr × Nat) := [(199, .aload_n 0, 1), (200, .iload 4, 2), (202, .iconst 2, 1), (203, .iadd, 1)]
theorem KL_law_199_1_d : ∀ z ∈ KL_law_199_1, decode cL_law z.1 = .ok z.2 := by decide +kernel
def KL_law_205_2 : List (Nat × Instr × Nat) := [(205, .i2l, 1), (206, .bipush 32, 2), (208, .lshl, 1), (209, .aload_n 0, 1), (210, .iload 4, 2), (212, .iconst 3, 1), (213, .iadd, 1)]
theorem KL_law_205_2_d : ∀ z ∈ KL_law_205_2, decode cL_law z.1 = .ok z.2 := by decide +kernel
def KL_law_215_3 : List (Nat × Instr × Nat) := [(215, .i2l, 1)]
theorem KL_law_215_3_d : ∀ z ∈ KL_law_215_3, decode cL_law z.1 = .ok z.2 := by decide +kernel
def KL_law_219_4 : List (Nat × Instr × Nat) := [(219, .land, 1), (220, .lor, 1)]
theorem KL_law_219_4_d : ∀ z ∈ KL_law_219_4, decode cL_law z.1 = .ok z.2 := by decide +kernel
def KL_law_221_5 : List (Nat × Instr × Nat) := [(221, .aload_n 3, 1)]
theorem KL_law_221_5_d : ∀ z ∈ KL_law_221_5, decode cL_law z.1 = .ok z.2 := by decide +kernel
def KL_law_225_6 : List (Nat × Instr × Nat) := [(225, .istore 5, 2), (227, .aload_n 2, 1), (228, .aload_n 0, 1), (229, .iload 4, 2), (231, .iconst 1, 1), (232, .iadd, 1)]
theorem KL_law_225_6_d : ∀ z ∈ KL_law_225_6, decode cL_law z.1 = .ok z.2 := by decide +kernel
def KL_law_234_7 : List (Nat × Instr × Nat) := [(234, .aload_n 0, 1), (235, .iload 4, 2), (237, .iconst 2, 1), (238, .iadd, 1)]
theorem KL_law_234_7_d : ∀ z ∈ KL_law_234_7, decode cL_law z.1 = .ok z.2 := by decide +kernel
def KL_law_240_8 : List (Nat × Instr × Nat) := [(240, .i2l, 1), (241, .bipush 32, 2), (243, .lshl, 1), (244, .aload_n 0, 1), (245, .iload 4, 2), (247, .iconst 3, 1), (248, .iadd, 1)]
theorem KL_law_240_8_d : ∀ z ∈ KL_law_240_8, decode cL_law z.1 = .ok z.2 := by decide +kernel
def KL_law_250_9 : List (Nat × Instr × Nat) := [(250, .i2l, 1)]
theorem KL_law_250_9_d : ∀ z ∈ KL_law_250_9, decode cL_law z.1 = .ok z.2 := by decide +kernel
def KL_law_254_10 : List (Nat × Instr × Nat) := [(254, .land, 1), (255, .lor, 1)]
theorem KL_law_254_10_d : ∀ z ∈ KL_law_254_10, decode cL_law z.1 = .ok z.2 := by decide +kernel
def KL_law_259_11 : List (Nat × Instr × Nat) := [(259, .istore 6, 2), (261, .aload_n 2, 1)]
theorem KL_law_259_11_d : ∀ z ∈ KL_law_259_11, decode cL_law z.1 = .ok z.2 := by decide +kernel
def KL_law_265_12 : List (Nat × Instr × Nat) := [(265, .iload 5, 2)]
theorem KL_law_265_12_d : ∀ z ∈ KL_law_265_12, decode cL_law z.1 = .ok z.2 := by decide +kernel
def KL_law_272_13 : List (Nat × Instr × Nat) := [(272, .iload 5, 2)]
theorem KL_law_272_13_d : ∀ z ∈ KL_law_272_13, decode cL_law z.1 = .ok z.2 := by decide +kernel
def KL_law_277_14 : List (Nat × Instr × Nat) := [(277, .aload_n 3, 1)]
theorem KL_law_277_14_d : ∀ z ∈ KL_law_277_14, decode cL_law z.1 = .ok z.2 := by decide +kernel
def KL_law_281_15 : List (Nat × Instr × Nat) := [(281, .iload 6, 2), (283, .i2l, 1), (284, .lcmp, 1)]
theorem KL_law_281_15_d : ∀ z ∈ KL_law_281_15, decode cL_law z.1 = .ok z.2 := by decide +kernel
def KL_law_290_16 : List (Nat × Instr × Nat) := [(290, .goto 1966, 3)]
theorem KL_law_290_16_d : ∀ z ∈ KL_law_290_16, decode cL_law z.1 = .ok z.2 := by decide +kernel
set_option maxHeartbeats 4000000 in
set_option maxRecDepth 100000 in
theorem lq0_0 {p : Program} {l : Launch} {e : Env} {s : State} {m : MethodId} {below : List Frame} {meth : Method} {c : Code} {Q : State → Prop} {D : va_G} {A : Nat → Prop} {b N : Nat} {xs : Nat → Int32} {adC adM : Nat → Nat} {g : Nat → ClassId} {ao k cells slots : Nat} {I : Nat → Nat → Int32} {L : Nat → Nat → Int64} {S : Nat → Nat} {n : Nat} {Z : Nat → Nat → Int32} {Y : Int64} {R : Nat → Nat} {on : Int64} {ov : Value} (HX : LX p l s m meth c A b N xs) (hk : 6 * k + 6 ≤ N) (hroom : cells + 60 ≤ 600002 ∧ slots + 1200 ≤ 7302232) (hI : Inv I L S n) (hR : R16 R) (hZ : Z 0 = fun j => nI (R j)) (a1 : Nat) (hl1 : 0 ≤ a1) (hu1 : a1 < 16) (e1 : xs (6 * k + 1) = nI a1) (dd : Nat) (hdd : dd < 2 ^ 44) (ed : lg2 (xs (6 * k + 2)) (xs (6 * k + 3)) = lN dd) (kk : LK p l e s m below meth c Q D A b adC adM g ao k cells slots 2256) : GL p l e room_1 s m #[.ref b] below meth c Q D CL (TYS g) A 9 (WL adC adM g ao I L S Z Y on ov) cells slots 192 [(0, .ref b), (1, .ref (adC 0)), (2, .ref (adM 0)), (3, .ref ao), (4, .int (nI (6 * k)))] [] := by
  obtain ⟨X, hSB, hAf, hNC, hfl, hX, hbl, hbA, hN⟩ := HX
  refine g_run X KL_law_192_0 KL_law_192_0_d 198 [(0, .ref b), (1, .ref (adC 0)), (2, .ref (adM 0)), (3, .ref ao), (4, .int (nI (6 * k)))] [.int ((nI (6 * k)) + (nI 1)), .ref b, .ref (adC 0)] rfl ?_
  refine g_nm (lv' := [(0, .ref b), (1, .ref (adC 0)), (2, .ref (adM 0)), (3, .ref ao), (4, .int (nI (6 * k)))]) (st' := [.int (nI ((6 * k) + 1)), .ref b, .ref (adC 0)]) (by simp only [nI_add]) (by simp only [nI_add]) ?_
  refine g_sld X hX hbl hbA hN (v := nI a1) (by omega) e1 dL_law_198 ?_
  refine g_run X KL_law_199_1 KL_law_199_1_d 204 [(0, .ref b), (1, .ref (adC 0)), (2, .ref (adM 0)), (3, .ref ao), (4, .int (nI (6 * k)))] [.int ((nI (6 * k)) + (nI 2)), .ref b, .int (nI a1), .ref (adC 0)] rfl ?_
  refine g_nm (lv' := [(0, .ref b), (1, .ref (adC 0)), (2, .ref (adM 0)), (3, .ref ao), (4, .int (nI (6 * k)))]) (st' := [.int (nI ((6 * k) + 2)), .ref b, .int (nI a1), .ref (adC 0)]) (by simp only [nI_add]) (by simp only [nI_add]) ?_
  refine g_sld X hX hbl hbA hN (v := xs (6 * k + 2)) (by omega) rfl dL_law_204 ?_
  refine g_run X KL_law_205_2 KL_law_205_2_d 214 [(0, .ref b), (1, .ref (adC 0)), (2, .ref (adM 0)), (3, .ref ao), (4, .int (nI (6 * k)))] [.int ((nI (6 * k)) + (nI 3)), .ref b, .long (((xs (6 * k + 2)).toInt64) <<< ((nI 32).toInt64 &&& 63)), .int (nI a1), .ref (adC 0)] rfl ?_
  refine g_nm (lv' := [(0, .ref b), (1, .ref (adC 0)), (2, .ref (adM 0)), (3, .ref ao), (4, .int (nI (6 * k)))]) (st' := [.int (nI ((6 * k) + 3)), .ref b, .long (((xs (6 * k + 2)).toInt64) <<< ((nI 32).toInt64 &&& 63)), .int (nI a1), .ref (adC 0)]) (by simp only [nI_add]) (by simp only [nI_add]) ?_
  refine g_sld X hX hbl hbA hN (v := xs (6 * k + 3)) (by omega) rfl dL_law_214 ?_
  refine g_run X KL_law_215_3 KL_law_215_3_d 216 [(0, .ref b), (1, .ref (adC 0)), (2, .ref (adM 0)), (3, .ref ao), (4, .int (nI (6 * k)))] [.long ((xs (6 * k + 3)).toInt64), .long (((xs (6 * k + 2)).toInt64) <<< ((nI 32).toInt64 &&& 63)), .int (nI a1), .ref (adC 0)] rfl ?_
  refine g_ldc2 X (v := (4294967295 : Int64)) w_1562 dL_law_216 ?_
  refine g_run X KL_law_219_4 KL_law_219_4_d 221 [(0, .ref b), (1, .ref (adC 0)), (2, .ref (adM 0)), (3, .ref ao), (4, .int (nI (6 * k)))] [.long ((((xs (6 * k + 2)).toInt64) <<< ((nI 32).toInt64 &&& 63)) ||| (((xs (6 * k + 3)).toInt64) &&& (4294967295 : Int64))), .int (nI a1), .ref (adC 0)] rfl ?_
  refine g_st (st' := [.long (lN dd), .int (nI a1), .ref (adC 0)]) (by rw [← ed]; rfl) ?_
  refine g_run X KL_law_221_5 KL_law_221_5_d 222 [(0, .ref b), (1, .ref (adC 0)), (2, .ref (adM 0)), (3, .ref ao), (4, .int (nI (6 * k)))] [.ref ao, .long (lN dd), .int (nI a1), .ref (adC 0)] rfl ?_
  refine g_callSW X hSB hAf hNC (As := [.ref (adC 0), .int (nI a1), .long (lN dd), .ref ao]) (wr := WM adM g I L S Z Y) (n := 4) (hc_write l D g adC I L S a1 (lN dd) ao on ov (hI.s18) (by first | assumption | omega) (dOK_l hdd)) rfl w_498 w_496 w_497 w_0 (by decide +kernel) rfl ⟨Nat.le_of_ble_eq_true rfl, Nat.le_of_ble_eq_true rfl⟩ rfl rfl rfl (Nat.le_of_ble_eq_true rfl) ⟨by show cells + 0 ≤ 600002; omega, by show slots + 0 ≤ 7302232; omega⟩ dL_law_222 (fun hu1 _ => ?_)
  refine g_af (ws' := (WC adC g I (wrw S L a1 (wdO (lN dd)) 15) S ++ ([OUT ao ((nI (pcn (pl (rwd I L S a1 15 ^^^ rwd I (wrw S L a1 (wdO (lN dd)) 15) S a1 15) 15) 15)).toInt64) ov] : va_W)) ++ WM adM g I L S Z Y) (st' := [.int (nI 0)]) (cells' := cells + 0) (slots' := slots + 0) (pc' := 225) rfl rfl rfl rfl rfl ?_
  refine g_run X KL_law_225_6 KL_law_225_6_d 233 [(5, .int (nI 0)), (0, .ref b), (1, .ref (adC 0)), (2, .ref (adM 0)), (3, .ref ao), (4, .int (nI (6 * k)))] [.int ((nI (6 * k)) + (nI 1)), .ref b, .ref (adM 0)] rfl ?_
  refine g_nm (lv' := [(5, .int (nI 0)), (0, .ref b), (1, .ref (adC 0)), (2, .ref (adM 0)), (3, .ref ao), (4, .int (nI (6 * k)))]) (st' := [.int (nI ((6 * k) + 1)), .ref b, .ref (adM 0)]) (by simp only [nI_add]) (by simp only [nI_add]) ?_
  refine g_sld X hX hbl hbA hN (v := nI a1) (by omega) e1 dL_law_233 ?_
  refine g_run X KL_law_234_7 KL_law_234_7_d 239 [(5, .int (nI 0)), (0, .ref b), (1, .ref (adC 0)), (2, .ref (adM 0)), (3, .ref ao), (4, .int (nI (6 * k)))] [.int ((nI (6 * k)) + (nI 2)), .ref b, .int (nI a1), .ref (adM 0)] rfl ?_
  refine g_nm (lv' := [(5, .int (nI 0)), (0, .ref b), (1, .ref (adC 0)), (2, .ref (adM 0)), (3, .ref ao), (4, .int (nI (6 * k)))]) (st' := [.int (nI ((6 * k) + 2)), .ref b, .int (nI a1), .ref (adM 0)]) (by simp only [nI_add]) (by simp only [nI_add]) ?_
  refine g_sld X hX hbl hbA hN (v := xs (6 * k + 2)) (by omega) rfl dL_law_239 ?_
  refine g_run X KL_law_240_8 KL_law_240_8_d 249 [(5, .int (nI 0)), (0, .ref b), (1, .ref (adC 0)), (2, .ref (adM 0)), (3, .ref ao), (4, .int (nI (6 * k)))] [.int ((nI (6 * k)) + (nI 3)), .ref b, .long (((xs (6 * k + 2)).toInt64) <<< ((nI 32).toInt64 &&& 63)), .int (nI a1), .ref (adM 0)] rfl ?_
  refine g_nm (lv' := [(5, .int (nI 0)), (0, .ref b), (1, .ref (adC 0)), (2, .ref (adM 0)), (3, .ref ao), (4, .int (nI (6 * k)))]) (st' := [.int (nI ((6 * k) + 3)), .ref b, .long (((xs (6 * k + 2)).toInt64) <<< ((nI 32).toInt64 &&& 63)), .int (nI a1), .ref (adM 0)]) (by simp only [nI_add]) (by simp only [nI_add]) ?_
  refine g_sld X hX hbl hbA hN (v := xs (6 * k + 3)) (by omega) rfl dL_law_249 ?_
  refine g_run X KL_law_250_9 KL_law_250_9_d 251 [(5, .int (nI 0)), (0, .ref b), (1, .ref (adC 0)), (2, .ref (adM 0)), (3, .ref ao), (4, .int (nI (6 * k)))] [.long ((xs (6 * k + 3)).toInt64), .long (((xs (6 * k + 2)).toInt64) <<< ((nI 32).toInt64 &&& 63)), .int (nI a1), .ref (adM 0)] rfl ?_
  refine g_ldc2 X (v := (4294967295 : Int64)) w_1562 dL_law_251 ?_
  refine g_run X KL_law_254_10 KL_law_254_10_d 256 [(5, .int (nI 0)), (0, .ref b), (1, .ref (adC 0)), (2, .ref (adM 0)), (3, .ref ao), (4, .int (nI (6 * k)))] [.long ((((xs (6 * k + 2)).toInt64) <<< ((nI 32).toInt64 &&& 63)) ||| (((xs (6 * k + 3)).toInt64) &&& (4294967295 : Int64))), .int (nI a1), .ref (adM 0)] rfl ?_
  refine g_st (st' := [.long (lN dd), .int (nI a1), .ref (adM 0)]) (by rw [← ed]; rfl) ?_
  refine g_perm (ws' := WM adM g I L S Z Y ++ (WC adC g I (wrw S L a1 (wdO (lN dd)) 15) S ++ ([OUT ao ((nI (pcn (pl (rwd I L S a1 15 ^^^ rwd I (wrw S L a1 (wdO (lN dd)) 15) S a1 15) 15) 15)).toInt64) ov] : va_W))) (List.perm_append_comm (l₁ := WM adM g I L S Z Y) (l₂ := (WC adC g I (wrw S L a1 (wdO (lN dd)) 15) S ++ ([OUT ao ((nI (pcn (pl (rwd I L S a1 15 ^^^ rwd I (wrw S L a1 (wdO (lN dd)) 15) S a1 15) 15) 15)).toInt64) ov] : va_W)))) ?_
  refine g_callV X hSB hAf srcW (hrc1 := (rfl : CL[8]? = some _)) (wm_mem (k := 0) (by decide)) rfl (As := [.int (nI a1), .long (lN dd)]) (wr := WC adC g I (wrw S L a1 (wdO (lN dd)) 15) S ++ ([OUT ao ((nI (pcn (pl (rwd I L S a1 15 ^^^ rwd I (wrw S L a1 (wdO (lN dd)) 15) S a1 15) 15) 15)).toInt64) ov] : va_W)) (n := 2) (c_X9_write_ l D g adM I L S Z Y a1 dd R (hR) (hZ) (hI.s18) (hI.ky) (by first | assumption | omega) (by first | assumption | omega)) rfl srcN hrdN w_1254 w_1251 w_1252 w_1253 w_6 (by decide +kernel) rfl ⟨Nat.le_of_ble_eq_true rfl, Nat.le_of_ble_eq_true rfl⟩ rfl rfl rfl (Nat.le_of_ble_eq_true rfl) ⟨by show cells + 0 + 3 ≤ 600002; omega, by show slots + 0 + 45 ≤ 7302232; omega⟩ dL_law_256 (fun hu2 hp_hu2 => ?_)
  refine g_af (ws' := WM adM g I (wrw S L a1 (wdO (lN dd)) 15) S (z4 (u2 Z 3 0 (nI 0)) hu2.1 hu2.2 (wA (wdO (lN dd)))) Y ++ (WC adC g I (wrw S L a1 (wdO (lN dd)) 15) S ++ ([OUT ao ((nI (pcn (pl (rwd I L S a1 15 ^^^ rwd I (wrw S L a1 (wdO (lN dd)) 15) S a1 15) 15) 15)).toInt64) ov] : va_W))) (st' := [.int (nI (pcn (pl (rwd I L S a1 15 ^^^ rwd I (wrw S L a1 (wdO (lN dd)) 15) S a1 15) 15) 15))]) (cells' := cells + 0 + 3) (slots' := slots + 0 + 45) (pc' := 259) rfl rfl rfl rfl rfl ?_
  refine g_run X KL_law_259_11 KL_law_259_11_d 262 [(6, .int (nI (pcn (pl (rwd I L S a1 15 ^^^ rwd I (wrw S L a1 (wdO (lN dd)) 15) S a1 15) 15) 15))), (5, .int (nI 0)), (0, .ref b), (1, .ref (adC 0)), (2, .ref (adM 0)), (3, .ref ao), (4, .int (nI (6 * k)))] [.ref (adM 0)] rfl ?_
  refine g_callV X hSB hAf srcW (hrc1 := (rfl : CL[8]? = some _)) (wm_mem (k := 0) (by decide)) rfl (As := []) (wr := WC adC g I (wrw S L a1 (wdO (lN dd)) 15) S ++ ([OUT ao ((nI (pcn (pl (rwd I L S a1 15 ^^^ rwd I (wrw S L a1 (wdO (lN dd)) 15) S a1 15) 15) 15)).toInt64) ov] : va_W)) (n := 0) (c_X9_thrown l D g adM I (wrw S L a1 (wdO (lN dd)) 15) S (z4 (u2 Z 3 0 (nI 0)) hu2.1 hu2.2 (wA (wdO (lN dd)))) Y ) rfl srcN hrdN w_1250 w_1247 w_1248 w_1249 w_6 (by decide +kernel) rfl ⟨Nat.le_of_ble_eq_true rfl, Nat.le_of_ble_eq_true rfl⟩ rfl rfl rfl (Nat.le_of_ble_eq_true rfl) ⟨by show cells + 0 + 3 + 0 ≤ 600002; omega, by show slots + 0 + 45 + 0 ≤ 7302232; omega⟩ dL_law_262 (fun hu3 hp_hu3 => ?_)
  refine g_af (ws' := WM adM g I (wrw S L a1 (wdO (lN dd)) 15) S (z4 (u2 Z 3 0 (nI 0)) hu2.1 hu2.2 (wA (wdO (lN dd)))) Y ++ (WC adC g I (wrw S L a1 (wdO (lN dd)) 15) S ++ ([OUT ao ((nI (pcn (pl (rwd I L S a1 15 ^^^ rwd I (wrw S L a1 (wdO (lN dd)) 15) S a1 15) 15) 15)).toInt64) ov] : va_W))) (st' := [.int ((z4 (u2 Z 3 0 (nI 0)) hu2.1 hu2.2 (wA (wdO (lN dd)))) 3 0)]) (cells' := cells + 0 + 3 + 0) (slots' := slots + 0 + 45 + 0) (pc' := 265) rfl rfl rfl rfl rfl ?_
  refine g_st (st' := [.int (nI 0)]) (by first | rfl | (simp [z4, u2]; done)) ?_
  refine g_run X KL_law_265_12 KL_law_265_12_d 267 [(6, .int (nI (pcn (pl (rwd I L S a1 15 ^^^ rwd I (wrw S L a1 (wdO (lN dd)) 15) S a1 15) 15) 15))), (5, .int (nI 0)), (0, .ref b), (1, .ref (adC 0)), (2, .ref (adM 0)), (3, .ref ao), (4, .int (nI (6 * k)))] [.int (nI 0), .int (nI 0)] rfl ?_
  refine g_icmp_eq X 272 dL_law_267 (by decide) (fun hc4 => ?_) (fun hc4 => ?_)
  · refine g_run X KL_law_272_13 KL_law_272_13_d 274 [(6, .int (nI (pcn (pl (rwd I L S a1 15 ^^^ rwd I (wrw S L a1 (wdO (lN dd)) 15) S a1 15) 15) 15))), (5, .int (nI 0)), (0, .ref b), (1, .ref (adC 0)), (2, .ref (adM 0)), (3, .ref ao), (4, .int (nI (6 * k)))] [.int (nI 0)] rfl ?_
    refine g_if_ne X 290 dL_law_274 (by decide) (fun hc5 => ?_) (fun hc5 => ?_)
    · rw [nz_eq (by omega)] at hc5; first | omega | (simp at hc5)
    · refine g_run X KL_law_277_14 KL_law_277_14_d 278 [(6, .int (nI (pcn (pl (rwd I L S a1 15 ^^^ rwd I (wrw S L a1 (wdO (lN dd)) 15) S a1 15) 15) 15))), (5, .int (nI 0)), (0, .ref b), (1, .ref (adC 0)), (2, .ref (adM 0)), (3, .ref ao), (4, .int (nI (6 * k)))] [.ref ao] rfl ?_
      refine g_getN X srcW (host := "ChipfieldLaw") (v := .long ((nI (pcn (pl (rwd I L S a1 15 ^^^ rwd I (wrw S L a1 (wdO (lN dd)) 15) S a1 15) 15) 15)).toInt64)) hinX6 rfl 0 (by decide) (nw_in n_489 rfl) rfl (List.mem_append_right _ (List.mem_append_right _ List.mem_cons_self)) rfl dL_law_278 ?_
      refine g_run X KL_law_281_15 KL_law_281_15_d 285 [(6, .int (nI (pcn (pl (rwd I L S a1 15 ^^^ rwd I (wrw S L a1 (wdO (lN dd)) 15) S a1 15) 15) 15))), (5, .int (nI 0)), (0, .ref b), (1, .ref (adC 0)), (2, .ref (adM 0)), (3, .ref ao), (4, .int (nI (6 * k)))] [.int (lg_cmp ((nI (pcn (pl (rwd I L S a1 15 ^^^ rwd I (wrw S L a1 (wdO (lN dd)) 15) S a1 15) 15) 15)).toInt64) ((nI (pcn (pl (rwd I L S a1 15 ^^^ rwd I (wrw S L a1 (wdO (lN dd)) 15) S a1 15) 15) 15)).toInt64))] rfl ?_
      refine g_if_eq X 290 dL_law_285 (by decide) (fun hc6 => ?_) (fun hc6 => ?_)
      · refine g_run X KL_law_290_16 KL_law_290_16_d 2256 [(6, .int (nI (pcn (pl (rwd I L S a1 15 ^^^ rwd I (wrw S L a1 (wdO (lN dd)) 15) S a1 15) 15) 15))), (5, .int (nI 0)), (0, .ref b), (1, .ref (adC 0)), (2, .ref (adM 0)), (3, .ref ao), (4, .int (nI (6 * k)))] [] rfl ?_
        refine g_lv (lv' := [(0, .ref b), (1, .ref (adC 0)), (2, .ref (adM 0)), (3, .ref ao), (4, .int (nI (6 * k)))]) (lsub_c 2 rfl (lsub_c 3 rfl (lsub_c 4 rfl (lsub_c 5 rfl (lsub_c 6 rfl (lsub_n)))))) ?_
        refine g_perm (ws' := (WC adC g I (wrw S L a1 (wdO (lN dd)) 15) S ++ ([OUT ao ((nI (pcn (pl (rwd I L S a1 15 ^^^ rwd I (wrw S L a1 (wdO (lN dd)) 15) S a1 15) 15) 15)).toInt64) ov] : va_W)) ++ WM adM g I (wrw S L a1 (wdO (lN dd)) 15) S (z4 (u2 Z 3 0 (nI 0)) hu2.1 hu2.2 (wA (wdO (lN dd)))) Y) (List.perm_append_comm (l₁ := (WC adC g I (wrw S L a1 (wdO (lN dd)) 15) S ++ ([OUT ao ((nI (pcn (pl (rwd I L S a1 15 ^^^ rwd I (wrw S L a1 (wdO (lN dd)) 15) S a1 15) 15) 15)).toInt64) ov] : va_W))) (l₂ := WM adM g I (wrw S L a1 (wdO (lN dd)) 15) S (z4 (u2 Z 3 0 (nI 0)) hu2.1 hu2.2 (wA (wdO (lN dd)))) Y)) ?_
        refine g_widen (k := cells + 60) (n := slots + 1200) (by omega) (by omega) ?_
        exact kk I (wrw S L a1 (wdO (lN dd)) 15) S n (z4 (u2 Z 3 0 (nI 0)) hu2.1 hu2.2 (wA (wdO (lN dd)))) Y hu2.1 ((nI (pcn (pl (rwd I L S a1 15 ^^^ rwd I (wrw S L a1 (wdO (lN dd)) 15) S a1 15) 15) 15)).toInt64) ov (hI.ofL (fun _ => wrw_n (by decide) _ _)) (hp_hu2) (rfl)
      · exact absurd lg_self hc6
  · rw [nI_eq (by omega) (by omega)] at hc4; first | omega | (simp at hc4)

set_option maxHeartbeats 4000000 in
set_option maxRecDepth 100000 in
theorem lq0_2 {p : Program} {l : Launch} {e : Env} {s : State} {m : MethodId} {below : List Frame} {meth : Method} {c : Code} {Q : State → Prop} {D : va_G} {A : Nat → Prop} {b N : Nat} {xs : Nat → Int32} {adC adM : Nat → Nat} {g : Nat → ClassId} {ao k cells slots : Nat} {I : Nat → Nat → Int32} {L : Nat → Nat → Int64} {S : Nat → Nat} {n : Nat} {Z : Nat → Nat → Int32} {Y : Int64} {R : Nat → Nat} {on : Int64} {ov : Value} (HX : LX p l s m meth c A b N xs) (hk : 6 * k + 6 ≤ N) (hroom : cells + 60 ≤ 600002 ∧ slots + 1200 ≤ 7302232) (hI : Inv I L S n) (hR : R16 R) (hZ : Z 0 = fun j => nI (R j)) (a1 : Nat) (hl1 : 0 ≤ a1) (hu1 : a1 < 16) (e1 : xs (6 * k + 1) = nI a1) (hnd : ¬ dOK (lg2 (xs (6 * k + 2)) (xs (6 * k + 3)))) (kk : LK p l e s m below meth c Q D A b adC adM g ao k cells slots 2256) : GL p l e room_1 s m #[.ref b] below meth c Q D CL (TYS g) A 9 (WL adC adM g ao I L S Z Y on ov) cells slots 192 [(0, .ref b), (1, .ref (adC 0)), (2, .ref (adM 0)), (3, .ref ao), (4, .int (nI (6 * k)))] [] := by
  obtain ⟨X, hSB, hAf, hNC, hfl, hX, hbl, hbA, hN⟩ := HX
  refine g_run X KL_law_192_0 KL_law_192_0_d 198 [(0, .ref b), (1, .ref (adC 0)), (2, .ref (adM 0)), (3, .ref ao), (4, .int (nI (6 * k)))] [.int ((nI (6 * k)) + (nI 1)), .ref b, .ref (adC 0)] rfl ?_
  refine g_nm (lv' := [(0, .ref b), (1, .ref (adC 0)), (2, .ref (adM 0)), (3, .ref ao), (4, .int (nI (6 * k)))]) (st' := [.int (nI ((6 * k) + 1)), .ref b, .ref (adC 0)]) (by simp only [nI_add]) (by simp only [nI_add]) ?_
  refine g_sld X hX hbl hbA hN (v := nI a1) (by omega) e1 dL_law_198 ?_
  refine g_run X KL_law_199_1 KL_law_199_1_d 204 [(0, .ref b), (1, .ref (adC 0)), (2, .ref (adM 0)), (3, .ref ao), (4, .int (nI (6 * k)))] [.int ((nI (6 * k)) + (nI 2)), .ref b, .int (nI a1), .ref (adC 0)] rfl ?_
  refine g_nm (lv' := [(0, .ref b), (1, .ref (adC 0)), (2, .ref (adM 0)), (3, .ref ao), (4, .int (nI (6 * k)))]) (st' := [.int (nI ((6 * k) + 2)), .ref b, .int (nI a1), .ref (adC 0)]) (by simp only [nI_add]) (by simp only [nI_add]) ?_
  refine g_sld X hX hbl hbA hN (v := xs (6 * k + 2)) (by omega) rfl dL_law_204 ?_
  refine g_run X KL_law_205_2 KL_law_205_2_d 214 [(0, .ref b), (1, .ref (adC 0)), (2, .ref (adM 0)), (3, .ref ao), (4, .int (nI (6 * k)))] [.int ((nI (6 * k)) + (nI 3)), .ref b, .long (((xs (6 * k + 2)).toInt64) <<< ((nI 32).toInt64 &&& 63)), .int (nI a1), .ref (adC 0)] rfl ?_
  refine g_nm (lv' := [(0, .ref b), (1, .ref (adC 0)), (2, .ref (adM 0)), (3, .ref ao), (4, .int (nI (6 * k)))]) (st' := [.int (nI ((6 * k) + 3)), .ref b, .long (((xs (6 * k + 2)).toInt64) <<< ((nI 32).toInt64 &&& 63)), .int (nI a1), .ref (adC 0)]) (by simp only [nI_add]) (by simp only [nI_add]) ?_
  refine g_sld X hX hbl hbA hN (v := xs (6 * k + 3)) (by omega) rfl dL_law_214 ?_
  refine g_run X KL_law_215_3 KL_law_215_3_d 216 [(0, .ref b), (1, .ref (adC 0)), (2, .ref (adM 0)), (3, .ref ao), (4, .int (nI (6 * k)))] [.long ((xs (6 * k + 3)).toInt64), .long (((xs (6 * k + 2)).toInt64) <<< ((nI 32).toInt64 &&& 63)), .int (nI a1), .ref (adC 0)] rfl ?_
  refine g_ldc2 X (v := (4294967295 : Int64)) w_1562 dL_law_216 ?_
  refine g_run X KL_law_219_4 KL_law_219_4_d 221 [(0, .ref b), (1, .ref (adC 0)), (2, .ref (adM 0)), (3, .ref ao), (4, .int (nI (6 * k)))] [.long ((((xs (6 * k + 2)).toInt64) <<< ((nI 32).toInt64 &&& 63)) ||| (((xs (6 * k + 3)).toInt64) &&& (4294967295 : Int64))), .int (nI a1), .ref (adC 0)] rfl ?_
  refine g_st (st' := [.long (lg2 (xs (6 * k + 2)) (xs (6 * k + 3))), .int (nI a1), .ref (adC 0)]) (rfl) ?_
  refine g_run X KL_law_221_5 KL_law_221_5_d 222 [(0, .ref b), (1, .ref (adC 0)), (2, .ref (adM 0)), (3, .ref ao), (4, .int (nI (6 * k)))] [.ref ao, .long (lg2 (xs (6 * k + 2)) (xs (6 * k + 3))), .int (nI a1), .ref (adC 0)] rfl ?_
  refine g_callSW X hSB hAf hNC (As := [.ref (adC 0), .int (nI a1), .long (lg2 (xs (6 * k + 2)) (xs (6 * k + 3))), .ref ao]) (wr := WM adM g I L S Z Y) (n := 4) (hx_write_2 l hfl D g adC I L S a1 (lg2 (xs (6 * k + 2)) (xs (6 * k + 3))) ao on ov (by first | assumption | omega) (hnd)) rfl w_498 w_496 w_497 w_0 (by decide +kernel) rfl ⟨Nat.le_of_ble_eq_true rfl, Nat.le_of_ble_eq_true rfl⟩ rfl rfl rfl (Nat.le_of_ble_eq_true rfl) ⟨by show cells + 1 ≤ 600002; omega, by show slots + 6 ≤ 7302232; omega⟩ dL_law_222 (fun hu1 _ => ?_)
  refine g_af (ws' := (WC adC g I L S ++ ([OUT ao on ov] : va_W)) ++ WM adM g I L S Z Y) (st' := [.int (nI 2)]) (cells' := cells + 1) (slots' := slots + 6) (pc' := 225) rfl rfl rfl rfl rfl ?_
  refine g_run X KL_law_225_6 KL_law_225_6_d 233 [(5, .int (nI 2)), (0, .ref b), (1, .ref (adC 0)), (2, .ref (adM 0)), (3, .ref ao), (4, .int (nI (6 * k)))] [.int ((nI (6 * k)) + (nI 1)), .ref b, .ref (adM 0)] rfl ?_
  refine g_nm (lv' := [(5, .int (nI 2)), (0, .ref b), (1, .ref (adC 0)), (2, .ref (adM 0)), (3, .ref ao), (4, .int (nI (6 * k)))]) (st' := [.int (nI ((6 * k) + 1)), .ref b, .ref (adM 0)]) (by simp only [nI_add]) (by simp only [nI_add]) ?_
  refine g_sld X hX hbl hbA hN (v := nI a1) (by omega) e1 dL_law_233 ?_
  refine g_run X KL_law_234_7 KL_law_234_7_d 239 [(5, .int (nI 2)), (0, .ref b), (1, .ref (adC 0)), (2, .ref (adM 0)), (3, .ref ao), (4, .int (nI (6 * k)))] [.int ((nI (6 * k)) + (nI 2)), .ref b, .int (nI a1), .ref (adM 0)] rfl ?_
  refine g_nm (lv' := [(5, .int (nI 2)), (0, .ref b), (1, .ref (adC 0)), (2, .ref (adM 0)), (3, .ref ao), (4, .int (nI (6 * k)))]) (st' := [.int (nI ((6 * k) + 2)), .ref b, .int (nI a1), .ref (adM 0)]) (by simp only [nI_add]) (by simp only [nI_add]) ?_
  refine g_sld X hX hbl hbA hN (v := xs (6 * k + 2)) (by omega) rfl dL_law_239 ?_
  refine g_run X KL_law_240_8 KL_law_240_8_d 249 [(5, .int (nI 2)), (0, .ref b), (1, .ref (adC 0)), (2, .ref (adM 0)), (3, .ref ao), (4, .int (nI (6 * k)))] [.int ((nI (6 * k)) + (nI 3)), .ref b, .long (((xs (6 * k + 2)).toInt64) <<< ((nI 32).toInt64 &&& 63)), .int (nI a1), .ref (adM 0)] rfl ?_
  refine g_nm (lv' := [(5, .int (nI 2)), (0, .ref b), (1, .ref (adC 0)), (2, .ref (adM 0)), (3, .ref ao), (4, .int (nI (6 * k)))]) (st' := [.int (nI ((6 * k) + 3)), .ref b, .long (((xs (6 * k + 2)).toInt64) <<< ((nI 32).toInt64 &&& 63)), .int (nI a1), .ref (adM 0)]) (by simp only [nI_add]) (by simp only [nI_add]) ?_
  refine g_sld X hX hbl hbA hN (v := xs (6 * k + 3)) (by omega) rfl dL_law_249 ?_
  refine g_run X KL_law_250_9 KL_law_250_9_d 251 [(5, .int (nI 2)), (0, .ref b), (1, .ref (adC 0)), (2, .ref (adM 0)), (3, .ref ao), (4, .int (nI (6 * k)))] [.long ((xs (6 * k + 3)).toInt64), .long (((xs (6 * k + 2)).toInt64) <<< ((nI 32).toInt64 &&& 63)), .int (nI a1), .ref (adM 0)] rfl ?_
  refine g_ldc2 X (v := (4294967295 : Int64)) w_1562 dL_law_251 ?_
  refine g_run X KL_law_254_10 KL_law_254_10_d 256 [(5, .int (nI 2)), (0, .ref b), (1, .ref (adC 0)), (2, .ref (adM 0)), (3, .ref ao), (4, .int (nI (6 * k)))] [.long ((((xs (6 * k + 2)).toInt64) <<< ((nI 32).toInt64 &&& 63)) ||| (((xs (6 * k + 3)).toInt64) &&& (4294967295 : Int64))), .int (nI a1), .ref (adM 0)] rfl ?_
  refine g_st (st' := [.long (lg2 (xs (6 * k + 2)) (xs (6 * k + 3))), .int (nI a1), .ref (adM 0)]) (rfl) ?_
  refine g_perm (ws' := WM adM g I L S Z Y ++ (WC adC g I L S ++ ([OUT ao on ov] : va_W))) (List.perm_append_comm (l₁ := WM adM g I L S Z Y) (l₂ := (WC adC g I L S ++ ([OUT ao on ov] : va_W)))) ?_
  refine g_callV X hSB hAf srcW (hrc1 := (rfl : CL[8]? = some _)) (wm_mem (k := 0) (by decide)) rfl (As := [.int (nI a1), .long (lg2 (xs (6 * k + 2)) (xs (6 * k + 3)))]) (wr := WC adC g I L S ++ ([OUT ao on ov] : va_W)) (n := 2) (c_X9_write__2 l D g adM I L S Z Y a1 (lg2 (xs (6 * k + 2)) (xs (6 * k + 3))) (by first | assumption | omega) (hnd)) rfl srcN hrdN w_1254 w_1251 w_1252 w_1253 w_6 (by decide +kernel) rfl ⟨Nat.le_of_ble_eq_true rfl, Nat.le_of_ble_eq_true rfl⟩ rfl rfl rfl (Nat.le_of_ble_eq_true rfl) ⟨by show cells + 1 + 0 ≤ 600002; omega, by show slots + 6 + 0 ≤ 7302232; omega⟩ dL_law_256 (fun hu2 hp_hu2 => ?_)
  refine g_af (ws' := WM adM g I L S (u2 (u2 Z 3 0 (nI 0)) 3 0 (nI 2)) Y ++ (WC adC g I L S ++ ([OUT ao on ov] : va_W))) (st' := [.int (nI 0)]) (cells' := cells + 1 + 0) (slots' := slots + 6 + 0) (pc' := 259) rfl rfl rfl rfl rfl ?_
  refine g_run X KL_law_259_11 KL_law_259_11_d 262 [(6, .int (nI 0)), (5, .int (nI 2)), (0, .ref b), (1, .ref (adC 0)), (2, .ref (adM 0)), (3, .ref ao), (4, .int (nI (6 * k)))] [.ref (adM 0)] rfl ?_
  refine g_callV X hSB hAf srcW (hrc1 := (rfl : CL[8]? = some _)) (wm_mem (k := 0) (by decide)) rfl (As := []) (wr := WC adC g I L S ++ ([OUT ao on ov] : va_W)) (n := 0) (c_X9_thrown l D g adM I L S (u2 (u2 Z 3 0 (nI 0)) 3 0 (nI 2)) Y ) rfl srcN hrdN w_1250 w_1247 w_1248 w_1249 w_6 (by decide +kernel) rfl ⟨Nat.le_of_ble_eq_true rfl, Nat.le_of_ble_eq_true rfl⟩ rfl rfl rfl (Nat.le_of_ble_eq_true rfl) ⟨by show cells + 1 + 0 + 0 ≤ 600002; omega, by show slots + 6 + 0 + 0 ≤ 7302232; omega⟩ dL_law_262 (fun hu3 hp_hu3 => ?_)
  refine g_af (ws' := WM adM g I L S (u2 (u2 Z 3 0 (nI 0)) 3 0 (nI 2)) Y ++ (WC adC g I L S ++ ([OUT ao on ov] : va_W))) (st' := [.int ((u2 (u2 Z 3 0 (nI 0)) 3 0 (nI 2)) 3 0)]) (cells' := cells + 1 + 0 + 0) (slots' := slots + 6 + 0 + 0) (pc' := 265) rfl rfl rfl rfl rfl ?_
  refine g_st (st' := [.int (nI 2)]) (by first | rfl | (simp [z4, u2]; done)) ?_
  refine g_run X KL_law_265_12 KL_law_265_12_d 267 [(6, .int (nI 0)), (5, .int (nI 2)), (0, .ref b), (1, .ref (adC 0)), (2, .ref (adM 0)), (3, .ref ao), (4, .int (nI (6 * k)))] [.int (nI 2), .int (nI 2)] rfl ?_
  refine g_icmp_eq X 272 dL_law_267 (by decide) (fun hc4 => ?_) (fun hc4 => ?_)
  · refine g_run X KL_law_272_13 KL_law_272_13_d 274 [(6, .int (nI 0)), (5, .int (nI 2)), (0, .ref b), (1, .ref (adC 0)), (2, .ref (adM 0)), (3, .ref ao), (4, .int (nI (6 * k)))] [.int (nI 2)] rfl ?_
    refine g_if_ne X 290 dL_law_274 (by decide) (fun hc5 => ?_) (fun hc5 => ?_)
    · refine g_run X KL_law_290_16 KL_law_290_16_d 2256 [(6, .int (nI 0)), (5, .int (nI 2)), (0, .ref b), (1, .ref (adC 0)), (2, .ref (adM 0)), (3, .ref ao), (4, .int (nI (6 * k)))] [] rfl ?_
      refine g_lv (lv' := [(0, .ref b), (1, .ref (adC 0)), (2, .ref (adM 0)), (3, .ref ao), (4, .int (nI (6 * k)))]) (lsub_c 2 rfl (lsub_c 3 rfl (lsub_c 4 rfl (lsub_c 5 rfl (lsub_c 6 rfl (lsub_n)))))) ?_
      refine g_perm (ws' := (WC adC g I L S ++ ([OUT ao on ov] : va_W)) ++ WM adM g I L S (u2 (u2 Z 3 0 (nI 0)) 3 0 (nI 2)) Y) (List.perm_append_comm (l₁ := (WC adC g I L S ++ ([OUT ao on ov] : va_W))) (l₂ := WM adM g I L S (u2 (u2 Z 3 0 (nI 0)) 3 0 (nI 2)) Y)) ?_
      refine g_widen (k := cells + 60) (n := slots + 1200) (by omega) (by omega) ?_
      exact kk I L S n (u2 (u2 Z 3 0 (nI 0)) 3 0 (nI 2)) Y R on ov (hI) (hR) (by first | exact hZ | (rw [zrow]; exact hZ) | (rw [zrow, zrow]; exact hZ))
    · rw [nz_eq (by omega)] at hc5; first | omega | (simp at hc5)
  · rw [nI_eq (by omega) (by omega)] at hc4; first | omega | (simp at hc4)

set_option maxHeartbeats 4000000 in
set_option maxRecDepth 100000 in
theorem lq0_1 {p : Program} {l : Launch} {e : Env} {s : State} {m : MethodId} {below : List Frame} {meth : Method} {c : Code} {Q : State → Prop} {D : va_G} {A : Nat → Prop} {b N : Nat} {xs : Nat → Int32} {adC adM : Nat → Nat} {g : Nat → ClassId} {ao k cells slots : Nat} {I : Nat → Nat → Int32} {L : Nat → Nat → Int64} {S : Nat → Nat} {n : Nat} {Z : Nat → Nat → Int32} {Y : Int64} {R : Nat → Nat} {on : Int64} {ov : Value} (HX : LX p l s m meth c A b N xs) (hk : 6 * k + 6 ≤ N) (hroom : cells + 60 ≤ 600002 ∧ slots + 1200 ≤ 7302232) (hI : Inv I L S n) (hR : R16 R) (hZ : Z 0 = fun j => nI (R j)) (hw : (xs (6 * k + 1)).toInt < (0 : Nat) ∨ ((16 : Nat) : Int) ≤ (xs (6 * k + 1)).toInt) (kk : LK p l e s m below meth c Q D A b adC adM g ao k cells slots 2256) : GL p l e room_1 s m #[.ref b] below meth c Q D CL (TYS g) A 9 (WL adC adM g ao I L S Z Y on ov) cells slots 192 [(0, .ref b), (1, .ref (adC 0)), (2, .ref (adM 0)), (3, .ref ao), (4, .int (nI (6 * k)))] [] := by
  obtain ⟨X, hSB, hAf, hNC, hfl, hX, hbl, hbA, hN⟩ := HX
  refine g_run X KL_law_192_0 KL_law_192_0_d 198 [(0, .ref b), (1, .ref (adC 0)), (2, .ref (adM 0)), (3, .ref ao), (4, .int (nI (6 * k)))] [.int ((nI (6 * k)) + (nI 1)), .ref b, .ref (adC 0)] rfl ?_
  refine g_nm (lv' := [(0, .ref b), (1, .ref (adC 0)), (2, .ref (adM 0)), (3, .ref ao), (4, .int (nI (6 * k)))]) (st' := [.int (nI ((6 * k) + 1)), .ref b, .ref (adC 0)]) (by simp only [nI_add]) (by simp only [nI_add]) ?_
  refine g_sld X hX hbl hbA hN (v := xs (6 * k + 1)) (by omega) rfl dL_law_198 ?_
  refine g_run X KL_law_199_1 KL_law_199_1_d 204 [(0, .ref b), (1, .ref (adC 0)), (2, .ref (adM 0)), (3, .ref ao), (4, .int (nI (6 * k)))] [.int ((nI (6 * k)) + (nI 2)), .ref b, .int (xs (6 * k + 1)), .ref (adC 0)] rfl ?_
  refine g_nm (lv' := [(0, .ref b), (1, .ref (adC 0)), (2, .ref (adM 0)), (3, .ref ao), (4, .int (nI (6 * k)))]) (st' := [.int (nI ((6 * k) + 2)), .ref b, .int (xs (6 * k + 1)), .ref (adC 0)]) (by simp only [nI_add]) (by simp only [nI_add]) ?_
  refine g_sld X hX hbl hbA hN (v := xs (6 * k + 2)) (by omega) rfl dL_law_204 ?_
  refine g_run X KL_law_205_2 KL_law_205_2_d 214 [(0, .ref b), (1, .ref (adC 0)), (2, .ref (adM 0)), (3, .ref ao), (4, .int (nI (6 * k)))] [.int ((nI (6 * k)) + (nI 3)), .ref b, .long (((xs (6 * k + 2)).toInt64) <<< ((nI 32).toInt64 &&& 63)), .int (xs (6 * k + 1)), .ref (adC 0)] rfl ?_
  refine g_nm (lv' := [(0, .ref b), (1, .ref (adC 0)), (2, .ref (adM 0)), (3, .ref ao), (4, .int (nI (6 * k)))]) (st' := [.int (nI ((6 * k) + 3)), .ref b, .long (((xs (6 * k + 2)).toInt64) <<< ((nI 32).toInt64 &&& 63)), .int (xs (6 * k + 1)), .ref (adC 0)]) (by simp only [nI_add]) (by simp only [nI_add]) ?_
  refine g_sld X hX hbl hbA hN (v := xs (6 * k + 3)) (by omega) rfl dL_law_214 ?_
  refine g_run X KL_law_215_3 KL_law_215_3_d 216 [(0, .ref b), (1, .ref (adC 0)), (2, .ref (adM 0)), (3, .ref ao), (4, .int (nI (6 * k)))] [.long ((xs (6 * k + 3)).toInt64), .long (((xs (6 * k + 2)).toInt64) <<< ((nI 32).toInt64 &&& 63)), .int (xs (6 * k + 1)), .ref (adC 0)] rfl ?_
  refine g_ldc2 X (v := (4294967295 : Int64)) w_1562 dL_law_216 ?_
  refine g_run X KL_law_219_4 KL_law_219_4_d 221 [(0, .ref b), (1, .ref (adC 0)), (2, .ref (adM 0)), (3, .ref ao), (4, .int (nI (6 * k)))] [.long ((((xs (6 * k + 2)).toInt64) <<< ((nI 32).toInt64 &&& 63)) ||| (((xs (6 * k + 3)).toInt64) &&& (4294967295 : Int64))), .int (xs (6 * k + 1)), .ref (adC 0)] rfl ?_
  refine g_st (st' := [.long (lg2 (xs (6 * k + 2)) (xs (6 * k + 3))), .int (xs (6 * k + 1)), .ref (adC 0)]) (rfl) ?_
  refine g_run X KL_law_221_5 KL_law_221_5_d 222 [(0, .ref b), (1, .ref (adC 0)), (2, .ref (adM 0)), (3, .ref ao), (4, .int (nI (6 * k)))] [.ref ao, .long (lg2 (xs (6 * k + 2)) (xs (6 * k + 3))), .int (xs (6 * k + 1)), .ref (adC 0)] rfl ?_
  refine g_callSW X hSB hAf hNC (As := [.ref (adC 0), .int (xs (6 * k + 1)), .long (lg2 (xs (6 * k + 2)) (xs (6 * k + 3))), .ref ao]) (wr := WM adM g I L S Z Y) (n := 4) (hx_write_1 l hfl D g adC I L S (xs (6 * k + 1)) (lg2 (xs (6 * k + 2)) (xs (6 * k + 3))) ao on ov (out_lt (by decide) hw)) rfl w_498 w_496 w_497 w_0 (by decide +kernel) rfl ⟨Nat.le_of_ble_eq_true rfl, Nat.le_of_ble_eq_true rfl⟩ rfl rfl rfl (Nat.le_of_ble_eq_true rfl) ⟨by show cells + 1 ≤ 600002; omega, by show slots + 6 ≤ 7302232; omega⟩ dL_law_222 (fun hu1 _ => ?_)
  refine g_af (ws' := (WC adC g I L S ++ ([OUT ao on ov] : va_W)) ++ WM adM g I L S Z Y) (st' := [.int (nI 1)]) (cells' := cells + 1) (slots' := slots + 6) (pc' := 225) rfl rfl rfl rfl rfl ?_
  refine g_run X KL_law_225_6 KL_law_225_6_d 233 [(5, .int (nI 1)), (0, .ref b), (1, .ref (adC 0)), (2, .ref (adM 0)), (3, .ref ao), (4, .int (nI (6 * k)))] [.int ((nI (6 * k)) + (nI 1)), .ref b, .ref (adM 0)] rfl ?_
  refine g_nm (lv' := [(5, .int (nI 1)), (0, .ref b), (1, .ref (adC 0)), (2, .ref (adM 0)), (3, .ref ao), (4, .int (nI (6 * k)))]) (st' := [.int (nI ((6 * k) + 1)), .ref b, .ref (adM 0)]) (by simp only [nI_add]) (by simp only [nI_add]) ?_
  refine g_sld X hX hbl hbA hN (v := xs (6 * k + 1)) (by omega) rfl dL_law_233 ?_
  refine g_run X KL_law_234_7 KL_law_234_7_d 239 [(5, .int (nI 1)), (0, .ref b), (1, .ref (adC 0)), (2, .ref (adM 0)), (3, .ref ao), (4, .int (nI (6 * k)))] [.int ((nI (6 * k)) + (nI 2)), .ref b, .int (xs (6 * k + 1)), .ref (adM 0)] rfl ?_
  refine g_nm (lv' := [(5, .int (nI 1)), (0, .ref b), (1, .ref (adC 0)), (2, .ref (adM 0)), (3, .ref ao), (4, .int (nI (6 * k)))]) (st' := [.int (nI ((6 * k) + 2)), .ref b, .int (xs (6 * k + 1)), .ref (adM 0)]) (by simp only [nI_add]) (by simp only [nI_add]) ?_
  refine g_sld X hX hbl hbA hN (v := xs (6 * k + 2)) (by omega) rfl dL_law_239 ?_
  refine g_run X KL_law_240_8 KL_law_240_8_d 249 [(5, .int (nI 1)), (0, .ref b), (1, .ref (adC 0)), (2, .ref (adM 0)), (3, .ref ao), (4, .int (nI (6 * k)))] [.int ((nI (6 * k)) + (nI 3)), .ref b, .long (((xs (6 * k + 2)).toInt64) <<< ((nI 32).toInt64 &&& 63)), .int (xs (6 * k + 1)), .ref (adM 0)] rfl ?_
  refine g_nm (lv' := [(5, .int (nI 1)), (0, .ref b), (1, .ref (adC 0)), (2, .ref (adM 0)), (3, .ref ao), (4, .int (nI (6 * k)))]) (st' := [.int (nI ((6 * k) + 3)), .ref b, .long (((xs (6 * k + 2)).toInt64) <<< ((nI 32).toInt64 &&& 63)), .int (xs (6 * k + 1)), .ref (adM 0)]) (by simp only [nI_add]) (by simp only [nI_add]) ?_
  refine g_sld X hX hbl hbA hN (v := xs (6 * k + 3)) (by omega) rfl dL_law_249 ?_
  refine g_run X KL_law_250_9 KL_law_250_9_d 251 [(5, .int (nI 1)), (0, .ref b), (1, .ref (adC 0)), (2, .ref (adM 0)), (3, .ref ao), (4, .int (nI (6 * k)))] [.long ((xs (6 * k + 3)).toInt64), .long (((xs (6 * k + 2)).toInt64) <<< ((nI 32).toInt64 &&& 63)), .int (xs (6 * k + 1)), .ref (adM 0)] rfl ?_
  refine g_ldc2 X (v := (4294967295 : Int64)) w_1562 dL_law_251 ?_
  refine g_run X KL_law_254_10 KL_law_254_10_d 256 [(5, .int (nI 1)), (0, .ref b), (1, .ref (adC 0)), (2, .ref (adM 0)), (3, .ref ao), (4, .int (nI (6 * k)))] [.long ((((xs (6 * k + 2)).toInt64) <<< ((nI 32).toInt64 &&& 63)) ||| (((xs (6 * k + 3)).toInt64) &&& (4294967295 : Int64))), .int (xs (6 * k + 1)), .ref (adM 0)] rfl ?_
  refine g_st (st' := [.long (lg2 (xs (6 * k + 2)) (xs (6 * k + 3))), .int (xs (6 * k + 1)), .ref (adM 0)]) (rfl) ?_
  refine g_perm (ws' := WM adM g I L S Z Y ++ (WC adC g I L S ++ ([OUT ao on ov] : va_W))) (List.perm_append_comm (l₁ := WM adM g I L S Z Y) (l₂ := (WC adC g I L S ++ ([OUT ao on ov] : va_W)))) ?_
  refine g_callV X hSB hAf srcW (hrc1 := (rfl : CL[8]? = some _)) (wm_mem (k := 0) (by decide)) rfl (As := [.int (xs (6 * k + 1)), .long (lg2 (xs (6 * k + 2)) (xs (6 * k + 3)))]) (wr := WC adC g I L S ++ ([OUT ao on ov] : va_W)) (n := 2) (c_X9_write__1 l D g adM I L S Z Y (xs (6 * k + 1)) (lg2 (xs (6 * k + 2)) (xs (6 * k + 3))) (out_le (by decide) hw)) rfl srcN hrdN w_1254 w_1251 w_1252 w_1253 w_6 (by decide +kernel) rfl ⟨Nat.le_of_ble_eq_true rfl, Nat.le_of_ble_eq_true rfl⟩ rfl rfl rfl (Nat.le_of_ble_eq_true rfl) ⟨by show cells + 1 + 0 ≤ 600002; omega, by show slots + 6 + 0 ≤ 7302232; omega⟩ dL_law_256 (fun hu2 hp_hu2 => ?_)
  refine g_af (ws' := WM adM g I L S (u2 (u2 Z 3 0 (nI 0)) 3 0 (nI 1)) Y ++ (WC adC g I L S ++ ([OUT ao on ov] : va_W))) (st' := [.int (nI 0)]) (cells' := cells + 1 + 0) (slots' := slots + 6 + 0) (pc' := 259) rfl rfl rfl rfl rfl ?_
  refine g_run X KL_law_259_11 KL_law_259_11_d 262 [(6, .int (nI 0)), (5, .int (nI 1)), (0, .ref b), (1, .ref (adC 0)), (2, .ref (adM 0)), (3, .ref ao), (4, .int (nI (6 * k)))] [.ref (adM 0)] rfl ?_
  refine g_callV X hSB hAf srcW (hrc1 := (rfl : CL[8]? = some _)) (wm_mem (k := 0) (by decide)) rfl (As := []) (wr := WC adC g I L S ++ ([OUT ao on ov] : va_W)) (n := 0) (c_X9_thrown l D g adM I L S (u2 (u2 Z 3 0 (nI 0)) 3 0 (nI 1)) Y ) rfl srcN hrdN w_1250 w_1247 w_1248 w_1249 w_6 (by decide +kernel) rfl ⟨Nat.le_of_ble_eq_true rfl, Nat.le_of_ble_eq_true rfl⟩ rfl rfl rfl (Nat.le_of_ble_eq_true rfl) ⟨by show cells + 1 + 0 + 0 ≤ 600002; omega, by show slots + 6 + 0 + 0 ≤ 7302232; omega⟩ dL_law_262 (fun hu3 hp_hu3 => ?_)
  refine g_af (ws' := WM adM g I L S (u2 (u2 Z 3 0 (nI 0)) 3 0 (nI 1)) Y ++ (WC adC g I L S ++ ([OUT ao on ov] : va_W))) (st' := [.int ((u2 (u2 Z 3 0 (nI 0)) 3 0 (nI 1)) 3 0)]) (cells' := cells + 1 + 0 + 0) (slots' := slots + 6 + 0 + 0) (pc' := 265) rfl rfl rfl rfl rfl ?_
  refine g_st (st' := [.int (nI 1)]) (by first | rfl | (simp [z4, u2]; done)) ?_
  refine g_run X KL_law_265_12 KL_law_265_12_d 267 [(6, .int (nI 0)), (5, .int (nI 1)), (0, .ref b), (1, .ref (adC 0)), (2, .ref (adM 0)), (3, .ref ao), (4, .int (nI (6 * k)))] [.int (nI 1), .int (nI 1)] rfl ?_
  refine g_icmp_eq X 272 dL_law_267 (by decide) (fun hc4 => ?_) (fun hc4 => ?_)
  · refine g_run X KL_law_272_13 KL_law_272_13_d 274 [(6, .int (nI 0)), (5, .int (nI 1)), (0, .ref b), (1, .ref (adC 0)), (2, .ref (adM 0)), (3, .ref ao), (4, .int (nI (6 * k)))] [.int (nI 1)] rfl ?_
    refine g_if_ne X 290 dL_law_274 (by decide) (fun hc5 => ?_) (fun hc5 => ?_)
    · refine g_run X KL_law_290_16 KL_law_290_16_d 2256 [(6, .int (nI 0)), (5, .int (nI 1)), (0, .ref b), (1, .ref (adC 0)), (2, .ref (adM 0)), (3, .ref ao), (4, .int (nI (6 * k)))] [] rfl ?_
      refine g_lv (lv' := [(0, .ref b), (1, .ref (adC 0)), (2, .ref (adM 0)), (3, .ref ao), (4, .int (nI (6 * k)))]) (lsub_c 2 rfl (lsub_c 3 rfl (lsub_c 4 rfl (lsub_c 5 rfl (lsub_c 6 rfl (lsub_n)))))) ?_
      refine g_perm (ws' := (WC adC g I L S ++ ([OUT ao on ov] : va_W)) ++ WM adM g I L S (u2 (u2 Z 3 0 (nI 0)) 3 0 (nI 1)) Y) (List.perm_append_comm (l₁ := (WC adC g I L S ++ ([OUT ao on ov] : va_W))) (l₂ := WM adM g I L S (u2 (u2 Z 3 0 (nI 0)) 3 0 (nI 1)) Y)) ?_
      refine g_widen (k := cells + 60) (n := slots + 1200) (by omega) (by omega) ?_
      exact kk I L S n (u2 (u2 Z 3 0 (nI 0)) 3 0 (nI 1)) Y R on ov (hI) (hR) (by first | exact hZ | (rw [zrow]; exact hZ) | (rw [zrow, zrow]; exact hZ))
    · rw [nz_eq (by omega)] at hc5; first | omega | (simp at hc5)
  · rw [nI_eq (by omega) (by omega)] at hc4; first | omega | (simp at hc4)

theorem lq0 {p : Program} {l : Launch} {e : Env} {s : State} {m : MethodId} {below : List Frame} {meth : Method} {c : Code} {Q : State → Prop} {D : va_G} {A : Nat → Prop} {b N : Nat} {xs : Nat → Int32} {adC adM : Nat → Nat} {g : Nat → ClassId} {ao k cells slots : Nat} {I : Nat → Nat → Int32} {L : Nat → Nat → Int64} {S : Nat → Nat} {n : Nat} {Z : Nat → Nat → Int32} {Y : Int64} {R : Nat → Nat} {on : Int64} {ov : Value} (HX : LX p l s m meth c A b N xs) (hk : 6 * k + 6 ≤ N) (hroom : cells + 60 ≤ 600002 ∧ slots + 1200 ≤ 7302232) (hI : Inv I L S n) (hR : R16 R) (hZ : Z 0 = fun j => nI (R j)) (kk : LK p l e s m below meth c Q D A b adC adM g ao k cells slots 2256) : GL p l e room_1 s m #[.ref b] below meth c Q D CL (TYS g) A 9 (WL adC adM g ao I L S Z Y on ov) cells slots 192 [(0, .ref b), (1, .ref (adC 0)), (2, .ref (adM 0)), (3, .ref ao), (4, .int (nI (6 * k)))] [] := by
  rcases rg (xs (6 * k + 1)) 0 16 with ⟨a1, hl1, hu1, e1⟩ | hw
  · rcases em_d (lg2 (xs (6 * k + 2)) (xs (6 * k + 3))) with ⟨dd, hdd, ed⟩ | hnd
    · exact lq0_0 HX hk hroom hI hR hZ  a1 hl1 hu1 e1 dd hdd ed kk
    · exact lq0_2 HX hk hroom hI hR hZ  a1 hl1 hu1 e1 hnd kk
  · exact lq0_1 HX hk hroom hI hR hZ  hw kk

def KL_law_293_17 : List (Nat × Instr × Nat) := [(293, .aload_n 1, 1), (294, .aload_n 0, 1), (295, .iload 4, 2), (297, .iconst 1, 1), (298, .iadd, 1)]
theorem KL_law_293_17_d : ∀ z ∈ KL_law_293_17, decode cL_law z.1 = .ok z.2 := by decide +kernel
def KL_law_300_18 : List (Nat × Instr × Nat) := [(300, .aload_n 0, 1), (301, .iload 4, 2), (303, .iconst 2, 1), (304, .iadd, 1)]
theorem KL_law_300_18_d : ∀ z ∈ KL_law_300_18, decode cL_law z.1 = .ok z.2 := by decide +kernel
def KL_law_306_19 : List (Nat × Instr × Nat) := [(306, .aload_n 0, 1), (307, .iload 4, 2), (309, .iconst 3, 1), (310, .iadd, 1)]
theorem KL_law_306_19_d : ∀ z ∈ KL_law_306_19, decode cL_law z.1 = .ok z.2 := by decide +kernel
def KL_law_312_20 : List (Nat × Instr × Nat) := [(312, .aload_n 0, 1), (313, .iload 4, 2), (315, .iconst 4, 1), (316, .iadd, 1)]
theorem KL_law_312_20_d : ∀ z ∈ KL_law_312_20, decode cL_law z.1 = .ok z.2 := by decide +kernel
def KL_law_318_21 : List (Nat × Instr × Nat) := [(318, .aload_n 3, 1)]
theorem KL_law_318_21_d : ∀ z ∈ KL_law_318_21, decode cL_law z.1 = .ok z.2 := by decide +kernel
def KL_law_322_22 : List (Nat × Instr × Nat) := [(322, .istore 5, 2), (324, .aload_n 2, 1), (325, .aload_n 0, 1), (326, .iload 4, 2), (328, .iconst 1, 1), (329, .iadd, 1)]
theorem KL_law_322_22_d : ∀ z ∈ KL_law_322_22, decode cL_law z.1 = .ok z.2 := by decide +kernel
def KL_law_331_23 : List (Nat × Instr × Nat) := [(331, .aload_n 0, 1), (332, .iload 4, 2), (334, .iconst 2, 1), (335, .iadd, 1)]
theorem KL_law_331_23_d : ∀ z ∈ KL_law_331_23, decode cL_law z.1 = .ok z.2 := by decide +kernel
def KL_law_337_24 : List (Nat × Instr × Nat) := [(337, .aload_n 0, 1), (338, .iload 4, 2), (340, .iconst 3, 1), (341, .iadd, 1)]
theorem KL_law_337_24_d : ∀ z ∈ KL_law_337_24, decode cL_law z.1 = .ok z.2 := by decide +kernel
def KL_law_343_25 : List (Nat × Instr × Nat) := [(343, .aload_n 0, 1), (344, .iload 4, 2), (346, .iconst 4, 1), (347, .iadd, 1)]
theorem KL_law_343_25_d : ∀ z ∈ KL_law_343_25, decode cL_law z.1 = .ok z.2 := by decide +kernel
def KL_law_352_26 : List (Nat × Instr × Nat) := [(352, .istore 6, 2), (354, .aload_n 2, 1)]
theorem KL_law_352_26_d : ∀ z ∈ KL_law_352_26, decode cL_law z.1 = .ok z.2 := by decide +kernel
def KL_law_358_27 : List (Nat × Instr × Nat) := [(358, .iload 5, 2)]
theorem KL_law_358_27_d : ∀ z ∈ KL_law_358_27, decode cL_law z.1 = .ok z.2 := by decide +kernel
def KL_law_365_28 : List (Nat × Instr × Nat) := [(365, .iload 5, 2)]
theorem KL_law_365_28_d : ∀ z ∈ KL_law_365_28, decode cL_law z.1 = .ok z.2 := by decide +kernel
def KL_law_370_29 : List (Nat × Instr × Nat) := [(370, .aload_n 3, 1)]
theorem KL_law_370_29_d : ∀ z ∈ KL_law_370_29, decode cL_law z.1 = .ok z.2 := by decide +kernel
def KL_law_374_30 : List (Nat × Instr × Nat) := [(374, .iload 6, 2), (376, .i2l, 1), (377, .lcmp, 1)]
theorem KL_law_374_30_d : ∀ z ∈ KL_law_374_30, decode cL_law z.1 = .ok z.2 := by decide +kernel
def KL_law_383_31 : List (Nat × Instr × Nat) := [(383, .goto 1873, 3)]
theorem KL_law_383_31_d : ∀ z ∈ KL_law_383_31, decode cL_law z.1 = .ok z.2 := by decide +kernel
set_option maxHeartbeats 4000000 in
set_option maxRecDepth 100000 in
theorem lq1_0 {p : Program} {l : Launch} {e : Env} {s : State} {m : MethodId} {below : List Frame} {meth : Method} {c : Code} {Q : State → Prop} {D : va_G} {A : Nat → Prop} {b N : Nat} {xs : Nat → Int32} {adC adM : Nat → Nat} {g : Nat → ClassId} {ao k cells slots : Nat} {I : Nat → Nat → Int32} {L : Nat → Nat → Int64} {S : Nat → Nat} {n : Nat} {Z : Nat → Nat → Int32} {Y : Int64} {R : Nat → Nat} {on : Int64} {ov : Value} (HX : LX p l s m meth c A b N xs) (hk : 6 * k + 6 ≤ N) (hroom : cells + 60 ≤ 600002 ∧ slots + 1200 ≤ 7302232) (hI : Inv I L S n) (hR : R16 R) (hZ : Z 0 = fun j => nI (R j)) (a1 : Nat) (hl1 : 0 ≤ a1) (hu1 : a1 < 18) (e1 : xs (6 * k + 1) = nI a1) (a2 : Nat) (hl2 : 0 ≤ a2) (hu2 : a2 < 16) (e2 : xs (6 * k + 2) = nI a2) (a3 : Nat) (hl3 : 0 ≤ a3) (hu3 : a3 < 16) (e3 : xs (6 * k + 3) = nI a3) (a4 : Nat) (hl4 : 0 ≤ a4) (hu4 : a4 < 16) (e4 : xs (6 * k + 4) = nI a4) (kk : LK p l e s m below meth c Q D A b adC adM g ao k cells slots 2256) : GL p l e room_1 s m #[.ref b] below meth c Q D CL (TYS g) A 9 (WL adC adM g ao I L S Z Y on ov) cells slots 293 [(0, .ref b), (1, .ref (adC 0)), (2, .ref (adM 0)), (3, .ref ao), (4, .int (nI (6 * k)))] [] := by
  obtain ⟨X, hSB, hAf, hNC, hfl, hX, hbl, hbA, hN⟩ := HX
  refine g_run X KL_law_293_17 KL_law_293_17_d 299 [(0, .ref b), (1, .ref (adC 0)), (2, .ref (adM 0)), (3, .ref ao), (4, .int (nI (6 * k)))] [.int ((nI (6 * k)) + (nI 1)), .ref b, .ref (adC 0)] rfl ?_
  refine g_nm (lv' := [(0, .ref b), (1, .ref (adC 0)), (2, .ref (adM 0)), (3, .ref ao), (4, .int (nI (6 * k)))]) (st' := [.int (nI ((6 * k) + 1)), .ref b, .ref (adC 0)]) (by simp only [nI_add]) (by simp only [nI_add]) ?_
  refine g_sld X hX hbl hbA hN (v := nI a1) (by omega) e1 dL_law_299 ?_
  refine g_run X KL_law_300_18 KL_law_300_18_d 305 [(0, .ref b), (1, .ref (adC 0)), (2, .ref (adM 0)), (3, .ref ao), (4, .int (nI (6 * k)))] [.int ((nI (6 * k)) + (nI 2)), .ref b, .int (nI a1), .ref (adC 0)] rfl ?_
  refine g_nm (lv' := [(0, .ref b), (1, .ref (adC 0)), (2, .ref (adM 0)), (3, .ref ao), (4, .int (nI (6 * k)))]) (st' := [.int (nI ((6 * k) + 2)), .ref b, .int (nI a1), .ref (adC 0)]) (by simp only [nI_add]) (by simp only [nI_add]) ?_
  refine g_sld X hX hbl hbA hN (v := nI a2) (by omega) e2 dL_law_305 ?_
  refine g_run X KL_law_306_19 KL_law_306_19_d 311 [(0, .ref b), (1, .ref (adC 0)), (2, .ref (adM 0)), (3, .ref ao), (4, .int (nI (6 * k)))] [.int ((nI (6 * k)) + (nI 3)), .ref b, .int (nI a2), .int (nI a1), .ref (adC 0)] rfl ?_
  refine g_nm (lv' := [(0, .ref b), (1, .ref (adC 0)), (2, .ref (adM 0)), (3, .ref ao), (4, .int (nI (6 * k)))]) (st' := [.int (nI ((6 * k) + 3)), .ref b, .int (nI a2), .int (nI a1), .ref (adC 0)]) (by simp only [nI_add]) (by simp only [nI_add]) ?_
  refine g_sld X hX hbl hbA hN (v := nI a3) (by omega) e3 dL_law_311 ?_
  refine g_run X KL_law_312_20 KL_law_312_20_d 317 [(0, .ref b), (1, .ref (adC 0)), (2, .ref (adM 0)), (3, .ref ao), (4, .int (nI (6 * k)))] [.int ((nI (6 * k)) + (nI 4)), .ref b, .int (nI a3), .int (nI a2), .int (nI a1), .ref (adC 0)] rfl ?_
  refine g_nm (lv' := [(0, .ref b), (1, .ref (adC 0)), (2, .ref (adM 0)), (3, .ref ao), (4, .int (nI (6 * k)))]) (st' := [.int (nI ((6 * k) + 4)), .ref b, .int (nI a3), .int (nI a2), .int (nI a1), .ref (adC 0)]) (by simp only [nI_add]) (by simp only [nI_add]) ?_
  refine g_sld X hX hbl hbA hN (v := nI a4) (by omega) e4 dL_law_317 ?_
  refine g_run X KL_law_318_21 KL_law_318_21_d 319 [(0, .ref b), (1, .ref (adC 0)), (2, .ref (adM 0)), (3, .ref ao), (4, .int (nI (6 * k)))] [.ref ao, .int (nI a4), .int (nI a3), .int (nI a2), .int (nI a1), .ref (adC 0)] rfl ?_
  refine g_callSW X hSB hAf hNC (As := [.ref (adC 0), .int (nI a1), .int (nI a2), .int (nI a3), .int (nI a4), .ref ao]) (wr := WM adM g I L S Z Y) (n := 6) (hc_stick l D g adC I L S a1 a2 a3 a4 ao on ov (by first | assumption | omega) (by first | assumption | omega) (by first | assumption | omega) (by first | assumption | omega)) rfl w_517 w_515 w_516 w_0 (by decide +kernel) rfl ⟨Nat.le_of_ble_eq_true rfl, Nat.le_of_ble_eq_true rfl⟩ rfl rfl rfl (Nat.le_of_ble_eq_true rfl) ⟨by show cells + 0 ≤ 600002; omega, by show slots + 0 ≤ 7302232; omega⟩ dL_law_319 (fun hu1 _ => ?_)
  refine g_af (ws' := (WC adC g I (u2 (u2 L 1 a1 (wn (L 1 a1) a2 a3)) 2 a1 (wn (L 2 a1) a2 a4)) S ++ ([OUT ao ((nI (stk (u2 (u2 L 1 a1 (wn (L 1 a1) a2 a3)) 2 a1 (wn (L 2 a1) a2 a4)) a1 16)).toInt64) ov] : va_W)) ++ WM adM g I L S Z Y) (st' := [.int (nI 0)]) (cells' := cells + 0) (slots' := slots + 0) (pc' := 322) rfl rfl rfl rfl rfl ?_
  refine g_run X KL_law_322_22 KL_law_322_22_d 330 [(5, .int (nI 0)), (0, .ref b), (1, .ref (adC 0)), (2, .ref (adM 0)), (3, .ref ao), (4, .int (nI (6 * k)))] [.int ((nI (6 * k)) + (nI 1)), .ref b, .ref (adM 0)] rfl ?_
  refine g_nm (lv' := [(5, .int (nI 0)), (0, .ref b), (1, .ref (adC 0)), (2, .ref (adM 0)), (3, .ref ao), (4, .int (nI (6 * k)))]) (st' := [.int (nI ((6 * k) + 1)), .ref b, .ref (adM 0)]) (by simp only [nI_add]) (by simp only [nI_add]) ?_
  refine g_sld X hX hbl hbA hN (v := nI a1) (by omega) e1 dL_law_330 ?_
  refine g_run X KL_law_331_23 KL_law_331_23_d 336 [(5, .int (nI 0)), (0, .ref b), (1, .ref (adC 0)), (2, .ref (adM 0)), (3, .ref ao), (4, .int (nI (6 * k)))] [.int ((nI (6 * k)) + (nI 2)), .ref b, .int (nI a1), .ref (adM 0)] rfl ?_
  refine g_nm (lv' := [(5, .int (nI 0)), (0, .ref b), (1, .ref (adC 0)), (2, .ref (adM 0)), (3, .ref ao), (4, .int (nI (6 * k)))]) (st' := [.int (nI ((6 * k) + 2)), .ref b, .int (nI a1), .ref (adM 0)]) (by simp only [nI_add]) (by simp only [nI_add]) ?_
  refine g_sld X hX hbl hbA hN (v := nI a2) (by omega) e2 dL_law_336 ?_
  refine g_run X KL_law_337_24 KL_law_337_24_d 342 [(5, .int (nI 0)), (0, .ref b), (1, .ref (adC 0)), (2, .ref (adM 0)), (3, .ref ao), (4, .int (nI (6 * k)))] [.int ((nI (6 * k)) + (nI 3)), .ref b, .int (nI a2), .int (nI a1), .ref (adM 0)] rfl ?_
  refine g_nm (lv' := [(5, .int (nI 0)), (0, .ref b), (1, .ref (adC 0)), (2, .ref (adM 0)), (3, .ref ao), (4, .int (nI (6 * k)))]) (st' := [.int (nI ((6 * k) + 3)), .ref b, .int (nI a2), .int (nI a1), .ref (adM 0)]) (by simp only [nI_add]) (by simp only [nI_add]) ?_
  refine g_sld X hX hbl hbA hN (v := nI a3) (by omega) e3 dL_law_342 ?_
  refine g_run X KL_law_343_25 KL_law_343_25_d 348 [(5, .int (nI 0)), (0, .ref b), (1, .ref (adC 0)), (2, .ref (adM 0)), (3, .ref ao), (4, .int (nI (6 * k)))] [.int ((nI (6 * k)) + (nI 4)), .ref b, .int (nI a3), .int (nI a2), .int (nI a1), .ref (adM 0)] rfl ?_
  refine g_nm (lv' := [(5, .int (nI 0)), (0, .ref b), (1, .ref (adC 0)), (2, .ref (adM 0)), (3, .ref ao), (4, .int (nI (6 * k)))]) (st' := [.int (nI ((6 * k) + 4)), .ref b, .int (nI a3), .int (nI a2), .int (nI a1), .ref (adM 0)]) (by simp only [nI_add]) (by simp only [nI_add]) ?_
  refine g_sld X hX hbl hbA hN (v := nI a4) (by omega) e4 dL_law_348 ?_
  refine g_perm (ws' := WM adM g I L S Z Y ++ (WC adC g I (u2 (u2 L 1 a1 (wn (L 1 a1) a2 a3)) 2 a1 (wn (L 2 a1) a2 a4)) S ++ ([OUT ao ((nI (stk (u2 (u2 L 1 a1 (wn (L 1 a1) a2 a3)) 2 a1 (wn (L 2 a1) a2 a4)) a1 16)).toInt64) ov] : va_W))) (List.perm_append_comm (l₁ := WM adM g I L S Z Y) (l₂ := (WC adC g I (u2 (u2 L 1 a1 (wn (L 1 a1) a2 a3)) 2 a1 (wn (L 2 a1) a2 a4)) S ++ ([OUT ao ((nI (stk (u2 (u2 L 1 a1 (wn (L 1 a1) a2 a3)) 2 a1 (wn (L 2 a1) a2 a4)) a1 16)).toInt64) ov] : va_W)))) ?_
  refine g_callV X hSB hAf srcW (hrc1 := (rfl : CL[8]? = some _)) (wm_mem (k := 0) (by decide)) rfl (As := [.int (nI a1), .int (nI a2), .int (nI a3), .int (nI a4)]) (wr := WC adC g I (u2 (u2 L 1 a1 (wn (L 1 a1) a2 a3)) 2 a1 (wn (L 2 a1) a2 a4)) S ++ ([OUT ao ((nI (stk (u2 (u2 L 1 a1 (wn (L 1 a1) a2 a3)) 2 a1 (wn (L 2 a1) a2 a4)) a1 16)).toInt64) ov] : va_W)) (n := 4) (c_X9_stick l D g adM I L S Z Y a1 a2 a3 a4 (by first | assumption | omega) (by first | assumption | omega) (by first | assumption | omega) (by first | assumption | omega)) rfl srcN hrdN w_1313 w_1310 w_1311 w_1312 w_6 (by decide +kernel) rfl ⟨Nat.le_of_ble_eq_true rfl, Nat.le_of_ble_eq_true rfl⟩ rfl rfl rfl (Nat.le_of_ble_eq_true rfl) ⟨by show cells + 0 + 0 ≤ 600002; omega, by show slots + 0 + 0 ≤ 7302232; omega⟩ dL_law_349 (fun hu2 hp_hu2 => ?_)
  refine g_af (ws' := WM adM g I (u2 (u2 L 1 a1 (wn (L 1 a1) a2 a3)) 2 a1 (wn (L 2 a1) a2 a4)) S (u2 Z 3 0 (nI 0)) Y ++ (WC adC g I (u2 (u2 L 1 a1 (wn (L 1 a1) a2 a3)) 2 a1 (wn (L 2 a1) a2 a4)) S ++ ([OUT ao ((nI (stk (u2 (u2 L 1 a1 (wn (L 1 a1) a2 a3)) 2 a1 (wn (L 2 a1) a2 a4)) a1 16)).toInt64) ov] : va_W))) (st' := [.int (nI (stk (u2 (u2 L 1 a1 (wn (L 1 a1) a2 a3)) 2 a1 (wn (L 2 a1) a2 a4)) a1 16))]) (cells' := cells + 0 + 0) (slots' := slots + 0 + 0) (pc' := 352) rfl rfl rfl rfl rfl ?_
  refine g_run X KL_law_352_26 KL_law_352_26_d 355 [(6, .int (nI (stk (u2 (u2 L 1 a1 (wn (L 1 a1) a2 a3)) 2 a1 (wn (L 2 a1) a2 a4)) a1 16))), (5, .int (nI 0)), (0, .ref b), (1, .ref (adC 0)), (2, .ref (adM 0)), (3, .ref ao), (4, .int (nI (6 * k)))] [.ref (adM 0)] rfl ?_
  refine g_callV X hSB hAf srcW (hrc1 := (rfl : CL[8]? = some _)) (wm_mem (k := 0) (by decide)) rfl (As := []) (wr := WC adC g I (u2 (u2 L 1 a1 (wn (L 1 a1) a2 a3)) 2 a1 (wn (L 2 a1) a2 a4)) S ++ ([OUT ao ((nI (stk (u2 (u2 L 1 a1 (wn (L 1 a1) a2 a3)) 2 a1 (wn (L 2 a1) a2 a4)) a1 16)).toInt64) ov] : va_W)) (n := 0) (c_X9_thrown l D g adM I (u2 (u2 L 1 a1 (wn (L 1 a1) a2 a3)) 2 a1 (wn (L 2 a1) a2 a4)) S (u2 Z 3 0 (nI 0)) Y ) rfl srcN hrdN w_1250 w_1247 w_1248 w_1249 w_6 (by decide +kernel) rfl ⟨Nat.le_of_ble_eq_true rfl, Nat.le_of_ble_eq_true rfl⟩ rfl rfl rfl (Nat.le_of_ble_eq_true rfl) ⟨by show cells + 0 + 0 + 0 ≤ 600002; omega, by show slots + 0 + 0 + 0 ≤ 7302232; omega⟩ dL_law_355 (fun hu3 hp_hu3 => ?_)
  refine g_af (ws' := WM adM g I (u2 (u2 L 1 a1 (wn (L 1 a1) a2 a3)) 2 a1 (wn (L 2 a1) a2 a4)) S (u2 Z 3 0 (nI 0)) Y ++ (WC adC g I (u2 (u2 L 1 a1 (wn (L 1 a1) a2 a3)) 2 a1 (wn (L 2 a1) a2 a4)) S ++ ([OUT ao ((nI (stk (u2 (u2 L 1 a1 (wn (L 1 a1) a2 a3)) 2 a1 (wn (L 2 a1) a2 a4)) a1 16)).toInt64) ov] : va_W))) (st' := [.int ((u2 Z 3 0 (nI 0)) 3 0)]) (cells' := cells + 0 + 0 + 0) (slots' := slots + 0 + 0 + 0) (pc' := 358) rfl rfl rfl rfl rfl ?_
  refine g_st (st' := [.int (nI 0)]) (by first | rfl | (simp [z4, u2]; done)) ?_
  refine g_run X KL_law_358_27 KL_law_358_27_d 360 [(6, .int (nI (stk (u2 (u2 L 1 a1 (wn (L 1 a1) a2 a3)) 2 a1 (wn (L 2 a1) a2 a4)) a1 16))), (5, .int (nI 0)), (0, .ref b), (1, .ref (adC 0)), (2, .ref (adM 0)), (3, .ref ao), (4, .int (nI (6 * k)))] [.int (nI 0), .int (nI 0)] rfl ?_
  refine g_icmp_eq X 365 dL_law_360 (by decide) (fun hc4 => ?_) (fun hc4 => ?_)
  · refine g_run X KL_law_365_28 KL_law_365_28_d 367 [(6, .int (nI (stk (u2 (u2 L 1 a1 (wn (L 1 a1) a2 a3)) 2 a1 (wn (L 2 a1) a2 a4)) a1 16))), (5, .int (nI 0)), (0, .ref b), (1, .ref (adC 0)), (2, .ref (adM 0)), (3, .ref ao), (4, .int (nI (6 * k)))] [.int (nI 0)] rfl ?_
    refine g_if_ne X 383 dL_law_367 (by decide) (fun hc5 => ?_) (fun hc5 => ?_)
    · rw [nz_eq (by omega)] at hc5; first | omega | (simp at hc5)
    · refine g_run X KL_law_370_29 KL_law_370_29_d 371 [(6, .int (nI (stk (u2 (u2 L 1 a1 (wn (L 1 a1) a2 a3)) 2 a1 (wn (L 2 a1) a2 a4)) a1 16))), (5, .int (nI 0)), (0, .ref b), (1, .ref (adC 0)), (2, .ref (adM 0)), (3, .ref ao), (4, .int (nI (6 * k)))] [.ref ao] rfl ?_
      refine g_getN X srcW (host := "ChipfieldLaw") (v := .long ((nI (stk (u2 (u2 L 1 a1 (wn (L 1 a1) a2 a3)) 2 a1 (wn (L 2 a1) a2 a4)) a1 16)).toInt64)) hinX6 rfl 0 (by decide) (nw_in n_489 rfl) rfl (List.mem_append_right _ (List.mem_append_right _ List.mem_cons_self)) rfl dL_law_371 ?_
      refine g_run X KL_law_374_30 KL_law_374_30_d 378 [(6, .int (nI (stk (u2 (u2 L 1 a1 (wn (L 1 a1) a2 a3)) 2 a1 (wn (L 2 a1) a2 a4)) a1 16))), (5, .int (nI 0)), (0, .ref b), (1, .ref (adC 0)), (2, .ref (adM 0)), (3, .ref ao), (4, .int (nI (6 * k)))] [.int (lg_cmp ((nI (stk (u2 (u2 L 1 a1 (wn (L 1 a1) a2 a3)) 2 a1 (wn (L 2 a1) a2 a4)) a1 16)).toInt64) ((nI (stk (u2 (u2 L 1 a1 (wn (L 1 a1) a2 a3)) 2 a1 (wn (L 2 a1) a2 a4)) a1 16)).toInt64))] rfl ?_
      refine g_if_eq X 383 dL_law_378 (by decide) (fun hc6 => ?_) (fun hc6 => ?_)
      · refine g_run X KL_law_383_31 KL_law_383_31_d 2256 [(6, .int (nI (stk (u2 (u2 L 1 a1 (wn (L 1 a1) a2 a3)) 2 a1 (wn (L 2 a1) a2 a4)) a1 16))), (5, .int (nI 0)), (0, .ref b), (1, .ref (adC 0)), (2, .ref (adM 0)), (3, .ref ao), (4, .int (nI (6 * k)))] [] rfl ?_
        refine g_lv (lv' := [(0, .ref b), (1, .ref (adC 0)), (2, .ref (adM 0)), (3, .ref ao), (4, .int (nI (6 * k)))]) (lsub_c 2 rfl (lsub_c 3 rfl (lsub_c 4 rfl (lsub_c 5 rfl (lsub_c 6 rfl (lsub_n)))))) ?_
        refine g_perm (ws' := (WC adC g I (u2 (u2 L 1 a1 (wn (L 1 a1) a2 a3)) 2 a1 (wn (L 2 a1) a2 a4)) S ++ ([OUT ao ((nI (stk (u2 (u2 L 1 a1 (wn (L 1 a1) a2 a3)) 2 a1 (wn (L 2 a1) a2 a4)) a1 16)).toInt64) ov] : va_W)) ++ WM adM g I (u2 (u2 L 1 a1 (wn (L 1 a1) a2 a3)) 2 a1 (wn (L 2 a1) a2 a4)) S (u2 Z 3 0 (nI 0)) Y) (List.perm_append_comm (l₁ := (WC adC g I (u2 (u2 L 1 a1 (wn (L 1 a1) a2 a3)) 2 a1 (wn (L 2 a1) a2 a4)) S ++ ([OUT ao ((nI (stk (u2 (u2 L 1 a1 (wn (L 1 a1) a2 a3)) 2 a1 (wn (L 2 a1) a2 a4)) a1 16)).toInt64) ov] : va_W))) (l₂ := WM adM g I (u2 (u2 L 1 a1 (wn (L 1 a1) a2 a3)) 2 a1 (wn (L 2 a1) a2 a4)) S (u2 Z 3 0 (nI 0)) Y)) ?_
        refine g_widen (k := cells + 60) (n := slots + 1200) (by omega) (by omega) ?_
        exact kk I (u2 (u2 L 1 a1 (wn (L 1 a1) a2 a3)) 2 a1 (wn (L 2 a1) a2 a4)) S n (u2 Z 3 0 (nI 0)) Y R ((nI (stk (u2 (u2 L 1 a1 (wn (L 1 a1) a2 a3)) 2 a1 (wn (L 2 a1) a2 a4)) a1 16)).toInt64) ov (hI.ofL (fun _ => by rw [u2_n (by decide), u2_n (by decide)])) (hR) (by first | exact hZ | (rw [zrow]; exact hZ) | (rw [zrow, zrow]; exact hZ))
      · exact absurd lg_self hc6
  · rw [nI_eq (by omega) (by omega)] at hc4; first | omega | (simp at hc4)

set_option maxHeartbeats 4000000 in
set_option maxRecDepth 100000 in
theorem lq1_4 {p : Program} {l : Launch} {e : Env} {s : State} {m : MethodId} {below : List Frame} {meth : Method} {c : Code} {Q : State → Prop} {D : va_G} {A : Nat → Prop} {b N : Nat} {xs : Nat → Int32} {adC adM : Nat → Nat} {g : Nat → ClassId} {ao k cells slots : Nat} {I : Nat → Nat → Int32} {L : Nat → Nat → Int64} {S : Nat → Nat} {n : Nat} {Z : Nat → Nat → Int32} {Y : Int64} {R : Nat → Nat} {on : Int64} {ov : Value} (HX : LX p l s m meth c A b N xs) (hk : 6 * k + 6 ≤ N) (hroom : cells + 60 ≤ 600002 ∧ slots + 1200 ≤ 7302232) (hI : Inv I L S n) (hR : R16 R) (hZ : Z 0 = fun j => nI (R j)) (a1 : Nat) (hl1 : 0 ≤ a1) (hu1 : a1 < 18) (e1 : xs (6 * k + 1) = nI a1) (a2 : Nat) (hl2 : 0 ≤ a2) (hu2 : a2 < 16) (e2 : xs (6 * k + 2) = nI a2) (a3 : Nat) (hl3 : 0 ≤ a3) (hu3 : a3 < 16) (e3 : xs (6 * k + 3) = nI a3) (hw : (xs (6 * k + 4)).toInt < (0 : Nat) ∨ ((16 : Nat) : Int) ≤ (xs (6 * k + 4)).toInt) (kk : LK p l e s m below meth c Q D A b adC adM g ao k cells slots 2256) : GL p l e room_1 s m #[.ref b] below meth c Q D CL (TYS g) A 9 (WL adC adM g ao I L S Z Y on ov) cells slots 293 [(0, .ref b), (1, .ref (adC 0)), (2, .ref (adM 0)), (3, .ref ao), (4, .int (nI (6 * k)))] [] := by
  obtain ⟨X, hSB, hAf, hNC, hfl, hX, hbl, hbA, hN⟩ := HX
  refine g_run X KL_law_293_17 KL_law_293_17_d 299 [(0, .ref b), (1, .ref (adC 0)), (2, .ref (adM 0)), (3, .ref ao), (4, .int (nI (6 * k)))] [.int ((nI (6 * k)) + (nI 1)), .ref b, .ref (adC 0)] rfl ?_
  refine g_nm (lv' := [(0, .ref b), (1, .ref (adC 0)), (2, .ref (adM 0)), (3, .ref ao), (4, .int (nI (6 * k)))]) (st' := [.int (nI ((6 * k) + 1)), .ref b, .ref (adC 0)]) (by simp only [nI_add]) (by simp only [nI_add]) ?_
  refine g_sld X hX hbl hbA hN (v := nI a1) (by omega) e1 dL_law_299 ?_
  refine g_run X KL_law_300_18 KL_law_300_18_d 305 [(0, .ref b), (1, .ref (adC 0)), (2, .ref (adM 0)), (3, .ref ao), (4, .int (nI (6 * k)))] [.int ((nI (6 * k)) + (nI 2)), .ref b, .int (nI a1), .ref (adC 0)] rfl ?_
  refine g_nm (lv' := [(0, .ref b), (1, .ref (adC 0)), (2, .ref (adM 0)), (3, .ref ao), (4, .int (nI (6 * k)))]) (st' := [.int (nI ((6 * k) + 2)), .ref b, .int (nI a1), .ref (adC 0)]) (by simp only [nI_add]) (by simp only [nI_add]) ?_
  refine g_sld X hX hbl hbA hN (v := nI a2) (by omega) e2 dL_law_305 ?_
  refine g_run X KL_law_306_19 KL_law_306_19_d 311 [(0, .ref b), (1, .ref (adC 0)), (2, .ref (adM 0)), (3, .ref ao), (4, .int (nI (6 * k)))] [.int ((nI (6 * k)) + (nI 3)), .ref b, .int (nI a2), .int (nI a1), .ref (adC 0)] rfl ?_
  refine g_nm (lv' := [(0, .ref b), (1, .ref (adC 0)), (2, .ref (adM 0)), (3, .ref ao), (4, .int (nI (6 * k)))]) (st' := [.int (nI ((6 * k) + 3)), .ref b, .int (nI a2), .int (nI a1), .ref (adC 0)]) (by simp only [nI_add]) (by simp only [nI_add]) ?_
  refine g_sld X hX hbl hbA hN (v := nI a3) (by omega) e3 dL_law_311 ?_
  refine g_run X KL_law_312_20 KL_law_312_20_d 317 [(0, .ref b), (1, .ref (adC 0)), (2, .ref (adM 0)), (3, .ref ao), (4, .int (nI (6 * k)))] [.int ((nI (6 * k)) + (nI 4)), .ref b, .int (nI a3), .int (nI a2), .int (nI a1), .ref (adC 0)] rfl ?_
  refine g_nm (lv' := [(0, .ref b), (1, .ref (adC 0)), (2, .ref (adM 0)), (3, .ref ao), (4, .int (nI (6 * k)))]) (st' := [.int (nI ((6 * k) + 4)), .ref b, .int (nI a3), .int (nI a2), .int (nI a1), .ref (adC 0)]) (by simp only [nI_add]) (by simp only [nI_add]) ?_
  refine g_sld X hX hbl hbA hN (v := xs (6 * k + 4)) (by omega) rfl dL_law_317 ?_
  refine g_run X KL_law_318_21 KL_law_318_21_d 319 [(0, .ref b), (1, .ref (adC 0)), (2, .ref (adM 0)), (3, .ref ao), (4, .int (nI (6 * k)))] [.ref ao, .int (xs (6 * k + 4)), .int (nI a3), .int (nI a2), .int (nI a1), .ref (adC 0)] rfl ?_
  refine g_callSW X hSB hAf hNC (As := [.ref (adC 0), .int (nI a1), .int (nI a2), .int (nI a3), .int (xs (6 * k + 4)), .ref ao]) (wr := WM adM g I L S Z Y) (n := 6) (hx_stick_4 l hfl D g adC I L S a1 a2 a3 (xs (6 * k + 4)) ao on ov (by first | assumption | omega) (by first | assumption | omega) (by first | assumption | omega) (out_le (by decide) hw)) rfl w_517 w_515 w_516 w_0 (by decide +kernel) rfl ⟨Nat.le_of_ble_eq_true rfl, Nat.le_of_ble_eq_true rfl⟩ rfl rfl rfl (Nat.le_of_ble_eq_true rfl) ⟨by show cells + 1 ≤ 600002; omega, by show slots + 6 ≤ 7302232; omega⟩ dL_law_319 (fun hu1 _ => ?_)
  refine g_af (ws' := (WC adC g I L S ++ ([OUT ao on ov] : va_W)) ++ WM adM g I L S Z Y) (st' := [.int (nI 2)]) (cells' := cells + 1) (slots' := slots + 6) (pc' := 322) rfl rfl rfl rfl rfl ?_
  refine g_run X KL_law_322_22 KL_law_322_22_d 330 [(5, .int (nI 2)), (0, .ref b), (1, .ref (adC 0)), (2, .ref (adM 0)), (3, .ref ao), (4, .int (nI (6 * k)))] [.int ((nI (6 * k)) + (nI 1)), .ref b, .ref (adM 0)] rfl ?_
  refine g_nm (lv' := [(5, .int (nI 2)), (0, .ref b), (1, .ref (adC 0)), (2, .ref (adM 0)), (3, .ref ao), (4, .int (nI (6 * k)))]) (st' := [.int (nI ((6 * k) + 1)), .ref b, .ref (adM 0)]) (by simp only [nI_add]) (by simp only [nI_add]) ?_
  refine g_sld X hX hbl hbA hN (v := nI a1) (by omega) e1 dL_law_330 ?_
  refine g_run X KL_law_331_23 KL_law_331_23_d 336 [(5, .int (nI 2)), (0, .ref b), (1, .ref (adC 0)), (2, .ref (adM 0)), (3, .ref ao), (4, .int (nI (6 * k)))] [.int ((nI (6 * k)) + (nI 2)), .ref b, .int (nI a1), .ref (adM 0)] rfl ?_
  refine g_nm (lv' := [(5, .int (nI 2)), (0, .ref b), (1, .ref (adC 0)), (2, .ref (adM 0)), (3, .ref ao), (4, .int (nI (6 * k)))]) (st' := [.int (nI ((6 * k) + 2)), .ref b, .int (nI a1), .ref (adM 0)]) (by simp only [nI_add]) (by simp only [nI_add]) ?_
  refine g_sld X hX hbl hbA hN (v := nI a2) (by omega) e2 dL_law_336 ?_
  refine g_run X KL_law_337_24 KL_law_337_24_d 342 [(5, .int (nI 2)), (0, .ref b), (1, .ref (adC 0)), (2, .ref (adM 0)), (3, .ref ao), (4, .int (nI (6 * k)))] [.int ((nI (6 * k)) + (nI 3)), .ref b, .int (nI a2), .int (nI a1), .ref (adM 0)] rfl ?_
  refine g_nm (lv' := [(5, .int (nI 2)), (0, .ref b), (1, .ref (adC 0)), (2, .ref (adM 0)), (3, .ref ao), (4, .int (nI (6 * k)))]) (st' := [.int (nI ((6 * k) + 3)), .ref b, .int (nI a2), .int (nI a1), .ref (adM 0)]) (by simp only [nI_add]) (by simp only [nI_add]) ?_
  refine g_sld X hX hbl hbA hN (v := nI a3) (by omega) e3 dL_law_342 ?_
  refine g_run X KL_law_343_25 KL_law_343_25_d 348 [(5, .int (nI 2)), (0, .ref b), (1, .ref (adC 0)), (2, .ref (adM 0)), (3, .ref ao), (4, .int (nI (6 * k)))] [.int ((nI (6 * k)) + (nI 4)), .ref b, .int (nI a3), .int (nI a2), .int (nI a1), .ref (adM 0)] rfl ?_
  refine g_nm (lv' := [(5, .int (nI 2)), (0, .ref b), (1, .ref (adC 0)), (2, .ref (adM 0)), (3, .ref ao), (4, .int (nI (6 * k)))]) (st' := [.int (nI ((6 * k) + 4)), .ref b, .int (nI a3), .int (nI a2), .int (nI a1), .ref (adM 0)]) (by simp only [nI_add]) (by simp only [nI_add]) ?_
  refine g_sld X hX hbl hbA hN (v := xs (6 * k + 4)) (by omega) rfl dL_law_348 ?_
  refine g_perm (ws' := WM adM g I L S Z Y ++ (WC adC g I L S ++ ([OUT ao on ov] : va_W))) (List.perm_append_comm (l₁ := WM adM g I L S Z Y) (l₂ := (WC adC g I L S ++ ([OUT ao on ov] : va_W)))) ?_
  refine g_callV X hSB hAf srcW (hrc1 := (rfl : CL[8]? = some _)) (wm_mem (k := 0) (by decide)) rfl (As := [.int (nI a1), .int (nI a2), .int (nI a3), .int (xs (6 * k + 4))]) (wr := WC adC g I L S ++ ([OUT ao on ov] : va_W)) (n := 4) (c_X9_stick_4 l D g adM I L S Z Y a1 a2 a3 (xs (6 * k + 4)) (by first | assumption | omega) (by first | assumption | omega) (by first | assumption | omega) (out_lo (by decide) (by decide) hw)) rfl srcN hrdN w_1313 w_1310 w_1311 w_1312 w_6 (by decide +kernel) rfl ⟨Nat.le_of_ble_eq_true rfl, Nat.le_of_ble_eq_true rfl⟩ rfl rfl rfl (Nat.le_of_ble_eq_true rfl) ⟨by show cells + 1 + 0 ≤ 600002; omega, by show slots + 6 + 0 ≤ 7302232; omega⟩ dL_law_349 (fun hu2 hp_hu2 => ?_)
  refine g_af (ws' := WM adM g I L S (u2 (u2 Z 3 0 (nI 0)) 3 0 (nI 2)) Y ++ (WC adC g I L S ++ ([OUT ao on ov] : va_W))) (st' := [.int (nI 0)]) (cells' := cells + 1 + 0) (slots' := slots + 6 + 0) (pc' := 352) rfl rfl rfl rfl rfl ?_
  refine g_run X KL_law_352_26 KL_law_352_26_d 355 [(6, .int (nI 0)), (5, .int (nI 2)), (0, .ref b), (1, .ref (adC 0)), (2, .ref (adM 0)), (3, .ref ao), (4, .int (nI (6 * k)))] [.ref (adM 0)] rfl ?_
  refine g_callV X hSB hAf srcW (hrc1 := (rfl : CL[8]? = some _)) (wm_mem (k := 0) (by decide)) rfl (As := []) (wr := WC adC g I L S ++ ([OUT ao on ov] : va_W)) (n := 0) (c_X9_thrown l D g adM I L S (u2 (u2 Z 3 0 (nI 0)) 3 0 (nI 2)) Y ) rfl srcN hrdN w_1250 w_1247 w_1248 w_1249 w_6 (by decide +kernel) rfl ⟨Nat.le_of_ble_eq_true rfl, Nat.le_of_ble_eq_true rfl⟩ rfl rfl rfl (Nat.le_of_ble_eq_true rfl) ⟨by show cells + 1 + 0 + 0 ≤ 600002; omega, by show slots + 6 + 0 + 0 ≤ 7302232; omega⟩ dL_law_355 (fun hu3 hp_hu3 => ?_)
  refine g_af (ws' := WM adM g I L S (u2 (u2 Z 3 0 (nI 0)) 3 0 (nI 2)) Y ++ (WC adC g I L S ++ ([OUT ao on ov] : va_W))) (st' := [.int ((u2 (u2 Z 3 0 (nI 0)) 3 0 (nI 2)) 3 0)]) (cells' := cells + 1 + 0 + 0) (slots' := slots + 6 + 0 + 0) (pc' := 358) rfl rfl rfl rfl rfl ?_
  refine g_st (st' := [.int (nI 2)]) (by first | rfl | (simp [z4, u2]; done)) ?_
  refine g_run X KL_law_358_27 KL_law_358_27_d 360 [(6, .int (nI 0)), (5, .int (nI 2)), (0, .ref b), (1, .ref (adC 0)), (2, .ref (adM 0)), (3, .ref ao), (4, .int (nI (6 * k)))] [.int (nI 2), .int (nI 2)] rfl ?_
  refine g_icmp_eq X 365 dL_law_360 (by decide) (fun hc4 => ?_) (fun hc4 => ?_)
  · refine g_run X KL_law_365_28 KL_law_365_28_d 367 [(6, .int (nI 0)), (5, .int (nI 2)), (0, .ref b), (1, .ref (adC 0)), (2, .ref (adM 0)), (3, .ref ao), (4, .int (nI (6 * k)))] [.int (nI 2)] rfl ?_
    refine g_if_ne X 383 dL_law_367 (by decide) (fun hc5 => ?_) (fun hc5 => ?_)
    · refine g_run X KL_law_383_31 KL_law_383_31_d 2256 [(6, .int (nI 0)), (5, .int (nI 2)), (0, .ref b), (1, .ref (adC 0)), (2, .ref (adM 0)), (3, .ref ao), (4, .int (nI (6 * k)))] [] rfl ?_
      refine g_lv (lv' := [(0, .ref b), (1, .ref (adC 0)), (2, .ref (adM 0)), (3, .ref ao), (4, .int (nI (6 * k)))]) (lsub_c 2 rfl (lsub_c 3 rfl (lsub_c 4 rfl (lsub_c 5 rfl (lsub_c 6 rfl (lsub_n)))))) ?_
      refine g_perm (ws' := (WC adC g I L S ++ ([OUT ao on ov] : va_W)) ++ WM adM g I L S (u2 (u2 Z 3 0 (nI 0)) 3 0 (nI 2)) Y) (List.perm_append_comm (l₁ := (WC adC g I L S ++ ([OUT ao on ov] : va_W))) (l₂ := WM adM g I L S (u2 (u2 Z 3 0 (nI 0)) 3 0 (nI 2)) Y)) ?_
      refine g_widen (k := cells + 60) (n := slots + 1200) (by omega) (by omega) ?_
      exact kk I L S n (u2 (u2 Z 3 0 (nI 0)) 3 0 (nI 2)) Y R on ov (hI) (hR) (by first | exact hZ | (rw [zrow]; exact hZ) | (rw [zrow, zrow]; exact hZ))
    · rw [nz_eq (by omega)] at hc5; first | omega | (simp at hc5)
  · rw [nI_eq (by omega) (by omega)] at hc4; first | omega | (simp at hc4)

set_option maxHeartbeats 4000000 in
set_option maxRecDepth 100000 in
theorem lq1_3 {p : Program} {l : Launch} {e : Env} {s : State} {m : MethodId} {below : List Frame} {meth : Method} {c : Code} {Q : State → Prop} {D : va_G} {A : Nat → Prop} {b N : Nat} {xs : Nat → Int32} {adC adM : Nat → Nat} {g : Nat → ClassId} {ao k cells slots : Nat} {I : Nat → Nat → Int32} {L : Nat → Nat → Int64} {S : Nat → Nat} {n : Nat} {Z : Nat → Nat → Int32} {Y : Int64} {R : Nat → Nat} {on : Int64} {ov : Value} (HX : LX p l s m meth c A b N xs) (hk : 6 * k + 6 ≤ N) (hroom : cells + 60 ≤ 600002 ∧ slots + 1200 ≤ 7302232) (hI : Inv I L S n) (hR : R16 R) (hZ : Z 0 = fun j => nI (R j)) (a1 : Nat) (hl1 : 0 ≤ a1) (hu1 : a1 < 18) (e1 : xs (6 * k + 1) = nI a1) (a2 : Nat) (hl2 : 0 ≤ a2) (hu2 : a2 < 16) (e2 : xs (6 * k + 2) = nI a2) (hw : (xs (6 * k + 3)).toInt < (0 : Nat) ∨ ((16 : Nat) : Int) ≤ (xs (6 * k + 3)).toInt) (kk : LK p l e s m below meth c Q D A b adC adM g ao k cells slots 2256) : GL p l e room_1 s m #[.ref b] below meth c Q D CL (TYS g) A 9 (WL adC adM g ao I L S Z Y on ov) cells slots 293 [(0, .ref b), (1, .ref (adC 0)), (2, .ref (adM 0)), (3, .ref ao), (4, .int (nI (6 * k)))] [] := by
  obtain ⟨X, hSB, hAf, hNC, hfl, hX, hbl, hbA, hN⟩ := HX
  refine g_run X KL_law_293_17 KL_law_293_17_d 299 [(0, .ref b), (1, .ref (adC 0)), (2, .ref (adM 0)), (3, .ref ao), (4, .int (nI (6 * k)))] [.int ((nI (6 * k)) + (nI 1)), .ref b, .ref (adC 0)] rfl ?_
  refine g_nm (lv' := [(0, .ref b), (1, .ref (adC 0)), (2, .ref (adM 0)), (3, .ref ao), (4, .int (nI (6 * k)))]) (st' := [.int (nI ((6 * k) + 1)), .ref b, .ref (adC 0)]) (by simp only [nI_add]) (by simp only [nI_add]) ?_
  refine g_sld X hX hbl hbA hN (v := nI a1) (by omega) e1 dL_law_299 ?_
  refine g_run X KL_law_300_18 KL_law_300_18_d 305 [(0, .ref b), (1, .ref (adC 0)), (2, .ref (adM 0)), (3, .ref ao), (4, .int (nI (6 * k)))] [.int ((nI (6 * k)) + (nI 2)), .ref b, .int (nI a1), .ref (adC 0)] rfl ?_
  refine g_nm (lv' := [(0, .ref b), (1, .ref (adC 0)), (2, .ref (adM 0)), (3, .ref ao), (4, .int (nI (6 * k)))]) (st' := [.int (nI ((6 * k) + 2)), .ref b, .int (nI a1), .ref (adC 0)]) (by simp only [nI_add]) (by simp only [nI_add]) ?_
  refine g_sld X hX hbl hbA hN (v := nI a2) (by omega) e2 dL_law_305 ?_
  refine g_run X KL_law_306_19 KL_law_306_19_d 311 [(0, .ref b), (1, .ref (adC 0)), (2, .ref (adM 0)), (3, .ref ao), (4, .int (nI (6 * k)))] [.int ((nI (6 * k)) + (nI 3)), .ref b, .int (nI a2), .int (nI a1), .ref (adC 0)] rfl ?_
  refine g_nm (lv' := [(0, .ref b), (1, .ref (adC 0)), (2, .ref (adM 0)), (3, .ref ao), (4, .int (nI (6 * k)))]) (st' := [.int (nI ((6 * k) + 3)), .ref b, .int (nI a2), .int (nI a1), .ref (adC 0)]) (by simp only [nI_add]) (by simp only [nI_add]) ?_
  refine g_sld X hX hbl hbA hN (v := xs (6 * k + 3)) (by omega) rfl dL_law_311 ?_
  refine g_run X KL_law_312_20 KL_law_312_20_d 317 [(0, .ref b), (1, .ref (adC 0)), (2, .ref (adM 0)), (3, .ref ao), (4, .int (nI (6 * k)))] [.int ((nI (6 * k)) + (nI 4)), .ref b, .int (xs (6 * k + 3)), .int (nI a2), .int (nI a1), .ref (adC 0)] rfl ?_
  refine g_nm (lv' := [(0, .ref b), (1, .ref (adC 0)), (2, .ref (adM 0)), (3, .ref ao), (4, .int (nI (6 * k)))]) (st' := [.int (nI ((6 * k) + 4)), .ref b, .int (xs (6 * k + 3)), .int (nI a2), .int (nI a1), .ref (adC 0)]) (by simp only [nI_add]) (by simp only [nI_add]) ?_
  refine g_sld X hX hbl hbA hN (v := xs (6 * k + 4)) (by omega) rfl dL_law_317 ?_
  refine g_run X KL_law_318_21 KL_law_318_21_d 319 [(0, .ref b), (1, .ref (adC 0)), (2, .ref (adM 0)), (3, .ref ao), (4, .int (nI (6 * k)))] [.ref ao, .int (xs (6 * k + 4)), .int (xs (6 * k + 3)), .int (nI a2), .int (nI a1), .ref (adC 0)] rfl ?_
  refine g_callSW X hSB hAf hNC (As := [.ref (adC 0), .int (nI a1), .int (nI a2), .int (xs (6 * k + 3)), .int (xs (6 * k + 4)), .ref ao]) (wr := WM adM g I L S Z Y) (n := 6) (hx_stick_3 l hfl D g adC I L S a1 a2 (xs (6 * k + 3)) (xs (6 * k + 4)) ao on ov (by first | assumption | omega) (by first | assumption | omega) (out_le (by decide) hw)) rfl w_517 w_515 w_516 w_0 (by decide +kernel) rfl ⟨Nat.le_of_ble_eq_true rfl, Nat.le_of_ble_eq_true rfl⟩ rfl rfl rfl (Nat.le_of_ble_eq_true rfl) ⟨by show cells + 1 ≤ 600002; omega, by show slots + 6 ≤ 7302232; omega⟩ dL_law_319 (fun hu1 _ => ?_)
  refine g_af (ws' := (WC adC g I L S ++ ([OUT ao on ov] : va_W)) ++ WM adM g I L S Z Y) (st' := [.int (nI 2)]) (cells' := cells + 1) (slots' := slots + 6) (pc' := 322) rfl rfl rfl rfl rfl ?_
  refine g_run X KL_law_322_22 KL_law_322_22_d 330 [(5, .int (nI 2)), (0, .ref b), (1, .ref (adC 0)), (2, .ref (adM 0)), (3, .ref ao), (4, .int (nI (6 * k)))] [.int ((nI (6 * k)) + (nI 1)), .ref b, .ref (adM 0)] rfl ?_
  refine g_nm (lv' := [(5, .int (nI 2)), (0, .ref b), (1, .ref (adC 0)), (2, .ref (adM 0)), (3, .ref ao), (4, .int (nI (6 * k)))]) (st' := [.int (nI ((6 * k) + 1)), .ref b, .ref (adM 0)]) (by simp only [nI_add]) (by simp only [nI_add]) ?_
  refine g_sld X hX hbl hbA hN (v := nI a1) (by omega) e1 dL_law_330 ?_
  refine g_run X KL_law_331_23 KL_law_331_23_d 336 [(5, .int (nI 2)), (0, .ref b), (1, .ref (adC 0)), (2, .ref (adM 0)), (3, .ref ao), (4, .int (nI (6 * k)))] [.int ((nI (6 * k)) + (nI 2)), .ref b, .int (nI a1), .ref (adM 0)] rfl ?_
  refine g_nm (lv' := [(5, .int (nI 2)), (0, .ref b), (1, .ref (adC 0)), (2, .ref (adM 0)), (3, .ref ao), (4, .int (nI (6 * k)))]) (st' := [.int (nI ((6 * k) + 2)), .ref b, .int (nI a1), .ref (adM 0)]) (by simp only [nI_add]) (by simp only [nI_add]) ?_
  refine g_sld X hX hbl hbA hN (v := nI a2) (by omega) e2 dL_law_336 ?_
  refine g_run X KL_law_337_24 KL_law_337_24_d 342 [(5, .int (nI 2)), (0, .ref b), (1, .ref (adC 0)), (2, .ref (adM 0)), (3, .ref ao), (4, .int (nI (6 * k)))] [.int ((nI (6 * k)) + (nI 3)), .ref b, .int (nI a2), .int (nI a1), .ref (adM 0)] rfl ?_
  refine g_nm (lv' := [(5, .int (nI 2)), (0, .ref b), (1, .ref (adC 0)), (2, .ref (adM 0)), (3, .ref ao), (4, .int (nI (6 * k)))]) (st' := [.int (nI ((6 * k) + 3)), .ref b, .int (nI a2), .int (nI a1), .ref (adM 0)]) (by simp only [nI_add]) (by simp only [nI_add]) ?_
  refine g_sld X hX hbl hbA hN (v := xs (6 * k + 3)) (by omega) rfl dL_law_342 ?_
  refine g_run X KL_law_343_25 KL_law_343_25_d 348 [(5, .int (nI 2)), (0, .ref b), (1, .ref (adC 0)), (2, .ref (adM 0)), (3, .ref ao), (4, .int (nI (6 * k)))] [.int ((nI (6 * k)) + (nI 4)), .ref b, .int (xs (6 * k + 3)), .int (nI a2), .int (nI a1), .ref (adM 0)] rfl ?_
  refine g_nm (lv' := [(5, .int (nI 2)), (0, .ref b), (1, .ref (adC 0)), (2, .ref (adM 0)), (3, .ref ao), (4, .int (nI (6 * k)))]) (st' := [.int (nI ((6 * k) + 4)), .ref b, .int (xs (6 * k + 3)), .int (nI a2), .int (nI a1), .ref (adM 0)]) (by simp only [nI_add]) (by simp only [nI_add]) ?_
  refine g_sld X hX hbl hbA hN (v := xs (6 * k + 4)) (by omega) rfl dL_law_348 ?_
  refine g_perm (ws' := WM adM g I L S Z Y ++ (WC adC g I L S ++ ([OUT ao on ov] : va_W))) (List.perm_append_comm (l₁ := WM adM g I L S Z Y) (l₂ := (WC adC g I L S ++ ([OUT ao on ov] : va_W)))) ?_
  refine g_callV X hSB hAf srcW (hrc1 := (rfl : CL[8]? = some _)) (wm_mem (k := 0) (by decide)) rfl (As := [.int (nI a1), .int (nI a2), .int (xs (6 * k + 3)), .int (xs (6 * k + 4))]) (wr := WC adC g I L S ++ ([OUT ao on ov] : va_W)) (n := 4) (c_X9_stick_3 l D g adM I L S Z Y a1 a2 (xs (6 * k + 3)) (xs (6 * k + 4)) (by first | assumption | omega) (by first | assumption | omega) (out_lo (by decide) (by decide) hw)) rfl srcN hrdN w_1313 w_1310 w_1311 w_1312 w_6 (by decide +kernel) rfl ⟨Nat.le_of_ble_eq_true rfl, Nat.le_of_ble_eq_true rfl⟩ rfl rfl rfl (Nat.le_of_ble_eq_true rfl) ⟨by show cells + 1 + 0 ≤ 600002; omega, by show slots + 6 + 0 ≤ 7302232; omega⟩ dL_law_349 (fun hu2 hp_hu2 => ?_)
  refine g_af (ws' := WM adM g I L S (u2 (u2 Z 3 0 (nI 0)) 3 0 (nI 2)) Y ++ (WC adC g I L S ++ ([OUT ao on ov] : va_W))) (st' := [.int (nI 0)]) (cells' := cells + 1 + 0) (slots' := slots + 6 + 0) (pc' := 352) rfl rfl rfl rfl rfl ?_
  refine g_run X KL_law_352_26 KL_law_352_26_d 355 [(6, .int (nI 0)), (5, .int (nI 2)), (0, .ref b), (1, .ref (adC 0)), (2, .ref (adM 0)), (3, .ref ao), (4, .int (nI (6 * k)))] [.ref (adM 0)] rfl ?_
  refine g_callV X hSB hAf srcW (hrc1 := (rfl : CL[8]? = some _)) (wm_mem (k := 0) (by decide)) rfl (As := []) (wr := WC adC g I L S ++ ([OUT ao on ov] : va_W)) (n := 0) (c_X9_thrown l D g adM I L S (u2 (u2 Z 3 0 (nI 0)) 3 0 (nI 2)) Y ) rfl srcN hrdN w_1250 w_1247 w_1248 w_1249 w_6 (by decide +kernel) rfl ⟨Nat.le_of_ble_eq_true rfl, Nat.le_of_ble_eq_true rfl⟩ rfl rfl rfl (Nat.le_of_ble_eq_true rfl) ⟨by show cells + 1 + 0 + 0 ≤ 600002; omega, by show slots + 6 + 0 + 0 ≤ 7302232; omega⟩ dL_law_355 (fun hu3 hp_hu3 => ?_)
  refine g_af (ws' := WM adM g I L S (u2 (u2 Z 3 0 (nI 0)) 3 0 (nI 2)) Y ++ (WC adC g I L S ++ ([OUT ao on ov] : va_W))) (st' := [.int ((u2 (u2 Z 3 0 (nI 0)) 3 0 (nI 2)) 3 0)]) (cells' := cells + 1 + 0 + 0) (slots' := slots + 6 + 0 + 0) (pc' := 358) rfl rfl rfl rfl rfl ?_
  refine g_st (st' := [.int (nI 2)]) (by first | rfl | (simp [z4, u2]; done)) ?_
  refine g_run X KL_law_358_27 KL_law_358_27_d 360 [(6, .int (nI 0)), (5, .int (nI 2)), (0, .ref b), (1, .ref (adC 0)), (2, .ref (adM 0)), (3, .ref ao), (4, .int (nI (6 * k)))] [.int (nI 2), .int (nI 2)] rfl ?_
  refine g_icmp_eq X 365 dL_law_360 (by decide) (fun hc4 => ?_) (fun hc4 => ?_)
  · refine g_run X KL_law_365_28 KL_law_365_28_d 367 [(6, .int (nI 0)), (5, .int (nI 2)), (0, .ref b), (1, .ref (adC 0)), (2, .ref (adM 0)), (3, .ref ao), (4, .int (nI (6 * k)))] [.int (nI 2)] rfl ?_
    refine g_if_ne X 383 dL_law_367 (by decide) (fun hc5 => ?_) (fun hc5 => ?_)
    · refine g_run X KL_law_383_31 KL_law_383_31_d 2256 [(6, .int (nI 0)), (5, .int (nI 2)), (0, .ref b), (1, .ref (adC 0)), (2, .ref (adM 0)), (3, .ref ao), (4, .int (nI (6 * k)))] [] rfl ?_
      refine g_lv (lv' := [(0, .ref b), (1, .ref (adC 0)), (2, .ref (adM 0)), (3, .ref ao), (4, .int (nI (6 * k)))]) (lsub_c 2 rfl (lsub_c 3 rfl (lsub_c 4 rfl (lsub_c 5 rfl (lsub_c 6 rfl (lsub_n)))))) ?_
      refine g_perm (ws' := (WC adC g I L S ++ ([OUT ao on ov] : va_W)) ++ WM adM g I L S (u2 (u2 Z 3 0 (nI 0)) 3 0 (nI 2)) Y) (List.perm_append_comm (l₁ := (WC adC g I L S ++ ([OUT ao on ov] : va_W))) (l₂ := WM adM g I L S (u2 (u2 Z 3 0 (nI 0)) 3 0 (nI 2)) Y)) ?_
      refine g_widen (k := cells + 60) (n := slots + 1200) (by omega) (by omega) ?_
      exact kk I L S n (u2 (u2 Z 3 0 (nI 0)) 3 0 (nI 2)) Y R on ov (hI) (hR) (by first | exact hZ | (rw [zrow]; exact hZ) | (rw [zrow, zrow]; exact hZ))
    · rw [nz_eq (by omega)] at hc5; first | omega | (simp at hc5)
  · rw [nI_eq (by omega) (by omega)] at hc4; first | omega | (simp at hc4)

set_option maxHeartbeats 4000000 in
set_option maxRecDepth 100000 in
theorem lq1_2 {p : Program} {l : Launch} {e : Env} {s : State} {m : MethodId} {below : List Frame} {meth : Method} {c : Code} {Q : State → Prop} {D : va_G} {A : Nat → Prop} {b N : Nat} {xs : Nat → Int32} {adC adM : Nat → Nat} {g : Nat → ClassId} {ao k cells slots : Nat} {I : Nat → Nat → Int32} {L : Nat → Nat → Int64} {S : Nat → Nat} {n : Nat} {Z : Nat → Nat → Int32} {Y : Int64} {R : Nat → Nat} {on : Int64} {ov : Value} (HX : LX p l s m meth c A b N xs) (hk : 6 * k + 6 ≤ N) (hroom : cells + 60 ≤ 600002 ∧ slots + 1200 ≤ 7302232) (hI : Inv I L S n) (hR : R16 R) (hZ : Z 0 = fun j => nI (R j)) (a1 : Nat) (hl1 : 0 ≤ a1) (hu1 : a1 < 18) (e1 : xs (6 * k + 1) = nI a1) (hw : (xs (6 * k + 2)).toInt < (0 : Nat) ∨ ((16 : Nat) : Int) ≤ (xs (6 * k + 2)).toInt) (kk : LK p l e s m below meth c Q D A b adC adM g ao k cells slots 2256) : GL p l e room_1 s m #[.ref b] below meth c Q D CL (TYS g) A 9 (WL adC adM g ao I L S Z Y on ov) cells slots 293 [(0, .ref b), (1, .ref (adC 0)), (2, .ref (adM 0)), (3, .ref ao), (4, .int (nI (6 * k)))] [] := by
  obtain ⟨X, hSB, hAf, hNC, hfl, hX, hbl, hbA, hN⟩ := HX
  refine g_run X KL_law_293_17 KL_law_293_17_d 299 [(0, .ref b), (1, .ref (adC 0)), (2, .ref (adM 0)), (3, .ref ao), (4, .int (nI (6 * k)))] [.int ((nI (6 * k)) + (nI 1)), .ref b, .ref (adC 0)] rfl ?_
  refine g_nm (lv' := [(0, .ref b), (1, .ref (adC 0)), (2, .ref (adM 0)), (3, .ref ao), (4, .int (nI (6 * k)))]) (st' := [.int (nI ((6 * k) + 1)), .ref b, .ref (adC 0)]) (by simp only [nI_add]) (by simp only [nI_add]) ?_
  refine g_sld X hX hbl hbA hN (v := nI a1) (by omega) e1 dL_law_299 ?_
  refine g_run X KL_law_300_18 KL_law_300_18_d 305 [(0, .ref b), (1, .ref (adC 0)), (2, .ref (adM 0)), (3, .ref ao), (4, .int (nI (6 * k)))] [.int ((nI (6 * k)) + (nI 2)), .ref b, .int (nI a1), .ref (adC 0)] rfl ?_
  refine g_nm (lv' := [(0, .ref b), (1, .ref (adC 0)), (2, .ref (adM 0)), (3, .ref ao), (4, .int (nI (6 * k)))]) (st' := [.int (nI ((6 * k) + 2)), .ref b, .int (nI a1), .ref (adC 0)]) (by simp only [nI_add]) (by simp only [nI_add]) ?_
  refine g_sld X hX hbl hbA hN (v := xs (6 * k + 2)) (by omega) rfl dL_law_305 ?_
  refine g_run X KL_law_306_19 KL_law_306_19_d 311 [(0, .ref b), (1, .ref (adC 0)), (2, .ref (adM 0)), (3, .ref ao), (4, .int (nI (6 * k)))] [.int ((nI (6 * k)) + (nI 3)), .ref b, .int (xs (6 * k + 2)), .int (nI a1), .ref (adC 0)] rfl ?_
  refine g_nm (lv' := [(0, .ref b), (1, .ref (adC 0)), (2, .ref (adM 0)), (3, .ref ao), (4, .int (nI (6 * k)))]) (st' := [.int (nI ((6 * k) + 3)), .ref b, .int (xs (6 * k + 2)), .int (nI a1), .ref (adC 0)]) (by simp only [nI_add]) (by simp only [nI_add]) ?_
  refine g_sld X hX hbl hbA hN (v := xs (6 * k + 3)) (by omega) rfl dL_law_311 ?_
  refine g_run X KL_law_312_20 KL_law_312_20_d 317 [(0, .ref b), (1, .ref (adC 0)), (2, .ref (adM 0)), (3, .ref ao), (4, .int (nI (6 * k)))] [.int ((nI (6 * k)) + (nI 4)), .ref b, .int (xs (6 * k + 3)), .int (xs (6 * k + 2)), .int (nI a1), .ref (adC 0)] rfl ?_
  refine g_nm (lv' := [(0, .ref b), (1, .ref (adC 0)), (2, .ref (adM 0)), (3, .ref ao), (4, .int (nI (6 * k)))]) (st' := [.int (nI ((6 * k) + 4)), .ref b, .int (xs (6 * k + 3)), .int (xs (6 * k + 2)), .int (nI a1), .ref (adC 0)]) (by simp only [nI_add]) (by simp only [nI_add]) ?_
  refine g_sld X hX hbl hbA hN (v := xs (6 * k + 4)) (by omega) rfl dL_law_317 ?_
  refine g_run X KL_law_318_21 KL_law_318_21_d 319 [(0, .ref b), (1, .ref (adC 0)), (2, .ref (adM 0)), (3, .ref ao), (4, .int (nI (6 * k)))] [.ref ao, .int (xs (6 * k + 4)), .int (xs (6 * k + 3)), .int (xs (6 * k + 2)), .int (nI a1), .ref (adC 0)] rfl ?_
  refine g_callSW X hSB hAf hNC (As := [.ref (adC 0), .int (nI a1), .int (xs (6 * k + 2)), .int (xs (6 * k + 3)), .int (xs (6 * k + 4)), .ref ao]) (wr := WM adM g I L S Z Y) (n := 6) (hx_stick_2 l hfl D g adC I L S a1 (xs (6 * k + 2)) (xs (6 * k + 3)) (xs (6 * k + 4)) ao on ov (by first | assumption | omega) (out_lt (by decide) hw)) rfl w_517 w_515 w_516 w_0 (by decide +kernel) rfl ⟨Nat.le_of_ble_eq_true rfl, Nat.le_of_ble_eq_true rfl⟩ rfl rfl rfl (Nat.le_of_ble_eq_true rfl) ⟨by show cells + 1 ≤ 600002; omega, by show slots + 6 ≤ 7302232; omega⟩ dL_law_319 (fun hu1 _ => ?_)
  refine g_af (ws' := (WC adC g I L S ++ ([OUT ao on ov] : va_W)) ++ WM adM g I L S Z Y) (st' := [.int (nI 1)]) (cells' := cells + 1) (slots' := slots + 6) (pc' := 322) rfl rfl rfl rfl rfl ?_
  refine g_run X KL_law_322_22 KL_law_322_22_d 330 [(5, .int (nI 1)), (0, .ref b), (1, .ref (adC 0)), (2, .ref (adM 0)), (3, .ref ao), (4, .int (nI (6 * k)))] [.int ((nI (6 * k)) + (nI 1)), .ref b, .ref (adM 0)] rfl ?_
  refine g_nm (lv' := [(5, .int (nI 1)), (0, .ref b), (1, .ref (adC 0)), (2, .ref (adM 0)), (3, .ref ao), (4, .int (nI (6 * k)))]) (st' := [.int (nI ((6 * k) + 1)), .ref b, .ref (adM 0)]) (by simp only [nI_add]) (by simp only [nI_add]) ?_
  refine g_sld X hX hbl hbA hN (v := nI a1) (by omega) e1 dL_law_330 ?_
  refine g_run X KL_law_331_23 KL_law_331_23_d 336 [(5, .int (nI 1)), (0, .ref b), (1, .ref (adC 0)), (2, .ref (adM 0)), (3, .ref ao), (4, .int (nI (6 * k)))] [.int ((nI (6 * k)) + (nI 2)), .ref b, .int (nI a1), .ref (adM 0)] rfl ?_
  refine g_nm (lv' := [(5, .int (nI 1)), (0, .ref b), (1, .ref (adC 0)), (2, .ref (adM 0)), (3, .ref ao), (4, .int (nI (6 * k)))]) (st' := [.int (nI ((6 * k) + 2)), .ref b, .int (nI a1), .ref (adM 0)]) (by simp only [nI_add]) (by simp only [nI_add]) ?_
  refine g_sld X hX hbl hbA hN (v := xs (6 * k + 2)) (by omega) rfl dL_law_336 ?_
  refine g_run X KL_law_337_24 KL_law_337_24_d 342 [(5, .int (nI 1)), (0, .ref b), (1, .ref (adC 0)), (2, .ref (adM 0)), (3, .ref ao), (4, .int (nI (6 * k)))] [.int ((nI (6 * k)) + (nI 3)), .ref b, .int (xs (6 * k + 2)), .int (nI a1), .ref (adM 0)] rfl ?_
  refine g_nm (lv' := [(5, .int (nI 1)), (0, .ref b), (1, .ref (adC 0)), (2, .ref (adM 0)), (3, .ref ao), (4, .int (nI (6 * k)))]) (st' := [.int (nI ((6 * k) + 3)), .ref b, .int (xs (6 * k + 2)), .int (nI a1), .ref (adM 0)]) (by simp only [nI_add]) (by simp only [nI_add]) ?_
  refine g_sld X hX hbl hbA hN (v := xs (6 * k + 3)) (by omega) rfl dL_law_342 ?_
  refine g_run X KL_law_343_25 KL_law_343_25_d 348 [(5, .int (nI 1)), (0, .ref b), (1, .ref (adC 0)), (2, .ref (adM 0)), (3, .ref ao), (4, .int (nI (6 * k)))] [.int ((nI (6 * k)) + (nI 4)), .ref b, .int (xs (6 * k + 3)), .int (xs (6 * k + 2)), .int (nI a1), .ref (adM 0)] rfl ?_
  refine g_nm (lv' := [(5, .int (nI 1)), (0, .ref b), (1, .ref (adC 0)), (2, .ref (adM 0)), (3, .ref ao), (4, .int (nI (6 * k)))]) (st' := [.int (nI ((6 * k) + 4)), .ref b, .int (xs (6 * k + 3)), .int (xs (6 * k + 2)), .int (nI a1), .ref (adM 0)]) (by simp only [nI_add]) (by simp only [nI_add]) ?_
  refine g_sld X hX hbl hbA hN (v := xs (6 * k + 4)) (by omega) rfl dL_law_348 ?_
  refine g_perm (ws' := WM adM g I L S Z Y ++ (WC adC g I L S ++ ([OUT ao on ov] : va_W))) (List.perm_append_comm (l₁ := WM adM g I L S Z Y) (l₂ := (WC adC g I L S ++ ([OUT ao on ov] : va_W)))) ?_
  refine g_callV X hSB hAf srcW (hrc1 := (rfl : CL[8]? = some _)) (wm_mem (k := 0) (by decide)) rfl (As := [.int (nI a1), .int (xs (6 * k + 2)), .int (xs (6 * k + 3)), .int (xs (6 * k + 4))]) (wr := WC adC g I L S ++ ([OUT ao on ov] : va_W)) (n := 4) (c_X9_stick_2 l D g adM I L S Z Y a1 (xs (6 * k + 2)) (xs (6 * k + 3)) (xs (6 * k + 4)) (by first | assumption | omega) (out_le (by decide) hw)) rfl srcN hrdN w_1313 w_1310 w_1311 w_1312 w_6 (by decide +kernel) rfl ⟨Nat.le_of_ble_eq_true rfl, Nat.le_of_ble_eq_true rfl⟩ rfl rfl rfl (Nat.le_of_ble_eq_true rfl) ⟨by show cells + 1 + 0 ≤ 600002; omega, by show slots + 6 + 0 ≤ 7302232; omega⟩ dL_law_349 (fun hu2 hp_hu2 => ?_)
  refine g_af (ws' := WM adM g I L S (u2 (u2 Z 3 0 (nI 0)) 3 0 (nI 1)) Y ++ (WC adC g I L S ++ ([OUT ao on ov] : va_W))) (st' := [.int (nI 0)]) (cells' := cells + 1 + 0) (slots' := slots + 6 + 0) (pc' := 352) rfl rfl rfl rfl rfl ?_
  refine g_run X KL_law_352_26 KL_law_352_26_d 355 [(6, .int (nI 0)), (5, .int (nI 1)), (0, .ref b), (1, .ref (adC 0)), (2, .ref (adM 0)), (3, .ref ao), (4, .int (nI (6 * k)))] [.ref (adM 0)] rfl ?_
  refine g_callV X hSB hAf srcW (hrc1 := (rfl : CL[8]? = some _)) (wm_mem (k := 0) (by decide)) rfl (As := []) (wr := WC adC g I L S ++ ([OUT ao on ov] : va_W)) (n := 0) (c_X9_thrown l D g adM I L S (u2 (u2 Z 3 0 (nI 0)) 3 0 (nI 1)) Y ) rfl srcN hrdN w_1250 w_1247 w_1248 w_1249 w_6 (by decide +kernel) rfl ⟨Nat.le_of_ble_eq_true rfl, Nat.le_of_ble_eq_true rfl⟩ rfl rfl rfl (Nat.le_of_ble_eq_true rfl) ⟨by show cells + 1 + 0 + 0 ≤ 600002; omega, by show slots + 6 + 0 + 0 ≤ 7302232; omega⟩ dL_law_355 (fun hu3 hp_hu3 => ?_)
  refine g_af (ws' := WM adM g I L S (u2 (u2 Z 3 0 (nI 0)) 3 0 (nI 1)) Y ++ (WC adC g I L S ++ ([OUT ao on ov] : va_W))) (st' := [.int ((u2 (u2 Z 3 0 (nI 0)) 3 0 (nI 1)) 3 0)]) (cells' := cells + 1 + 0 + 0) (slots' := slots + 6 + 0 + 0) (pc' := 358) rfl rfl rfl rfl rfl ?_
  refine g_st (st' := [.int (nI 1)]) (by first | rfl | (simp [z4, u2]; done)) ?_
  refine g_run X KL_law_358_27 KL_law_358_27_d 360 [(6, .int (nI 0)), (5, .int (nI 1)), (0, .ref b), (1, .ref (adC 0)), (2, .ref (adM 0)), (3, .ref ao), (4, .int (nI (6 * k)))] [.int (nI 1), .int (nI 1)] rfl ?_
  refine g_icmp_eq X 365 dL_law_360 (by decide) (fun hc4 => ?_) (fun hc4 => ?_)
  · refine g_run X KL_law_365_28 KL_law_365_28_d 367 [(6, .int (nI 0)), (5, .int (nI 1)), (0, .ref b), (1, .ref (adC 0)), (2, .ref (adM 0)), (3, .ref ao), (4, .int (nI (6 * k)))] [.int (nI 1)] rfl ?_
    refine g_if_ne X 383 dL_law_367 (by decide) (fun hc5 => ?_) (fun hc5 => ?_)
    · refine g_run X KL_law_383_31 KL_law_383_31_d 2256 [(6, .int (nI 0)), (5, .int (nI 1)), (0, .ref b), (1, .ref (adC 0)), (2, .ref (adM 0)), (3, .ref ao), (4, .int (nI (6 * k)))] [] rfl ?_
      refine g_lv (lv' := [(0, .ref b), (1, .ref (adC 0)), (2, .ref (adM 0)), (3, .ref ao), (4, .int (nI (6 * k)))]) (lsub_c 2 rfl (lsub_c 3 rfl (lsub_c 4 rfl (lsub_c 5 rfl (lsub_c 6 rfl (lsub_n)))))) ?_
      refine g_perm (ws' := (WC adC g I L S ++ ([OUT ao on ov] : va_W)) ++ WM adM g I L S (u2 (u2 Z 3 0 (nI 0)) 3 0 (nI 1)) Y) (List.perm_append_comm (l₁ := (WC adC g I L S ++ ([OUT ao on ov] : va_W))) (l₂ := WM adM g I L S (u2 (u2 Z 3 0 (nI 0)) 3 0 (nI 1)) Y)) ?_
      refine g_widen (k := cells + 60) (n := slots + 1200) (by omega) (by omega) ?_
      exact kk I L S n (u2 (u2 Z 3 0 (nI 0)) 3 0 (nI 1)) Y R on ov (hI) (hR) (by first | exact hZ | (rw [zrow]; exact hZ) | (rw [zrow, zrow]; exact hZ))
    · rw [nz_eq (by omega)] at hc5; first | omega | (simp at hc5)
  · rw [nI_eq (by omega) (by omega)] at hc4; first | omega | (simp at hc4)

set_option maxHeartbeats 4000000 in
set_option maxRecDepth 100000 in
theorem lq1_1 {p : Program} {l : Launch} {e : Env} {s : State} {m : MethodId} {below : List Frame} {meth : Method} {c : Code} {Q : State → Prop} {D : va_G} {A : Nat → Prop} {b N : Nat} {xs : Nat → Int32} {adC adM : Nat → Nat} {g : Nat → ClassId} {ao k cells slots : Nat} {I : Nat → Nat → Int32} {L : Nat → Nat → Int64} {S : Nat → Nat} {n : Nat} {Z : Nat → Nat → Int32} {Y : Int64} {R : Nat → Nat} {on : Int64} {ov : Value} (HX : LX p l s m meth c A b N xs) (hk : 6 * k + 6 ≤ N) (hroom : cells + 60 ≤ 600002 ∧ slots + 1200 ≤ 7302232) (hI : Inv I L S n) (hR : R16 R) (hZ : Z 0 = fun j => nI (R j)) (hw : (xs (6 * k + 1)).toInt < (0 : Nat) ∨ ((18 : Nat) : Int) ≤ (xs (6 * k + 1)).toInt) (kk : LK p l e s m below meth c Q D A b adC adM g ao k cells slots 2256) : GL p l e room_1 s m #[.ref b] below meth c Q D CL (TYS g) A 9 (WL adC adM g ao I L S Z Y on ov) cells slots 293 [(0, .ref b), (1, .ref (adC 0)), (2, .ref (adM 0)), (3, .ref ao), (4, .int (nI (6 * k)))] [] := by
  obtain ⟨X, hSB, hAf, hNC, hfl, hX, hbl, hbA, hN⟩ := HX
  refine g_run X KL_law_293_17 KL_law_293_17_d 299 [(0, .ref b), (1, .ref (adC 0)), (2, .ref (adM 0)), (3, .ref ao), (4, .int (nI (6 * k)))] [.int ((nI (6 * k)) + (nI 1)), .ref b, .ref (adC 0)] rfl ?_
  refine g_nm (lv' := [(0, .ref b), (1, .ref (adC 0)), (2, .ref (adM 0)), (3, .ref ao), (4, .int (nI (6 * k)))]) (st' := [.int (nI ((6 * k) + 1)), .ref b, .ref (adC 0)]) (by simp only [nI_add]) (by simp only [nI_add]) ?_
  refine g_sld X hX hbl hbA hN (v := xs (6 * k + 1)) (by omega) rfl dL_law_299 ?_
  refine g_run X KL_law_300_18 KL_law_300_18_d 305 [(0, .ref b), (1, .ref (adC 0)), (2, .ref (adM 0)), (3, .ref ao), (4, .int (nI (6 * k)))] [.int ((nI (6 * k)) + (nI 2)), .ref b, .int (xs (6 * k + 1)), .ref (adC 0)] rfl ?_
  refine g_nm (lv' := [(0, .ref b), (1, .ref (adC 0)), (2, .ref (adM 0)), (3, .ref ao), (4, .int (nI (6 * k)))]) (st' := [.int (nI ((6 * k) + 2)), .ref b, .int (xs (6 * k + 1)), .ref (adC 0)]) (by simp only [nI_add]) (by simp only [nI_add]) ?_
  refine g_sld X hX hbl hbA hN (v := xs (6 * k + 2)) (by omega) rfl dL_law_305 ?_
  refine g_run X KL_law_306_19 KL_law_306_19_d 311 [(0, .ref b), (1, .ref (adC 0)), (2, .ref (adM 0)), (3, .ref ao), (4, .int (nI (6 * k)))] [.int ((nI (6 * k)) + (nI 3)), .ref b, .int (xs (6 * k + 2)), .int (xs (6 * k + 1)), .ref (adC 0)] rfl ?_
  refine g_nm (lv' := [(0, .ref b), (1, .ref (adC 0)), (2, .ref (adM 0)), (3, .ref ao), (4, .int (nI (6 * k)))]) (st' := [.int (nI ((6 * k) + 3)), .ref b, .int (xs (6 * k + 2)), .int (xs (6 * k + 1)), .ref (adC 0)]) (by simp only [nI_add]) (by simp only [nI_add]) ?_
  refine g_sld X hX hbl hbA hN (v := xs (6 * k + 3)) (by omega) rfl dL_law_311 ?_
  refine g_run X KL_law_312_20 KL_law_312_20_d 317 [(0, .ref b), (1, .ref (adC 0)), (2, .ref (adM 0)), (3, .ref ao), (4, .int (nI (6 * k)))] [.int ((nI (6 * k)) + (nI 4)), .ref b, .int (xs (6 * k + 3)), .int (xs (6 * k + 2)), .int (xs (6 * k + 1)), .ref (adC 0)] rfl ?_
  refine g_nm (lv' := [(0, .ref b), (1, .ref (adC 0)), (2, .ref (adM 0)), (3, .ref ao), (4, .int (nI (6 * k)))]) (st' := [.int (nI ((6 * k) + 4)), .ref b, .int (xs (6 * k + 3)), .int (xs (6 * k + 2)), .int (xs (6 * k + 1)), .ref (adC 0)]) (by simp only [nI_add]) (by simp only [nI_add]) ?_
  refine g_sld X hX hbl hbA hN (v := xs (6 * k + 4)) (by omega) rfl dL_law_317 ?_
  refine g_run X KL_law_318_21 KL_law_318_21_d 319 [(0, .ref b), (1, .ref (adC 0)), (2, .ref (adM 0)), (3, .ref ao), (4, .int (nI (6 * k)))] [.ref ao, .int (xs (6 * k + 4)), .int (xs (6 * k + 3)), .int (xs (6 * k + 2)), .int (xs (6 * k + 1)), .ref (adC 0)] rfl ?_
  refine g_callSW X hSB hAf hNC (As := [.ref (adC 0), .int (xs (6 * k + 1)), .int (xs (6 * k + 2)), .int (xs (6 * k + 3)), .int (xs (6 * k + 4)), .ref ao]) (wr := WM adM g I L S Z Y) (n := 6) (hx_stick_1 l hfl D g adC I L S (xs (6 * k + 1)) (xs (6 * k + 2)) (xs (6 * k + 3)) (xs (6 * k + 4)) ao on ov (out_lt (by decide) hw)) rfl w_517 w_515 w_516 w_0 (by decide +kernel) rfl ⟨Nat.le_of_ble_eq_true rfl, Nat.le_of_ble_eq_true rfl⟩ rfl rfl rfl (Nat.le_of_ble_eq_true rfl) ⟨by show cells + 1 ≤ 600002; omega, by show slots + 6 ≤ 7302232; omega⟩ dL_law_319 (fun hu1 _ => ?_)
  refine g_af (ws' := (WC adC g I L S ++ ([OUT ao on ov] : va_W)) ++ WM adM g I L S Z Y) (st' := [.int (nI 1)]) (cells' := cells + 1) (slots' := slots + 6) (pc' := 322) rfl rfl rfl rfl rfl ?_
  refine g_run X KL_law_322_22 KL_law_322_22_d 330 [(5, .int (nI 1)), (0, .ref b), (1, .ref (adC 0)), (2, .ref (adM 0)), (3, .ref ao), (4, .int (nI (6 * k)))] [.int ((nI (6 * k)) + (nI 1)), .ref b, .ref (adM 0)] rfl ?_
  refine g_nm (lv' := [(5, .int (nI 1)), (0, .ref b), (1, .ref (adC 0)), (2, .ref (adM 0)), (3, .ref ao), (4, .int (nI (6 * k)))]) (st' := [.int (nI ((6 * k) + 1)), .ref b, .ref (adM 0)]) (by simp only [nI_add]) (by simp only [nI_add]) ?_
  refine g_sld X hX hbl hbA hN (v := xs (6 * k + 1)) (by omega) rfl dL_law_330 ?_
  refine g_run X KL_law_331_23 KL_law_331_23_d 336 [(5, .int (nI 1)), (0, .ref b), (1, .ref (adC 0)), (2, .ref (adM 0)), (3, .ref ao), (4, .int (nI (6 * k)))] [.int ((nI (6 * k)) + (nI 2)), .ref b, .int (xs (6 * k + 1)), .ref (adM 0)] rfl ?_
  refine g_nm (lv' := [(5, .int (nI 1)), (0, .ref b), (1, .ref (adC 0)), (2, .ref (adM 0)), (3, .ref ao), (4, .int (nI (6 * k)))]) (st' := [.int (nI ((6 * k) + 2)), .ref b, .int (xs (6 * k + 1)), .ref (adM 0)]) (by simp only [nI_add]) (by simp only [nI_add]) ?_
  refine g_sld X hX hbl hbA hN (v := xs (6 * k + 2)) (by omega) rfl dL_law_336 ?_
  refine g_run X KL_law_337_24 KL_law_337_24_d 342 [(5, .int (nI 1)), (0, .ref b), (1, .ref (adC 0)), (2, .ref (adM 0)), (3, .ref ao), (4, .int (nI (6 * k)))] [.int ((nI (6 * k)) + (nI 3)), .ref b, .int (xs (6 * k + 2)), .int (xs (6 * k + 1)), .ref (adM 0)] rfl ?_
  refine g_nm (lv' := [(5, .int (nI 1)), (0, .ref b), (1, .ref (adC 0)), (2, .ref (adM 0)), (3, .ref ao), (4, .int (nI (6 * k)))]) (st' := [.int (nI ((6 * k) + 3)), .ref b, .int (xs (6 * k + 2)), .int (xs (6 * k + 1)), .ref (adM 0)]) (by simp only [nI_add]) (by simp only [nI_add]) ?_
  refine g_sld X hX hbl hbA hN (v := xs (6 * k + 3)) (by omega) rfl dL_law_342 ?_
  refine g_run X KL_law_343_25 KL_law_343_25_d 348 [(5, .int (nI 1)), (0, .ref b), (1, .ref (adC 0)), (2, .ref (adM 0)), (3, .ref ao), (4, .int (nI (6 * k)))] [.int ((nI (6 * k)) + (nI 4)), .ref b, .int (xs (6 * k + 3)), .int (xs (6 * k + 2)), .int (xs (6 * k + 1)), .ref (adM 0)] rfl ?_
  refine g_nm (lv' := [(5, .int (nI 1)), (0, .ref b), (1, .ref (adC 0)), (2, .ref (adM 0)), (3, .ref ao), (4, .int (nI (6 * k)))]) (st' := [.int (nI ((6 * k) + 4)), .ref b, .int (xs (6 * k + 3)), .int (xs (6 * k + 2)), .int (xs (6 * k + 1)), .ref (adM 0)]) (by simp only [nI_add]) (by simp only [nI_add]) ?_
  refine g_sld X hX hbl hbA hN (v := xs (6 * k + 4)) (by omega) rfl dL_law_348 ?_
  refine g_perm (ws' := WM adM g I L S Z Y ++ (WC adC g I L S ++ ([OUT ao on ov] : va_W))) (List.perm_append_comm (l₁ := WM adM g I L S Z Y) (l₂ := (WC adC g I L S ++ ([OUT ao on ov] : va_W)))) ?_
  refine g_callV X hSB hAf srcW (hrc1 := (rfl : CL[8]? = some _)) (wm_mem (k := 0) (by decide)) rfl (As := [.int (xs (6 * k + 1)), .int (xs (6 * k + 2)), .int (xs (6 * k + 3)), .int (xs (6 * k + 4))]) (wr := WC adC g I L S ++ ([OUT ao on ov] : va_W)) (n := 4) (c_X9_stick_1 l D g adM I L S Z Y (xs (6 * k + 1)) (xs (6 * k + 2)) (xs (6 * k + 3)) (xs (6 * k + 4)) (out_le (by decide) hw)) rfl srcN hrdN w_1313 w_1310 w_1311 w_1312 w_6 (by decide +kernel) rfl ⟨Nat.le_of_ble_eq_true rfl, Nat.le_of_ble_eq_true rfl⟩ rfl rfl rfl (Nat.le_of_ble_eq_true rfl) ⟨by show cells + 1 + 0 ≤ 600002; omega, by show slots + 6 + 0 ≤ 7302232; omega⟩ dL_law_349 (fun hu2 hp_hu2 => ?_)
  refine g_af (ws' := WM adM g I L S (u2 (u2 Z 3 0 (nI 0)) 3 0 (nI 1)) Y ++ (WC adC g I L S ++ ([OUT ao on ov] : va_W))) (st' := [.int (nI 0)]) (cells' := cells + 1 + 0) (slots' := slots + 6 + 0) (pc' := 352) rfl rfl rfl rfl rfl ?_
  refine g_run X KL_law_352_26 KL_law_352_26_d 355 [(6, .int (nI 0)), (5, .int (nI 1)), (0, .ref b), (1, .ref (adC 0)), (2, .ref (adM 0)), (3, .ref ao), (4, .int (nI (6 * k)))] [.ref (adM 0)] rfl ?_
  refine g_callV X hSB hAf srcW (hrc1 := (rfl : CL[8]? = some _)) (wm_mem (k := 0) (by decide)) rfl (As := []) (wr := WC adC g I L S ++ ([OUT ao on ov] : va_W)) (n := 0) (c_X9_thrown l D g adM I L S (u2 (u2 Z 3 0 (nI 0)) 3 0 (nI 1)) Y ) rfl srcN hrdN w_1250 w_1247 w_1248 w_1249 w_6 (by decide +kernel) rfl ⟨Nat.le_of_ble_eq_true rfl, Nat.le_of_ble_eq_true rfl⟩ rfl rfl rfl (Nat.le_of_ble_eq_true rfl) ⟨by show cells + 1 + 0 + 0 ≤ 600002; omega, by show slots + 6 + 0 + 0 ≤ 7302232; omega⟩ dL_law_355 (fun hu3 hp_hu3 => ?_)
  refine g_af (ws' := WM adM g I L S (u2 (u2 Z 3 0 (nI 0)) 3 0 (nI 1)) Y ++ (WC adC g I L S ++ ([OUT ao on ov] : va_W))) (st' := [.int ((u2 (u2 Z 3 0 (nI 0)) 3 0 (nI 1)) 3 0)]) (cells' := cells + 1 + 0 + 0) (slots' := slots + 6 + 0 + 0) (pc' := 358) rfl rfl rfl rfl rfl ?_
  refine g_st (st' := [.int (nI 1)]) (by first | rfl | (simp [z4, u2]; done)) ?_
  refine g_run X KL_law_358_27 KL_law_358_27_d 360 [(6, .int (nI 0)), (5, .int (nI 1)), (0, .ref b), (1, .ref (adC 0)), (2, .ref (adM 0)), (3, .ref ao), (4, .int (nI (6 * k)))] [.int (nI 1), .int (nI 1)] rfl ?_
  refine g_icmp_eq X 365 dL_law_360 (by decide) (fun hc4 => ?_) (fun hc4 => ?_)
  · refine g_run X KL_law_365_28 KL_law_365_28_d 367 [(6, .int (nI 0)), (5, .int (nI 1)), (0, .ref b), (1, .ref (adC 0)), (2, .ref (adM 0)), (3, .ref ao), (4, .int (nI (6 * k)))] [.int (nI 1)] rfl ?_
    refine g_if_ne X 383 dL_law_367 (by decide) (fun hc5 => ?_) (fun hc5 => ?_)
    · refine g_run X KL_law_383_31 KL_law_383_31_d 2256 [(6, .int (nI 0)), (5, .int (nI 1)), (0, .ref b), (1, .ref (adC 0)), (2, .ref (adM 0)), (3, .ref ao), (4, .int (nI (6 * k)))] [] rfl ?_
      refine g_lv (lv' := [(0, .ref b), (1, .ref (adC 0)), (2, .ref (adM 0)), (3, .ref ao), (4, .int (nI (6 * k)))]) (lsub_c 2 rfl (lsub_c 3 rfl (lsub_c 4 rfl (lsub_c 5 rfl (lsub_c 6 rfl (lsub_n)))))) ?_
      refine g_perm (ws' := (WC adC g I L S ++ ([OUT ao on ov] : va_W)) ++ WM adM g I L S (u2 (u2 Z 3 0 (nI 0)) 3 0 (nI 1)) Y) (List.perm_append_comm (l₁ := (WC adC g I L S ++ ([OUT ao on ov] : va_W))) (l₂ := WM adM g I L S (u2 (u2 Z 3 0 (nI 0)) 3 0 (nI 1)) Y)) ?_
      refine g_widen (k := cells + 60) (n := slots + 1200) (by omega) (by omega) ?_
      exact kk I L S n (u2 (u2 Z 3 0 (nI 0)) 3 0 (nI 1)) Y R on ov (hI) (hR) (by first | exact hZ | (rw [zrow]; exact hZ) | (rw [zrow, zrow]; exact hZ))
    · rw [nz_eq (by omega)] at hc5; first | omega | (simp at hc5)
  · rw [nI_eq (by omega) (by omega)] at hc4; first | omega | (simp at hc4)

theorem lq1 {p : Program} {l : Launch} {e : Env} {s : State} {m : MethodId} {below : List Frame} {meth : Method} {c : Code} {Q : State → Prop} {D : va_G} {A : Nat → Prop} {b N : Nat} {xs : Nat → Int32} {adC adM : Nat → Nat} {g : Nat → ClassId} {ao k cells slots : Nat} {I : Nat → Nat → Int32} {L : Nat → Nat → Int64} {S : Nat → Nat} {n : Nat} {Z : Nat → Nat → Int32} {Y : Int64} {R : Nat → Nat} {on : Int64} {ov : Value} (HX : LX p l s m meth c A b N xs) (hk : 6 * k + 6 ≤ N) (hroom : cells + 60 ≤ 600002 ∧ slots + 1200 ≤ 7302232) (hI : Inv I L S n) (hR : R16 R) (hZ : Z 0 = fun j => nI (R j)) (kk : LK p l e s m below meth c Q D A b adC adM g ao k cells slots 2256) : GL p l e room_1 s m #[.ref b] below meth c Q D CL (TYS g) A 9 (WL adC adM g ao I L S Z Y on ov) cells slots 293 [(0, .ref b), (1, .ref (adC 0)), (2, .ref (adM 0)), (3, .ref ao), (4, .int (nI (6 * k)))] [] := by
  rcases rg (xs (6 * k + 1)) 0 18 with ⟨a1, hl1, hu1, e1⟩ | hw
  · rcases rg (xs (6 * k + 2)) 0 16 with ⟨a2, hl2, hu2, e2⟩ | hw
    · rcases rg (xs (6 * k + 3)) 0 16 with ⟨a3, hl3, hu3, e3⟩ | hw
      · rcases rg (xs (6 * k + 4)) 0 16 with ⟨a4, hl4, hu4, e4⟩ | hw
        · exact lq1_0 HX hk hroom hI hR hZ  a1 hl1 hu1 e1 a2 hl2 hu2 e2 a3 hl3 hu3 e3 a4 hl4 hu4 e4 kk
        · exact lq1_4 HX hk hroom hI hR hZ  a1 hl1 hu1 e1 a2 hl2 hu2 e2 a3 hl3 hu3 e3 hw kk
      · exact lq1_3 HX hk hroom hI hR hZ  a1 hl1 hu1 e1 a2 hl2 hu2 e2 hw kk
    · exact lq1_2 HX hk hroom hI hR hZ  a1 hl1 hu1 e1 hw kk
  · exact lq1_1 HX hk hroom hI hR hZ  hw kk

def KL_law_386_32 : List (Nat × Instr × Nat) := [(386, .aload_n 1, 1), (387, .aload_n 0, 1), (388, .iload 4, 2), (390, .iconst 1, 1), (391, .iadd, 1)]
theorem KL_law_386_32_d : ∀ z ∈ KL_law_386_32, decode cL_law z.1 = .ok z.2 := by decide +kernel
def KL_law_393_33 : List (Nat × Instr × Nat) := [(393, .aload_n 0, 1), (394, .iload 4, 2), (396, .iconst 2, 1), (397, .iadd, 1)]
theorem KL_law_393_33_d : ∀ z ∈ KL_law_393_33, decode cL_law z.1 = .ok z.2 := by decide +kernel
def KL_law_399_34 : List (Nat × Instr × Nat) := [(399, .aload_n 3, 1)]
theorem KL_law_399_34_d : ∀ z ∈ KL_law_399_34, decode cL_law z.1 = .ok z.2 := by decide +kernel
def KL_law_403_35 : List (Nat × Instr × Nat) := [(403, .istore 5, 2), (405, .aload_n 2, 1), (406, .aload_n 0, 1), (407, .iload 4, 2), (409, .iconst 1, 1), (410, .iadd, 1)]
theorem KL_law_403_35_d : ∀ z ∈ KL_law_403_35, decode cL_law z.1 = .ok z.2 := by decide +kernel
def KL_law_412_36 : List (Nat × Instr × Nat) := [(412, .aload_n 0, 1), (413, .iload 4, 2), (415, .iconst 2, 1), (416, .iadd, 1)]
theorem KL_law_412_36_d : ∀ z ∈ KL_law_412_36, decode cL_law z.1 = .ok z.2 := by decide +kernel
def KL_law_421_37 : List (Nat × Instr × Nat) := [(421, .istore 6, 2), (423, .aload_n 2, 1)]
theorem KL_law_421_37_d : ∀ z ∈ KL_law_421_37, decode cL_law z.1 = .ok z.2 := by decide +kernel
def KL_law_427_38 : List (Nat × Instr × Nat) := [(427, .iload 5, 2)]
theorem KL_law_427_38_d : ∀ z ∈ KL_law_427_38, decode cL_law z.1 = .ok z.2 := by decide +kernel
def KL_law_434_39 : List (Nat × Instr × Nat) := [(434, .iload 5, 2)]
theorem KL_law_434_39_d : ∀ z ∈ KL_law_434_39, decode cL_law z.1 = .ok z.2 := by decide +kernel
def KL_law_439_40 : List (Nat × Instr × Nat) := [(439, .aload_n 3, 1)]
theorem KL_law_439_40_d : ∀ z ∈ KL_law_439_40, decode cL_law z.1 = .ok z.2 := by decide +kernel
def KL_law_443_41 : List (Nat × Instr × Nat) := [(443, .iload 6, 2), (445, .i2l, 1), (446, .lcmp, 1)]
theorem KL_law_443_41_d : ∀ z ∈ KL_law_443_41, decode cL_law z.1 = .ok z.2 := by decide +kernel
def KL_law_452_42 : List (Nat × Instr × Nat) := [(452, .goto 1804, 3)]
theorem KL_law_452_42_d : ∀ z ∈ KL_law_452_42, decode cL_law z.1 = .ok z.2 := by decide +kernel
set_option maxHeartbeats 4000000 in
set_option maxRecDepth 100000 in
theorem lq2_n {p : Program} {l : Launch} {e : Env} {s : State} {m : MethodId} {below : List Frame} {meth : Method} {c : Code} {Q : State → Prop} {D : va_G} {A : Nat → Prop} {b N : Nat} {xs : Nat → Int32} {adC adM : Nat → Nat} {g : Nat → ClassId} {ao k cells slots : Nat} {I : Nat → Nat → Int32} {L : Nat → Nat → Int64} {S : Nat → Nat} {n : Nat} {Z : Nat → Nat → Int32} {Y : Int64} {R : Nat → Nat} {on : Int64} {ov : Value} (HX : LX p l s m meth c A b N xs) (hk : 6 * k + 6 ≤ N) (hroom : cells + 60 ≤ 600002 ∧ slots + 1200 ≤ 7302232) (hI : Inv I L S n) (hR : R16 R) (hZ : Z 0 = fun j => nI (R j)) (a1 : Nat) (hl1 : 0 ≤ a1) (hu1 : a1 < 18) (e1 : xs (6 * k + 1) = nI a1) (e2 : xs (6 * k + 2) = -nI 1) (kk : LK p l e s m below meth c Q D A b adC adM g ao k cells slots 2256) : GL p l e room_1 s m #[.ref b] below meth c Q D CL (TYS g) A 9 (WL adC adM g ao I L S Z Y on ov) cells slots 386 [(0, .ref b), (1, .ref (adC 0)), (2, .ref (adM 0)), (3, .ref ao), (4, .int (nI (6 * k)))] [] := by
  obtain ⟨X, hSB, hAf, hNC, hfl, hX, hbl, hbA, hN⟩ := HX
  refine g_run X KL_law_386_32 KL_law_386_32_d 392 [(0, .ref b), (1, .ref (adC 0)), (2, .ref (adM 0)), (3, .ref ao), (4, .int (nI (6 * k)))] [.int ((nI (6 * k)) + (nI 1)), .ref b, .ref (adC 0)] rfl ?_
  refine g_nm (lv' := [(0, .ref b), (1, .ref (adC 0)), (2, .ref (adM 0)), (3, .ref ao), (4, .int (nI (6 * k)))]) (st' := [.int (nI ((6 * k) + 1)), .ref b, .ref (adC 0)]) (by simp only [nI_add]) (by simp only [nI_add]) ?_
  refine g_sld X hX hbl hbA hN (v := nI a1) (by omega) e1 dL_law_392 ?_
  refine g_run X KL_law_393_33 KL_law_393_33_d 398 [(0, .ref b), (1, .ref (adC 0)), (2, .ref (adM 0)), (3, .ref ao), (4, .int (nI (6 * k)))] [.int ((nI (6 * k)) + (nI 2)), .ref b, .int (nI a1), .ref (adC 0)] rfl ?_
  refine g_nm (lv' := [(0, .ref b), (1, .ref (adC 0)), (2, .ref (adM 0)), (3, .ref ao), (4, .int (nI (6 * k)))]) (st' := [.int (nI ((6 * k) + 2)), .ref b, .int (nI a1), .ref (adC 0)]) (by simp only [nI_add]) (by simp only [nI_add]) ?_
  refine g_sld X hX hbl hbA hN (v := -nI 1) (by omega) e2 dL_law_398 ?_
  refine g_run X KL_law_399_34 KL_law_399_34_d 400 [(0, .ref b), (1, .ref (adC 0)), (2, .ref (adM 0)), (3, .ref ao), (4, .int (nI (6 * k)))] [.ref ao, .int (-nI 1), .int (nI a1), .ref (adC 0)] rfl ?_
  refine g_callSW X hSB hAf hNC (As := [.ref (adC 0), .int (nI a1), .int (-nI 1), .ref ao]) (wr := WM adM g I L S Z Y) (n := 4) (hc_mad_n l D g adC I L S a1 ao on ov (by first | assumption | omega)) rfl w_532 w_530 w_531 w_0 (by decide +kernel) rfl ⟨Nat.le_of_ble_eq_true rfl, Nat.le_of_ble_eq_true rfl⟩ rfl rfl rfl (Nat.le_of_ble_eq_true rfl) ⟨by show cells + 0 ≤ 600002; omega, by show slots + 0 ≤ 7302232; omega⟩ dL_law_400 (fun hu1 _ => ?_)
  refine g_af (ws' := (WC adC g (u2 I 1 a1 (-nI 1)) L S ++ ([OUT ao ((I 1 a1).toInt64) ov] : va_W)) ++ WM adM g I L S Z Y) (st' := [.int (nI 0)]) (cells' := cells + 0) (slots' := slots + 0) (pc' := 403) rfl rfl rfl rfl rfl ?_
  refine g_run X KL_law_403_35 KL_law_403_35_d 411 [(5, .int (nI 0)), (0, .ref b), (1, .ref (adC 0)), (2, .ref (adM 0)), (3, .ref ao), (4, .int (nI (6 * k)))] [.int ((nI (6 * k)) + (nI 1)), .ref b, .ref (adM 0)] rfl ?_
  refine g_nm (lv' := [(5, .int (nI 0)), (0, .ref b), (1, .ref (adC 0)), (2, .ref (adM 0)), (3, .ref ao), (4, .int (nI (6 * k)))]) (st' := [.int (nI ((6 * k) + 1)), .ref b, .ref (adM 0)]) (by simp only [nI_add]) (by simp only [nI_add]) ?_
  refine g_sld X hX hbl hbA hN (v := nI a1) (by omega) e1 dL_law_411 ?_
  refine g_run X KL_law_412_36 KL_law_412_36_d 417 [(5, .int (nI 0)), (0, .ref b), (1, .ref (adC 0)), (2, .ref (adM 0)), (3, .ref ao), (4, .int (nI (6 * k)))] [.int ((nI (6 * k)) + (nI 2)), .ref b, .int (nI a1), .ref (adM 0)] rfl ?_
  refine g_nm (lv' := [(5, .int (nI 0)), (0, .ref b), (1, .ref (adC 0)), (2, .ref (adM 0)), (3, .ref ao), (4, .int (nI (6 * k)))]) (st' := [.int (nI ((6 * k) + 2)), .ref b, .int (nI a1), .ref (adM 0)]) (by simp only [nI_add]) (by simp only [nI_add]) ?_
  refine g_sld X hX hbl hbA hN (v := -nI 1) (by omega) e2 dL_law_417 ?_
  refine g_perm (ws' := WM adM g I L S Z Y ++ (WC adC g (u2 I 1 a1 (-nI 1)) L S ++ ([OUT ao ((I 1 a1).toInt64) ov] : va_W))) (List.perm_append_comm (l₁ := WM adM g I L S Z Y) (l₂ := (WC adC g (u2 I 1 a1 (-nI 1)) L S ++ ([OUT ao ((I 1 a1).toInt64) ov] : va_W)))) ?_
  refine g_callV X hSB hAf srcW (hrc1 := (rfl : CL[8]? = some _)) (wm_mem (k := 0) (by decide)) rfl (As := [.int (nI a1), .int (-nI 1)]) (wr := WC adC g (u2 I 1 a1 (-nI 1)) L S ++ ([OUT ao ((I 1 a1).toInt64) ov] : va_W)) (n := 2) (c_X9_mad_n l D g adM I L S Z Y a1 (by first | assumption | omega)) rfl srcN hrdN w_1324 w_1321 w_1322 w_1323 w_6 (by decide +kernel) rfl ⟨Nat.le_of_ble_eq_true rfl, Nat.le_of_ble_eq_true rfl⟩ rfl rfl rfl (Nat.le_of_ble_eq_true rfl) ⟨by show cells + 0 + 0 ≤ 600002; omega, by show slots + 0 + 0 ≤ 7302232; omega⟩ dL_law_418 (fun hu2 hp_hu2 => ?_)
  refine g_af (ws' := WM adM g (u2 I 1 a1 (-nI 1)) L S (u2 Z 3 0 (nI 0)) Y ++ (WC adC g (u2 I 1 a1 (-nI 1)) L S ++ ([OUT ao ((I 1 a1).toInt64) ov] : va_W))) (st' := [.int (I 1 a1)]) (cells' := cells + 0 + 0) (slots' := slots + 0 + 0) (pc' := 421) rfl rfl rfl rfl rfl ?_
  refine g_run X KL_law_421_37 KL_law_421_37_d 424 [(6, .int (I 1 a1)), (5, .int (nI 0)), (0, .ref b), (1, .ref (adC 0)), (2, .ref (adM 0)), (3, .ref ao), (4, .int (nI (6 * k)))] [.ref (adM 0)] rfl ?_
  refine g_callV X hSB hAf srcW (hrc1 := (rfl : CL[8]? = some _)) (wm_mem (k := 0) (by decide)) rfl (As := []) (wr := WC adC g (u2 I 1 a1 (-nI 1)) L S ++ ([OUT ao ((I 1 a1).toInt64) ov] : va_W)) (n := 0) (c_X9_thrown l D g adM (u2 I 1 a1 (-nI 1)) L S (u2 Z 3 0 (nI 0)) Y ) rfl srcN hrdN w_1250 w_1247 w_1248 w_1249 w_6 (by decide +kernel) rfl ⟨Nat.le_of_ble_eq_true rfl, Nat.le_of_ble_eq_true rfl⟩ rfl rfl rfl (Nat.le_of_ble_eq_true rfl) ⟨by show cells + 0 + 0 + 0 ≤ 600002; omega, by show slots + 0 + 0 + 0 ≤ 7302232; omega⟩ dL_law_424 (fun hu3 hp_hu3 => ?_)
  refine g_af (ws' := WM adM g (u2 I 1 a1 (-nI 1)) L S (u2 Z 3 0 (nI 0)) Y ++ (WC adC g (u2 I 1 a1 (-nI 1)) L S ++ ([OUT ao ((I 1 a1).toInt64) ov] : va_W))) (st' := [.int ((u2 Z 3 0 (nI 0)) 3 0)]) (cells' := cells + 0 + 0 + 0) (slots' := slots + 0 + 0 + 0) (pc' := 427) rfl rfl rfl rfl rfl ?_
  refine g_st (st' := [.int (nI 0)]) (by first | rfl | (simp [z4, u2]; done)) ?_
  refine g_run X KL_law_427_38 KL_law_427_38_d 429 [(6, .int (I 1 a1)), (5, .int (nI 0)), (0, .ref b), (1, .ref (adC 0)), (2, .ref (adM 0)), (3, .ref ao), (4, .int (nI (6 * k)))] [.int (nI 0), .int (nI 0)] rfl ?_
  refine g_icmp_eq X 434 dL_law_429 (by decide) (fun hc4 => ?_) (fun hc4 => ?_)
  · refine g_run X KL_law_434_39 KL_law_434_39_d 436 [(6, .int (I 1 a1)), (5, .int (nI 0)), (0, .ref b), (1, .ref (adC 0)), (2, .ref (adM 0)), (3, .ref ao), (4, .int (nI (6 * k)))] [.int (nI 0)] rfl ?_
    refine g_if_ne X 452 dL_law_436 (by decide) (fun hc5 => ?_) (fun hc5 => ?_)
    · rw [nz_eq (by omega)] at hc5; first | omega | (simp at hc5)
    · refine g_run X KL_law_439_40 KL_law_439_40_d 440 [(6, .int (I 1 a1)), (5, .int (nI 0)), (0, .ref b), (1, .ref (adC 0)), (2, .ref (adM 0)), (3, .ref ao), (4, .int (nI (6 * k)))] [.ref ao] rfl ?_
      refine g_getN X srcW (host := "ChipfieldLaw") (v := .long ((I 1 a1).toInt64)) hinX6 rfl 0 (by decide) (nw_in n_489 rfl) rfl (List.mem_append_right _ (List.mem_append_right _ List.mem_cons_self)) rfl dL_law_440 ?_
      refine g_run X KL_law_443_41 KL_law_443_41_d 447 [(6, .int (I 1 a1)), (5, .int (nI 0)), (0, .ref b), (1, .ref (adC 0)), (2, .ref (adM 0)), (3, .ref ao), (4, .int (nI (6 * k)))] [.int (lg_cmp ((I 1 a1).toInt64) ((I 1 a1).toInt64))] rfl ?_
      refine g_if_eq X 452 dL_law_447 (by decide) (fun hc6 => ?_) (fun hc6 => ?_)
      · refine g_run X KL_law_452_42 KL_law_452_42_d 2256 [(6, .int (I 1 a1)), (5, .int (nI 0)), (0, .ref b), (1, .ref (adC 0)), (2, .ref (adM 0)), (3, .ref ao), (4, .int (nI (6 * k)))] [] rfl ?_
        refine g_lv (lv' := [(0, .ref b), (1, .ref (adC 0)), (2, .ref (adM 0)), (3, .ref ao), (4, .int (nI (6 * k)))]) (lsub_c 2 rfl (lsub_c 3 rfl (lsub_c 4 rfl (lsub_c 5 rfl (lsub_c 6 rfl (lsub_n)))))) ?_
        refine g_perm (ws' := (WC adC g (u2 I 1 a1 (-nI 1)) L S ++ ([OUT ao ((I 1 a1).toInt64) ov] : va_W)) ++ WM adM g (u2 I 1 a1 (-nI 1)) L S (u2 Z 3 0 (nI 0)) Y) (List.perm_append_comm (l₁ := (WC adC g (u2 I 1 a1 (-nI 1)) L S ++ ([OUT ao ((I 1 a1).toInt64) ov] : va_W))) (l₂ := WM adM g (u2 I 1 a1 (-nI 1)) L S (u2 Z 3 0 (nI 0)) Y)) ?_
        refine g_widen (k := cells + 60) (n := slots + 1200) (by omega) (by omega) ?_
        exact kk (u2 I 1 a1 (-nI 1)) L S n (u2 Z 3 0 (nI 0)) Y R ((I 1 a1).toInt64) ov (hI.mad (Or.inl rfl)) (hR) (by first | exact hZ | (rw [zrow]; exact hZ) | (rw [zrow, zrow]; exact hZ))
      · exact absurd lg_self hc6
  · rw [nI_eq (by omega) (by omega)] at hc4; first | omega | (simp at hc4)

set_option maxHeartbeats 4000000 in
set_option maxRecDepth 100000 in
theorem lq2_0 {p : Program} {l : Launch} {e : Env} {s : State} {m : MethodId} {below : List Frame} {meth : Method} {c : Code} {Q : State → Prop} {D : va_G} {A : Nat → Prop} {b N : Nat} {xs : Nat → Int32} {adC adM : Nat → Nat} {g : Nat → ClassId} {ao k cells slots : Nat} {I : Nat → Nat → Int32} {L : Nat → Nat → Int64} {S : Nat → Nat} {n : Nat} {Z : Nat → Nat → Int32} {Y : Int64} {R : Nat → Nat} {on : Int64} {ov : Value} (HX : LX p l s m meth c A b N xs) (hk : 6 * k + 6 ≤ N) (hroom : cells + 60 ≤ 600002 ∧ slots + 1200 ≤ 7302232) (hI : Inv I L S n) (hR : R16 R) (hZ : Z 0 = fun j => nI (R j)) (a1 : Nat) (hl1 : 0 ≤ a1) (hu1 : a1 < 18) (e1 : xs (6 * k + 1) = nI a1) (a2 : Nat) (hu2 : a2 < 16) (e2 : xs (6 * k + 2) = nI a2) (kk : LK p l e s m below meth c Q D A b adC adM g ao k cells slots 2256) : GL p l e room_1 s m #[.ref b] below meth c Q D CL (TYS g) A 9 (WL adC adM g ao I L S Z Y on ov) cells slots 386 [(0, .ref b), (1, .ref (adC 0)), (2, .ref (adM 0)), (3, .ref ao), (4, .int (nI (6 * k)))] [] := by
  obtain ⟨X, hSB, hAf, hNC, hfl, hX, hbl, hbA, hN⟩ := HX
  refine g_run X KL_law_386_32 KL_law_386_32_d 392 [(0, .ref b), (1, .ref (adC 0)), (2, .ref (adM 0)), (3, .ref ao), (4, .int (nI (6 * k)))] [.int ((nI (6 * k)) + (nI 1)), .ref b, .ref (adC 0)] rfl ?_
  refine g_nm (lv' := [(0, .ref b), (1, .ref (adC 0)), (2, .ref (adM 0)), (3, .ref ao), (4, .int (nI (6 * k)))]) (st' := [.int (nI ((6 * k) + 1)), .ref b, .ref (adC 0)]) (by simp only [nI_add]) (by simp only [nI_add]) ?_
  refine g_sld X hX hbl hbA hN (v := nI a1) (by omega) e1 dL_law_392 ?_
  refine g_run X KL_law_393_33 KL_law_393_33_d 398 [(0, .ref b), (1, .ref (adC 0)), (2, .ref (adM 0)), (3, .ref ao), (4, .int (nI (6 * k)))] [.int ((nI (6 * k)) + (nI 2)), .ref b, .int (nI a1), .ref (adC 0)] rfl ?_
  refine g_nm (lv' := [(0, .ref b), (1, .ref (adC 0)), (2, .ref (adM 0)), (3, .ref ao), (4, .int (nI (6 * k)))]) (st' := [.int (nI ((6 * k) + 2)), .ref b, .int (nI a1), .ref (adC 0)]) (by simp only [nI_add]) (by simp only [nI_add]) ?_
  refine g_sld X hX hbl hbA hN (v := nI a2) (by omega) e2 dL_law_398 ?_
  refine g_run X KL_law_399_34 KL_law_399_34_d 400 [(0, .ref b), (1, .ref (adC 0)), (2, .ref (adM 0)), (3, .ref ao), (4, .int (nI (6 * k)))] [.ref ao, .int (nI a2), .int (nI a1), .ref (adC 0)] rfl ?_
  refine g_callSW X hSB hAf hNC (As := [.ref (adC 0), .int (nI a1), .int (nI a2), .ref ao]) (wr := WM adM g I L S Z Y) (n := 4) (hc_mad l D g adC I L S a1 a2 ao on ov (by first | assumption | omega) (by first | assumption | omega)) rfl w_532 w_530 w_531 w_0 (by decide +kernel) rfl ⟨Nat.le_of_ble_eq_true rfl, Nat.le_of_ble_eq_true rfl⟩ rfl rfl rfl (Nat.le_of_ble_eq_true rfl) ⟨by show cells + 0 ≤ 600002; omega, by show slots + 0 ≤ 7302232; omega⟩ dL_law_400 (fun hu1 _ => ?_)
  refine g_af (ws' := (WC adC g (u2 I 1 a1 (nI a2)) L S ++ ([OUT ao ((I 1 a1).toInt64) ov] : va_W)) ++ WM adM g I L S Z Y) (st' := [.int (nI 0)]) (cells' := cells + 0) (slots' := slots + 0) (pc' := 403) rfl rfl rfl rfl rfl ?_
  refine g_run X KL_law_403_35 KL_law_403_35_d 411 [(5, .int (nI 0)), (0, .ref b), (1, .ref (adC 0)), (2, .ref (adM 0)), (3, .ref ao), (4, .int (nI (6 * k)))] [.int ((nI (6 * k)) + (nI 1)), .ref b, .ref (adM 0)] rfl ?_
  refine g_nm (lv' := [(5, .int (nI 0)), (0, .ref b), (1, .ref (adC 0)), (2, .ref (adM 0)), (3, .ref ao), (4, .int (nI (6 * k)))]) (st' := [.int (nI ((6 * k) + 1)), .ref b, .ref (adM 0)]) (by simp only [nI_add]) (by simp only [nI_add]) ?_
  refine g_sld X hX hbl hbA hN (v := nI a1) (by omega) e1 dL_law_411 ?_
  refine g_run X KL_law_412_36 KL_law_412_36_d 417 [(5, .int (nI 0)), (0, .ref b), (1, .ref (adC 0)), (2, .ref (adM 0)), (3, .ref ao), (4, .int (nI (6 * k)))] [.int ((nI (6 * k)) + (nI 2)), .ref b, .int (nI a1), .ref (adM 0)] rfl ?_
  refine g_nm (lv' := [(5, .int (nI 0)), (0, .ref b), (1, .ref (adC 0)), (2, .ref (adM 0)), (3, .ref ao), (4, .int (nI (6 * k)))]) (st' := [.int (nI ((6 * k) + 2)), .ref b, .int (nI a1), .ref (adM 0)]) (by simp only [nI_add]) (by simp only [nI_add]) ?_
  refine g_sld X hX hbl hbA hN (v := nI a2) (by omega) e2 dL_law_417 ?_
  refine g_perm (ws' := WM adM g I L S Z Y ++ (WC adC g (u2 I 1 a1 (nI a2)) L S ++ ([OUT ao ((I 1 a1).toInt64) ov] : va_W))) (List.perm_append_comm (l₁ := WM adM g I L S Z Y) (l₂ := (WC adC g (u2 I 1 a1 (nI a2)) L S ++ ([OUT ao ((I 1 a1).toInt64) ov] : va_W)))) ?_
  refine g_callV X hSB hAf srcW (hrc1 := (rfl : CL[8]? = some _)) (wm_mem (k := 0) (by decide)) rfl (As := [.int (nI a1), .int (nI a2)]) (wr := WC adC g (u2 I 1 a1 (nI a2)) L S ++ ([OUT ao ((I 1 a1).toInt64) ov] : va_W)) (n := 2) (c_X9_mad l D g adM I L S Z Y a1 a2 (by first | assumption | omega) (by first | assumption | omega)) rfl srcN hrdN w_1324 w_1321 w_1322 w_1323 w_6 (by decide +kernel) rfl ⟨Nat.le_of_ble_eq_true rfl, Nat.le_of_ble_eq_true rfl⟩ rfl rfl rfl (Nat.le_of_ble_eq_true rfl) ⟨by show cells + 0 + 0 ≤ 600002; omega, by show slots + 0 + 0 ≤ 7302232; omega⟩ dL_law_418 (fun hu2 hp_hu2 => ?_)
  refine g_af (ws' := WM adM g (u2 I 1 a1 (nI a2)) L S (u2 Z 3 0 (nI 0)) Y ++ (WC adC g (u2 I 1 a1 (nI a2)) L S ++ ([OUT ao ((I 1 a1).toInt64) ov] : va_W))) (st' := [.int (I 1 a1)]) (cells' := cells + 0 + 0) (slots' := slots + 0 + 0) (pc' := 421) rfl rfl rfl rfl rfl ?_
  refine g_run X KL_law_421_37 KL_law_421_37_d 424 [(6, .int (I 1 a1)), (5, .int (nI 0)), (0, .ref b), (1, .ref (adC 0)), (2, .ref (adM 0)), (3, .ref ao), (4, .int (nI (6 * k)))] [.ref (adM 0)] rfl ?_
  refine g_callV X hSB hAf srcW (hrc1 := (rfl : CL[8]? = some _)) (wm_mem (k := 0) (by decide)) rfl (As := []) (wr := WC adC g (u2 I 1 a1 (nI a2)) L S ++ ([OUT ao ((I 1 a1).toInt64) ov] : va_W)) (n := 0) (c_X9_thrown l D g adM (u2 I 1 a1 (nI a2)) L S (u2 Z 3 0 (nI 0)) Y ) rfl srcN hrdN w_1250 w_1247 w_1248 w_1249 w_6 (by decide +kernel) rfl ⟨Nat.le_of_ble_eq_true rfl, Nat.le_of_ble_eq_true rfl⟩ rfl rfl rfl (Nat.le_of_ble_eq_true rfl) ⟨by show cells + 0 + 0 + 0 ≤ 600002; omega, by show slots + 0 + 0 + 0 ≤ 7302232; omega⟩ dL_law_424 (fun hu3 hp_hu3 => ?_)
  refine g_af (ws' := WM adM g (u2 I 1 a1 (nI a2)) L S (u2 Z 3 0 (nI 0)) Y ++ (WC adC g (u2 I 1 a1 (nI a2)) L S ++ ([OUT ao ((I 1 a1).toInt64) ov] : va_W))) (st' := [.int ((u2 Z 3 0 (nI 0)) 3 0)]) (cells' := cells + 0 + 0 + 0) (slots' := slots + 0 + 0 + 0) (pc' := 427) rfl rfl rfl rfl rfl ?_
  refine g_st (st' := [.int (nI 0)]) (by first | rfl | (simp [z4, u2]; done)) ?_
  refine g_run X KL_law_427_38 KL_law_427_38_d 429 [(6, .int (I 1 a1)), (5, .int (nI 0)), (0, .ref b), (1, .ref (adC 0)), (2, .ref (adM 0)), (3, .ref ao), (4, .int (nI (6 * k)))] [.int (nI 0), .int (nI 0)] rfl ?_
  refine g_icmp_eq X 434 dL_law_429 (by decide) (fun hc4 => ?_) (fun hc4 => ?_)
  · refine g_run X KL_law_434_39 KL_law_434_39_d 436 [(6, .int (I 1 a1)), (5, .int (nI 0)), (0, .ref b), (1, .ref (adC 0)), (2, .ref (adM 0)), (3, .ref ao), (4, .int (nI (6 * k)))] [.int (nI 0)] rfl ?_
    refine g_if_ne X 452 dL_law_436 (by decide) (fun hc5 => ?_) (fun hc5 => ?_)
    · rw [nz_eq (by omega)] at hc5; first | omega | (simp at hc5)
    · refine g_run X KL_law_439_40 KL_law_439_40_d 440 [(6, .int (I 1 a1)), (5, .int (nI 0)), (0, .ref b), (1, .ref (adC 0)), (2, .ref (adM 0)), (3, .ref ao), (4, .int (nI (6 * k)))] [.ref ao] rfl ?_
      refine g_getN X srcW (host := "ChipfieldLaw") (v := .long ((I 1 a1).toInt64)) hinX6 rfl 0 (by decide) (nw_in n_489 rfl) rfl (List.mem_append_right _ (List.mem_append_right _ List.mem_cons_self)) rfl dL_law_440 ?_
      refine g_run X KL_law_443_41 KL_law_443_41_d 447 [(6, .int (I 1 a1)), (5, .int (nI 0)), (0, .ref b), (1, .ref (adC 0)), (2, .ref (adM 0)), (3, .ref ao), (4, .int (nI (6 * k)))] [.int (lg_cmp ((I 1 a1).toInt64) ((I 1 a1).toInt64))] rfl ?_
      refine g_if_eq X 452 dL_law_447 (by decide) (fun hc6 => ?_) (fun hc6 => ?_)
      · refine g_run X KL_law_452_42 KL_law_452_42_d 2256 [(6, .int (I 1 a1)), (5, .int (nI 0)), (0, .ref b), (1, .ref (adC 0)), (2, .ref (adM 0)), (3, .ref ao), (4, .int (nI (6 * k)))] [] rfl ?_
        refine g_lv (lv' := [(0, .ref b), (1, .ref (adC 0)), (2, .ref (adM 0)), (3, .ref ao), (4, .int (nI (6 * k)))]) (lsub_c 2 rfl (lsub_c 3 rfl (lsub_c 4 rfl (lsub_c 5 rfl (lsub_c 6 rfl (lsub_n)))))) ?_
        refine g_perm (ws' := (WC adC g (u2 I 1 a1 (nI a2)) L S ++ ([OUT ao ((I 1 a1).toInt64) ov] : va_W)) ++ WM adM g (u2 I 1 a1 (nI a2)) L S (u2 Z 3 0 (nI 0)) Y) (List.perm_append_comm (l₁ := (WC adC g (u2 I 1 a1 (nI a2)) L S ++ ([OUT ao ((I 1 a1).toInt64) ov] : va_W))) (l₂ := WM adM g (u2 I 1 a1 (nI a2)) L S (u2 Z 3 0 (nI 0)) Y)) ?_
        refine g_widen (k := cells + 60) (n := slots + 1200) (by omega) (by omega) ?_
        exact kk (u2 I 1 a1 (nI a2)) L S n (u2 Z 3 0 (nI 0)) Y R ((I 1 a1).toInt64) ov (hI.mad (Or.inr ⟨_, by assumption, rfl⟩)) (hR) (by first | exact hZ | (rw [zrow]; exact hZ) | (rw [zrow, zrow]; exact hZ))
      · exact absurd lg_self hc6
  · rw [nI_eq (by omega) (by omega)] at hc4; first | omega | (simp at hc4)

set_option maxHeartbeats 4000000 in
set_option maxRecDepth 100000 in
theorem lq2_2 {p : Program} {l : Launch} {e : Env} {s : State} {m : MethodId} {below : List Frame} {meth : Method} {c : Code} {Q : State → Prop} {D : va_G} {A : Nat → Prop} {b N : Nat} {xs : Nat → Int32} {adC adM : Nat → Nat} {g : Nat → ClassId} {ao k cells slots : Nat} {I : Nat → Nat → Int32} {L : Nat → Nat → Int64} {S : Nat → Nat} {n : Nat} {Z : Nat → Nat → Int32} {Y : Int64} {R : Nat → Nat} {on : Int64} {ov : Value} (HX : LX p l s m meth c A b N xs) (hk : 6 * k + 6 ≤ N) (hroom : cells + 60 ≤ 600002 ∧ slots + 1200 ≤ 7302232) (hI : Inv I L S n) (hR : R16 R) (hZ : Z 0 = fun j => nI (R j)) (a1 : Nat) (hl1 : 0 ≤ a1) (hu1 : a1 < 18) (e1 : xs (6 * k + 1) = nI a1) (hw : (xs (6 * k + 2)).toInt < -1 ∨ (16 : Int) ≤ (xs (6 * k + 2)).toInt) (kk : LK p l e s m below meth c Q D A b adC adM g ao k cells slots 2256) : GL p l e room_1 s m #[.ref b] below meth c Q D CL (TYS g) A 9 (WL adC adM g ao I L S Z Y on ov) cells slots 386 [(0, .ref b), (1, .ref (adC 0)), (2, .ref (adM 0)), (3, .ref ao), (4, .int (nI (6 * k)))] [] := by
  obtain ⟨X, hSB, hAf, hNC, hfl, hX, hbl, hbA, hN⟩ := HX
  refine g_run X KL_law_386_32 KL_law_386_32_d 392 [(0, .ref b), (1, .ref (adC 0)), (2, .ref (adM 0)), (3, .ref ao), (4, .int (nI (6 * k)))] [.int ((nI (6 * k)) + (nI 1)), .ref b, .ref (adC 0)] rfl ?_
  refine g_nm (lv' := [(0, .ref b), (1, .ref (adC 0)), (2, .ref (adM 0)), (3, .ref ao), (4, .int (nI (6 * k)))]) (st' := [.int (nI ((6 * k) + 1)), .ref b, .ref (adC 0)]) (by simp only [nI_add]) (by simp only [nI_add]) ?_
  refine g_sld X hX hbl hbA hN (v := nI a1) (by omega) e1 dL_law_392 ?_
  refine g_run X KL_law_393_33 KL_law_393_33_d 398 [(0, .ref b), (1, .ref (adC 0)), (2, .ref (adM 0)), (3, .ref ao), (4, .int (nI (6 * k)))] [.int ((nI (6 * k)) + (nI 2)), .ref b, .int (nI a1), .ref (adC 0)] rfl ?_
  refine g_nm (lv' := [(0, .ref b), (1, .ref (adC 0)), (2, .ref (adM 0)), (3, .ref ao), (4, .int (nI (6 * k)))]) (st' := [.int (nI ((6 * k) + 2)), .ref b, .int (nI a1), .ref (adC 0)]) (by simp only [nI_add]) (by simp only [nI_add]) ?_
  refine g_sld X hX hbl hbA hN (v := xs (6 * k + 2)) (by omega) rfl dL_law_398 ?_
  refine g_run X KL_law_399_34 KL_law_399_34_d 400 [(0, .ref b), (1, .ref (adC 0)), (2, .ref (adM 0)), (3, .ref ao), (4, .int (nI (6 * k)))] [.ref ao, .int (xs (6 * k + 2)), .int (nI a1), .ref (adC 0)] rfl ?_
  refine g_callSW X hSB hAf hNC (As := [.ref (adC 0), .int (nI a1), .int (xs (6 * k + 2)), .ref ao]) (wr := WM adM g I L S Z Y) (n := 4) (hx_mad_2 l hfl D g adC I L S a1 (xs (6 * k + 2)) ao on ov (by first | assumption | omega) (mad_e hw) (mad_c hw)) rfl w_532 w_530 w_531 w_0 (by decide +kernel) rfl ⟨Nat.le_of_ble_eq_true rfl, Nat.le_of_ble_eq_true rfl⟩ rfl rfl rfl (Nat.le_of_ble_eq_true rfl) ⟨by show cells + 1 ≤ 600002; omega, by show slots + 6 ≤ 7302232; omega⟩ dL_law_400 (fun hu1 _ => ?_)
  refine g_af (ws' := (WC adC g I L S ++ ([OUT ao on ov] : va_W)) ++ WM adM g I L S Z Y) (st' := [.int (nI 2)]) (cells' := cells + 1) (slots' := slots + 6) (pc' := 403) rfl rfl rfl rfl rfl ?_
  refine g_run X KL_law_403_35 KL_law_403_35_d 411 [(5, .int (nI 2)), (0, .ref b), (1, .ref (adC 0)), (2, .ref (adM 0)), (3, .ref ao), (4, .int (nI (6 * k)))] [.int ((nI (6 * k)) + (nI 1)), .ref b, .ref (adM 0)] rfl ?_
  refine g_nm (lv' := [(5, .int (nI 2)), (0, .ref b), (1, .ref (adC 0)), (2, .ref (adM 0)), (3, .ref ao), (4, .int (nI (6 * k)))]) (st' := [.int (nI ((6 * k) + 1)), .ref b, .ref (adM 0)]) (by simp only [nI_add]) (by simp only [nI_add]) ?_
  refine g_sld X hX hbl hbA hN (v := nI a1) (by omega) e1 dL_law_411 ?_
  refine g_run X KL_law_412_36 KL_law_412_36_d 417 [(5, .int (nI 2)), (0, .ref b), (1, .ref (adC 0)), (2, .ref (adM 0)), (3, .ref ao), (4, .int (nI (6 * k)))] [.int ((nI (6 * k)) + (nI 2)), .ref b, .int (nI a1), .ref (adM 0)] rfl ?_
  refine g_nm (lv' := [(5, .int (nI 2)), (0, .ref b), (1, .ref (adC 0)), (2, .ref (adM 0)), (3, .ref ao), (4, .int (nI (6 * k)))]) (st' := [.int (nI ((6 * k) + 2)), .ref b, .int (nI a1), .ref (adM 0)]) (by simp only [nI_add]) (by simp only [nI_add]) ?_
  refine g_sld X hX hbl hbA hN (v := xs (6 * k + 2)) (by omega) rfl dL_law_417 ?_
  refine g_perm (ws' := WM adM g I L S Z Y ++ (WC adC g I L S ++ ([OUT ao on ov] : va_W))) (List.perm_append_comm (l₁ := WM adM g I L S Z Y) (l₂ := (WC adC g I L S ++ ([OUT ao on ov] : va_W)))) ?_
  refine g_callV X hSB hAf srcW (hrc1 := (rfl : CL[8]? = some _)) (wm_mem (k := 0) (by decide)) rfl (As := [.int (nI a1), .int (xs (6 * k + 2))]) (wr := WC adC g I L S ++ ([OUT ao on ov] : va_W)) (n := 2) (c_X9_mad_2 l D g adM I L S Z Y a1 (xs (6 * k + 2)) (by first | assumption | omega) (mad_m hw)) rfl srcN hrdN w_1324 w_1321 w_1322 w_1323 w_6 (by decide +kernel) rfl ⟨Nat.le_of_ble_eq_true rfl, Nat.le_of_ble_eq_true rfl⟩ rfl rfl rfl (Nat.le_of_ble_eq_true rfl) ⟨by show cells + 1 + 0 ≤ 600002; omega, by show slots + 6 + 0 ≤ 7302232; omega⟩ dL_law_418 (fun hu2 hp_hu2 => ?_)
  refine g_af (ws' := WM adM g I L S (u2 (u2 Z 3 0 (nI 0)) 3 0 (nI 2)) Y ++ (WC adC g I L S ++ ([OUT ao on ov] : va_W))) (st' := [.int (nI 0)]) (cells' := cells + 1 + 0) (slots' := slots + 6 + 0) (pc' := 421) rfl rfl rfl rfl rfl ?_
  refine g_run X KL_law_421_37 KL_law_421_37_d 424 [(6, .int (nI 0)), (5, .int (nI 2)), (0, .ref b), (1, .ref (adC 0)), (2, .ref (adM 0)), (3, .ref ao), (4, .int (nI (6 * k)))] [.ref (adM 0)] rfl ?_
  refine g_callV X hSB hAf srcW (hrc1 := (rfl : CL[8]? = some _)) (wm_mem (k := 0) (by decide)) rfl (As := []) (wr := WC adC g I L S ++ ([OUT ao on ov] : va_W)) (n := 0) (c_X9_thrown l D g adM I L S (u2 (u2 Z 3 0 (nI 0)) 3 0 (nI 2)) Y ) rfl srcN hrdN w_1250 w_1247 w_1248 w_1249 w_6 (by decide +kernel) rfl ⟨Nat.le_of_ble_eq_true rfl, Nat.le_of_ble_eq_true rfl⟩ rfl rfl rfl (Nat.le_of_ble_eq_true rfl) ⟨by show cells + 1 + 0 + 0 ≤ 600002; omega, by show slots + 6 + 0 + 0 ≤ 7302232; omega⟩ dL_law_424 (fun hu3 hp_hu3 => ?_)
  refine g_af (ws' := WM adM g I L S (u2 (u2 Z 3 0 (nI 0)) 3 0 (nI 2)) Y ++ (WC adC g I L S ++ ([OUT ao on ov] : va_W))) (st' := [.int ((u2 (u2 Z 3 0 (nI 0)) 3 0 (nI 2)) 3 0)]) (cells' := cells + 1 + 0 + 0) (slots' := slots + 6 + 0 + 0) (pc' := 427) rfl rfl rfl rfl rfl ?_
  refine g_st (st' := [.int (nI 2)]) (by first | rfl | (simp [z4, u2]; done)) ?_
  refine g_run X KL_law_427_38 KL_law_427_38_d 429 [(6, .int (nI 0)), (5, .int (nI 2)), (0, .ref b), (1, .ref (adC 0)), (2, .ref (adM 0)), (3, .ref ao), (4, .int (nI (6 * k)))] [.int (nI 2), .int (nI 2)] rfl ?_
  refine g_icmp_eq X 434 dL_law_429 (by decide) (fun hc4 => ?_) (fun hc4 => ?_)
  · refine g_run X KL_law_434_39 KL_law_434_39_d 436 [(6, .int (nI 0)), (5, .int (nI 2)), (0, .ref b), (1, .ref (adC 0)), (2, .ref (adM 0)), (3, .ref ao), (4, .int (nI (6 * k)))] [.int (nI 2)] rfl ?_
    refine g_if_ne X 452 dL_law_436 (by decide) (fun hc5 => ?_) (fun hc5 => ?_)
    · refine g_run X KL_law_452_42 KL_law_452_42_d 2256 [(6, .int (nI 0)), (5, .int (nI 2)), (0, .ref b), (1, .ref (adC 0)), (2, .ref (adM 0)), (3, .ref ao), (4, .int (nI (6 * k)))] [] rfl ?_
      refine g_lv (lv' := [(0, .ref b), (1, .ref (adC 0)), (2, .ref (adM 0)), (3, .ref ao), (4, .int (nI (6 * k)))]) (lsub_c 2 rfl (lsub_c 3 rfl (lsub_c 4 rfl (lsub_c 5 rfl (lsub_c 6 rfl (lsub_n)))))) ?_
      refine g_perm (ws' := (WC adC g I L S ++ ([OUT ao on ov] : va_W)) ++ WM adM g I L S (u2 (u2 Z 3 0 (nI 0)) 3 0 (nI 2)) Y) (List.perm_append_comm (l₁ := (WC adC g I L S ++ ([OUT ao on ov] : va_W))) (l₂ := WM adM g I L S (u2 (u2 Z 3 0 (nI 0)) 3 0 (nI 2)) Y)) ?_
      refine g_widen (k := cells + 60) (n := slots + 1200) (by omega) (by omega) ?_
      exact kk I L S n (u2 (u2 Z 3 0 (nI 0)) 3 0 (nI 2)) Y R on ov (hI) (hR) (by first | exact hZ | (rw [zrow]; exact hZ) | (rw [zrow, zrow]; exact hZ))
    · rw [nz_eq (by omega)] at hc5; first | omega | (simp at hc5)
  · rw [nI_eq (by omega) (by omega)] at hc4; first | omega | (simp at hc4)

set_option maxHeartbeats 4000000 in
set_option maxRecDepth 100000 in
theorem lq2_1 {p : Program} {l : Launch} {e : Env} {s : State} {m : MethodId} {below : List Frame} {meth : Method} {c : Code} {Q : State → Prop} {D : va_G} {A : Nat → Prop} {b N : Nat} {xs : Nat → Int32} {adC adM : Nat → Nat} {g : Nat → ClassId} {ao k cells slots : Nat} {I : Nat → Nat → Int32} {L : Nat → Nat → Int64} {S : Nat → Nat} {n : Nat} {Z : Nat → Nat → Int32} {Y : Int64} {R : Nat → Nat} {on : Int64} {ov : Value} (HX : LX p l s m meth c A b N xs) (hk : 6 * k + 6 ≤ N) (hroom : cells + 60 ≤ 600002 ∧ slots + 1200 ≤ 7302232) (hI : Inv I L S n) (hR : R16 R) (hZ : Z 0 = fun j => nI (R j)) (hw : (xs (6 * k + 1)).toInt < (0 : Nat) ∨ ((18 : Nat) : Int) ≤ (xs (6 * k + 1)).toInt) (kk : LK p l e s m below meth c Q D A b adC adM g ao k cells slots 2256) : GL p l e room_1 s m #[.ref b] below meth c Q D CL (TYS g) A 9 (WL adC adM g ao I L S Z Y on ov) cells slots 386 [(0, .ref b), (1, .ref (adC 0)), (2, .ref (adM 0)), (3, .ref ao), (4, .int (nI (6 * k)))] [] := by
  obtain ⟨X, hSB, hAf, hNC, hfl, hX, hbl, hbA, hN⟩ := HX
  refine g_run X KL_law_386_32 KL_law_386_32_d 392 [(0, .ref b), (1, .ref (adC 0)), (2, .ref (adM 0)), (3, .ref ao), (4, .int (nI (6 * k)))] [.int ((nI (6 * k)) + (nI 1)), .ref b, .ref (adC 0)] rfl ?_
  refine g_nm (lv' := [(0, .ref b), (1, .ref (adC 0)), (2, .ref (adM 0)), (3, .ref ao), (4, .int (nI (6 * k)))]) (st' := [.int (nI ((6 * k) + 1)), .ref b, .ref (adC 0)]) (by simp only [nI_add]) (by simp only [nI_add]) ?_
  refine g_sld X hX hbl hbA hN (v := xs (6 * k + 1)) (by omega) rfl dL_law_392 ?_
  refine g_run X KL_law_393_33 KL_law_393_33_d 398 [(0, .ref b), (1, .ref (adC 0)), (2, .ref (adM 0)), (3, .ref ao), (4, .int (nI (6 * k)))] [.int ((nI (6 * k)) + (nI 2)), .ref b, .int (xs (6 * k + 1)), .ref (adC 0)] rfl ?_
  refine g_nm (lv' := [(0, .ref b), (1, .ref (adC 0)), (2, .ref (adM 0)), (3, .ref ao), (4, .int (nI (6 * k)))]) (st' := [.int (nI ((6 * k) + 2)), .ref b, .int (xs (6 * k + 1)), .ref (adC 0)]) (by simp only [nI_add]) (by simp only [nI_add]) ?_
  refine g_sld X hX hbl hbA hN (v := xs (6 * k + 2)) (by omega) rfl dL_law_398 ?_
  refine g_run X KL_law_399_34 KL_law_399_34_d 400 [(0, .ref b), (1, .ref (adC 0)), (2, .ref (adM 0)), (3, .ref ao), (4, .int (nI (6 * k)))] [.ref ao, .int (xs (6 * k + 2)), .int (xs (6 * k + 1)), .ref (adC 0)] rfl ?_
  refine g_callSW X hSB hAf hNC (As := [.ref (adC 0), .int (xs (6 * k + 1)), .int (xs (6 * k + 2)), .ref ao]) (wr := WM adM g I L S Z Y) (n := 4) (hx_mad_1 l hfl D g adC I L S (xs (6 * k + 1)) (xs (6 * k + 2)) ao on ov (out_lt (by decide) hw)) rfl w_532 w_530 w_531 w_0 (by decide +kernel) rfl ⟨Nat.le_of_ble_eq_true rfl, Nat.le_of_ble_eq_true rfl⟩ rfl rfl rfl (Nat.le_of_ble_eq_true rfl) ⟨by show cells + 1 ≤ 600002; omega, by show slots + 6 ≤ 7302232; omega⟩ dL_law_400 (fun hu1 _ => ?_)
  refine g_af (ws' := (WC adC g I L S ++ ([OUT ao on ov] : va_W)) ++ WM adM g I L S Z Y) (st' := [.int (nI 1)]) (cells' := cells + 1) (slots' := slots + 6) (pc' := 403) rfl rfl rfl rfl rfl ?_
  refine g_run X KL_law_403_35 KL_law_403_35_d 411 [(5, .int (nI 1)), (0, .ref b), (1, .ref (adC 0)), (2, .ref (adM 0)), (3, .ref ao), (4, .int (nI (6 * k)))] [.int ((nI (6 * k)) + (nI 1)), .ref b, .ref (adM 0)] rfl ?_
  refine g_nm (lv' := [(5, .int (nI 1)), (0, .ref b), (1, .ref (adC 0)), (2, .ref (adM 0)), (3, .ref ao), (4, .int (nI (6 * k)))]) (st' := [.int (nI ((6 * k) + 1)), .ref b, .ref (adM 0)]) (by simp only [nI_add]) (by simp only [nI_add]) ?_
  refine g_sld X hX hbl hbA hN (v := xs (6 * k + 1)) (by omega) rfl dL_law_411 ?_
  refine g_run X KL_law_412_36 KL_law_412_36_d 417 [(5, .int (nI 1)), (0, .ref b), (1, .ref (adC 0)), (2, .ref (adM 0)), (3, .ref ao), (4, .int (nI (6 * k)))] [.int ((nI (6 * k)) + (nI 2)), .ref b, .int (xs (6 * k + 1)), .ref (adM 0)] rfl ?_
  refine g_nm (lv' := [(5, .int (nI 1)), (0, .ref b), (1, .ref (adC 0)), (2, .ref (adM 0)), (3, .ref ao), (4, .int (nI (6 * k)))]) (st' := [.int (nI ((6 * k) + 2)), .ref b, .int (xs (6 * k + 1)), .ref (adM 0)]) (by simp only [nI_add]) (by simp only [nI_add]) ?_
  refine g_sld X hX hbl hbA hN (v := xs (6 * k + 2)) (by omega) rfl dL_law_417 ?_
  refine g_perm (ws' := WM adM g I L S Z Y ++ (WC adC g I L S ++ ([OUT ao on ov] : va_W))) (List.perm_append_comm (l₁ := WM adM g I L S Z Y) (l₂ := (WC adC g I L S ++ ([OUT ao on ov] : va_W)))) ?_
  refine g_callV X hSB hAf srcW (hrc1 := (rfl : CL[8]? = some _)) (wm_mem (k := 0) (by decide)) rfl (As := [.int (xs (6 * k + 1)), .int (xs (6 * k + 2))]) (wr := WC adC g I L S ++ ([OUT ao on ov] : va_W)) (n := 2) (c_X9_mad_1 l D g adM I L S Z Y (xs (6 * k + 1)) (xs (6 * k + 2)) (out_le (by decide) hw)) rfl srcN hrdN w_1324 w_1321 w_1322 w_1323 w_6 (by decide +kernel) rfl ⟨Nat.le_of_ble_eq_true rfl, Nat.le_of_ble_eq_true rfl⟩ rfl rfl rfl (Nat.le_of_ble_eq_true rfl) ⟨by show cells + 1 + 0 ≤ 600002; omega, by show slots + 6 + 0 ≤ 7302232; omega⟩ dL_law_418 (fun hu2 hp_hu2 => ?_)
  refine g_af (ws' := WM adM g I L S (u2 (u2 Z 3 0 (nI 0)) 3 0 (nI 1)) Y ++ (WC adC g I L S ++ ([OUT ao on ov] : va_W))) (st' := [.int (nI 0)]) (cells' := cells + 1 + 0) (slots' := slots + 6 + 0) (pc' := 421) rfl rfl rfl rfl rfl ?_
  refine g_run X KL_law_421_37 KL_law_421_37_d 424 [(6, .int (nI 0)), (5, .int (nI 1)), (0, .ref b), (1, .ref (adC 0)), (2, .ref (adM 0)), (3, .ref ao), (4, .int (nI (6 * k)))] [.ref (adM 0)] rfl ?_
  refine g_callV X hSB hAf srcW (hrc1 := (rfl : CL[8]? = some _)) (wm_mem (k := 0) (by decide)) rfl (As := []) (wr := WC adC g I L S ++ ([OUT ao on ov] : va_W)) (n := 0) (c_X9_thrown l D g adM I L S (u2 (u2 Z 3 0 (nI 0)) 3 0 (nI 1)) Y ) rfl srcN hrdN w_1250 w_1247 w_1248 w_1249 w_6 (by decide +kernel) rfl ⟨Nat.le_of_ble_eq_true rfl, Nat.le_of_ble_eq_true rfl⟩ rfl rfl rfl (Nat.le_of_ble_eq_true rfl) ⟨by show cells + 1 + 0 + 0 ≤ 600002; omega, by show slots + 6 + 0 + 0 ≤ 7302232; omega⟩ dL_law_424 (fun hu3 hp_hu3 => ?_)
  refine g_af (ws' := WM adM g I L S (u2 (u2 Z 3 0 (nI 0)) 3 0 (nI 1)) Y ++ (WC adC g I L S ++ ([OUT ao on ov] : va_W))) (st' := [.int ((u2 (u2 Z 3 0 (nI 0)) 3 0 (nI 1)) 3 0)]) (cells' := cells + 1 + 0 + 0) (slots' := slots + 6 + 0 + 0) (pc' := 427) rfl rfl rfl rfl rfl ?_
  refine g_st (st' := [.int (nI 1)]) (by first | rfl | (simp [z4, u2]; done)) ?_
  refine g_run X KL_law_427_38 KL_law_427_38_d 429 [(6, .int (nI 0)), (5, .int (nI 1)), (0, .ref b), (1, .ref (adC 0)), (2, .ref (adM 0)), (3, .ref ao), (4, .int (nI (6 * k)))] [.int (nI 1), .int (nI 1)] rfl ?_
  refine g_icmp_eq X 434 dL_law_429 (by decide) (fun hc4 => ?_) (fun hc4 => ?_)
  · refine g_run X KL_law_434_39 KL_law_434_39_d 436 [(6, .int (nI 0)), (5, .int (nI 1)), (0, .ref b), (1, .ref (adC 0)), (2, .ref (adM 0)), (3, .ref ao), (4, .int (nI (6 * k)))] [.int (nI 1)] rfl ?_
    refine g_if_ne X 452 dL_law_436 (by decide) (fun hc5 => ?_) (fun hc5 => ?_)
    · refine g_run X KL_law_452_42 KL_law_452_42_d 2256 [(6, .int (nI 0)), (5, .int (nI 1)), (0, .ref b), (1, .ref (adC 0)), (2, .ref (adM 0)), (3, .ref ao), (4, .int (nI (6 * k)))] [] rfl ?_
      refine g_lv (lv' := [(0, .ref b), (1, .ref (adC 0)), (2, .ref (adM 0)), (3, .ref ao), (4, .int (nI (6 * k)))]) (lsub_c 2 rfl (lsub_c 3 rfl (lsub_c 4 rfl (lsub_c 5 rfl (lsub_c 6 rfl (lsub_n)))))) ?_
      refine g_perm (ws' := (WC adC g I L S ++ ([OUT ao on ov] : va_W)) ++ WM adM g I L S (u2 (u2 Z 3 0 (nI 0)) 3 0 (nI 1)) Y) (List.perm_append_comm (l₁ := (WC adC g I L S ++ ([OUT ao on ov] : va_W))) (l₂ := WM adM g I L S (u2 (u2 Z 3 0 (nI 0)) 3 0 (nI 1)) Y)) ?_
      refine g_widen (k := cells + 60) (n := slots + 1200) (by omega) (by omega) ?_
      exact kk I L S n (u2 (u2 Z 3 0 (nI 0)) 3 0 (nI 1)) Y R on ov (hI) (hR) (by first | exact hZ | (rw [zrow]; exact hZ) | (rw [zrow, zrow]; exact hZ))
    · rw [nz_eq (by omega)] at hc5; first | omega | (simp at hc5)
  · rw [nI_eq (by omega) (by omega)] at hc4; first | omega | (simp at hc4)

theorem lq2 {p : Program} {l : Launch} {e : Env} {s : State} {m : MethodId} {below : List Frame} {meth : Method} {c : Code} {Q : State → Prop} {D : va_G} {A : Nat → Prop} {b N : Nat} {xs : Nat → Int32} {adC adM : Nat → Nat} {g : Nat → ClassId} {ao k cells slots : Nat} {I : Nat → Nat → Int32} {L : Nat → Nat → Int64} {S : Nat → Nat} {n : Nat} {Z : Nat → Nat → Int32} {Y : Int64} {R : Nat → Nat} {on : Int64} {ov : Value} (HX : LX p l s m meth c A b N xs) (hk : 6 * k + 6 ≤ N) (hroom : cells + 60 ≤ 600002 ∧ slots + 1200 ≤ 7302232) (hI : Inv I L S n) (hR : R16 R) (hZ : Z 0 = fun j => nI (R j)) (kk : LK p l e s m below meth c Q D A b adC adM g ao k cells slots 2256) : GL p l e room_1 s m #[.ref b] below meth c Q D CL (TYS g) A 9 (WL adC adM g ao I L S Z Y on ov) cells slots 386 [(0, .ref b), (1, .ref (adC 0)), (2, .ref (adM 0)), (3, .ref ao), (4, .int (nI (6 * k)))] [] := by
  rcases rg (xs (6 * k + 1)) 0 18 with ⟨a1, hl1, hu1, e1⟩ | hw
  · rcases rgm (xs (6 * k + 2)) with e2 | ⟨a2, hu2, e2⟩ | hw
    · exact lq2_n HX hk hroom hI hR hZ  a1 hl1 hu1 e1 e2 kk
    · exact lq2_0 HX hk hroom hI hR hZ  a1 hl1 hu1 e1 a2 hu2 e2 kk
    · exact lq2_2 HX hk hroom hI hR hZ  a1 hl1 hu1 e1 hw kk
  · exact lq2_1 HX hk hroom hI hR hZ  hw kk

def KL_law_455_43 : List (Nat × Instr × Nat) := [(455, .aload_n 1, 1), (456, .aload_n 0, 1), (457, .iload 4, 2), (459, .iconst 1, 1), (460, .iadd, 1)]
theorem KL_law_455_43_d : ∀ z ∈ KL_law_455_43, decode cL_law z.1 = .ok z.2 := by decide +kernel
def KL_law_462_44 : List (Nat × Instr × Nat) := [(462, .aload_n 0, 1), (463, .iload 4, 2), (465, .iconst 2, 1), (466, .iadd, 1)]
theorem KL_law_462_44_d : ∀ z ∈ KL_law_462_44, decode cL_law z.1 = .ok z.2 := by decide +kernel
def KL_law_468_45 : List (Nat × Instr × Nat) := [(468, .aload_n 0, 1), (469, .iload 4, 2), (471, .iconst 3, 1), (472, .iadd, 1)]
theorem KL_law_468_45_d : ∀ z ∈ KL_law_468_45, decode cL_law z.1 = .ok z.2 := by decide +kernel
def KL_law_474_46 : List (Nat × Instr × Nat) := [(474, .aload_n 3, 1)]
theorem KL_law_474_46_d : ∀ z ∈ KL_law_474_46, decode cL_law z.1 = .ok z.2 := by decide +kernel
def KL_law_478_47 : List (Nat × Instr × Nat) := [(478, .istore 5, 2), (480, .aload_n 2, 1), (481, .aload_n 0, 1), (482, .iload 4, 2), (484, .iconst 1, 1), (485, .iadd, 1)]
theorem KL_law_478_47_d : ∀ z ∈ KL_law_478_47, decode cL_law z.1 = .ok z.2 := by decide +kernel
def KL_law_487_48 : List (Nat × Instr × Nat) := [(487, .aload_n 0, 1), (488, .iload 4, 2), (490, .iconst 2, 1), (491, .iadd, 1)]
theorem KL_law_487_48_d : ∀ z ∈ KL_law_487_48, decode cL_law z.1 = .ok z.2 := by decide +kernel
def KL_law_493_49 : List (Nat × Instr × Nat) := [(493, .aload_n 0, 1), (494, .iload 4, 2), (496, .iconst 3, 1), (497, .iadd, 1)]
theorem KL_law_493_49_d : ∀ z ∈ KL_law_493_49, decode cL_law z.1 = .ok z.2 := by decide +kernel
def KL_law_502_50 : List (Nat × Instr × Nat) := [(502, .istore 6, 2), (504, .aload_n 2, 1)]
theorem KL_law_502_50_d : ∀ z ∈ KL_law_502_50, decode cL_law z.1 = .ok z.2 := by decide +kernel
def KL_law_508_51 : List (Nat × Instr × Nat) := [(508, .iload 5, 2)]
theorem KL_law_508_51_d : ∀ z ∈ KL_law_508_51, decode cL_law z.1 = .ok z.2 := by decide +kernel
def KL_law_515_52 : List (Nat × Instr × Nat) := [(515, .iload 5, 2)]
theorem KL_law_515_52_d : ∀ z ∈ KL_law_515_52, decode cL_law z.1 = .ok z.2 := by decide +kernel
def KL_law_520_53 : List (Nat × Instr × Nat) := [(520, .aload_n 3, 1)]
theorem KL_law_520_53_d : ∀ z ∈ KL_law_520_53, decode cL_law z.1 = .ok z.2 := by decide +kernel
def KL_law_524_54 : List (Nat × Instr × Nat) := [(524, .iload 6, 2), (526, .i2l, 1), (527, .lcmp, 1)]
theorem KL_law_524_54_d : ∀ z ∈ KL_law_524_54, decode cL_law z.1 = .ok z.2 := by decide +kernel
def KL_law_533_55 : List (Nat × Instr × Nat) := [(533, .goto 1723, 3)]
theorem KL_law_533_55_d : ∀ z ∈ KL_law_533_55, decode cL_law z.1 = .ok z.2 := by decide +kernel
set_option maxHeartbeats 4000000 in
set_option maxRecDepth 100000 in
theorem lq3_0 {p : Program} {l : Launch} {e : Env} {s : State} {m : MethodId} {below : List Frame} {meth : Method} {c : Code} {Q : State → Prop} {D : va_G} {A : Nat → Prop} {b N : Nat} {xs : Nat → Int32} {adC adM : Nat → Nat} {g : Nat → ClassId} {ao k cells slots : Nat} {I : Nat → Nat → Int32} {L : Nat → Nat → Int64} {S : Nat → Nat} {n : Nat} {Z : Nat → Nat → Int32} {Y : Int64} {R : Nat → Nat} {on : Int64} {ov : Value} (HX : LX p l s m meth c A b N xs) (hk : 6 * k + 6 ≤ N) (hroom : cells + 60 ≤ 600002 ∧ slots + 1200 ≤ 7302232) (hI : Inv I L S n) (hR : R16 R) (hZ : Z 0 = fun j => nI (R j)) (a1 : Nat) (hl1 : 0 ≤ a1) (hu1 : a1 < 18) (e1 : xs (6 * k + 1) = nI a1) (a2 : Nat) (hl2 : 0 ≤ a2) (hu2 : a2 < 16) (e2 : xs (6 * k + 2) = nI a2) (a3 : Nat) (hl3 : 1 ≤ a3) (hu3 : a3 < 16) (e3 : xs (6 * k + 3) = nI a3) (kk : LK p l e s m below meth c Q D A b adC adM g ao k cells slots 2256) : GL p l e room_1 s m #[.ref b] below meth c Q D CL (TYS g) A 9 (WL adC adM g ao I L S Z Y on ov) cells slots 455 [(0, .ref b), (1, .ref (adC 0)), (2, .ref (adM 0)), (3, .ref ao), (4, .int (nI (6 * k)))] [] := by
  obtain ⟨X, hSB, hAf, hNC, hfl, hX, hbl, hbA, hN⟩ := HX
  refine g_run X KL_law_455_43 KL_law_455_43_d 461 [(0, .ref b), (1, .ref (adC 0)), (2, .ref (adM 0)), (3, .ref ao), (4, .int (nI (6 * k)))] [.int ((nI (6 * k)) + (nI 1)), .ref b, .ref (adC 0)] rfl ?_
  refine g_nm (lv' := [(0, .ref b), (1, .ref (adC 0)), (2, .ref (adM 0)), (3, .ref ao), (4, .int (nI (6 * k)))]) (st' := [.int (nI ((6 * k) + 1)), .ref b, .ref (adC 0)]) (by simp only [nI_add]) (by simp only [nI_add]) ?_
  refine g_sld X hX hbl hbA hN (v := nI a1) (by omega) e1 dL_law_461 ?_
  refine g_run X KL_law_462_44 KL_law_462_44_d 467 [(0, .ref b), (1, .ref (adC 0)), (2, .ref (adM 0)), (3, .ref ao), (4, .int (nI (6 * k)))] [.int ((nI (6 * k)) + (nI 2)), .ref b, .int (nI a1), .ref (adC 0)] rfl ?_
  refine g_nm (lv' := [(0, .ref b), (1, .ref (adC 0)), (2, .ref (adM 0)), (3, .ref ao), (4, .int (nI (6 * k)))]) (st' := [.int (nI ((6 * k) + 2)), .ref b, .int (nI a1), .ref (adC 0)]) (by simp only [nI_add]) (by simp only [nI_add]) ?_
  refine g_sld X hX hbl hbA hN (v := nI a2) (by omega) e2 dL_law_467 ?_
  refine g_run X KL_law_468_45 KL_law_468_45_d 473 [(0, .ref b), (1, .ref (adC 0)), (2, .ref (adM 0)), (3, .ref ao), (4, .int (nI (6 * k)))] [.int ((nI (6 * k)) + (nI 3)), .ref b, .int (nI a2), .int (nI a1), .ref (adC 0)] rfl ?_
  refine g_nm (lv' := [(0, .ref b), (1, .ref (adC 0)), (2, .ref (adM 0)), (3, .ref ao), (4, .int (nI (6 * k)))]) (st' := [.int (nI ((6 * k) + 3)), .ref b, .int (nI a2), .int (nI a1), .ref (adC 0)]) (by simp only [nI_add]) (by simp only [nI_add]) ?_
  refine g_sld X hX hbl hbA hN (v := nI a3) (by omega) e3 dL_law_473 ?_
  refine g_run X KL_law_474_46 KL_law_474_46_d 475 [(0, .ref b), (1, .ref (adC 0)), (2, .ref (adM 0)), (3, .ref ao), (4, .int (nI (6 * k)))] [.ref ao, .int (nI a3), .int (nI a2), .int (nI a1), .ref (adC 0)] rfl ?_
  refine g_callSW X hSB hAf hNC (As := [.ref (adC 0), .int (nI a1), .int (nI a2), .int (nI a3), .ref ao]) (wr := WM adM g I L S Z Y) (n := 5) (hc_ray l D g adC I L S a1 a2 a3 ao on ov (by first | assumption | omega) (by first | assumption | omega) (by first | assumption | omega) (by first | assumption | omega)) rfl w_539 w_537 w_538 w_0 (by decide +kernel) rfl ⟨Nat.le_of_ble_eq_true rfl, Nat.le_of_ble_eq_true rfl⟩ rfl rfl rfl (Nat.le_of_ble_eq_true rfl) ⟨by show cells + 0 ≤ 600002; omega, by show slots + 0 ≤ 7302232; omega⟩ dL_law_475 (fun hu1 _ => ?_)
  refine g_af (ws' := (WC adC g I (u2 L 0 a1 (wn (L 0 a1) a2 (nib (L 0 a1) a2 ^^^ a3))) S ++ ([OUT ao ((nI (nib (wn (L 0 a1) a2 (nib (L 0 a1) a2 ^^^ a3)) a2)).toInt64) ov] : va_W)) ++ WM adM g I L S Z Y) (st' := [.int (nI 0)]) (cells' := cells + 0) (slots' := slots + 0) (pc' := 478) rfl rfl rfl rfl rfl ?_
  refine g_run X KL_law_478_47 KL_law_478_47_d 486 [(5, .int (nI 0)), (0, .ref b), (1, .ref (adC 0)), (2, .ref (adM 0)), (3, .ref ao), (4, .int (nI (6 * k)))] [.int ((nI (6 * k)) + (nI 1)), .ref b, .ref (adM 0)] rfl ?_
  refine g_nm (lv' := [(5, .int (nI 0)), (0, .ref b), (1, .ref (adC 0)), (2, .ref (adM 0)), (3, .ref ao), (4, .int (nI (6 * k)))]) (st' := [.int (nI ((6 * k) + 1)), .ref b, .ref (adM 0)]) (by simp only [nI_add]) (by simp only [nI_add]) ?_
  refine g_sld X hX hbl hbA hN (v := nI a1) (by omega) e1 dL_law_486 ?_
  refine g_run X KL_law_487_48 KL_law_487_48_d 492 [(5, .int (nI 0)), (0, .ref b), (1, .ref (adC 0)), (2, .ref (adM 0)), (3, .ref ao), (4, .int (nI (6 * k)))] [.int ((nI (6 * k)) + (nI 2)), .ref b, .int (nI a1), .ref (adM 0)] rfl ?_
  refine g_nm (lv' := [(5, .int (nI 0)), (0, .ref b), (1, .ref (adC 0)), (2, .ref (adM 0)), (3, .ref ao), (4, .int (nI (6 * k)))]) (st' := [.int (nI ((6 * k) + 2)), .ref b, .int (nI a1), .ref (adM 0)]) (by simp only [nI_add]) (by simp only [nI_add]) ?_
  refine g_sld X hX hbl hbA hN (v := nI a2) (by omega) e2 dL_law_492 ?_
  refine g_run X KL_law_493_49 KL_law_493_49_d 498 [(5, .int (nI 0)), (0, .ref b), (1, .ref (adC 0)), (2, .ref (adM 0)), (3, .ref ao), (4, .int (nI (6 * k)))] [.int ((nI (6 * k)) + (nI 3)), .ref b, .int (nI a2), .int (nI a1), .ref (adM 0)] rfl ?_
  refine g_nm (lv' := [(5, .int (nI 0)), (0, .ref b), (1, .ref (adC 0)), (2, .ref (adM 0)), (3, .ref ao), (4, .int (nI (6 * k)))]) (st' := [.int (nI ((6 * k) + 3)), .ref b, .int (nI a2), .int (nI a1), .ref (adM 0)]) (by simp only [nI_add]) (by simp only [nI_add]) ?_
  refine g_sld X hX hbl hbA hN (v := nI a3) (by omega) e3 dL_law_498 ?_
  refine g_perm (ws' := WM adM g I L S Z Y ++ (WC adC g I (u2 L 0 a1 (wn (L 0 a1) a2 (nib (L 0 a1) a2 ^^^ a3))) S ++ ([OUT ao ((nI (nib (wn (L 0 a1) a2 (nib (L 0 a1) a2 ^^^ a3)) a2)).toInt64) ov] : va_W))) (List.perm_append_comm (l₁ := WM adM g I L S Z Y) (l₂ := (WC adC g I (u2 L 0 a1 (wn (L 0 a1) a2 (nib (L 0 a1) a2 ^^^ a3))) S ++ ([OUT ao ((nI (nib (wn (L 0 a1) a2 (nib (L 0 a1) a2 ^^^ a3)) a2)).toInt64) ov] : va_W)))) ?_
  refine g_callV X hSB hAf srcW (hrc1 := (rfl : CL[8]? = some _)) (wm_mem (k := 0) (by decide)) rfl (As := [.int (nI a1), .int (nI a2), .int (nI a3)]) (wr := WC adC g I (u2 L 0 a1 (wn (L 0 a1) a2 (nib (L 0 a1) a2 ^^^ a3))) S ++ ([OUT ao ((nI (nib (wn (L 0 a1) a2 (nib (L 0 a1) a2 ^^^ a3)) a2)).toInt64) ov] : va_W)) (n := 3) (c_X9_ray l D g adM I L S Z Y a1 a2 a3 (by first | assumption | omega) (by first | assumption | omega) (by first | assumption | omega) (by first | assumption | omega)) rfl srcN hrdN w_1328 w_1325 w_1326 w_1327 w_6 (by decide +kernel) rfl ⟨Nat.le_of_ble_eq_true rfl, Nat.le_of_ble_eq_true rfl⟩ rfl rfl rfl (Nat.le_of_ble_eq_true rfl) ⟨by show cells + 0 + 0 ≤ 600002; omega, by show slots + 0 + 0 ≤ 7302232; omega⟩ dL_law_499 (fun hu2 hp_hu2 => ?_)
  refine g_af (ws' := WM adM g I (u2 L 0 a1 (wn (L 0 a1) a2 (nib (L 0 a1) a2 ^^^ a3))) S (u2 Z 3 0 (nI 0)) Y ++ (WC adC g I (u2 L 0 a1 (wn (L 0 a1) a2 (nib (L 0 a1) a2 ^^^ a3))) S ++ ([OUT ao ((nI (nib (wn (L 0 a1) a2 (nib (L 0 a1) a2 ^^^ a3)) a2)).toInt64) ov] : va_W))) (st' := [.int (nI (nib (wn (L 0 a1) a2 (nib (L 0 a1) a2 ^^^ a3)) a2))]) (cells' := cells + 0 + 0) (slots' := slots + 0 + 0) (pc' := 502) rfl rfl rfl rfl rfl ?_
  refine g_run X KL_law_502_50 KL_law_502_50_d 505 [(6, .int (nI (nib (wn (L 0 a1) a2 (nib (L 0 a1) a2 ^^^ a3)) a2))), (5, .int (nI 0)), (0, .ref b), (1, .ref (adC 0)), (2, .ref (adM 0)), (3, .ref ao), (4, .int (nI (6 * k)))] [.ref (adM 0)] rfl ?_
  refine g_callV X hSB hAf srcW (hrc1 := (rfl : CL[8]? = some _)) (wm_mem (k := 0) (by decide)) rfl (As := []) (wr := WC adC g I (u2 L 0 a1 (wn (L 0 a1) a2 (nib (L 0 a1) a2 ^^^ a3))) S ++ ([OUT ao ((nI (nib (wn (L 0 a1) a2 (nib (L 0 a1) a2 ^^^ a3)) a2)).toInt64) ov] : va_W)) (n := 0) (c_X9_thrown l D g adM I (u2 L 0 a1 (wn (L 0 a1) a2 (nib (L 0 a1) a2 ^^^ a3))) S (u2 Z 3 0 (nI 0)) Y ) rfl srcN hrdN w_1250 w_1247 w_1248 w_1249 w_6 (by decide +kernel) rfl ⟨Nat.le_of_ble_eq_true rfl, Nat.le_of_ble_eq_true rfl⟩ rfl rfl rfl (Nat.le_of_ble_eq_true rfl) ⟨by show cells + 0 + 0 + 0 ≤ 600002; omega, by show slots + 0 + 0 + 0 ≤ 7302232; omega⟩ dL_law_505 (fun hu3 hp_hu3 => ?_)
  refine g_af (ws' := WM adM g I (u2 L 0 a1 (wn (L 0 a1) a2 (nib (L 0 a1) a2 ^^^ a3))) S (u2 Z 3 0 (nI 0)) Y ++ (WC adC g I (u2 L 0 a1 (wn (L 0 a1) a2 (nib (L 0 a1) a2 ^^^ a3))) S ++ ([OUT ao ((nI (nib (wn (L 0 a1) a2 (nib (L 0 a1) a2 ^^^ a3)) a2)).toInt64) ov] : va_W))) (st' := [.int ((u2 Z 3 0 (nI 0)) 3 0)]) (cells' := cells + 0 + 0 + 0) (slots' := slots + 0 + 0 + 0) (pc' := 508) rfl rfl rfl rfl rfl ?_
  refine g_st (st' := [.int (nI 0)]) (by first | rfl | (simp [z4, u2]; done)) ?_
  refine g_run X KL_law_508_51 KL_law_508_51_d 510 [(6, .int (nI (nib (wn (L 0 a1) a2 (nib (L 0 a1) a2 ^^^ a3)) a2))), (5, .int (nI 0)), (0, .ref b), (1, .ref (adC 0)), (2, .ref (adM 0)), (3, .ref ao), (4, .int (nI (6 * k)))] [.int (nI 0), .int (nI 0)] rfl ?_
  refine g_icmp_eq X 515 dL_law_510 (by decide) (fun hc4 => ?_) (fun hc4 => ?_)
  · refine g_run X KL_law_515_52 KL_law_515_52_d 517 [(6, .int (nI (nib (wn (L 0 a1) a2 (nib (L 0 a1) a2 ^^^ a3)) a2))), (5, .int (nI 0)), (0, .ref b), (1, .ref (adC 0)), (2, .ref (adM 0)), (3, .ref ao), (4, .int (nI (6 * k)))] [.int (nI 0)] rfl ?_
    refine g_if_ne X 533 dL_law_517 (by decide) (fun hc5 => ?_) (fun hc5 => ?_)
    · rw [nz_eq (by omega)] at hc5; first | omega | (simp at hc5)
    · refine g_run X KL_law_520_53 KL_law_520_53_d 521 [(6, .int (nI (nib (wn (L 0 a1) a2 (nib (L 0 a1) a2 ^^^ a3)) a2))), (5, .int (nI 0)), (0, .ref b), (1, .ref (adC 0)), (2, .ref (adM 0)), (3, .ref ao), (4, .int (nI (6 * k)))] [.ref ao] rfl ?_
      refine g_getN X srcW (host := "ChipfieldLaw") (v := .long ((nI (nib (wn (L 0 a1) a2 (nib (L 0 a1) a2 ^^^ a3)) a2)).toInt64)) hinX6 rfl 0 (by decide) (nw_in n_489 rfl) rfl (List.mem_append_right _ (List.mem_append_right _ List.mem_cons_self)) rfl dL_law_521 ?_
      refine g_run X KL_law_524_54 KL_law_524_54_d 528 [(6, .int (nI (nib (wn (L 0 a1) a2 (nib (L 0 a1) a2 ^^^ a3)) a2))), (5, .int (nI 0)), (0, .ref b), (1, .ref (adC 0)), (2, .ref (adM 0)), (3, .ref ao), (4, .int (nI (6 * k)))] [.int (lg_cmp ((nI (nib (wn (L 0 a1) a2 (nib (L 0 a1) a2 ^^^ a3)) a2)).toInt64) ((nI (nib (wn (L 0 a1) a2 (nib (L 0 a1) a2 ^^^ a3)) a2)).toInt64))] rfl ?_
      refine g_if_eq X 533 dL_law_528 (by decide) (fun hc6 => ?_) (fun hc6 => ?_)
      · refine g_run X KL_law_533_55 KL_law_533_55_d 2256 [(6, .int (nI (nib (wn (L 0 a1) a2 (nib (L 0 a1) a2 ^^^ a3)) a2))), (5, .int (nI 0)), (0, .ref b), (1, .ref (adC 0)), (2, .ref (adM 0)), (3, .ref ao), (4, .int (nI (6 * k)))] [] rfl ?_
        refine g_lv (lv' := [(0, .ref b), (1, .ref (adC 0)), (2, .ref (adM 0)), (3, .ref ao), (4, .int (nI (6 * k)))]) (lsub_c 2 rfl (lsub_c 3 rfl (lsub_c 4 rfl (lsub_c 5 rfl (lsub_c 6 rfl (lsub_n)))))) ?_
        refine g_perm (ws' := (WC adC g I (u2 L 0 a1 (wn (L 0 a1) a2 (nib (L 0 a1) a2 ^^^ a3))) S ++ ([OUT ao ((nI (nib (wn (L 0 a1) a2 (nib (L 0 a1) a2 ^^^ a3)) a2)).toInt64) ov] : va_W)) ++ WM adM g I (u2 L 0 a1 (wn (L 0 a1) a2 (nib (L 0 a1) a2 ^^^ a3))) S (u2 Z 3 0 (nI 0)) Y) (List.perm_append_comm (l₁ := (WC adC g I (u2 L 0 a1 (wn (L 0 a1) a2 (nib (L 0 a1) a2 ^^^ a3))) S ++ ([OUT ao ((nI (nib (wn (L 0 a1) a2 (nib (L 0 a1) a2 ^^^ a3)) a2)).toInt64) ov] : va_W))) (l₂ := WM adM g I (u2 L 0 a1 (wn (L 0 a1) a2 (nib (L 0 a1) a2 ^^^ a3))) S (u2 Z 3 0 (nI 0)) Y)) ?_
        refine g_widen (k := cells + 60) (n := slots + 1200) (by omega) (by omega) ?_
        exact kk I (u2 L 0 a1 (wn (L 0 a1) a2 (nib (L 0 a1) a2 ^^^ a3))) S n (u2 Z 3 0 (nI 0)) Y R ((nI (nib (wn (L 0 a1) a2 (nib (L 0 a1) a2 ^^^ a3)) a2)).toInt64) ov (hI.ofL (fun _ => u2_n (by decide))) (hR) (by first | exact hZ | (rw [zrow]; exact hZ) | (rw [zrow, zrow]; exact hZ))
      · exact absurd lg_self hc6
  · rw [nI_eq (by omega) (by omega)] at hc4; first | omega | (simp at hc4)

set_option maxHeartbeats 4000000 in
set_option maxRecDepth 100000 in
theorem lq3_3 {p : Program} {l : Launch} {e : Env} {s : State} {m : MethodId} {below : List Frame} {meth : Method} {c : Code} {Q : State → Prop} {D : va_G} {A : Nat → Prop} {b N : Nat} {xs : Nat → Int32} {adC adM : Nat → Nat} {g : Nat → ClassId} {ao k cells slots : Nat} {I : Nat → Nat → Int32} {L : Nat → Nat → Int64} {S : Nat → Nat} {n : Nat} {Z : Nat → Nat → Int32} {Y : Int64} {R : Nat → Nat} {on : Int64} {ov : Value} (HX : LX p l s m meth c A b N xs) (hk : 6 * k + 6 ≤ N) (hroom : cells + 60 ≤ 600002 ∧ slots + 1200 ≤ 7302232) (hI : Inv I L S n) (hR : R16 R) (hZ : Z 0 = fun j => nI (R j)) (a1 : Nat) (hl1 : 0 ≤ a1) (hu1 : a1 < 18) (e1 : xs (6 * k + 1) = nI a1) (a2 : Nat) (hl2 : 0 ≤ a2) (hu2 : a2 < 16) (e2 : xs (6 * k + 2) = nI a2) (hw : (xs (6 * k + 3)).toInt < (1 : Nat) ∨ ((16 : Nat) : Int) ≤ (xs (6 * k + 3)).toInt) (kk : LK p l e s m below meth c Q D A b adC adM g ao k cells slots 2256) : GL p l e room_1 s m #[.ref b] below meth c Q D CL (TYS g) A 9 (WL adC adM g ao I L S Z Y on ov) cells slots 455 [(0, .ref b), (1, .ref (adC 0)), (2, .ref (adM 0)), (3, .ref ao), (4, .int (nI (6 * k)))] [] := by
  obtain ⟨X, hSB, hAf, hNC, hfl, hX, hbl, hbA, hN⟩ := HX
  refine g_run X KL_law_455_43 KL_law_455_43_d 461 [(0, .ref b), (1, .ref (adC 0)), (2, .ref (adM 0)), (3, .ref ao), (4, .int (nI (6 * k)))] [.int ((nI (6 * k)) + (nI 1)), .ref b, .ref (adC 0)] rfl ?_
  refine g_nm (lv' := [(0, .ref b), (1, .ref (adC 0)), (2, .ref (adM 0)), (3, .ref ao), (4, .int (nI (6 * k)))]) (st' := [.int (nI ((6 * k) + 1)), .ref b, .ref (adC 0)]) (by simp only [nI_add]) (by simp only [nI_add]) ?_
  refine g_sld X hX hbl hbA hN (v := nI a1) (by omega) e1 dL_law_461 ?_
  refine g_run X KL_law_462_44 KL_law_462_44_d 467 [(0, .ref b), (1, .ref (adC 0)), (2, .ref (adM 0)), (3, .ref ao), (4, .int (nI (6 * k)))] [.int ((nI (6 * k)) + (nI 2)), .ref b, .int (nI a1), .ref (adC 0)] rfl ?_
  refine g_nm (lv' := [(0, .ref b), (1, .ref (adC 0)), (2, .ref (adM 0)), (3, .ref ao), (4, .int (nI (6 * k)))]) (st' := [.int (nI ((6 * k) + 2)), .ref b, .int (nI a1), .ref (adC 0)]) (by simp only [nI_add]) (by simp only [nI_add]) ?_
  refine g_sld X hX hbl hbA hN (v := nI a2) (by omega) e2 dL_law_467 ?_
  refine g_run X KL_law_468_45 KL_law_468_45_d 473 [(0, .ref b), (1, .ref (adC 0)), (2, .ref (adM 0)), (3, .ref ao), (4, .int (nI (6 * k)))] [.int ((nI (6 * k)) + (nI 3)), .ref b, .int (nI a2), .int (nI a1), .ref (adC 0)] rfl ?_
  refine g_nm (lv' := [(0, .ref b), (1, .ref (adC 0)), (2, .ref (adM 0)), (3, .ref ao), (4, .int (nI (6 * k)))]) (st' := [.int (nI ((6 * k) + 3)), .ref b, .int (nI a2), .int (nI a1), .ref (adC 0)]) (by simp only [nI_add]) (by simp only [nI_add]) ?_
  refine g_sld X hX hbl hbA hN (v := xs (6 * k + 3)) (by omega) rfl dL_law_473 ?_
  refine g_run X KL_law_474_46 KL_law_474_46_d 475 [(0, .ref b), (1, .ref (adC 0)), (2, .ref (adM 0)), (3, .ref ao), (4, .int (nI (6 * k)))] [.ref ao, .int (xs (6 * k + 3)), .int (nI a2), .int (nI a1), .ref (adC 0)] rfl ?_
  refine g_callSW X hSB hAf hNC (As := [.ref (adC 0), .int (nI a1), .int (nI a2), .int (xs (6 * k + 3)), .ref ao]) (wr := WM adM g I L S Z Y) (n := 5) (hx_ray_3 l hfl D g adC I L S a1 a2 (xs (6 * k + 3)) ao on ov (by first | assumption | omega) (by first | assumption | omega) (out_lo (by decide) (by decide) hw)) rfl w_539 w_537 w_538 w_0 (by decide +kernel) rfl ⟨Nat.le_of_ble_eq_true rfl, Nat.le_of_ble_eq_true rfl⟩ rfl rfl rfl (Nat.le_of_ble_eq_true rfl) ⟨by show cells + 1 ≤ 600002; omega, by show slots + 6 ≤ 7302232; omega⟩ dL_law_475 (fun hu1 _ => ?_)
  refine g_af (ws' := (WC adC g I L S ++ ([OUT ao on ov] : va_W)) ++ WM adM g I L S Z Y) (st' := [.int (nI 2)]) (cells' := cells + 1) (slots' := slots + 6) (pc' := 478) rfl rfl rfl rfl rfl ?_
  refine g_run X KL_law_478_47 KL_law_478_47_d 486 [(5, .int (nI 2)), (0, .ref b), (1, .ref (adC 0)), (2, .ref (adM 0)), (3, .ref ao), (4, .int (nI (6 * k)))] [.int ((nI (6 * k)) + (nI 1)), .ref b, .ref (adM 0)] rfl ?_
  refine g_nm (lv' := [(5, .int (nI 2)), (0, .ref b), (1, .ref (adC 0)), (2, .ref (adM 0)), (3, .ref ao), (4, .int (nI (6 * k)))]) (st' := [.int (nI ((6 * k) + 1)), .ref b, .ref (adM 0)]) (by simp only [nI_add]) (by simp only [nI_add]) ?_
  refine g_sld X hX hbl hbA hN (v := nI a1) (by omega) e1 dL_law_486 ?_
  refine g_run X KL_law_487_48 KL_law_487_48_d 492 [(5, .int (nI 2)), (0, .ref b), (1, .ref (adC 0)), (2, .ref (adM 0)), (3, .ref ao), (4, .int (nI (6 * k)))] [.int ((nI (6 * k)) + (nI 2)), .ref b, .int (nI a1), .ref (adM 0)] rfl ?_
  refine g_nm (lv' := [(5, .int (nI 2)), (0, .ref b), (1, .ref (adC 0)), (2, .ref (adM 0)), (3, .ref ao), (4, .int (nI (6 * k)))]) (st' := [.int (nI ((6 * k) + 2)), .ref b, .int (nI a1), .ref (adM 0)]) (by simp only [nI_add]) (by simp only [nI_add]) ?_
  refine g_sld X hX hbl hbA hN (v := nI a2) (by omega) e2 dL_law_492 ?_
  refine g_run X KL_law_493_49 KL_law_493_49_d 498 [(5, .int (nI 2)), (0, .ref b), (1, .ref (adC 0)), (2, .ref (adM 0)), (3, .ref ao), (4, .int (nI (6 * k)))] [.int ((nI (6 * k)) + (nI 3)), .ref b, .int (nI a2), .int (nI a1), .ref (adM 0)] rfl ?_
  refine g_nm (lv' := [(5, .int (nI 2)), (0, .ref b), (1, .ref (adC 0)), (2, .ref (adM 0)), (3, .ref ao), (4, .int (nI (6 * k)))]) (st' := [.int (nI ((6 * k) + 3)), .ref b, .int (nI a2), .int (nI a1), .ref (adM 0)]) (by simp only [nI_add]) (by simp only [nI_add]) ?_
  refine g_sld X hX hbl hbA hN (v := xs (6 * k + 3)) (by omega) rfl dL_law_498 ?_
  refine g_perm (ws' := WM adM g I L S Z Y ++ (WC adC g I L S ++ ([OUT ao on ov] : va_W))) (List.perm_append_comm (l₁ := WM adM g I L S Z Y) (l₂ := (WC adC g I L S ++ ([OUT ao on ov] : va_W)))) ?_
  refine g_callV X hSB hAf srcW (hrc1 := (rfl : CL[8]? = some _)) (wm_mem (k := 0) (by decide)) rfl (As := [.int (nI a1), .int (nI a2), .int (xs (6 * k + 3))]) (wr := WC adC g I L S ++ ([OUT ao on ov] : va_W)) (n := 3) (c_X9_ray_3 l D g adM I L S Z Y a1 a2 (xs (6 * k + 3)) (by first | assumption | omega) (by first | assumption | omega) (out_lo (by decide) (by decide) hw)) rfl srcN hrdN w_1328 w_1325 w_1326 w_1327 w_6 (by decide +kernel) rfl ⟨Nat.le_of_ble_eq_true rfl, Nat.le_of_ble_eq_true rfl⟩ rfl rfl rfl (Nat.le_of_ble_eq_true rfl) ⟨by show cells + 1 + 0 ≤ 600002; omega, by show slots + 6 + 0 ≤ 7302232; omega⟩ dL_law_499 (fun hu2 hp_hu2 => ?_)
  refine g_af (ws' := WM adM g I L S (u2 (u2 Z 3 0 (nI 0)) 3 0 (nI 2)) Y ++ (WC adC g I L S ++ ([OUT ao on ov] : va_W))) (st' := [.int (nI 0)]) (cells' := cells + 1 + 0) (slots' := slots + 6 + 0) (pc' := 502) rfl rfl rfl rfl rfl ?_
  refine g_run X KL_law_502_50 KL_law_502_50_d 505 [(6, .int (nI 0)), (5, .int (nI 2)), (0, .ref b), (1, .ref (adC 0)), (2, .ref (adM 0)), (3, .ref ao), (4, .int (nI (6 * k)))] [.ref (adM 0)] rfl ?_
  refine g_callV X hSB hAf srcW (hrc1 := (rfl : CL[8]? = some _)) (wm_mem (k := 0) (by decide)) rfl (As := []) (wr := WC adC g I L S ++ ([OUT ao on ov] : va_W)) (n := 0) (c_X9_thrown l D g adM I L S (u2 (u2 Z 3 0 (nI 0)) 3 0 (nI 2)) Y ) rfl srcN hrdN w_1250 w_1247 w_1248 w_1249 w_6 (by decide +kernel) rfl ⟨Nat.le_of_ble_eq_true rfl, Nat.le_of_ble_eq_true rfl⟩ rfl rfl rfl (Nat.le_of_ble_eq_true rfl) ⟨by show cells + 1 + 0 + 0 ≤ 600002; omega, by show slots + 6 + 0 + 0 ≤ 7302232; omega⟩ dL_law_505 (fun hu3 hp_hu3 => ?_)
  refine g_af (ws' := WM adM g I L S (u2 (u2 Z 3 0 (nI 0)) 3 0 (nI 2)) Y ++ (WC adC g I L S ++ ([OUT ao on ov] : va_W))) (st' := [.int ((u2 (u2 Z 3 0 (nI 0)) 3 0 (nI 2)) 3 0)]) (cells' := cells + 1 + 0 + 0) (slots' := slots + 6 + 0 + 0) (pc' := 508) rfl rfl rfl rfl rfl ?_
  refine g_st (st' := [.int (nI 2)]) (by first | rfl | (simp [z4, u2]; done)) ?_
  refine g_run X KL_law_508_51 KL_law_508_51_d 510 [(6, .int (nI 0)), (5, .int (nI 2)), (0, .ref b), (1, .ref (adC 0)), (2, .ref (adM 0)), (3, .ref ao), (4, .int (nI (6 * k)))] [.int (nI 2), .int (nI 2)] rfl ?_
  refine g_icmp_eq X 515 dL_law_510 (by decide) (fun hc4 => ?_) (fun hc4 => ?_)
  · refine g_run X KL_law_515_52 KL_law_515_52_d 517 [(6, .int (nI 0)), (5, .int (nI 2)), (0, .ref b), (1, .ref (adC 0)), (2, .ref (adM 0)), (3, .ref ao), (4, .int (nI (6 * k)))] [.int (nI 2)] rfl ?_
    refine g_if_ne X 533 dL_law_517 (by decide) (fun hc5 => ?_) (fun hc5 => ?_)
    · refine g_run X KL_law_533_55 KL_law_533_55_d 2256 [(6, .int (nI 0)), (5, .int (nI 2)), (0, .ref b), (1, .ref (adC 0)), (2, .ref (adM 0)), (3, .ref ao), (4, .int (nI (6 * k)))] [] rfl ?_
      refine g_lv (lv' := [(0, .ref b), (1, .ref (adC 0)), (2, .ref (adM 0)), (3, .ref ao), (4, .int (nI (6 * k)))]) (lsub_c 2 rfl (lsub_c 3 rfl (lsub_c 4 rfl (lsub_c 5 rfl (lsub_c 6 rfl (lsub_n)))))) ?_
      refine g_perm (ws' := (WC adC g I L S ++ ([OUT ao on ov] : va_W)) ++ WM adM g I L S (u2 (u2 Z 3 0 (nI 0)) 3 0 (nI 2)) Y) (List.perm_append_comm (l₁ := (WC adC g I L S ++ ([OUT ao on ov] : va_W))) (l₂ := WM adM g I L S (u2 (u2 Z 3 0 (nI 0)) 3 0 (nI 2)) Y)) ?_
      refine g_widen (k := cells + 60) (n := slots + 1200) (by omega) (by omega) ?_
      exact kk I L S n (u2 (u2 Z 3 0 (nI 0)) 3 0 (nI 2)) Y R on ov (hI) (hR) (by first | exact hZ | (rw [zrow]; exact hZ) | (rw [zrow, zrow]; exact hZ))
    · rw [nz_eq (by omega)] at hc5; first | omega | (simp at hc5)
  · rw [nI_eq (by omega) (by omega)] at hc4; first | omega | (simp at hc4)

set_option maxHeartbeats 4000000 in
set_option maxRecDepth 100000 in
theorem lq3_2 {p : Program} {l : Launch} {e : Env} {s : State} {m : MethodId} {below : List Frame} {meth : Method} {c : Code} {Q : State → Prop} {D : va_G} {A : Nat → Prop} {b N : Nat} {xs : Nat → Int32} {adC adM : Nat → Nat} {g : Nat → ClassId} {ao k cells slots : Nat} {I : Nat → Nat → Int32} {L : Nat → Nat → Int64} {S : Nat → Nat} {n : Nat} {Z : Nat → Nat → Int32} {Y : Int64} {R : Nat → Nat} {on : Int64} {ov : Value} (HX : LX p l s m meth c A b N xs) (hk : 6 * k + 6 ≤ N) (hroom : cells + 60 ≤ 600002 ∧ slots + 1200 ≤ 7302232) (hI : Inv I L S n) (hR : R16 R) (hZ : Z 0 = fun j => nI (R j)) (a1 : Nat) (hl1 : 0 ≤ a1) (hu1 : a1 < 18) (e1 : xs (6 * k + 1) = nI a1) (hw : (xs (6 * k + 2)).toInt < (0 : Nat) ∨ ((16 : Nat) : Int) ≤ (xs (6 * k + 2)).toInt) (kk : LK p l e s m below meth c Q D A b adC adM g ao k cells slots 2256) : GL p l e room_1 s m #[.ref b] below meth c Q D CL (TYS g) A 9 (WL adC adM g ao I L S Z Y on ov) cells slots 455 [(0, .ref b), (1, .ref (adC 0)), (2, .ref (adM 0)), (3, .ref ao), (4, .int (nI (6 * k)))] [] := by
  obtain ⟨X, hSB, hAf, hNC, hfl, hX, hbl, hbA, hN⟩ := HX
  refine g_run X KL_law_455_43 KL_law_455_43_d 461 [(0, .ref b), (1, .ref (adC 0)), (2, .ref (adM 0)), (3, .ref ao), (4, .int (nI (6 * k)))] [.int ((nI (6 * k)) + (nI 1)), .ref b, .ref (adC 0)] rfl ?_
  refine g_nm (lv' := [(0, .ref b), (1, .ref (adC 0)), (2, .ref (adM 0)), (3, .ref ao), (4, .int (nI (6 * k)))]) (st' := [.int (nI ((6 * k) + 1)), .ref b, .ref (adC 0)]) (by simp only [nI_add]) (by simp only [nI_add]) ?_
  refine g_sld X hX hbl hbA hN (v := nI a1) (by omega) e1 dL_law_461 ?_
  refine g_run X KL_law_462_44 KL_law_462_44_d 467 [(0, .ref b), (1, .ref (adC 0)), (2, .ref (adM 0)), (3, .ref ao), (4, .int (nI (6 * k)))] [.int ((nI (6 * k)) + (nI 2)), .ref b, .int (nI a1), .ref (adC 0)] rfl ?_
  refine g_nm (lv' := [(0, .ref b), (1, .ref (adC 0)), (2, .ref (adM 0)), (3, .ref ao), (4, .int (nI (6 * k)))]) (st' := [.int (nI ((6 * k) + 2)), .ref b, .int (nI a1), .ref (adC 0)]) (by simp only [nI_add]) (by simp only [nI_add]) ?_
  refine g_sld X hX hbl hbA hN (v := xs (6 * k + 2)) (by omega) rfl dL_law_467 ?_
  refine g_run X KL_law_468_45 KL_law_468_45_d 473 [(0, .ref b), (1, .ref (adC 0)), (2, .ref (adM 0)), (3, .ref ao), (4, .int (nI (6 * k)))] [.int ((nI (6 * k)) + (nI 3)), .ref b, .int (xs (6 * k + 2)), .int (nI a1), .ref (adC 0)] rfl ?_
  refine g_nm (lv' := [(0, .ref b), (1, .ref (adC 0)), (2, .ref (adM 0)), (3, .ref ao), (4, .int (nI (6 * k)))]) (st' := [.int (nI ((6 * k) + 3)), .ref b, .int (xs (6 * k + 2)), .int (nI a1), .ref (adC 0)]) (by simp only [nI_add]) (by simp only [nI_add]) ?_
  refine g_sld X hX hbl hbA hN (v := xs (6 * k + 3)) (by omega) rfl dL_law_473 ?_
  refine g_run X KL_law_474_46 KL_law_474_46_d 475 [(0, .ref b), (1, .ref (adC 0)), (2, .ref (adM 0)), (3, .ref ao), (4, .int (nI (6 * k)))] [.ref ao, .int (xs (6 * k + 3)), .int (xs (6 * k + 2)), .int (nI a1), .ref (adC 0)] rfl ?_
  refine g_callSW X hSB hAf hNC (As := [.ref (adC 0), .int (nI a1), .int (xs (6 * k + 2)), .int (xs (6 * k + 3)), .ref ao]) (wr := WM adM g I L S Z Y) (n := 5) (hx_ray_2 l hfl D g adC I L S a1 (xs (6 * k + 2)) (xs (6 * k + 3)) ao on ov (by first | assumption | omega) (out_lt (by decide) hw)) rfl w_539 w_537 w_538 w_0 (by decide +kernel) rfl ⟨Nat.le_of_ble_eq_true rfl, Nat.le_of_ble_eq_true rfl⟩ rfl rfl rfl (Nat.le_of_ble_eq_true rfl) ⟨by show cells + 1 ≤ 600002; omega, by show slots + 6 ≤ 7302232; omega⟩ dL_law_475 (fun hu1 _ => ?_)
  refine g_af (ws' := (WC adC g I L S ++ ([OUT ao on ov] : va_W)) ++ WM adM g I L S Z Y) (st' := [.int (nI 1)]) (cells' := cells + 1) (slots' := slots + 6) (pc' := 478) rfl rfl rfl rfl rfl ?_
  refine g_run X KL_law_478_47 KL_law_478_47_d 486 [(5, .int (nI 1)), (0, .ref b), (1, .ref (adC 0)), (2, .ref (adM 0)), (3, .ref ao), (4, .int (nI (6 * k)))] [.int ((nI (6 * k)) + (nI 1)), .ref b, .ref (adM 0)] rfl ?_
  refine g_nm (lv' := [(5, .int (nI 1)), (0, .ref b), (1, .ref (adC 0)), (2, .ref (adM 0)), (3, .ref ao), (4, .int (nI (6 * k)))]) (st' := [.int (nI ((6 * k) + 1)), .ref b, .ref (adM 0)]) (by simp only [nI_add]) (by simp only [nI_add]) ?_
  refine g_sld X hX hbl hbA hN (v := nI a1) (by omega) e1 dL_law_486 ?_
  refine g_run X KL_law_487_48 KL_law_487_48_d 492 [(5, .int (nI 1)), (0, .ref b), (1, .ref (adC 0)), (2, .ref (adM 0)), (3, .ref ao), (4, .int (nI (6 * k)))] [.int ((nI (6 * k)) + (nI 2)), .ref b, .int (nI a1), .ref (adM 0)] rfl ?_
  refine g_nm (lv' := [(5, .int (nI 1)), (0, .ref b), (1, .ref (adC 0)), (2, .ref (adM 0)), (3, .ref ao), (4, .int (nI (6 * k)))]) (st' := [.int (nI ((6 * k) + 2)), .ref b, .int (nI a1), .ref (adM 0)]) (by simp only [nI_add]) (by simp only [nI_add]) ?_
  refine g_sld X hX hbl hbA hN (v := xs (6 * k + 2)) (by omega) rfl dL_law_492 ?_
  refine g_run X KL_law_493_49 KL_law_493_49_d 498 [(5, .int (nI 1)), (0, .ref b), (1, .ref (adC 0)), (2, .ref (adM 0)), (3, .ref ao), (4, .int (nI (6 * k)))] [.int ((nI (6 * k)) + (nI 3)), .ref b, .int (xs (6 * k + 2)), .int (nI a1), .ref (adM 0)] rfl ?_
  refine g_nm (lv' := [(5, .int (nI 1)), (0, .ref b), (1, .ref (adC 0)), (2, .ref (adM 0)), (3, .ref ao), (4, .int (nI (6 * k)))]) (st' := [.int (nI ((6 * k) + 3)), .ref b, .int (xs (6 * k + 2)), .int (nI a1), .ref (adM 0)]) (by simp only [nI_add]) (by simp only [nI_add]) ?_
  refine g_sld X hX hbl hbA hN (v := xs (6 * k + 3)) (by omega) rfl dL_law_498 ?_
  refine g_perm (ws' := WM adM g I L S Z Y ++ (WC adC g I L S ++ ([OUT ao on ov] : va_W))) (List.perm_append_comm (l₁ := WM adM g I L S Z Y) (l₂ := (WC adC g I L S ++ ([OUT ao on ov] : va_W)))) ?_
  refine g_callV X hSB hAf srcW (hrc1 := (rfl : CL[8]? = some _)) (wm_mem (k := 0) (by decide)) rfl (As := [.int (nI a1), .int (xs (6 * k + 2)), .int (xs (6 * k + 3))]) (wr := WC adC g I L S ++ ([OUT ao on ov] : va_W)) (n := 3) (c_X9_ray_2 l D g adM I L S Z Y a1 (xs (6 * k + 2)) (xs (6 * k + 3)) (by first | assumption | omega) (out_le (by decide) hw)) rfl srcN hrdN w_1328 w_1325 w_1326 w_1327 w_6 (by decide +kernel) rfl ⟨Nat.le_of_ble_eq_true rfl, Nat.le_of_ble_eq_true rfl⟩ rfl rfl rfl (Nat.le_of_ble_eq_true rfl) ⟨by show cells + 1 + 0 ≤ 600002; omega, by show slots + 6 + 0 ≤ 7302232; omega⟩ dL_law_499 (fun hu2 hp_hu2 => ?_)
  refine g_af (ws' := WM adM g I L S (u2 (u2 Z 3 0 (nI 0)) 3 0 (nI 1)) Y ++ (WC adC g I L S ++ ([OUT ao on ov] : va_W))) (st' := [.int (nI 0)]) (cells' := cells + 1 + 0) (slots' := slots + 6 + 0) (pc' := 502) rfl rfl rfl rfl rfl ?_
  refine g_run X KL_law_502_50 KL_law_502_50_d 505 [(6, .int (nI 0)), (5, .int (nI 1)), (0, .ref b), (1, .ref (adC 0)), (2, .ref (adM 0)), (3, .ref ao), (4, .int (nI (6 * k)))] [.ref (adM 0)] rfl ?_
  refine g_callV X hSB hAf srcW (hrc1 := (rfl : CL[8]? = some _)) (wm_mem (k := 0) (by decide)) rfl (As := []) (wr := WC adC g I L S ++ ([OUT ao on ov] : va_W)) (n := 0) (c_X9_thrown l D g adM I L S (u2 (u2 Z 3 0 (nI 0)) 3 0 (nI 1)) Y ) rfl srcN hrdN w_1250 w_1247 w_1248 w_1249 w_6 (by decide +kernel) rfl ⟨Nat.le_of_ble_eq_true rfl, Nat.le_of_ble_eq_true rfl⟩ rfl rfl rfl (Nat.le_of_ble_eq_true rfl) ⟨by show cells + 1 + 0 + 0 ≤ 600002; omega, by show slots + 6 + 0 + 0 ≤ 7302232; omega⟩ dL_law_505 (fun hu3 hp_hu3 => ?_)
  refine g_af (ws' := WM adM g I L S (u2 (u2 Z 3 0 (nI 0)) 3 0 (nI 1)) Y ++ (WC adC g I L S ++ ([OUT ao on ov] : va_W))) (st' := [.int ((u2 (u2 Z 3 0 (nI 0)) 3 0 (nI 1)) 3 0)]) (cells' := cells + 1 + 0 + 0) (slots' := slots + 6 + 0 + 0) (pc' := 508) rfl rfl rfl rfl rfl ?_
  refine g_st (st' := [.int (nI 1)]) (by first | rfl | (simp [z4, u2]; done)) ?_
  refine g_run X KL_law_508_51 KL_law_508_51_d 510 [(6, .int (nI 0)), (5, .int (nI 1)), (0, .ref b), (1, .ref (adC 0)), (2, .ref (adM 0)), (3, .ref ao), (4, .int (nI (6 * k)))] [.int (nI 1), .int (nI 1)] rfl ?_
  refine g_icmp_eq X 515 dL_law_510 (by decide) (fun hc4 => ?_) (fun hc4 => ?_)
  · refine g_run X KL_law_515_52 KL_law_515_52_d 517 [(6, .int (nI 0)), (5, .int (nI 1)), (0, .ref b), (1, .ref (adC 0)), (2, .ref (adM 0)), (3, .ref ao), (4, .int (nI (6 * k)))] [.int (nI 1)] rfl ?_
    refine g_if_ne X 533 dL_law_517 (by decide) (fun hc5 => ?_) (fun hc5 => ?_)
    · refine g_run X KL_law_533_55 KL_law_533_55_d 2256 [(6, .int (nI 0)), (5, .int (nI 1)), (0, .ref b), (1, .ref (adC 0)), (2, .ref (adM 0)), (3, .ref ao), (4, .int (nI (6 * k)))] [] rfl ?_
      refine g_lv (lv' := [(0, .ref b), (1, .ref (adC 0)), (2, .ref (adM 0)), (3, .ref ao), (4, .int (nI (6 * k)))]) (lsub_c 2 rfl (lsub_c 3 rfl (lsub_c 4 rfl (lsub_c 5 rfl (lsub_c 6 rfl (lsub_n)))))) ?_
      refine g_perm (ws' := (WC adC g I L S ++ ([OUT ao on ov] : va_W)) ++ WM adM g I L S (u2 (u2 Z 3 0 (nI 0)) 3 0 (nI 1)) Y) (List.perm_append_comm (l₁ := (WC adC g I L S ++ ([OUT ao on ov] : va_W))) (l₂ := WM adM g I L S (u2 (u2 Z 3 0 (nI 0)) 3 0 (nI 1)) Y)) ?_
      refine g_widen (k := cells + 60) (n := slots + 1200) (by omega) (by omega) ?_
      exact kk I L S n (u2 (u2 Z 3 0 (nI 0)) 3 0 (nI 1)) Y R on ov (hI) (hR) (by first | exact hZ | (rw [zrow]; exact hZ) | (rw [zrow, zrow]; exact hZ))
    · rw [nz_eq (by omega)] at hc5; first | omega | (simp at hc5)
  · rw [nI_eq (by omega) (by omega)] at hc4; first | omega | (simp at hc4)

set_option maxHeartbeats 4000000 in
set_option maxRecDepth 100000 in
theorem lq3_1 {p : Program} {l : Launch} {e : Env} {s : State} {m : MethodId} {below : List Frame} {meth : Method} {c : Code} {Q : State → Prop} {D : va_G} {A : Nat → Prop} {b N : Nat} {xs : Nat → Int32} {adC adM : Nat → Nat} {g : Nat → ClassId} {ao k cells slots : Nat} {I : Nat → Nat → Int32} {L : Nat → Nat → Int64} {S : Nat → Nat} {n : Nat} {Z : Nat → Nat → Int32} {Y : Int64} {R : Nat → Nat} {on : Int64} {ov : Value} (HX : LX p l s m meth c A b N xs) (hk : 6 * k + 6 ≤ N) (hroom : cells + 60 ≤ 600002 ∧ slots + 1200 ≤ 7302232) (hI : Inv I L S n) (hR : R16 R) (hZ : Z 0 = fun j => nI (R j)) (hw : (xs (6 * k + 1)).toInt < (0 : Nat) ∨ ((18 : Nat) : Int) ≤ (xs (6 * k + 1)).toInt) (kk : LK p l e s m below meth c Q D A b adC adM g ao k cells slots 2256) : GL p l e room_1 s m #[.ref b] below meth c Q D CL (TYS g) A 9 (WL adC adM g ao I L S Z Y on ov) cells slots 455 [(0, .ref b), (1, .ref (adC 0)), (2, .ref (adM 0)), (3, .ref ao), (4, .int (nI (6 * k)))] [] := by
  obtain ⟨X, hSB, hAf, hNC, hfl, hX, hbl, hbA, hN⟩ := HX
  refine g_run X KL_law_455_43 KL_law_455_43_d 461 [(0, .ref b), (1, .ref (adC 0)), (2, .ref (adM 0)), (3, .ref ao), (4, .int (nI (6 * k)))] [.int ((nI (6 * k)) + (nI 1)), .ref b, .ref (adC 0)] rfl ?_
  refine g_nm (lv' := [(0, .ref b), (1, .ref (adC 0)), (2, .ref (adM 0)), (3, .ref ao), (4, .int (nI (6 * k)))]) (st' := [.int (nI ((6 * k) + 1)), .ref b, .ref (adC 0)]) (by simp only [nI_add]) (by simp only [nI_add]) ?_
  refine g_sld X hX hbl hbA hN (v := xs (6 * k + 1)) (by omega) rfl dL_law_461 ?_
  refine g_run X KL_law_462_44 KL_law_462_44_d 467 [(0, .ref b), (1, .ref (adC 0)), (2, .ref (adM 0)), (3, .ref ao), (4, .int (nI (6 * k)))] [.int ((nI (6 * k)) + (nI 2)), .ref b, .int (xs (6 * k + 1)), .ref (adC 0)] rfl ?_
  refine g_nm (lv' := [(0, .ref b), (1, .ref (adC 0)), (2, .ref (adM 0)), (3, .ref ao), (4, .int (nI (6 * k)))]) (st' := [.int (nI ((6 * k) + 2)), .ref b, .int (xs (6 * k + 1)), .ref (adC 0)]) (by simp only [nI_add]) (by simp only [nI_add]) ?_
  refine g_sld X hX hbl hbA hN (v := xs (6 * k + 2)) (by omega) rfl dL_law_467 ?_
  refine g_run X KL_law_468_45 KL_law_468_45_d 473 [(0, .ref b), (1, .ref (adC 0)), (2, .ref (adM 0)), (3, .ref ao), (4, .int (nI (6 * k)))] [.int ((nI (6 * k)) + (nI 3)), .ref b, .int (xs (6 * k + 2)), .int (xs (6 * k + 1)), .ref (adC 0)] rfl ?_
  refine g_nm (lv' := [(0, .ref b), (1, .ref (adC 0)), (2, .ref (adM 0)), (3, .ref ao), (4, .int (nI (6 * k)))]) (st' := [.int (nI ((6 * k) + 3)), .ref b, .int (xs (6 * k + 2)), .int (xs (6 * k + 1)), .ref (adC 0)]) (by simp only [nI_add]) (by simp only [nI_add]) ?_
  refine g_sld X hX hbl hbA hN (v := xs (6 * k + 3)) (by omega) rfl dL_law_473 ?_
  refine g_run X KL_law_474_46 KL_law_474_46_d 475 [(0, .ref b), (1, .ref (adC 0)), (2, .ref (adM 0)), (3, .ref ao), (4, .int (nI (6 * k)))] [.ref ao, .int (xs (6 * k + 3)), .int (xs (6 * k + 2)), .int (xs (6 * k + 1)), .ref (adC 0)] rfl ?_
  refine g_callSW X hSB hAf hNC (As := [.ref (adC 0), .int (xs (6 * k + 1)), .int (xs (6 * k + 2)), .int (xs (6 * k + 3)), .ref ao]) (wr := WM adM g I L S Z Y) (n := 5) (hx_ray_1 l hfl D g adC I L S (xs (6 * k + 1)) (xs (6 * k + 2)) (xs (6 * k + 3)) ao on ov (out_lt (by decide) hw)) rfl w_539 w_537 w_538 w_0 (by decide +kernel) rfl ⟨Nat.le_of_ble_eq_true rfl, Nat.le_of_ble_eq_true rfl⟩ rfl rfl rfl (Nat.le_of_ble_eq_true rfl) ⟨by show cells + 1 ≤ 600002; omega, by show slots + 6 ≤ 7302232; omega⟩ dL_law_475 (fun hu1 _ => ?_)
  refine g_af (ws' := (WC adC g I L S ++ ([OUT ao on ov] : va_W)) ++ WM adM g I L S Z Y) (st' := [.int (nI 1)]) (cells' := cells + 1) (slots' := slots + 6) (pc' := 478) rfl rfl rfl rfl rfl ?_
  refine g_run X KL_law_478_47 KL_law_478_47_d 486 [(5, .int (nI 1)), (0, .ref b), (1, .ref (adC 0)), (2, .ref (adM 0)), (3, .ref ao), (4, .int (nI (6 * k)))] [.int ((nI (6 * k)) + (nI 1)), .ref b, .ref (adM 0)] rfl ?_
  refine g_nm (lv' := [(5, .int (nI 1)), (0, .ref b), (1, .ref (adC 0)), (2, .ref (adM 0)), (3, .ref ao), (4, .int (nI (6 * k)))]) (st' := [.int (nI ((6 * k) + 1)), .ref b, .ref (adM 0)]) (by simp only [nI_add]) (by simp only [nI_add]) ?_
  refine g_sld X hX hbl hbA hN (v := xs (6 * k + 1)) (by omega) rfl dL_law_486 ?_
  refine g_run X KL_law_487_48 KL_law_487_48_d 492 [(5, .int (nI 1)), (0, .ref b), (1, .ref (adC 0)), (2, .ref (adM 0)), (3, .ref ao), (4, .int (nI (6 * k)))] [.int ((nI (6 * k)) + (nI 2)), .ref b, .int (xs (6 * k + 1)), .ref (adM 0)] rfl ?_
  refine g_nm (lv' := [(5, .int (nI 1)), (0, .ref b), (1, .ref (adC 0)), (2, .ref (adM 0)), (3, .ref ao), (4, .int (nI (6 * k)))]) (st' := [.int (nI ((6 * k) + 2)), .ref b, .int (xs (6 * k + 1)), .ref (adM 0)]) (by simp only [nI_add]) (by simp only [nI_add]) ?_
  refine g_sld X hX hbl hbA hN (v := xs (6 * k + 2)) (by omega) rfl dL_law_492 ?_
  refine g_run X KL_law_493_49 KL_law_493_49_d 498 [(5, .int (nI 1)), (0, .ref b), (1, .ref (adC 0)), (2, .ref (adM 0)), (3, .ref ao), (4, .int (nI (6 * k)))] [.int ((nI (6 * k)) + (nI 3)), .ref b, .int (xs (6 * k + 2)), .int (xs (6 * k + 1)), .ref (adM 0)] rfl ?_
  refine g_nm (lv' := [(5, .int (nI 1)), (0, .ref b), (1, .ref (adC 0)), (2, .ref (adM 0)), (3, .ref ao), (4, .int (nI (6 * k)))]) (st' := [.int (nI ((6 * k) + 3)), .ref b, .int (xs (6 * k + 2)), .int (xs (6 * k + 1)), .ref (adM 0)]) (by simp only [nI_add]) (by simp only [nI_add]) ?_
  refine g_sld X hX hbl hbA hN (v := xs (6 * k + 3)) (by omega) rfl dL_law_498 ?_
  refine g_perm (ws' := WM adM g I L S Z Y ++ (WC adC g I L S ++ ([OUT ao on ov] : va_W))) (List.perm_append_comm (l₁ := WM adM g I L S Z Y) (l₂ := (WC adC g I L S ++ ([OUT ao on ov] : va_W)))) ?_
  refine g_callV X hSB hAf srcW (hrc1 := (rfl : CL[8]? = some _)) (wm_mem (k := 0) (by decide)) rfl (As := [.int (xs (6 * k + 1)), .int (xs (6 * k + 2)), .int (xs (6 * k + 3))]) (wr := WC adC g I L S ++ ([OUT ao on ov] : va_W)) (n := 3) (c_X9_ray_1 l D g adM I L S Z Y (xs (6 * k + 1)) (xs (6 * k + 2)) (xs (6 * k + 3)) (out_le (by decide) hw)) rfl srcN hrdN w_1328 w_1325 w_1326 w_1327 w_6 (by decide +kernel) rfl ⟨Nat.le_of_ble_eq_true rfl, Nat.le_of_ble_eq_true rfl⟩ rfl rfl rfl (Nat.le_of_ble_eq_true rfl) ⟨by show cells + 1 + 0 ≤ 600002; omega, by show slots + 6 + 0 ≤ 7302232; omega⟩ dL_law_499 (fun hu2 hp_hu2 => ?_)
  refine g_af (ws' := WM adM g I L S (u2 (u2 Z 3 0 (nI 0)) 3 0 (nI 1)) Y ++ (WC adC g I L S ++ ([OUT ao on ov] : va_W))) (st' := [.int (nI 0)]) (cells' := cells + 1 + 0) (slots' := slots + 6 + 0) (pc' := 502) rfl rfl rfl rfl rfl ?_
  refine g_run X KL_law_502_50 KL_law_502_50_d 505 [(6, .int (nI 0)), (5, .int (nI 1)), (0, .ref b), (1, .ref (adC 0)), (2, .ref (adM 0)), (3, .ref ao), (4, .int (nI (6 * k)))] [.ref (adM 0)] rfl ?_
  refine g_callV X hSB hAf srcW (hrc1 := (rfl : CL[8]? = some _)) (wm_mem (k := 0) (by decide)) rfl (As := []) (wr := WC adC g I L S ++ ([OUT ao on ov] : va_W)) (n := 0) (c_X9_thrown l D g adM I L S (u2 (u2 Z 3 0 (nI 0)) 3 0 (nI 1)) Y ) rfl srcN hrdN w_1250 w_1247 w_1248 w_1249 w_6 (by decide +kernel) rfl ⟨Nat.le_of_ble_eq_true rfl, Nat.le_of_ble_eq_true rfl⟩ rfl rfl rfl (Nat.le_of_ble_eq_true rfl) ⟨by show cells + 1 + 0 + 0 ≤ 600002; omega, by show slots + 6 + 0 + 0 ≤ 7302232; omega⟩ dL_law_505 (fun hu3 hp_hu3 => ?_)
  refine g_af (ws' := WM adM g I L S (u2 (u2 Z 3 0 (nI 0)) 3 0 (nI 1)) Y ++ (WC adC g I L S ++ ([OUT ao on ov] : va_W))) (st' := [.int ((u2 (u2 Z 3 0 (nI 0)) 3 0 (nI 1)) 3 0)]) (cells' := cells + 1 + 0 + 0) (slots' := slots + 6 + 0 + 0) (pc' := 508) rfl rfl rfl rfl rfl ?_
  refine g_st (st' := [.int (nI 1)]) (by first | rfl | (simp [z4, u2]; done)) ?_
  refine g_run X KL_law_508_51 KL_law_508_51_d 510 [(6, .int (nI 0)), (5, .int (nI 1)), (0, .ref b), (1, .ref (adC 0)), (2, .ref (adM 0)), (3, .ref ao), (4, .int (nI (6 * k)))] [.int (nI 1), .int (nI 1)] rfl ?_
  refine g_icmp_eq X 515 dL_law_510 (by decide) (fun hc4 => ?_) (fun hc4 => ?_)
  · refine g_run X KL_law_515_52 KL_law_515_52_d 517 [(6, .int (nI 0)), (5, .int (nI 1)), (0, .ref b), (1, .ref (adC 0)), (2, .ref (adM 0)), (3, .ref ao), (4, .int (nI (6 * k)))] [.int (nI 1)] rfl ?_
    refine g_if_ne X 533 dL_law_517 (by decide) (fun hc5 => ?_) (fun hc5 => ?_)
    · refine g_run X KL_law_533_55 KL_law_533_55_d 2256 [(6, .int (nI 0)), (5, .int (nI 1)), (0, .ref b), (1, .ref (adC 0)), (2, .ref (adM 0)), (3, .ref ao), (4, .int (nI (6 * k)))] [] rfl ?_
      refine g_lv (lv' := [(0, .ref b), (1, .ref (adC 0)), (2, .ref (adM 0)), (3, .ref ao), (4, .int (nI (6 * k)))]) (lsub_c 2 rfl (lsub_c 3 rfl (lsub_c 4 rfl (lsub_c 5 rfl (lsub_c 6 rfl (lsub_n)))))) ?_
      refine g_perm (ws' := (WC adC g I L S ++ ([OUT ao on ov] : va_W)) ++ WM adM g I L S (u2 (u2 Z 3 0 (nI 0)) 3 0 (nI 1)) Y) (List.perm_append_comm (l₁ := (WC adC g I L S ++ ([OUT ao on ov] : va_W))) (l₂ := WM adM g I L S (u2 (u2 Z 3 0 (nI 0)) 3 0 (nI 1)) Y)) ?_
      refine g_widen (k := cells + 60) (n := slots + 1200) (by omega) (by omega) ?_
      exact kk I L S n (u2 (u2 Z 3 0 (nI 0)) 3 0 (nI 1)) Y R on ov (hI) (hR) (by first | exact hZ | (rw [zrow]; exact hZ) | (rw [zrow, zrow]; exact hZ))
    · rw [nz_eq (by omega)] at hc5; first | omega | (simp at hc5)
  · rw [nI_eq (by omega) (by omega)] at hc4; first | omega | (simp at hc4)

theorem lq3 {p : Program} {l : Launch} {e : Env} {s : State} {m : MethodId} {below : List Frame} {meth : Method} {c : Code} {Q : State → Prop} {D : va_G} {A : Nat → Prop} {b N : Nat} {xs : Nat → Int32} {adC adM : Nat → Nat} {g : Nat → ClassId} {ao k cells slots : Nat} {I : Nat → Nat → Int32} {L : Nat → Nat → Int64} {S : Nat → Nat} {n : Nat} {Z : Nat → Nat → Int32} {Y : Int64} {R : Nat → Nat} {on : Int64} {ov : Value} (HX : LX p l s m meth c A b N xs) (hk : 6 * k + 6 ≤ N) (hroom : cells + 60 ≤ 600002 ∧ slots + 1200 ≤ 7302232) (hI : Inv I L S n) (hR : R16 R) (hZ : Z 0 = fun j => nI (R j)) (kk : LK p l e s m below meth c Q D A b adC adM g ao k cells slots 2256) : GL p l e room_1 s m #[.ref b] below meth c Q D CL (TYS g) A 9 (WL adC adM g ao I L S Z Y on ov) cells slots 455 [(0, .ref b), (1, .ref (adC 0)), (2, .ref (adM 0)), (3, .ref ao), (4, .int (nI (6 * k)))] [] := by
  rcases rg (xs (6 * k + 1)) 0 18 with ⟨a1, hl1, hu1, e1⟩ | hw
  · rcases rg (xs (6 * k + 2)) 0 16 with ⟨a2, hl2, hu2, e2⟩ | hw
    · rcases rg (xs (6 * k + 3)) 1 16 with ⟨a3, hl3, hu3, e3⟩ | hw
      · exact lq3_0 HX hk hroom hI hR hZ  a1 hl1 hu1 e1 a2 hl2 hu2 e2 a3 hl3 hu3 e3 kk
      · exact lq3_3 HX hk hroom hI hR hZ  a1 hl1 hu1 e1 a2 hl2 hu2 e2 hw kk
    · exact lq3_2 HX hk hroom hI hR hZ  a1 hl1 hu1 e1 hw kk
  · exact lq3_1 HX hk hroom hI hR hZ  hw kk

def KL_law_536_56 : List (Nat × Instr × Nat) := [(536, .aload_n 1, 1), (537, .aload_n 0, 1), (538, .iload 4, 2), (540, .iconst 1, 1), (541, .iadd, 1)]
theorem KL_law_536_56_d : ∀ z ∈ KL_law_536_56, decode cL_law z.1 = .ok z.2 := by decide +kernel
def KL_law_543_57 : List (Nat × Instr × Nat) := [(543, .aload_n 0, 1), (544, .iload 4, 2), (546, .iconst 2, 1), (547, .iadd, 1)]
theorem KL_law_543_57_d : ∀ z ∈ KL_law_543_57, decode cL_law z.1 = .ok z.2 := by decide +kernel
def KL_law_556_58 : List (Nat × Instr × Nat) := [(556, .iconst 0, 1), (557, .aload_n 3, 1)]
theorem KL_law_556_58_d : ∀ z ∈ KL_law_556_58, decode cL_law z.1 = .ok z.2 := by decide +kernel
def KL_law_561_59 : List (Nat × Instr × Nat) := [(561, .istore 5, 2), (563, .aload_n 2, 1), (564, .aload_n 0, 1), (565, .iload 4, 2), (567, .iconst 1, 1), (568, .iadd, 1)]
theorem KL_law_561_59_d : ∀ z ∈ KL_law_561_59, decode cL_law z.1 = .ok z.2 := by decide +kernel
def KL_law_570_60 : List (Nat × Instr × Nat) := [(570, .aload_n 0, 1), (571, .iload 4, 2), (573, .iconst 2, 1), (574, .iadd, 1)]
theorem KL_law_570_60_d : ∀ z ∈ KL_law_570_60, decode cL_law z.1 = .ok z.2 := by decide +kernel
def KL_law_583_61 : List (Nat × Instr × Nat) := [(583, .iconst 0, 1)]
theorem KL_law_583_61_d : ∀ z ∈ KL_law_583_61, decode cL_law z.1 = .ok z.2 := by decide +kernel
def KL_law_587_62 : List (Nat × Instr × Nat) := [(587, .istore 6, 2), (589, .aload_n 2, 1)]
theorem KL_law_587_62_d : ∀ z ∈ KL_law_587_62, decode cL_law z.1 = .ok z.2 := by decide +kernel
def KL_law_593_63 : List (Nat × Instr × Nat) := [(593, .iload 5, 2)]
theorem KL_law_593_63_d : ∀ z ∈ KL_law_593_63, decode cL_law z.1 = .ok z.2 := by decide +kernel
def KL_law_600_64 : List (Nat × Instr × Nat) := [(600, .iload 5, 2)]
theorem KL_law_600_64_d : ∀ z ∈ KL_law_600_64, decode cL_law z.1 = .ok z.2 := by decide +kernel
def KL_law_605_65 : List (Nat × Instr × Nat) := [(605, .aload_n 3, 1)]
theorem KL_law_605_65_d : ∀ z ∈ KL_law_605_65, decode cL_law z.1 = .ok z.2 := by decide +kernel
def KL_law_609_66 : List (Nat × Instr × Nat) := [(609, .iload 6, 2), (611, .i2l, 1), (612, .lcmp, 1)]
theorem KL_law_609_66_d : ∀ z ∈ KL_law_609_66, decode cL_law z.1 = .ok z.2 := by decide +kernel
def KL_law_618_67 : List (Nat × Instr × Nat) := [(618, .goto 1638, 3)]
theorem KL_law_618_67_d : ∀ z ∈ KL_law_618_67, decode cL_law z.1 = .ok z.2 := by decide +kernel
set_option maxHeartbeats 4000000 in
set_option maxRecDepth 100000 in
theorem lq4_0 {p : Program} {l : Launch} {e : Env} {s : State} {m : MethodId} {below : List Frame} {meth : Method} {c : Code} {Q : State → Prop} {D : va_G} {A : Nat → Prop} {b N : Nat} {xs : Nat → Int32} {adC adM : Nat → Nat} {g : Nat → ClassId} {ao k cells slots : Nat} {I : Nat → Nat → Int32} {L : Nat → Nat → Int64} {S : Nat → Nat} {n : Nat} {Z : Nat → Nat → Int32} {Y : Int64} {R : Nat → Nat} {on : Int64} {ov : Value} (HX : LX p l s m meth c A b N xs) (hk : 6 * k + 6 ≤ N) (hroom : cells + 60 ≤ 600002 ∧ slots + 1200 ≤ 7302232) (hI : Inv I L S n) (hR : R16 R) (hZ : Z 0 = fun j => nI (R j)) (a1 : Nat) (hl1 : 0 ≤ a1) (hu1 : a1 < 15) (e1 : xs (6 * k + 1) = nI a1) (hz : xs (6 * k + 2) = 0) (kk : LK p l e s m below meth c Q D A b adC adM g ao k cells slots 2256) : GL p l e room_1 s m #[.ref b] below meth c Q D CL (TYS g) A 9 (WL adC adM g ao I L S Z Y on ov) cells slots 536 [(0, .ref b), (1, .ref (adC 0)), (2, .ref (adM 0)), (3, .ref ao), (4, .int (nI (6 * k)))] [] := by
  obtain ⟨X, hSB, hAf, hNC, hfl, hX, hbl, hbA, hN⟩ := HX
  refine g_run X KL_law_536_56 KL_law_536_56_d 542 [(0, .ref b), (1, .ref (adC 0)), (2, .ref (adM 0)), (3, .ref ao), (4, .int (nI (6 * k)))] [.int ((nI (6 * k)) + (nI 1)), .ref b, .ref (adC 0)] rfl ?_
  refine g_nm (lv' := [(0, .ref b), (1, .ref (adC 0)), (2, .ref (adM 0)), (3, .ref ao), (4, .int (nI (6 * k)))]) (st' := [.int (nI ((6 * k) + 1)), .ref b, .ref (adC 0)]) (by simp only [nI_add]) (by simp only [nI_add]) ?_
  refine g_sld X hX hbl hbA hN (v := nI a1) (by omega) e1 dL_law_542 ?_
  refine g_run X KL_law_543_57 KL_law_543_57_d 548 [(0, .ref b), (1, .ref (adC 0)), (2, .ref (adM 0)), (3, .ref ao), (4, .int (nI (6 * k)))] [.int ((nI (6 * k)) + (nI 2)), .ref b, .int (nI a1), .ref (adC 0)] rfl ?_
  refine g_nm (lv' := [(0, .ref b), (1, .ref (adC 0)), (2, .ref (adM 0)), (3, .ref ao), (4, .int (nI (6 * k)))]) (st' := [.int (nI ((6 * k) + 2)), .ref b, .int (nI a1), .ref (adC 0)]) (by simp only [nI_add]) (by simp only [nI_add]) ?_
  refine g_sld X hX hbl hbA hN (v := xs (6 * k + 2)) (by omega) rfl dL_law_548 ?_
  refine g_if_eq X 556 dL_law_549 (by decide) (fun hc1 => ?_) (fun hc1 => ?_)
  · refine g_run X KL_law_556_58 KL_law_556_58_d 558 [(0, .ref b), (1, .ref (adC 0)), (2, .ref (adM 0)), (3, .ref ao), (4, .int (nI (6 * k)))] [.ref ao, .int (nI 0), .int (nI a1), .ref (adC 0)] rfl ?_
    refine g_callSW X hSB hAf hNC (As := [.ref (adC 0), .int (nI a1), .int (nI 0), .ref ao]) (wr := WM adM g I L S Z Y) (n := 4) (hc_erase l D g adC I L S a1 ao on ov (hI.s18) (by first | assumption | omega)) rfl w_551 w_549 w_550 w_0 (by decide +kernel) rfl ⟨Nat.le_of_ble_eq_true rfl, Nat.le_of_ble_eq_true rfl⟩ rfl rfl rfl (Nat.le_of_ble_eq_true rfl) ⟨by show cells + 0 ≤ 600002; omega, by show slots + 0 ≤ 7302232; omega⟩ dL_law_558 (fun hu2 _ => ?_)
    refine g_af (ws' := (WC adC g (u2 I 3 (S a1) (nI 0)) L S ++ ([OUT ao ((nI (pcn (ers (u2 I 3 (S a1) (nI 0)) S 15) 15)).toInt64) ov] : va_W)) ++ WM adM g I L S Z Y) (st' := [.int (nI 0)]) (cells' := cells + 0) (slots' := slots + 0) (pc' := 561) rfl rfl rfl rfl rfl ?_
    refine g_run X KL_law_561_59 KL_law_561_59_d 569 [(5, .int (nI 0)), (0, .ref b), (1, .ref (adC 0)), (2, .ref (adM 0)), (3, .ref ao), (4, .int (nI (6 * k)))] [.int ((nI (6 * k)) + (nI 1)), .ref b, .ref (adM 0)] rfl ?_
    refine g_nm (lv' := [(5, .int (nI 0)), (0, .ref b), (1, .ref (adC 0)), (2, .ref (adM 0)), (3, .ref ao), (4, .int (nI (6 * k)))]) (st' := [.int (nI ((6 * k) + 1)), .ref b, .ref (adM 0)]) (by simp only [nI_add]) (by simp only [nI_add]) ?_
    refine g_sld X hX hbl hbA hN (v := nI a1) (by omega) e1 dL_law_569 ?_
    refine g_run X KL_law_570_60 KL_law_570_60_d 575 [(5, .int (nI 0)), (0, .ref b), (1, .ref (adC 0)), (2, .ref (adM 0)), (3, .ref ao), (4, .int (nI (6 * k)))] [.int ((nI (6 * k)) + (nI 2)), .ref b, .int (nI a1), .ref (adM 0)] rfl ?_
    refine g_nm (lv' := [(5, .int (nI 0)), (0, .ref b), (1, .ref (adC 0)), (2, .ref (adM 0)), (3, .ref ao), (4, .int (nI (6 * k)))]) (st' := [.int (nI ((6 * k) + 2)), .ref b, .int (nI a1), .ref (adM 0)]) (by simp only [nI_add]) (by simp only [nI_add]) ?_
    refine g_sld X hX hbl hbA hN (v := xs (6 * k + 2)) (by omega) rfl dL_law_575 ?_
    refine g_if_eq X 583 dL_law_576 (by decide) (fun hc3 => ?_) (fun hc3 => ?_)
    · refine g_run X KL_law_583_61 KL_law_583_61_d 584 [(5, .int (nI 0)), (0, .ref b), (1, .ref (adC 0)), (2, .ref (adM 0)), (3, .ref ao), (4, .int (nI (6 * k)))] [.int (nI 0), .int (nI a1), .ref (adM 0)] rfl ?_
      refine g_perm (ws' := WM adM g I L S Z Y ++ (WC adC g (u2 I 3 (S a1) (nI 0)) L S ++ ([OUT ao ((nI (pcn (ers (u2 I 3 (S a1) (nI 0)) S 15) 15)).toInt64) ov] : va_W))) (List.perm_append_comm (l₁ := WM adM g I L S Z Y) (l₂ := (WC adC g (u2 I 3 (S a1) (nI 0)) L S ++ ([OUT ao ((nI (pcn (ers (u2 I 3 (S a1) (nI 0)) S 15) 15)).toInt64) ov] : va_W)))) ?_
      refine g_callV X hSB hAf srcW (hrc1 := (rfl : CL[8]? = some _)) (wm_mem (k := 0) (by decide)) rfl (As := [.int (nI a1), .int (nI 0)]) (wr := WC adC g (u2 I 3 (S a1) (nI 0)) L S ++ ([OUT ao ((nI (pcn (ers (u2 I 3 (S a1) (nI 0)) S 15) 15)).toInt64) ov] : va_W)) (n := 2) (c_X9_erase l D g adM I L S Z Y a1 (hI.s18) (by first | assumption | omega)) rfl srcN hrdN w_1332 w_1329 w_1330 w_1331 w_6 (by decide +kernel) rfl ⟨Nat.le_of_ble_eq_true rfl, Nat.le_of_ble_eq_true rfl⟩ rfl rfl rfl (Nat.le_of_ble_eq_true rfl) ⟨by show cells + 0 + 0 ≤ 600002; omega, by show slots + 0 + 0 ≤ 7302232; omega⟩ dL_law_584 (fun hu4 hp_hu4 => ?_)
      refine g_af (ws' := WM adM g (u2 I 3 (S a1) (nI 0)) L S (u2 Z 3 0 (nI 0)) Y ++ (WC adC g (u2 I 3 (S a1) (nI 0)) L S ++ ([OUT ao ((nI (pcn (ers (u2 I 3 (S a1) (nI 0)) S 15) 15)).toInt64) ov] : va_W))) (st' := [.int (nI (pcn (ers (u2 I 3 (S a1) (nI 0)) S 15) 15))]) (cells' := cells + 0 + 0) (slots' := slots + 0 + 0) (pc' := 587) rfl rfl rfl rfl rfl ?_
      refine g_run X KL_law_587_62 KL_law_587_62_d 590 [(6, .int (nI (pcn (ers (u2 I 3 (S a1) (nI 0)) S 15) 15))), (5, .int (nI 0)), (0, .ref b), (1, .ref (adC 0)), (2, .ref (adM 0)), (3, .ref ao), (4, .int (nI (6 * k)))] [.ref (adM 0)] rfl ?_
      refine g_callV X hSB hAf srcW (hrc1 := (rfl : CL[8]? = some _)) (wm_mem (k := 0) (by decide)) rfl (As := []) (wr := WC adC g (u2 I 3 (S a1) (nI 0)) L S ++ ([OUT ao ((nI (pcn (ers (u2 I 3 (S a1) (nI 0)) S 15) 15)).toInt64) ov] : va_W)) (n := 0) (c_X9_thrown l D g adM (u2 I 3 (S a1) (nI 0)) L S (u2 Z 3 0 (nI 0)) Y ) rfl srcN hrdN w_1250 w_1247 w_1248 w_1249 w_6 (by decide +kernel) rfl ⟨Nat.le_of_ble_eq_true rfl, Nat.le_of_ble_eq_true rfl⟩ rfl rfl rfl (Nat.le_of_ble_eq_true rfl) ⟨by show cells + 0 + 0 + 0 ≤ 600002; omega, by show slots + 0 + 0 + 0 ≤ 7302232; omega⟩ dL_law_590 (fun hu5 hp_hu5 => ?_)
      refine g_af (ws' := WM adM g (u2 I 3 (S a1) (nI 0)) L S (u2 Z 3 0 (nI 0)) Y ++ (WC adC g (u2 I 3 (S a1) (nI 0)) L S ++ ([OUT ao ((nI (pcn (ers (u2 I 3 (S a1) (nI 0)) S 15) 15)).toInt64) ov] : va_W))) (st' := [.int ((u2 Z 3 0 (nI 0)) 3 0)]) (cells' := cells + 0 + 0 + 0) (slots' := slots + 0 + 0 + 0) (pc' := 593) rfl rfl rfl rfl rfl ?_
      refine g_st (st' := [.int (nI 0)]) (by first | rfl | (simp [z4, u2]; done)) ?_
      refine g_run X KL_law_593_63 KL_law_593_63_d 595 [(6, .int (nI (pcn (ers (u2 I 3 (S a1) (nI 0)) S 15) 15))), (5, .int (nI 0)), (0, .ref b), (1, .ref (adC 0)), (2, .ref (adM 0)), (3, .ref ao), (4, .int (nI (6 * k)))] [.int (nI 0), .int (nI 0)] rfl ?_
      refine g_icmp_eq X 600 dL_law_595 (by decide) (fun hc6 => ?_) (fun hc6 => ?_)
      · refine g_run X KL_law_600_64 KL_law_600_64_d 602 [(6, .int (nI (pcn (ers (u2 I 3 (S a1) (nI 0)) S 15) 15))), (5, .int (nI 0)), (0, .ref b), (1, .ref (adC 0)), (2, .ref (adM 0)), (3, .ref ao), (4, .int (nI (6 * k)))] [.int (nI 0)] rfl ?_
        refine g_if_ne X 618 dL_law_602 (by decide) (fun hc7 => ?_) (fun hc7 => ?_)
        · rw [nz_eq (by omega)] at hc7; first | omega | (simp at hc7)
        · refine g_run X KL_law_605_65 KL_law_605_65_d 606 [(6, .int (nI (pcn (ers (u2 I 3 (S a1) (nI 0)) S 15) 15))), (5, .int (nI 0)), (0, .ref b), (1, .ref (adC 0)), (2, .ref (adM 0)), (3, .ref ao), (4, .int (nI (6 * k)))] [.ref ao] rfl ?_
          refine g_getN X srcW (host := "ChipfieldLaw") (v := .long ((nI (pcn (ers (u2 I 3 (S a1) (nI 0)) S 15) 15)).toInt64)) hinX6 rfl 0 (by decide) (nw_in n_489 rfl) rfl (List.mem_append_right _ (List.mem_append_right _ List.mem_cons_self)) rfl dL_law_606 ?_
          refine g_run X KL_law_609_66 KL_law_609_66_d 613 [(6, .int (nI (pcn (ers (u2 I 3 (S a1) (nI 0)) S 15) 15))), (5, .int (nI 0)), (0, .ref b), (1, .ref (adC 0)), (2, .ref (adM 0)), (3, .ref ao), (4, .int (nI (6 * k)))] [.int (lg_cmp ((nI (pcn (ers (u2 I 3 (S a1) (nI 0)) S 15) 15)).toInt64) ((nI (pcn (ers (u2 I 3 (S a1) (nI 0)) S 15) 15)).toInt64))] rfl ?_
          refine g_if_eq X 618 dL_law_613 (by decide) (fun hc8 => ?_) (fun hc8 => ?_)
          · refine g_run X KL_law_618_67 KL_law_618_67_d 2256 [(6, .int (nI (pcn (ers (u2 I 3 (S a1) (nI 0)) S 15) 15))), (5, .int (nI 0)), (0, .ref b), (1, .ref (adC 0)), (2, .ref (adM 0)), (3, .ref ao), (4, .int (nI (6 * k)))] [] rfl ?_
            refine g_lv (lv' := [(0, .ref b), (1, .ref (adC 0)), (2, .ref (adM 0)), (3, .ref ao), (4, .int (nI (6 * k)))]) (lsub_c 2 rfl (lsub_c 3 rfl (lsub_c 4 rfl (lsub_c 5 rfl (lsub_c 6 rfl (lsub_n)))))) ?_
            refine g_perm (ws' := (WC adC g (u2 I 3 (S a1) (nI 0)) L S ++ ([OUT ao ((nI (pcn (ers (u2 I 3 (S a1) (nI 0)) S 15) 15)).toInt64) ov] : va_W)) ++ WM adM g (u2 I 3 (S a1) (nI 0)) L S (u2 Z 3 0 (nI 0)) Y) (List.perm_append_comm (l₁ := (WC adC g (u2 I 3 (S a1) (nI 0)) L S ++ ([OUT ao ((nI (pcn (ers (u2 I 3 (S a1) (nI 0)) S 15) 15)).toInt64) ov] : va_W))) (l₂ := WM adM g (u2 I 3 (S a1) (nI 0)) L S (u2 Z 3 0 (nI 0)) Y)) ?_
            refine g_widen (k := cells + 60) (n := slots + 1200) (by omega) (by omega) ?_
            exact kk (u2 I 3 (S a1) (nI 0)) L S n (u2 Z 3 0 (nI 0)) Y R ((nI (pcn (ers (u2 I 3 (S a1) (nI 0)) S 15) 15)).toInt64) ov (hI.erase0 (by assumption)) (hR) (by first | exact hZ | (rw [zrow]; exact hZ) | (rw [zrow, zrow]; exact hZ))
          · exact absurd lg_self hc8
      · rw [nI_eq (by omega) (by omega)] at hc6; first | omega | (simp at hc6)
    · exact absurd hz hc3
  · exact absurd hz hc1

def KL_law_552_68 : List (Nat × Instr × Nat) := [(552, .iconst 1, 1), (553, .goto 4, 3), (557, .aload_n 3, 1)]
theorem KL_law_552_68_d : ∀ z ∈ KL_law_552_68, decode cL_law z.1 = .ok z.2 := by decide +kernel
def KL_law_579_69 : List (Nat × Instr × Nat) := [(579, .iconst 1, 1), (580, .goto 4, 3)]
theorem KL_law_579_69_d : ∀ z ∈ KL_law_579_69, decode cL_law z.1 = .ok z.2 := by decide +kernel
set_option maxHeartbeats 4000000 in
set_option maxRecDepth 100000 in
theorem lq4_1 {p : Program} {l : Launch} {e : Env} {s : State} {m : MethodId} {below : List Frame} {meth : Method} {c : Code} {Q : State → Prop} {D : va_G} {A : Nat → Prop} {b N : Nat} {xs : Nat → Int32} {adC adM : Nat → Nat} {g : Nat → ClassId} {ao k cells slots : Nat} {I : Nat → Nat → Int32} {L : Nat → Nat → Int64} {S : Nat → Nat} {n : Nat} {Z : Nat → Nat → Int32} {Y : Int64} {R : Nat → Nat} {on : Int64} {ov : Value} (HX : LX p l s m meth c A b N xs) (hk : 6 * k + 6 ≤ N) (hroom : cells + 60 ≤ 600002 ∧ slots + 1200 ≤ 7302232) (hI : Inv I L S n) (hR : R16 R) (hZ : Z 0 = fun j => nI (R j)) (a1 : Nat) (hl1 : 0 ≤ a1) (hu1 : a1 < 15) (e1 : xs (6 * k + 1) = nI a1) (hz : ¬ xs (6 * k + 2) = 0) (h4 : pcn (ers I S 15 &&& (32767 ^^^ 2 ^ a1)) 15 < 4) (kk : LK p l e s m below meth c Q D A b adC adM g ao k cells slots 2256) : GL p l e room_1 s m #[.ref b] below meth c Q D CL (TYS g) A 9 (WL adC adM g ao I L S Z Y on ov) cells slots 536 [(0, .ref b), (1, .ref (adC 0)), (2, .ref (adM 0)), (3, .ref ao), (4, .int (nI (6 * k)))] [] := by
  obtain ⟨X, hSB, hAf, hNC, hfl, hX, hbl, hbA, hN⟩ := HX
  refine g_run X KL_law_536_56 KL_law_536_56_d 542 [(0, .ref b), (1, .ref (adC 0)), (2, .ref (adM 0)), (3, .ref ao), (4, .int (nI (6 * k)))] [.int ((nI (6 * k)) + (nI 1)), .ref b, .ref (adC 0)] rfl ?_
  refine g_nm (lv' := [(0, .ref b), (1, .ref (adC 0)), (2, .ref (adM 0)), (3, .ref ao), (4, .int (nI (6 * k)))]) (st' := [.int (nI ((6 * k) + 1)), .ref b, .ref (adC 0)]) (by simp only [nI_add]) (by simp only [nI_add]) ?_
  refine g_sld X hX hbl hbA hN (v := nI a1) (by omega) e1 dL_law_542 ?_
  refine g_run X KL_law_543_57 KL_law_543_57_d 548 [(0, .ref b), (1, .ref (adC 0)), (2, .ref (adM 0)), (3, .ref ao), (4, .int (nI (6 * k)))] [.int ((nI (6 * k)) + (nI 2)), .ref b, .int (nI a1), .ref (adC 0)] rfl ?_
  refine g_nm (lv' := [(0, .ref b), (1, .ref (adC 0)), (2, .ref (adM 0)), (3, .ref ao), (4, .int (nI (6 * k)))]) (st' := [.int (nI ((6 * k) + 2)), .ref b, .int (nI a1), .ref (adC 0)]) (by simp only [nI_add]) (by simp only [nI_add]) ?_
  refine g_sld X hX hbl hbA hN (v := xs (6 * k + 2)) (by omega) rfl dL_law_548 ?_
  refine g_if_eq X 556 dL_law_549 (by decide) (fun hc1 => ?_) (fun hc1 => ?_)
  · exact absurd hc1 hz
  · refine g_run X KL_law_552_68 KL_law_552_68_d 558 [(0, .ref b), (1, .ref (adC 0)), (2, .ref (adM 0)), (3, .ref ao), (4, .int (nI (6 * k)))] [.ref ao, .int (nI 1), .int (nI a1), .ref (adC 0)] rfl ?_
    refine g_callSW X hSB hAf hNC (As := [.ref (adC 0), .int (nI a1), .int (nI 1), .ref ao]) (wr := WM adM g I L S Z Y) (n := 4) (hc_erase_1 l D g adC I L S a1 ao on ov (hI.s18) (by first | assumption | omega) (by first | assumption | omega)) rfl w_551 w_549 w_550 w_0 (by decide +kernel) rfl ⟨Nat.le_of_ble_eq_true rfl, Nat.le_of_ble_eq_true rfl⟩ rfl rfl rfl (Nat.le_of_ble_eq_true rfl) ⟨by show cells + 0 ≤ 600002; omega, by show slots + 0 ≤ 7302232; omega⟩ dL_law_558 (fun hu2 _ => ?_)
    refine g_af (ws' := (WC adC g (u2 I 3 (S a1) (nI 1)) L S ++ ([OUT ao ((nI (pcn (ers (u2 I 3 (S a1) (nI 1)) S 15) 15)).toInt64) ov] : va_W)) ++ WM adM g I L S Z Y) (st' := [.int (nI 0)]) (cells' := cells + 0) (slots' := slots + 0) (pc' := 561) rfl rfl rfl rfl rfl ?_
    refine g_run X KL_law_561_59 KL_law_561_59_d 569 [(5, .int (nI 0)), (0, .ref b), (1, .ref (adC 0)), (2, .ref (adM 0)), (3, .ref ao), (4, .int (nI (6 * k)))] [.int ((nI (6 * k)) + (nI 1)), .ref b, .ref (adM 0)] rfl ?_
    refine g_nm (lv' := [(5, .int (nI 0)), (0, .ref b), (1, .ref (adC 0)), (2, .ref (adM 0)), (3, .ref ao), (4, .int (nI (6 * k)))]) (st' := [.int (nI ((6 * k) + 1)), .ref b, .ref (adM 0)]) (by simp only [nI_add]) (by simp only [nI_add]) ?_
    refine g_sld X hX hbl hbA hN (v := nI a1) (by omega) e1 dL_law_569 ?_
    refine g_run X KL_law_570_60 KL_law_570_60_d 575 [(5, .int (nI 0)), (0, .ref b), (1, .ref (adC 0)), (2, .ref (adM 0)), (3, .ref ao), (4, .int (nI (6 * k)))] [.int ((nI (6 * k)) + (nI 2)), .ref b, .int (nI a1), .ref (adM 0)] rfl ?_
    refine g_nm (lv' := [(5, .int (nI 0)), (0, .ref b), (1, .ref (adC 0)), (2, .ref (adM 0)), (3, .ref ao), (4, .int (nI (6 * k)))]) (st' := [.int (nI ((6 * k) + 2)), .ref b, .int (nI a1), .ref (adM 0)]) (by simp only [nI_add]) (by simp only [nI_add]) ?_
    refine g_sld X hX hbl hbA hN (v := xs (6 * k + 2)) (by omega) rfl dL_law_575 ?_
    refine g_if_eq X 583 dL_law_576 (by decide) (fun hc3 => ?_) (fun hc3 => ?_)
    · exact absurd hc3 hz
    · refine g_run X KL_law_579_69 KL_law_579_69_d 584 [(5, .int (nI 0)), (0, .ref b), (1, .ref (adC 0)), (2, .ref (adM 0)), (3, .ref ao), (4, .int (nI (6 * k)))] [.int (nI 1), .int (nI a1), .ref (adM 0)] rfl ?_
      refine g_perm (ws' := WM adM g I L S Z Y ++ (WC adC g (u2 I 3 (S a1) (nI 1)) L S ++ ([OUT ao ((nI (pcn (ers (u2 I 3 (S a1) (nI 1)) S 15) 15)).toInt64) ov] : va_W))) (List.perm_append_comm (l₁ := WM adM g I L S Z Y) (l₂ := (WC adC g (u2 I 3 (S a1) (nI 1)) L S ++ ([OUT ao ((nI (pcn (ers (u2 I 3 (S a1) (nI 1)) S 15) 15)).toInt64) ov] : va_W)))) ?_
      refine g_callV X hSB hAf srcW (hrc1 := (rfl : CL[8]? = some _)) (wm_mem (k := 0) (by decide)) rfl (As := [.int (nI a1), .int (nI 1)]) (wr := WC adC g (u2 I 3 (S a1) (nI 1)) L S ++ ([OUT ao ((nI (pcn (ers (u2 I 3 (S a1) (nI 1)) S 15) 15)).toInt64) ov] : va_W)) (n := 2) (c_X9_erase_t l D g adM I L S Z Y a1 (hI.s18) (by first | assumption | omega) (by first | assumption | omega)) rfl srcN hrdN w_1332 w_1329 w_1330 w_1331 w_6 (by decide +kernel) rfl ⟨Nat.le_of_ble_eq_true rfl, Nat.le_of_ble_eq_true rfl⟩ rfl rfl rfl (Nat.le_of_ble_eq_true rfl) ⟨by show cells + 0 + 0 ≤ 600002; omega, by show slots + 0 + 0 ≤ 7302232; omega⟩ dL_law_584 (fun hu4 hp_hu4 => ?_)
      refine g_af (ws' := WM adM g (u2 I 3 (S a1) (nI 1)) L S (u2 Z 3 0 (nI 0)) Y ++ (WC adC g (u2 I 3 (S a1) (nI 1)) L S ++ ([OUT ao ((nI (pcn (ers (u2 I 3 (S a1) (nI 1)) S 15) 15)).toInt64) ov] : va_W))) (st' := [.int (nI (pcn (ers (u2 I 3 (S a1) (nI 1)) S 15) 15))]) (cells' := cells + 0 + 0) (slots' := slots + 0 + 0) (pc' := 587) rfl rfl rfl rfl rfl ?_
      refine g_run X KL_law_587_62 KL_law_587_62_d 590 [(6, .int (nI (pcn (ers (u2 I 3 (S a1) (nI 1)) S 15) 15))), (5, .int (nI 0)), (0, .ref b), (1, .ref (adC 0)), (2, .ref (adM 0)), (3, .ref ao), (4, .int (nI (6 * k)))] [.ref (adM 0)] rfl ?_
      refine g_callV X hSB hAf srcW (hrc1 := (rfl : CL[8]? = some _)) (wm_mem (k := 0) (by decide)) rfl (As := []) (wr := WC adC g (u2 I 3 (S a1) (nI 1)) L S ++ ([OUT ao ((nI (pcn (ers (u2 I 3 (S a1) (nI 1)) S 15) 15)).toInt64) ov] : va_W)) (n := 0) (c_X9_thrown l D g adM (u2 I 3 (S a1) (nI 1)) L S (u2 Z 3 0 (nI 0)) Y ) rfl srcN hrdN w_1250 w_1247 w_1248 w_1249 w_6 (by decide +kernel) rfl ⟨Nat.le_of_ble_eq_true rfl, Nat.le_of_ble_eq_true rfl⟩ rfl rfl rfl (Nat.le_of_ble_eq_true rfl) ⟨by show cells + 0 + 0 + 0 ≤ 600002; omega, by show slots + 0 + 0 + 0 ≤ 7302232; omega⟩ dL_law_590 (fun hu5 hp_hu5 => ?_)
      refine g_af (ws' := WM adM g (u2 I 3 (S a1) (nI 1)) L S (u2 Z 3 0 (nI 0)) Y ++ (WC adC g (u2 I 3 (S a1) (nI 1)) L S ++ ([OUT ao ((nI (pcn (ers (u2 I 3 (S a1) (nI 1)) S 15) 15)).toInt64) ov] : va_W))) (st' := [.int ((u2 Z 3 0 (nI 0)) 3 0)]) (cells' := cells + 0 + 0 + 0) (slots' := slots + 0 + 0 + 0) (pc' := 593) rfl rfl rfl rfl rfl ?_
      refine g_st (st' := [.int (nI 0)]) (by first | rfl | (simp [z4, u2]; done)) ?_
      refine g_run X KL_law_593_63 KL_law_593_63_d 595 [(6, .int (nI (pcn (ers (u2 I 3 (S a1) (nI 1)) S 15) 15))), (5, .int (nI 0)), (0, .ref b), (1, .ref (adC 0)), (2, .ref (adM 0)), (3, .ref ao), (4, .int (nI (6 * k)))] [.int (nI 0), .int (nI 0)] rfl ?_
      refine g_icmp_eq X 600 dL_law_595 (by decide) (fun hc6 => ?_) (fun hc6 => ?_)
      · refine g_run X KL_law_600_64 KL_law_600_64_d 602 [(6, .int (nI (pcn (ers (u2 I 3 (S a1) (nI 1)) S 15) 15))), (5, .int (nI 0)), (0, .ref b), (1, .ref (adC 0)), (2, .ref (adM 0)), (3, .ref ao), (4, .int (nI (6 * k)))] [.int (nI 0)] rfl ?_
        refine g_if_ne X 618 dL_law_602 (by decide) (fun hc7 => ?_) (fun hc7 => ?_)
        · rw [nz_eq (by omega)] at hc7; first | omega | (simp at hc7)
        · refine g_run X KL_law_605_65 KL_law_605_65_d 606 [(6, .int (nI (pcn (ers (u2 I 3 (S a1) (nI 1)) S 15) 15))), (5, .int (nI 0)), (0, .ref b), (1, .ref (adC 0)), (2, .ref (adM 0)), (3, .ref ao), (4, .int (nI (6 * k)))] [.ref ao] rfl ?_
          refine g_getN X srcW (host := "ChipfieldLaw") (v := .long ((nI (pcn (ers (u2 I 3 (S a1) (nI 1)) S 15) 15)).toInt64)) hinX6 rfl 0 (by decide) (nw_in n_489 rfl) rfl (List.mem_append_right _ (List.mem_append_right _ List.mem_cons_self)) rfl dL_law_606 ?_
          refine g_run X KL_law_609_66 KL_law_609_66_d 613 [(6, .int (nI (pcn (ers (u2 I 3 (S a1) (nI 1)) S 15) 15))), (5, .int (nI 0)), (0, .ref b), (1, .ref (adC 0)), (2, .ref (adM 0)), (3, .ref ao), (4, .int (nI (6 * k)))] [.int (lg_cmp ((nI (pcn (ers (u2 I 3 (S a1) (nI 1)) S 15) 15)).toInt64) ((nI (pcn (ers (u2 I 3 (S a1) (nI 1)) S 15) 15)).toInt64))] rfl ?_
          refine g_if_eq X 618 dL_law_613 (by decide) (fun hc8 => ?_) (fun hc8 => ?_)
          · refine g_run X KL_law_618_67 KL_law_618_67_d 2256 [(6, .int (nI (pcn (ers (u2 I 3 (S a1) (nI 1)) S 15) 15))), (5, .int (nI 0)), (0, .ref b), (1, .ref (adC 0)), (2, .ref (adM 0)), (3, .ref ao), (4, .int (nI (6 * k)))] [] rfl ?_
            refine g_lv (lv' := [(0, .ref b), (1, .ref (adC 0)), (2, .ref (adM 0)), (3, .ref ao), (4, .int (nI (6 * k)))]) (lsub_c 2 rfl (lsub_c 3 rfl (lsub_c 4 rfl (lsub_c 5 rfl (lsub_c 6 rfl (lsub_n)))))) ?_
            refine g_perm (ws' := (WC adC g (u2 I 3 (S a1) (nI 1)) L S ++ ([OUT ao ((nI (pcn (ers (u2 I 3 (S a1) (nI 1)) S 15) 15)).toInt64) ov] : va_W)) ++ WM adM g (u2 I 3 (S a1) (nI 1)) L S (u2 Z 3 0 (nI 0)) Y) (List.perm_append_comm (l₁ := (WC adC g (u2 I 3 (S a1) (nI 1)) L S ++ ([OUT ao ((nI (pcn (ers (u2 I 3 (S a1) (nI 1)) S 15) 15)).toInt64) ov] : va_W))) (l₂ := WM adM g (u2 I 3 (S a1) (nI 1)) L S (u2 Z 3 0 (nI 0)) Y)) ?_
            refine g_widen (k := cells + 60) (n := slots + 1200) (by omega) (by omega) ?_
            exact kk (u2 I 3 (S a1) (nI 1)) L S n (u2 Z 3 0 (nI 0)) Y R ((nI (pcn (ers (u2 I 3 (S a1) (nI 1)) S 15) 15)).toInt64) ov (hI.erase1 (by assumption) h4) (hR) (by first | exact hZ | (rw [zrow]; exact hZ) | (rw [zrow, zrow]; exact hZ))
          · exact absurd lg_self hc8
      · rw [nI_eq (by omega) (by omega)] at hc6; first | omega | (simp at hc6)

set_option maxHeartbeats 4000000 in
set_option maxRecDepth 100000 in
theorem lq4_2 {p : Program} {l : Launch} {e : Env} {s : State} {m : MethodId} {below : List Frame} {meth : Method} {c : Code} {Q : State → Prop} {D : va_G} {A : Nat → Prop} {b N : Nat} {xs : Nat → Int32} {adC adM : Nat → Nat} {g : Nat → ClassId} {ao k cells slots : Nat} {I : Nat → Nat → Int32} {L : Nat → Nat → Int64} {S : Nat → Nat} {n : Nat} {Z : Nat → Nat → Int32} {Y : Int64} {R : Nat → Nat} {on : Int64} {ov : Value} (HX : LX p l s m meth c A b N xs) (hk : 6 * k + 6 ≤ N) (hroom : cells + 60 ≤ 600002 ∧ slots + 1200 ≤ 7302232) (hI : Inv I L S n) (hR : R16 R) (hZ : Z 0 = fun j => nI (R j)) (a1 : Nat) (hl1 : 0 ≤ a1) (hu1 : a1 < 15) (e1 : xs (6 * k + 1) = nI a1) (hz : ¬ xs (6 * k + 2) = 0) (h4 : ¬ pcn (ers I S 15 &&& (32767 ^^^ 2 ^ a1)) 15 < 4) (kk : LK p l e s m below meth c Q D A b adC adM g ao k cells slots 2256) : GL p l e room_1 s m #[.ref b] below meth c Q D CL (TYS g) A 9 (WL adC adM g ao I L S Z Y on ov) cells slots 536 [(0, .ref b), (1, .ref (adC 0)), (2, .ref (adM 0)), (3, .ref ao), (4, .int (nI (6 * k)))] [] := by
  obtain ⟨X, hSB, hAf, hNC, hfl, hX, hbl, hbA, hN⟩ := HX
  refine g_run X KL_law_536_56 KL_law_536_56_d 542 [(0, .ref b), (1, .ref (adC 0)), (2, .ref (adM 0)), (3, .ref ao), (4, .int (nI (6 * k)))] [.int ((nI (6 * k)) + (nI 1)), .ref b, .ref (adC 0)] rfl ?_
  refine g_nm (lv' := [(0, .ref b), (1, .ref (adC 0)), (2, .ref (adM 0)), (3, .ref ao), (4, .int (nI (6 * k)))]) (st' := [.int (nI ((6 * k) + 1)), .ref b, .ref (adC 0)]) (by simp only [nI_add]) (by simp only [nI_add]) ?_
  refine g_sld X hX hbl hbA hN (v := nI a1) (by omega) e1 dL_law_542 ?_
  refine g_run X KL_law_543_57 KL_law_543_57_d 548 [(0, .ref b), (1, .ref (adC 0)), (2, .ref (adM 0)), (3, .ref ao), (4, .int (nI (6 * k)))] [.int ((nI (6 * k)) + (nI 2)), .ref b, .int (nI a1), .ref (adC 0)] rfl ?_
  refine g_nm (lv' := [(0, .ref b), (1, .ref (adC 0)), (2, .ref (adM 0)), (3, .ref ao), (4, .int (nI (6 * k)))]) (st' := [.int (nI ((6 * k) + 2)), .ref b, .int (nI a1), .ref (adC 0)]) (by simp only [nI_add]) (by simp only [nI_add]) ?_
  refine g_sld X hX hbl hbA hN (v := xs (6 * k + 2)) (by omega) rfl dL_law_548 ?_
  refine g_if_eq X 556 dL_law_549 (by decide) (fun hc1 => ?_) (fun hc1 => ?_)
  · exact absurd hc1 hz
  · refine g_run X KL_law_552_68 KL_law_552_68_d 558 [(0, .ref b), (1, .ref (adC 0)), (2, .ref (adM 0)), (3, .ref ao), (4, .int (nI (6 * k)))] [.ref ao, .int (nI 1), .int (nI a1), .ref (adC 0)] rfl ?_
    refine g_callSW X hSB hAf hNC (As := [.ref (adC 0), .int (nI a1), .int (nI 1), .ref ao]) (wr := WM adM g I L S Z Y) (n := 4) (hx_erase_2 l hfl D g adC I L S a1 ao on ov (hI.s18) (by first | assumption | omega) (by first | assumption | omega)) rfl w_551 w_549 w_550 w_0 (by decide +kernel) rfl ⟨Nat.le_of_ble_eq_true rfl, Nat.le_of_ble_eq_true rfl⟩ rfl rfl rfl (Nat.le_of_ble_eq_true rfl) ⟨by show cells + 1 ≤ 600002; omega, by show slots + 6 ≤ 7302232; omega⟩ dL_law_558 (fun hu2 _ => ?_)
    refine g_af (ws' := (WC adC g I L S ++ ([OUT ao on ov] : va_W)) ++ WM adM g I L S Z Y) (st' := [.int (nI 2)]) (cells' := cells + 1) (slots' := slots + 6) (pc' := 561) rfl rfl rfl rfl rfl ?_
    refine g_run X KL_law_561_59 KL_law_561_59_d 569 [(5, .int (nI 2)), (0, .ref b), (1, .ref (adC 0)), (2, .ref (adM 0)), (3, .ref ao), (4, .int (nI (6 * k)))] [.int ((nI (6 * k)) + (nI 1)), .ref b, .ref (adM 0)] rfl ?_
    refine g_nm (lv' := [(5, .int (nI 2)), (0, .ref b), (1, .ref (adC 0)), (2, .ref (adM 0)), (3, .ref ao), (4, .int (nI (6 * k)))]) (st' := [.int (nI ((6 * k) + 1)), .ref b, .ref (adM 0)]) (by simp only [nI_add]) (by simp only [nI_add]) ?_
    refine g_sld X hX hbl hbA hN (v := nI a1) (by omega) e1 dL_law_569 ?_
    refine g_run X KL_law_570_60 KL_law_570_60_d 575 [(5, .int (nI 2)), (0, .ref b), (1, .ref (adC 0)), (2, .ref (adM 0)), (3, .ref ao), (4, .int (nI (6 * k)))] [.int ((nI (6 * k)) + (nI 2)), .ref b, .int (nI a1), .ref (adM 0)] rfl ?_
    refine g_nm (lv' := [(5, .int (nI 2)), (0, .ref b), (1, .ref (adC 0)), (2, .ref (adM 0)), (3, .ref ao), (4, .int (nI (6 * k)))]) (st' := [.int (nI ((6 * k) + 2)), .ref b, .int (nI a1), .ref (adM 0)]) (by simp only [nI_add]) (by simp only [nI_add]) ?_
    refine g_sld X hX hbl hbA hN (v := xs (6 * k + 2)) (by omega) rfl dL_law_575 ?_
    refine g_if_eq X 583 dL_law_576 (by decide) (fun hc3 => ?_) (fun hc3 => ?_)
    · exact absurd hc3 hz
    · refine g_run X KL_law_579_69 KL_law_579_69_d 584 [(5, .int (nI 2)), (0, .ref b), (1, .ref (adC 0)), (2, .ref (adM 0)), (3, .ref ao), (4, .int (nI (6 * k)))] [.int (nI 1), .int (nI a1), .ref (adM 0)] rfl ?_
      refine g_perm (ws' := WM adM g I L S Z Y ++ (WC adC g I L S ++ ([OUT ao on ov] : va_W))) (List.perm_append_comm (l₁ := WM adM g I L S Z Y) (l₂ := (WC adC g I L S ++ ([OUT ao on ov] : va_W)))) ?_
      refine g_callV X hSB hAf srcW (hrc1 := (rfl : CL[8]? = some _)) (wm_mem (k := 0) (by decide)) rfl (As := [.int (nI a1), .int (nI 1)]) (wr := WC adC g I L S ++ ([OUT ao on ov] : va_W)) (n := 2) (c_X9_erase_2 l D g adM I L S Z Y a1 (hI.s18) (by first | assumption | omega) (by have := oth_le (q := a1) hI.e4; omega)) rfl srcN hrdN w_1332 w_1329 w_1330 w_1331 w_6 (by decide +kernel) rfl ⟨Nat.le_of_ble_eq_true rfl, Nat.le_of_ble_eq_true rfl⟩ rfl rfl rfl (Nat.le_of_ble_eq_true rfl) ⟨by show cells + 1 + 0 ≤ 600002; omega, by show slots + 6 + 0 ≤ 7302232; omega⟩ dL_law_584 (fun hu4 hp_hu4 => ?_)
      refine g_af (ws' := WM adM g I L S (u2 (u2 Z 3 0 (nI 0)) 3 0 (nI 2)) Y ++ (WC adC g I L S ++ ([OUT ao on ov] : va_W))) (st' := [.int (nI 0)]) (cells' := cells + 1 + 0) (slots' := slots + 6 + 0) (pc' := 587) rfl rfl rfl rfl rfl ?_
      refine g_run X KL_law_587_62 KL_law_587_62_d 590 [(6, .int (nI 0)), (5, .int (nI 2)), (0, .ref b), (1, .ref (adC 0)), (2, .ref (adM 0)), (3, .ref ao), (4, .int (nI (6 * k)))] [.ref (adM 0)] rfl ?_
      refine g_callV X hSB hAf srcW (hrc1 := (rfl : CL[8]? = some _)) (wm_mem (k := 0) (by decide)) rfl (As := []) (wr := WC adC g I L S ++ ([OUT ao on ov] : va_W)) (n := 0) (c_X9_thrown l D g adM I L S (u2 (u2 Z 3 0 (nI 0)) 3 0 (nI 2)) Y ) rfl srcN hrdN w_1250 w_1247 w_1248 w_1249 w_6 (by decide +kernel) rfl ⟨Nat.le_of_ble_eq_true rfl, Nat.le_of_ble_eq_true rfl⟩ rfl rfl rfl (Nat.le_of_ble_eq_true rfl) ⟨by show cells + 1 + 0 + 0 ≤ 600002; omega, by show slots + 6 + 0 + 0 ≤ 7302232; omega⟩ dL_law_590 (fun hu5 hp_hu5 => ?_)
      refine g_af (ws' := WM adM g I L S (u2 (u2 Z 3 0 (nI 0)) 3 0 (nI 2)) Y ++ (WC adC g I L S ++ ([OUT ao on ov] : va_W))) (st' := [.int ((u2 (u2 Z 3 0 (nI 0)) 3 0 (nI 2)) 3 0)]) (cells' := cells + 1 + 0 + 0) (slots' := slots + 6 + 0 + 0) (pc' := 593) rfl rfl rfl rfl rfl ?_
      refine g_st (st' := [.int (nI 2)]) (by first | rfl | (simp [z4, u2]; done)) ?_
      refine g_run X KL_law_593_63 KL_law_593_63_d 595 [(6, .int (nI 0)), (5, .int (nI 2)), (0, .ref b), (1, .ref (adC 0)), (2, .ref (adM 0)), (3, .ref ao), (4, .int (nI (6 * k)))] [.int (nI 2), .int (nI 2)] rfl ?_
      refine g_icmp_eq X 600 dL_law_595 (by decide) (fun hc6 => ?_) (fun hc6 => ?_)
      · refine g_run X KL_law_600_64 KL_law_600_64_d 602 [(6, .int (nI 0)), (5, .int (nI 2)), (0, .ref b), (1, .ref (adC 0)), (2, .ref (adM 0)), (3, .ref ao), (4, .int (nI (6 * k)))] [.int (nI 2)] rfl ?_
        refine g_if_ne X 618 dL_law_602 (by decide) (fun hc7 => ?_) (fun hc7 => ?_)
        · refine g_run X KL_law_618_67 KL_law_618_67_d 2256 [(6, .int (nI 0)), (5, .int (nI 2)), (0, .ref b), (1, .ref (adC 0)), (2, .ref (adM 0)), (3, .ref ao), (4, .int (nI (6 * k)))] [] rfl ?_
          refine g_lv (lv' := [(0, .ref b), (1, .ref (adC 0)), (2, .ref (adM 0)), (3, .ref ao), (4, .int (nI (6 * k)))]) (lsub_c 2 rfl (lsub_c 3 rfl (lsub_c 4 rfl (lsub_c 5 rfl (lsub_c 6 rfl (lsub_n)))))) ?_
          refine g_perm (ws' := (WC adC g I L S ++ ([OUT ao on ov] : va_W)) ++ WM adM g I L S (u2 (u2 Z 3 0 (nI 0)) 3 0 (nI 2)) Y) (List.perm_append_comm (l₁ := (WC adC g I L S ++ ([OUT ao on ov] : va_W))) (l₂ := WM adM g I L S (u2 (u2 Z 3 0 (nI 0)) 3 0 (nI 2)) Y)) ?_
          refine g_widen (k := cells + 60) (n := slots + 1200) (by omega) (by omega) ?_
          exact kk I L S n (u2 (u2 Z 3 0 (nI 0)) 3 0 (nI 2)) Y R on ov (hI) (hR) (by first | exact hZ | (rw [zrow]; exact hZ) | (rw [zrow, zrow]; exact hZ))
        · rw [nz_eq (by omega)] at hc7; first | omega | (simp at hc7)
      · rw [nI_eq (by omega) (by omega)] at hc6; first | omega | (simp at hc6)

set_option maxHeartbeats 4000000 in
set_option maxRecDepth 100000 in
theorem lq4_1z {p : Program} {l : Launch} {e : Env} {s : State} {m : MethodId} {below : List Frame} {meth : Method} {c : Code} {Q : State → Prop} {D : va_G} {A : Nat → Prop} {b N : Nat} {xs : Nat → Int32} {adC adM : Nat → Nat} {g : Nat → ClassId} {ao k cells slots : Nat} {I : Nat → Nat → Int32} {L : Nat → Nat → Int64} {S : Nat → Nat} {n : Nat} {Z : Nat → Nat → Int32} {Y : Int64} {R : Nat → Nat} {on : Int64} {ov : Value} (HX : LX p l s m meth c A b N xs) (hk : 6 * k + 6 ≤ N) (hroom : cells + 60 ≤ 600002 ∧ slots + 1200 ≤ 7302232) (hI : Inv I L S n) (hR : R16 R) (hZ : Z 0 = fun j => nI (R j)) (hw : (xs (6 * k + 1)).toInt < (0 : Nat) ∨ ((15 : Nat) : Int) ≤ (xs (6 * k + 1)).toInt) (hz : xs (6 * k + 2) = 0) (kk : LK p l e s m below meth c Q D A b adC adM g ao k cells slots 2256) : GL p l e room_1 s m #[.ref b] below meth c Q D CL (TYS g) A 9 (WL adC adM g ao I L S Z Y on ov) cells slots 536 [(0, .ref b), (1, .ref (adC 0)), (2, .ref (adM 0)), (3, .ref ao), (4, .int (nI (6 * k)))] [] := by
  obtain ⟨X, hSB, hAf, hNC, hfl, hX, hbl, hbA, hN⟩ := HX
  refine g_run X KL_law_536_56 KL_law_536_56_d 542 [(0, .ref b), (1, .ref (adC 0)), (2, .ref (adM 0)), (3, .ref ao), (4, .int (nI (6 * k)))] [.int ((nI (6 * k)) + (nI 1)), .ref b, .ref (adC 0)] rfl ?_
  refine g_nm (lv' := [(0, .ref b), (1, .ref (adC 0)), (2, .ref (adM 0)), (3, .ref ao), (4, .int (nI (6 * k)))]) (st' := [.int (nI ((6 * k) + 1)), .ref b, .ref (adC 0)]) (by simp only [nI_add]) (by simp only [nI_add]) ?_
  refine g_sld X hX hbl hbA hN (v := xs (6 * k + 1)) (by omega) rfl dL_law_542 ?_
  refine g_run X KL_law_543_57 KL_law_543_57_d 548 [(0, .ref b), (1, .ref (adC 0)), (2, .ref (adM 0)), (3, .ref ao), (4, .int (nI (6 * k)))] [.int ((nI (6 * k)) + (nI 2)), .ref b, .int (xs (6 * k + 1)), .ref (adC 0)] rfl ?_
  refine g_nm (lv' := [(0, .ref b), (1, .ref (adC 0)), (2, .ref (adM 0)), (3, .ref ao), (4, .int (nI (6 * k)))]) (st' := [.int (nI ((6 * k) + 2)), .ref b, .int (xs (6 * k + 1)), .ref (adC 0)]) (by simp only [nI_add]) (by simp only [nI_add]) ?_
  refine g_sld X hX hbl hbA hN (v := xs (6 * k + 2)) (by omega) rfl dL_law_548 ?_
  refine g_if_eq X 556 dL_law_549 (by decide) (fun hc1 => ?_) (fun hc1 => ?_)
  · refine g_run X KL_law_556_58 KL_law_556_58_d 558 [(0, .ref b), (1, .ref (adC 0)), (2, .ref (adM 0)), (3, .ref ao), (4, .int (nI (6 * k)))] [.ref ao, .int (nI 0), .int (xs (6 * k + 1)), .ref (adC 0)] rfl ?_
    refine g_callSW X hSB hAf hNC (As := [.ref (adC 0), .int (xs (6 * k + 1)), .int (nI 0), .ref ao]) (wr := WM adM g I L S Z Y) (n := 4) (hx_erase_1 l hfl D g adC I L S (xs (6 * k + 1)) (nI 0) ao on ov (out_lt (by decide) hw)) rfl w_551 w_549 w_550 w_0 (by decide +kernel) rfl ⟨Nat.le_of_ble_eq_true rfl, Nat.le_of_ble_eq_true rfl⟩ rfl rfl rfl (Nat.le_of_ble_eq_true rfl) ⟨by show cells + 1 ≤ 600002; omega, by show slots + 6 ≤ 7302232; omega⟩ dL_law_558 (fun hu2 _ => ?_)
    refine g_af (ws' := (WC adC g I L S ++ ([OUT ao on ov] : va_W)) ++ WM adM g I L S Z Y) (st' := [.int (nI 1)]) (cells' := cells + 1) (slots' := slots + 6) (pc' := 561) rfl rfl rfl rfl rfl ?_
    refine g_run X KL_law_561_59 KL_law_561_59_d 569 [(5, .int (nI 1)), (0, .ref b), (1, .ref (adC 0)), (2, .ref (adM 0)), (3, .ref ao), (4, .int (nI (6 * k)))] [.int ((nI (6 * k)) + (nI 1)), .ref b, .ref (adM 0)] rfl ?_
    refine g_nm (lv' := [(5, .int (nI 1)), (0, .ref b), (1, .ref (adC 0)), (2, .ref (adM 0)), (3, .ref ao), (4, .int (nI (6 * k)))]) (st' := [.int (nI ((6 * k) + 1)), .ref b, .ref (adM 0)]) (by simp only [nI_add]) (by simp only [nI_add]) ?_
    refine g_sld X hX hbl hbA hN (v := xs (6 * k + 1)) (by omega) rfl dL_law_569 ?_
    refine g_run X KL_law_570_60 KL_law_570_60_d 575 [(5, .int (nI 1)), (0, .ref b), (1, .ref (adC 0)), (2, .ref (adM 0)), (3, .ref ao), (4, .int (nI (6 * k)))] [.int ((nI (6 * k)) + (nI 2)), .ref b, .int (xs (6 * k + 1)), .ref (adM 0)] rfl ?_
    refine g_nm (lv' := [(5, .int (nI 1)), (0, .ref b), (1, .ref (adC 0)), (2, .ref (adM 0)), (3, .ref ao), (4, .int (nI (6 * k)))]) (st' := [.int (nI ((6 * k) + 2)), .ref b, .int (xs (6 * k + 1)), .ref (adM 0)]) (by simp only [nI_add]) (by simp only [nI_add]) ?_
    refine g_sld X hX hbl hbA hN (v := xs (6 * k + 2)) (by omega) rfl dL_law_575 ?_
    refine g_if_eq X 583 dL_law_576 (by decide) (fun hc3 => ?_) (fun hc3 => ?_)
    · refine g_run X KL_law_583_61 KL_law_583_61_d 584 [(5, .int (nI 1)), (0, .ref b), (1, .ref (adC 0)), (2, .ref (adM 0)), (3, .ref ao), (4, .int (nI (6 * k)))] [.int (nI 0), .int (xs (6 * k + 1)), .ref (adM 0)] rfl ?_
      refine g_perm (ws' := WM adM g I L S Z Y ++ (WC adC g I L S ++ ([OUT ao on ov] : va_W))) (List.perm_append_comm (l₁ := WM adM g I L S Z Y) (l₂ := (WC adC g I L S ++ ([OUT ao on ov] : va_W)))) ?_
      refine g_callV X hSB hAf srcW (hrc1 := (rfl : CL[8]? = some _)) (wm_mem (k := 0) (by decide)) rfl (As := [.int (xs (6 * k + 1)), .int (nI 0)]) (wr := WC adC g I L S ++ ([OUT ao on ov] : va_W)) (n := 2) (c_X9_erase_1 l D g adM I L S Z Y (xs (6 * k + 1)) (nI 0) (out_le (by decide) hw)) rfl srcN hrdN w_1332 w_1329 w_1330 w_1331 w_6 (by decide +kernel) rfl ⟨Nat.le_of_ble_eq_true rfl, Nat.le_of_ble_eq_true rfl⟩ rfl rfl rfl (Nat.le_of_ble_eq_true rfl) ⟨by show cells + 1 + 0 ≤ 600002; omega, by show slots + 6 + 0 ≤ 7302232; omega⟩ dL_law_584 (fun hu4 hp_hu4 => ?_)
      refine g_af (ws' := WM adM g I L S (u2 (u2 Z 3 0 (nI 0)) 3 0 (nI 1)) Y ++ (WC adC g I L S ++ ([OUT ao on ov] : va_W))) (st' := [.int (nI 0)]) (cells' := cells + 1 + 0) (slots' := slots + 6 + 0) (pc' := 587) rfl rfl rfl rfl rfl ?_
      refine g_run X KL_law_587_62 KL_law_587_62_d 590 [(6, .int (nI 0)), (5, .int (nI 1)), (0, .ref b), (1, .ref (adC 0)), (2, .ref (adM 0)), (3, .ref ao), (4, .int (nI (6 * k)))] [.ref (adM 0)] rfl ?_
      refine g_callV X hSB hAf srcW (hrc1 := (rfl : CL[8]? = some _)) (wm_mem (k := 0) (by decide)) rfl (As := []) (wr := WC adC g I L S ++ ([OUT ao on ov] : va_W)) (n := 0) (c_X9_thrown l D g adM I L S (u2 (u2 Z 3 0 (nI 0)) 3 0 (nI 1)) Y ) rfl srcN hrdN w_1250 w_1247 w_1248 w_1249 w_6 (by decide +kernel) rfl ⟨Nat.le_of_ble_eq_true rfl, Nat.le_of_ble_eq_true rfl⟩ rfl rfl rfl (Nat.le_of_ble_eq_true rfl) ⟨by show cells + 1 + 0 + 0 ≤ 600002; omega, by show slots + 6 + 0 + 0 ≤ 7302232; omega⟩ dL_law_590 (fun hu5 hp_hu5 => ?_)
      refine g_af (ws' := WM adM g I L S (u2 (u2 Z 3 0 (nI 0)) 3 0 (nI 1)) Y ++ (WC adC g I L S ++ ([OUT ao on ov] : va_W))) (st' := [.int ((u2 (u2 Z 3 0 (nI 0)) 3 0 (nI 1)) 3 0)]) (cells' := cells + 1 + 0 + 0) (slots' := slots + 6 + 0 + 0) (pc' := 593) rfl rfl rfl rfl rfl ?_
      refine g_st (st' := [.int (nI 1)]) (by first | rfl | (simp [z4, u2]; done)) ?_
      refine g_run X KL_law_593_63 KL_law_593_63_d 595 [(6, .int (nI 0)), (5, .int (nI 1)), (0, .ref b), (1, .ref (adC 0)), (2, .ref (adM 0)), (3, .ref ao), (4, .int (nI (6 * k)))] [.int (nI 1), .int (nI 1)] rfl ?_
      refine g_icmp_eq X 600 dL_law_595 (by decide) (fun hc6 => ?_) (fun hc6 => ?_)
      · refine g_run X KL_law_600_64 KL_law_600_64_d 602 [(6, .int (nI 0)), (5, .int (nI 1)), (0, .ref b), (1, .ref (adC 0)), (2, .ref (adM 0)), (3, .ref ao), (4, .int (nI (6 * k)))] [.int (nI 1)] rfl ?_
        refine g_if_ne X 618 dL_law_602 (by decide) (fun hc7 => ?_) (fun hc7 => ?_)
        · refine g_run X KL_law_618_67 KL_law_618_67_d 2256 [(6, .int (nI 0)), (5, .int (nI 1)), (0, .ref b), (1, .ref (adC 0)), (2, .ref (adM 0)), (3, .ref ao), (4, .int (nI (6 * k)))] [] rfl ?_
          refine g_lv (lv' := [(0, .ref b), (1, .ref (adC 0)), (2, .ref (adM 0)), (3, .ref ao), (4, .int (nI (6 * k)))]) (lsub_c 2 rfl (lsub_c 3 rfl (lsub_c 4 rfl (lsub_c 5 rfl (lsub_c 6 rfl (lsub_n)))))) ?_
          refine g_perm (ws' := (WC adC g I L S ++ ([OUT ao on ov] : va_W)) ++ WM adM g I L S (u2 (u2 Z 3 0 (nI 0)) 3 0 (nI 1)) Y) (List.perm_append_comm (l₁ := (WC adC g I L S ++ ([OUT ao on ov] : va_W))) (l₂ := WM adM g I L S (u2 (u2 Z 3 0 (nI 0)) 3 0 (nI 1)) Y)) ?_
          refine g_widen (k := cells + 60) (n := slots + 1200) (by omega) (by omega) ?_
          exact kk I L S n (u2 (u2 Z 3 0 (nI 0)) 3 0 (nI 1)) Y R on ov (hI) (hR) (by first | exact hZ | (rw [zrow]; exact hZ) | (rw [zrow, zrow]; exact hZ))
        · rw [nz_eq (by omega)] at hc7; first | omega | (simp at hc7)
      · rw [nI_eq (by omega) (by omega)] at hc6; first | omega | (simp at hc6)
    · exact absurd hz hc3
  · exact absurd hz hc1

set_option maxHeartbeats 4000000 in
set_option maxRecDepth 100000 in
theorem lq4_1o {p : Program} {l : Launch} {e : Env} {s : State} {m : MethodId} {below : List Frame} {meth : Method} {c : Code} {Q : State → Prop} {D : va_G} {A : Nat → Prop} {b N : Nat} {xs : Nat → Int32} {adC adM : Nat → Nat} {g : Nat → ClassId} {ao k cells slots : Nat} {I : Nat → Nat → Int32} {L : Nat → Nat → Int64} {S : Nat → Nat} {n : Nat} {Z : Nat → Nat → Int32} {Y : Int64} {R : Nat → Nat} {on : Int64} {ov : Value} (HX : LX p l s m meth c A b N xs) (hk : 6 * k + 6 ≤ N) (hroom : cells + 60 ≤ 600002 ∧ slots + 1200 ≤ 7302232) (hI : Inv I L S n) (hR : R16 R) (hZ : Z 0 = fun j => nI (R j)) (hw : (xs (6 * k + 1)).toInt < (0 : Nat) ∨ ((15 : Nat) : Int) ≤ (xs (6 * k + 1)).toInt) (hz : ¬ xs (6 * k + 2) = 0) (kk : LK p l e s m below meth c Q D A b adC adM g ao k cells slots 2256) : GL p l e room_1 s m #[.ref b] below meth c Q D CL (TYS g) A 9 (WL adC adM g ao I L S Z Y on ov) cells slots 536 [(0, .ref b), (1, .ref (adC 0)), (2, .ref (adM 0)), (3, .ref ao), (4, .int (nI (6 * k)))] [] := by
  obtain ⟨X, hSB, hAf, hNC, hfl, hX, hbl, hbA, hN⟩ := HX
  refine g_run X KL_law_536_56 KL_law_536_56_d 542 [(0, .ref b), (1, .ref (adC 0)), (2, .ref (adM 0)), (3, .ref ao), (4, .int (nI (6 * k)))] [.int ((nI (6 * k)) + (nI 1)), .ref b, .ref (adC 0)] rfl ?_
  refine g_nm (lv' := [(0, .ref b), (1, .ref (adC 0)), (2, .ref (adM 0)), (3, .ref ao), (4, .int (nI (6 * k)))]) (st' := [.int (nI ((6 * k) + 1)), .ref b, .ref (adC 0)]) (by simp only [nI_add]) (by simp only [nI_add]) ?_
  refine g_sld X hX hbl hbA hN (v := xs (6 * k + 1)) (by omega) rfl dL_law_542 ?_
  refine g_run X KL_law_543_57 KL_law_543_57_d 548 [(0, .ref b), (1, .ref (adC 0)), (2, .ref (adM 0)), (3, .ref ao), (4, .int (nI (6 * k)))] [.int ((nI (6 * k)) + (nI 2)), .ref b, .int (xs (6 * k + 1)), .ref (adC 0)] rfl ?_
  refine g_nm (lv' := [(0, .ref b), (1, .ref (adC 0)), (2, .ref (adM 0)), (3, .ref ao), (4, .int (nI (6 * k)))]) (st' := [.int (nI ((6 * k) + 2)), .ref b, .int (xs (6 * k + 1)), .ref (adC 0)]) (by simp only [nI_add]) (by simp only [nI_add]) ?_
  refine g_sld X hX hbl hbA hN (v := xs (6 * k + 2)) (by omega) rfl dL_law_548 ?_
  refine g_if_eq X 556 dL_law_549 (by decide) (fun hc1 => ?_) (fun hc1 => ?_)
  · exact absurd hc1 hz
  · refine g_run X KL_law_552_68 KL_law_552_68_d 558 [(0, .ref b), (1, .ref (adC 0)), (2, .ref (adM 0)), (3, .ref ao), (4, .int (nI (6 * k)))] [.ref ao, .int (nI 1), .int (xs (6 * k + 1)), .ref (adC 0)] rfl ?_
    refine g_callSW X hSB hAf hNC (As := [.ref (adC 0), .int (xs (6 * k + 1)), .int (nI 1), .ref ao]) (wr := WM adM g I L S Z Y) (n := 4) (hx_erase_1 l hfl D g adC I L S (xs (6 * k + 1)) (nI 1) ao on ov (out_lt (by decide) hw)) rfl w_551 w_549 w_550 w_0 (by decide +kernel) rfl ⟨Nat.le_of_ble_eq_true rfl, Nat.le_of_ble_eq_true rfl⟩ rfl rfl rfl (Nat.le_of_ble_eq_true rfl) ⟨by show cells + 1 ≤ 600002; omega, by show slots + 6 ≤ 7302232; omega⟩ dL_law_558 (fun hu2 _ => ?_)
    refine g_af (ws' := (WC adC g I L S ++ ([OUT ao on ov] : va_W)) ++ WM adM g I L S Z Y) (st' := [.int (nI 1)]) (cells' := cells + 1) (slots' := slots + 6) (pc' := 561) rfl rfl rfl rfl rfl ?_
    refine g_run X KL_law_561_59 KL_law_561_59_d 569 [(5, .int (nI 1)), (0, .ref b), (1, .ref (adC 0)), (2, .ref (adM 0)), (3, .ref ao), (4, .int (nI (6 * k)))] [.int ((nI (6 * k)) + (nI 1)), .ref b, .ref (adM 0)] rfl ?_
    refine g_nm (lv' := [(5, .int (nI 1)), (0, .ref b), (1, .ref (adC 0)), (2, .ref (adM 0)), (3, .ref ao), (4, .int (nI (6 * k)))]) (st' := [.int (nI ((6 * k) + 1)), .ref b, .ref (adM 0)]) (by simp only [nI_add]) (by simp only [nI_add]) ?_
    refine g_sld X hX hbl hbA hN (v := xs (6 * k + 1)) (by omega) rfl dL_law_569 ?_
    refine g_run X KL_law_570_60 KL_law_570_60_d 575 [(5, .int (nI 1)), (0, .ref b), (1, .ref (adC 0)), (2, .ref (adM 0)), (3, .ref ao), (4, .int (nI (6 * k)))] [.int ((nI (6 * k)) + (nI 2)), .ref b, .int (xs (6 * k + 1)), .ref (adM 0)] rfl ?_
    refine g_nm (lv' := [(5, .int (nI 1)), (0, .ref b), (1, .ref (adC 0)), (2, .ref (adM 0)), (3, .ref ao), (4, .int (nI (6 * k)))]) (st' := [.int (nI ((6 * k) + 2)), .ref b, .int (xs (6 * k + 1)), .ref (adM 0)]) (by simp only [nI_add]) (by simp only [nI_add]) ?_
    refine g_sld X hX hbl hbA hN (v := xs (6 * k + 2)) (by omega) rfl dL_law_575 ?_
    refine g_if_eq X 583 dL_law_576 (by decide) (fun hc3 => ?_) (fun hc3 => ?_)
    · exact absurd hc3 hz
    · refine g_run X KL_law_579_69 KL_law_579_69_d 584 [(5, .int (nI 1)), (0, .ref b), (1, .ref (adC 0)), (2, .ref (adM 0)), (3, .ref ao), (4, .int (nI (6 * k)))] [.int (nI 1), .int (xs (6 * k + 1)), .ref (adM 0)] rfl ?_
      refine g_perm (ws' := WM adM g I L S Z Y ++ (WC adC g I L S ++ ([OUT ao on ov] : va_W))) (List.perm_append_comm (l₁ := WM adM g I L S Z Y) (l₂ := (WC adC g I L S ++ ([OUT ao on ov] : va_W)))) ?_
      refine g_callV X hSB hAf srcW (hrc1 := (rfl : CL[8]? = some _)) (wm_mem (k := 0) (by decide)) rfl (As := [.int (xs (6 * k + 1)), .int (nI 1)]) (wr := WC adC g I L S ++ ([OUT ao on ov] : va_W)) (n := 2) (c_X9_erase_1 l D g adM I L S Z Y (xs (6 * k + 1)) (nI 1) (out_le (by decide) hw)) rfl srcN hrdN w_1332 w_1329 w_1330 w_1331 w_6 (by decide +kernel) rfl ⟨Nat.le_of_ble_eq_true rfl, Nat.le_of_ble_eq_true rfl⟩ rfl rfl rfl (Nat.le_of_ble_eq_true rfl) ⟨by show cells + 1 + 0 ≤ 600002; omega, by show slots + 6 + 0 ≤ 7302232; omega⟩ dL_law_584 (fun hu4 hp_hu4 => ?_)
      refine g_af (ws' := WM adM g I L S (u2 (u2 Z 3 0 (nI 0)) 3 0 (nI 1)) Y ++ (WC adC g I L S ++ ([OUT ao on ov] : va_W))) (st' := [.int (nI 0)]) (cells' := cells + 1 + 0) (slots' := slots + 6 + 0) (pc' := 587) rfl rfl rfl rfl rfl ?_
      refine g_run X KL_law_587_62 KL_law_587_62_d 590 [(6, .int (nI 0)), (5, .int (nI 1)), (0, .ref b), (1, .ref (adC 0)), (2, .ref (adM 0)), (3, .ref ao), (4, .int (nI (6 * k)))] [.ref (adM 0)] rfl ?_
      refine g_callV X hSB hAf srcW (hrc1 := (rfl : CL[8]? = some _)) (wm_mem (k := 0) (by decide)) rfl (As := []) (wr := WC adC g I L S ++ ([OUT ao on ov] : va_W)) (n := 0) (c_X9_thrown l D g adM I L S (u2 (u2 Z 3 0 (nI 0)) 3 0 (nI 1)) Y ) rfl srcN hrdN w_1250 w_1247 w_1248 w_1249 w_6 (by decide +kernel) rfl ⟨Nat.le_of_ble_eq_true rfl, Nat.le_of_ble_eq_true rfl⟩ rfl rfl rfl (Nat.le_of_ble_eq_true rfl) ⟨by show cells + 1 + 0 + 0 ≤ 600002; omega, by show slots + 6 + 0 + 0 ≤ 7302232; omega⟩ dL_law_590 (fun hu5 hp_hu5 => ?_)
      refine g_af (ws' := WM adM g I L S (u2 (u2 Z 3 0 (nI 0)) 3 0 (nI 1)) Y ++ (WC adC g I L S ++ ([OUT ao on ov] : va_W))) (st' := [.int ((u2 (u2 Z 3 0 (nI 0)) 3 0 (nI 1)) 3 0)]) (cells' := cells + 1 + 0 + 0) (slots' := slots + 6 + 0 + 0) (pc' := 593) rfl rfl rfl rfl rfl ?_
      refine g_st (st' := [.int (nI 1)]) (by first | rfl | (simp [z4, u2]; done)) ?_
      refine g_run X KL_law_593_63 KL_law_593_63_d 595 [(6, .int (nI 0)), (5, .int (nI 1)), (0, .ref b), (1, .ref (adC 0)), (2, .ref (adM 0)), (3, .ref ao), (4, .int (nI (6 * k)))] [.int (nI 1), .int (nI 1)] rfl ?_
      refine g_icmp_eq X 600 dL_law_595 (by decide) (fun hc6 => ?_) (fun hc6 => ?_)
      · refine g_run X KL_law_600_64 KL_law_600_64_d 602 [(6, .int (nI 0)), (5, .int (nI 1)), (0, .ref b), (1, .ref (adC 0)), (2, .ref (adM 0)), (3, .ref ao), (4, .int (nI (6 * k)))] [.int (nI 1)] rfl ?_
        refine g_if_ne X 618 dL_law_602 (by decide) (fun hc7 => ?_) (fun hc7 => ?_)
        · refine g_run X KL_law_618_67 KL_law_618_67_d 2256 [(6, .int (nI 0)), (5, .int (nI 1)), (0, .ref b), (1, .ref (adC 0)), (2, .ref (adM 0)), (3, .ref ao), (4, .int (nI (6 * k)))] [] rfl ?_
          refine g_lv (lv' := [(0, .ref b), (1, .ref (adC 0)), (2, .ref (adM 0)), (3, .ref ao), (4, .int (nI (6 * k)))]) (lsub_c 2 rfl (lsub_c 3 rfl (lsub_c 4 rfl (lsub_c 5 rfl (lsub_c 6 rfl (lsub_n)))))) ?_
          refine g_perm (ws' := (WC adC g I L S ++ ([OUT ao on ov] : va_W)) ++ WM adM g I L S (u2 (u2 Z 3 0 (nI 0)) 3 0 (nI 1)) Y) (List.perm_append_comm (l₁ := (WC adC g I L S ++ ([OUT ao on ov] : va_W))) (l₂ := WM adM g I L S (u2 (u2 Z 3 0 (nI 0)) 3 0 (nI 1)) Y)) ?_
          refine g_widen (k := cells + 60) (n := slots + 1200) (by omega) (by omega) ?_
          exact kk I L S n (u2 (u2 Z 3 0 (nI 0)) 3 0 (nI 1)) Y R on ov (hI) (hR) (by first | exact hZ | (rw [zrow]; exact hZ) | (rw [zrow, zrow]; exact hZ))
        · rw [nz_eq (by omega)] at hc7; first | omega | (simp at hc7)
      · rw [nI_eq (by omega) (by omega)] at hc6; first | omega | (simp at hc6)

theorem lq4 {p : Program} {l : Launch} {e : Env} {s : State} {m : MethodId} {below : List Frame} {meth : Method} {c : Code} {Q : State → Prop} {D : va_G} {A : Nat → Prop} {b N : Nat} {xs : Nat → Int32} {adC adM : Nat → Nat} {g : Nat → ClassId} {ao k cells slots : Nat} {I : Nat → Nat → Int32} {L : Nat → Nat → Int64} {S : Nat → Nat} {n : Nat} {Z : Nat → Nat → Int32} {Y : Int64} {R : Nat → Nat} {on : Int64} {ov : Value} (HX : LX p l s m meth c A b N xs) (hk : 6 * k + 6 ≤ N) (hroom : cells + 60 ≤ 600002 ∧ slots + 1200 ≤ 7302232) (hI : Inv I L S n) (hR : R16 R) (hZ : Z 0 = fun j => nI (R j)) (kk : LK p l e s m below meth c Q D A b adC adM g ao k cells slots 2256) : GL p l e room_1 s m #[.ref b] below meth c Q D CL (TYS g) A 9 (WL adC adM g ao I L S Z Y on ov) cells slots 536 [(0, .ref b), (1, .ref (adC 0)), (2, .ref (adM 0)), (3, .ref ao), (4, .int (nI (6 * k)))] [] := by
  rcases rg (xs (6 * k + 1)) 0 15 with ⟨a1, hl1, hu1, e1⟩ | hw
  · by_cases hz : xs (6 * k + 2) = 0
    · exact lq4_0 HX hk hroom hI hR hZ  a1 hl1 hu1 e1 hz kk
    · by_cases h4 : pcn (ers I S 15 &&& (32767 ^^^ 2 ^ a1)) 15 < 4
      · exact lq4_1 HX hk hroom hI hR hZ  a1 hl1 hu1 e1 hz h4 kk
      · exact lq4_2 HX hk hroom hI hR hZ  a1 hl1 hu1 e1 hz h4 kk
  · by_cases hz : xs (6 * k + 2) = 0
    · exact lq4_1z HX hk hroom hI hR hZ  hw hz kk
    · exact lq4_1o HX hk hroom hI hR hZ  hw hz kk

