def KL_law_27_332 : List (Nat × Instr × Nat) := [(27, .iload 4, 2), (29, .aload_n 0, 1)]
theorem KL_law_27_332_d : ∀ z ∈ KL_law_27_332, decode cL_law z.1 = .ok z.2 := by decide +kernel
def KL_law_31_333 : List (Nat × Instr × Nat) := [(31, .bipush 6, 2), (33, .isub, 1)]
theorem KL_law_31_333_d : ∀ z ∈ KL_law_31_333, decode cL_law z.1 = .ok z.2 := by decide +kernel
def KL_law_37_334 : List (Nat × Instr × Nat) := [(37, .aload_n 0, 1), (38, .iload 4, 2)]
theorem KL_law_37_334_d : ∀ z ∈ KL_law_37_334, decode cL_law z.1 = .ok z.2 := by decide +kernel
def KL_law_41_335 : List (Nat × Instr × Nat) := [(41, .bipush 63, 2), (43, .iand, 1)]
theorem KL_law_41_335_d : ∀ z ∈ KL_law_41_335, decode cL_law z.1 = .ok z.2 := by decide +kernel
def KL_law_2256_336 : List (Nat × Instr × Nat) := [(2256, .iinc 4 6, 3), (2259, .goto (-2232), 3)]
theorem KL_law_2256_336_d : ∀ z ∈ KL_law_2256_336, decode cL_law z.1 = .ok z.2 := by decide +kernel
set_option maxHeartbeats 4000000 in
set_option maxRecDepth 100000 in
theorem law_loop {p : Program} {l : Launch} {e : Env} {s : State} {m : MethodId} {below : List Frame} {meth : Method} {c : Code} {Q : State → Prop} {D : va_G} {A : Nat → Prop} {b N : Nat} {xs : Nat → Int32} {g : Nat → ClassId} {adC adM : Nat → Nat} {ao : Nat} {I : Nat → Nat → Int32} {L : Nat → Nat → Int64} {S : Nat → Nat} {n : Nat} {Z : Nat → Nat → Int32} {Y : Int64} {R : Nat → Nat} {on : Int64} {ov : Value} (HX : LX p l s m meth c A b N xs) (c0 s0 : Nat) (hc0 : c0 ≤ 1000) (hs0 : s0 ≤ 100000) (hI : Inv I L S n) (hR : R16 R) (hZ : Z 0 = fun j => nI (R j)) (hend : ∀ (I : Nat → Nat → Int32) (L : Nat → Nat → Int64) (S : Nat → Nat) (Z : Nat → Nat → Int32) (Y : Int64) (on : Int64) (ov : Value) (adC adM : Nat → Nat) (ao cells slots : Nat), cells ≤ 600002 → slots ≤ 7302232 → GL p l e room_1 s m #[.ref b] below meth c Q D CL (TYS g) A 9 (WL adC adM g ao I L S Z Y on ov) cells slots 2262 [(0, .ref b), (1, .ref (adC 0)), (2, .ref (adM 0)), (3, .ref ao), (4, .int (nI (6 * (N / 6))))] []) : GL p l e room_1 s m #[.ref b] below meth c Q D CL (TYS g) A 9 (WL adC adM g ao I L S Z Y on ov) c0 s0 27 [(0, .ref b), (1, .ref (adC 0)), (2, .ref (adM 0)), (3, .ref ao), (4, .int (nI 0))] [] := by
  obtain ⟨X, hSB, hAf, hNC, hfl, hX, hbl, hbA, hN⟩ := id HX
  refine g_forX (σ := (Nat → Nat → Int32) × (Nat → Nat → Int64) × (Nat → Nat) × Nat × (Nat → Nat → Int32) × Int64 × (Nat → Nat) × Int64 × Value) (N / 6) (fun u _ => WL adC adM g ao u.1 u.2.1 u.2.2.1 u.2.2.2.2.1 u.2.2.2.2.2.1 u.2.2.2.2.2.2.2.1 u.2.2.2.2.2.2.2.2) (fun i => [(0, .ref b), (1, .ref (adC 0)), (2, .ref (adM 0)), (3, .ref ao), (4, .int (nI (6 * i)))]) (fun u _ => Inv u.1 u.2.1 u.2.2.1 u.2.2.2.1 ∧ R16 u.2.2.2.2.2.2.1 ∧ u.2.2.2.2.1 0 = (fun j => nI (u.2.2.2.2.2.2.1 j))) 60 1200 (I, L, S, n, Z, Y, R, on, ov) ⟨hI, hR, hZ⟩ rfl rfl ?_ ?_
  · rintro ⟨I, L, S, n, Z, Y, R, on, ov⟩ ⟨hI, hR, hZ⟩
    refine g_ws (ws' := WL adC adM g ao I L S Z Y on ov) rfl ?_
    refine g_run X KL_law_27_332 KL_law_27_332_d 30 [(0, .ref b), (1, .ref (adC 0)), (2, .ref (adM 0)), (3, .ref ao), (4, .int (nI (6 * (N / 6))))] [.ref b, .int (nI (6 * (N / 6)))] rfl ?_
    refine g_slen X hX hbl hbA dL_law_30 ?_
    refine g_run X KL_law_31_333 KL_law_31_333_d 34 [(0, .ref b), (1, .ref (adC 0)), (2, .ref (adM 0)), (3, .ref ao), (4, .int (nI (6 * (N / 6))))] [.int ((nI N) - (nI 6)), .int (nI (6 * (N / 6)))] rfl ?_
    refine g_icmp_gt X 2262 dL_law_34 (by decide) (fun hc => ?_) (fun hc => absurd (lw_end hN rfl) hc)
    exact hend I L S Z Y on ov adC adM ao _ _ (by omega) (by omega)
  · rintro k hk ⟨I, L, S, n, Z, Y, R, on, ov⟩ ⟨hI, hR, hZ⟩ kk
    refine g_ws (ws' := WL adC adM g ao I L S Z Y on ov) rfl ?_
    refine g_run X KL_law_27_332 KL_law_27_332_d 30 [(0, .ref b), (1, .ref (adC 0)), (2, .ref (adM 0)), (3, .ref ao), (4, .int (nI (6 * k)))] [.ref b, .int (nI (6 * k))] rfl ?_
    refine g_slen X hX hbl hbA dL_law_30 ?_
    refine g_run X KL_law_31_333 KL_law_31_333_d 34 [(0, .ref b), (1, .ref (adC 0)), (2, .ref (adM 0)), (3, .ref ao), (4, .int (nI (6 * k)))] [.int ((nI N) - (nI 6)), .int (nI (6 * k))] rfl ?_
    refine g_icmp_gt X 2262 dL_law_34 (by decide) (fun hc => absurd hc (lw_on hN hk)) (fun hc => ?_)
    refine g_run X KL_law_37_334 KL_law_37_334_d 40 [(0, .ref b), (1, .ref (adC 0)), (2, .ref (adM 0)), (3, .ref ao), (4, .int (nI (6 * k)))] [.int (nI (6 * k)), .ref b] rfl ?_
    refine g_sld X hX hbl hbA hN (i := 6 * k) (v := xs (6 * k)) (by omega) rfl dL_law_40 ?_
    refine g_run X KL_law_41_335 KL_law_41_335_d 44 [(0, .ref b), (1, .ref (adC 0)), (2, .ref (adM 0)), (3, .ref ao), (4, .int (nI (6 * k)))] [.int ((xs (6 * k)) &&& (nI 63))] rfl ?_
    obtain ⟨j, hj, ej⟩ := sw_and (xs (6 * k))
    refine g_st (st' := [.int (nI j)]) (by rw [← ej]) ?_
    have K : LK p l e s m below meth c Q D A b adC adM g ao k (c0 + k * 60) (s0 + k * 1200) 2256 := by
      intro I L S n Z Y R on ov hI hR hZ
      refine g_run X KL_law_2256_336 KL_law_2256_336_d 27 [(4, .int ((nI (6 * k)) + (nI 6))), (0, .ref b), (1, .ref (adC 0)), (2, .ref (adM 0)), (3, .ref ao)] [] rfl ?_
      refine g_nm (lv' := [(4, .int (nI ((6 * k) + 6))), (0, .ref b), (1, .ref (adC 0)), (2, .ref (adM 0)), (3, .ref ao)]) (st' := []) (by simp only [nI_add]) (by simp only [nI_add]) ?_
      refine g_lv (lv' := [(0, .ref b), (1, .ref (adC 0)), (2, .ref (adM 0)), (3, .ref ao), (4, .int (nI ((6 * k) + 6)))]) (lsub_c 1 rfl (lsub_c 2 rfl (lsub_c 3 rfl (lsub_c 4 rfl (lsub_c 0 rfl (lsub_n)))))) ?_
      refine g_nm (lv' := [(0, .ref b), (1, .ref (adC 0)), (2, .ref (adM 0)), (3, .ref ao), (4, .int (nI (6 * (k + 1))))]) (st' := []) (by rw [← six]) rfl ?_
      exact kk (I, L, S, n, Z, Y, R, on, ov) ⟨hI, hR, hZ⟩
    rcases (show j = 0 ∨ j = 1 ∨ j = 2 ∨ j = 3 ∨ j = 4 ∨ j = 5 ∨ j = 6 ∨ j = 7 ∨ j = 8 ∨ j = 9 ∨ j = 10 ∨ j = 11 ∨ j = 12 ∨ j = 13 ∨ j = 14 ∨ j = 15 ∨ j = 16 ∨ j = 17 ∨ j = 18 ∨ j = 19 ∨ j = 20 ∨ j = 21 ∨ j = 22 ∨ j = 23 ∨ j = 24 ∨ j = 25 ∨ j = 26 ∨ j = 27 ∨ j = 28 ∨ j = 29 ∨ j = 30 ∨ j = 31 ∨ j = 32 ∨ 33 ≤ j by omega) with rfl | rfl | rfl | rfl | rfl | rfl | rfl | rfl | rfl | rfl | rfl | rfl | rfl | rfl | rfl | rfl | rfl | rfl | rfl | rfl | rfl | rfl | rfl | rfl | rfl | rfl | rfl | rfl | rfl | rfl | rfl | rfl | rfl | h33
    · refine g_swIn X 192 dL_law_44 (by decide +kernel) (by decide +kernel) (off := 148) (by decide +kernel) (by decide) ?_
      exact lq0 HX (by omega) ⟨by omega, by omega⟩ hI hR hZ K
    · refine g_swIn X 293 dL_law_44 (by decide +kernel) (by decide +kernel) (off := 249) (by decide +kernel) (by decide) ?_
      exact lq1 HX (by omega) ⟨by omega, by omega⟩ hI hR hZ K
    · refine g_swIn X 386 dL_law_44 (by decide +kernel) (by decide +kernel) (off := 342) (by decide +kernel) (by decide) ?_
      exact lq2 HX (by omega) ⟨by omega, by omega⟩ hI hR hZ K
    · refine g_swIn X 455 dL_law_44 (by decide +kernel) (by decide +kernel) (off := 411) (by decide +kernel) (by decide) ?_
      exact lq3 HX (by omega) ⟨by omega, by omega⟩ hI hR hZ K
    · refine g_swIn X 536 dL_law_44 (by decide +kernel) (by decide +kernel) (off := 492) (by decide +kernel) (by decide) ?_
      exact lq4 HX (by omega) ⟨by omega, by omega⟩ hI hR hZ K
    · refine g_swIn X 621 dL_law_44 (by decide +kernel) (by decide +kernel) (off := 577) (by decide +kernel) (by decide) ?_
      exact lq5 HX (by omega) ⟨by omega, by omega⟩ hI hR hZ K
    · refine g_swIn X 678 dL_law_44 (by decide +kernel) (by decide +kernel) (off := 634) (by decide +kernel) (by decide) ?_
      exact lq6 HX (by omega) ⟨by omega, by omega⟩ hI hR hZ K
    · refine g_swIn X 735 dL_law_44 (by decide +kernel) (by decide +kernel) (off := 691) (by decide +kernel) (by decide) ?_
      exact lq7 HX (by omega) ⟨by omega, by omega⟩ hI hR hZ K
    · refine g_swIn X 792 dL_law_44 (by decide +kernel) (by decide +kernel) (off := 748) (by decide +kernel) (by decide) ?_
      exact lq8 HX (by omega) ⟨by omega, by omega⟩ hI hR hZ K
    · refine g_swIn X 849 dL_law_44 (by decide +kernel) (by decide +kernel) (off := 805) (by decide +kernel) (by decide) ?_
      exact lq9 HX (by omega) ⟨by omega, by omega⟩ hI hR hZ K
    · refine g_swIn X 905 dL_law_44 (by decide +kernel) (by decide +kernel) (off := 861) (by decide +kernel) (by decide) ?_
      exact lq10 HX (by omega) ⟨by omega, by omega⟩ hI hR hZ K
    · refine g_swIn X 1006 dL_law_44 (by decide +kernel) (by decide +kernel) (off := 962) (by decide +kernel) (by decide) ?_
      exact lq11 HX (by omega) ⟨by omega, by omega⟩ hI hR hZ K
    · refine g_swIn X 1019 dL_law_44 (by decide +kernel) (by decide +kernel) (off := 975) (by decide +kernel) (by decide) ?_
      exact lq12 HX (by omega) ⟨by omega, by omega⟩ hI hR hZ K
    · refine g_swIn X 1032 dL_law_44 (by decide +kernel) (by decide +kernel) (off := 988) (by decide +kernel) (by decide) ?_
      exact lq13 HX (by omega) ⟨by omega, by omega⟩ hI hR hZ K
    · refine g_swIn X 1101 dL_law_44 (by decide +kernel) (by decide +kernel) (off := 1057) (by decide +kernel) (by decide) ?_
      exact lq14 HX (by omega) ⟨by omega, by omega⟩ hI hR hZ K
    · refine g_swIn X 1158 dL_law_44 (by decide +kernel) (by decide +kernel) (off := 1114) (by decide +kernel) (by decide) ?_
      exact lq15 HX (by omega) ⟨by omega, by omega⟩ hI hR hZ K
    · refine g_swIn X 1259 dL_law_44 (by decide +kernel) (by decide +kernel) (off := 1215) (by decide +kernel) (by decide) ?_
      exact lq16 HX (by omega) ⟨by omega, by omega⟩ hI hR hZ K
    · refine g_swIn X 1364 dL_law_44 (by decide +kernel) (by decide +kernel) (off := 1320) (by decide +kernel) (by decide) ?_
      exact lq17 HX (by omega) ⟨by omega, by omega⟩ hI hR hZ K
    · refine g_swIn X 1433 dL_law_44 (by decide +kernel) (by decide +kernel) (off := 1389) (by decide +kernel) (by decide) ?_
      exact lq18 HX (by omega) ⟨by omega, by omega⟩ hI hR hZ K
    · refine g_swIn X 1502 dL_law_44 (by decide +kernel) (by decide +kernel) (off := 1458) (by decide +kernel) (by decide) ?_
      exact lq19 HX (by omega) ⟨by omega, by omega⟩ hI hR hZ K
    · refine g_swIn X 1559 dL_law_44 (by decide +kernel) (by decide +kernel) (off := 1515) (by decide +kernel) (by decide) ?_
      exact lq20 HX (by omega) ⟨by omega, by omega⟩ hI hR hZ K
    · refine g_swIn X 1615 dL_law_44 (by decide +kernel) (by decide +kernel) (off := 1571) (by decide +kernel) (by decide) ?_
      exact lq21 HX (by omega) ⟨by omega, by omega⟩ hI hR hZ K
    · refine g_swIn X 1684 dL_law_44 (by decide +kernel) (by decide +kernel) (off := 1640) (by decide +kernel) (by decide) ?_
      exact lq22 HX (by omega) ⟨by omega, by omega⟩ hI hR hZ K
    · refine g_swIn X 1753 dL_law_44 (by decide +kernel) (by decide +kernel) (off := 1709) (by decide +kernel) (by decide) ?_
      exact lq23 HX (by omega) ⟨by omega, by omega⟩ hI hR hZ K
    · refine g_swIn X 1822 dL_law_44 (by decide +kernel) (by decide +kernel) (off := 1778) (by decide +kernel) (by decide) ?_
      exact lq24 HX (by omega) ⟨by omega, by omega⟩ hI hR hZ K
    · refine g_swIn X 1878 dL_law_44 (by decide +kernel) (by decide +kernel) (off := 1834) (by decide +kernel) (by decide) ?_
      exact lq25 HX (by omega) ⟨by omega, by omega⟩ hI hR hZ K
    · refine g_swIn X 1935 dL_law_44 (by decide +kernel) (by decide +kernel) (off := 1891) (by decide +kernel) (by decide) ?_
      exact lq26 HX (by omega) ⟨by omega, by omega⟩ hI hR hZ K
    · refine g_swIn X 1993 dL_law_44 (by decide +kernel) (by decide +kernel) (off := 1949) (by decide +kernel) (by decide) ?_
      exact lq27 HX (by omega) ⟨by omega, by omega⟩ hI hR hZ K
    · refine g_swIn X 2062 dL_law_44 (by decide +kernel) (by decide +kernel) (off := 2018) (by decide +kernel) (by decide) ?_
      exact lq28 HX (by omega) ⟨by omega, by omega⟩ hI hR hZ K
    · refine g_swIn X 2119 dL_law_44 (by decide +kernel) (by decide +kernel) (off := 2075) (by decide +kernel) (by decide) ?_
      exact lq29 HX (by omega) ⟨by omega, by omega⟩ hI hR hZ K
    · refine g_swIn X 2188 dL_law_44 (by decide +kernel) (by decide +kernel) (off := 2144) (by decide +kernel) (by decide) ?_
      exact lq30 HX (by omega) ⟨by omega, by omega⟩ hI hR hZ K
    · refine g_swIn X 2229 dL_law_44 (by decide +kernel) (by decide +kernel) (off := 2185) (by decide +kernel) (by decide) ?_
      exact lq31 HX (by omega) ⟨by omega, by omega⟩ hI hR hZ K
    · refine g_swIn X 2242 dL_law_44 (by decide +kernel) (by decide +kernel) (off := 2198) (by decide +kernel) (by decide) ?_
      exact lq32 HX (by omega) ⟨by omega, by omega⟩ hI hR hZ K
    · refine g_swOut X 2256 dL_law_44 (Or.inr (by rw [nI_toInt (by omega)]; omega)) (by decide) ?_
      refine g_widen (k := c0 + k * 60 + 60) (n := s0 + k * 1200 + 1200) (by omega) (by omega) ?_
      exact K I L S n Z Y R on ov hI hR hZ

def KL_law_3_337 : List (Nat × Instr × Nat) := [(3, .dup, 1)]
theorem KL_law_3_337_d : ∀ z ∈ KL_law_3_337, decode cL_law z.1 = .ok z.2 := by decide +kernel
def KL_law_7_338 : List (Nat × Instr × Nat) := [(7, .astore_n 1, 1)]
theorem KL_law_7_338_d : ∀ z ∈ KL_law_7_338, decode cL_law z.1 = .ok z.2 := by decide +kernel
def KL_law_11_339 : List (Nat × Instr × Nat) := [(11, .dup, 1)]
theorem KL_law_11_339_d : ∀ z ∈ KL_law_11_339, decode cL_law z.1 = .ok z.2 := by decide +kernel
def KL_law_15_340 : List (Nat × Instr × Nat) := [(15, .astore_n 2, 1)]
theorem KL_law_15_340_d : ∀ z ∈ KL_law_15_340, decode cL_law z.1 = .ok z.2 := by decide +kernel
def KL_law_19_341 : List (Nat × Instr × Nat) := [(19, .dup, 1)]
theorem KL_law_19_341_d : ∀ z ∈ KL_law_19_341, decode cL_law z.1 = .ok z.2 := by decide +kernel
def KL_law_23_342 : List (Nat × Instr × Nat) := [(23, .astore_n 3, 1), (24, .iconst 0, 1), (25, .istore 4, 2)]
theorem KL_law_23_342_d : ∀ z ∈ KL_law_23_342, decode cL_law z.1 = .ok z.2 := by decide +kernel
set_option maxHeartbeats 4000000 in
set_option maxRecDepth 100000 in
theorem law_start {p : Program} {l : Launch} {e : Env} {s : State} {m : MethodId} {below : List Frame} {meth : Method} {c : Code} {Q : State → Prop} {D : va_G} {A : Nat → Prop} {b N : Nat} {xs : Nat → Int32} {g : Nat → ClassId} (HX : LX p l s m meth c A b N xs) (hend : ∀ (I : Nat → Nat → Int32) (L : Nat → Nat → Int64) (S : Nat → Nat) (Z : Nat → Nat → Int32) (Y : Int64) (on : Int64) (ov : Value) (adC adM : Nat → Nat) (ao cells slots : Nat), cells ≤ 600002 → slots ≤ 7302232 → GL p l e room_1 s m #[.ref b] below meth c Q D CL (TYS g) A 9 (WL adC adM g ao I L S Z Y on ov) cells slots 2262 [(0, .ref b), (1, .ref (adC 0)), (2, .ref (adM 0)), (3, .ref ao), (4, .int (nI (6 * (N / 6))))] []) : GL p l e room_1 s m #[.ref b] below meth c Q D CL (TYS g) A 9 [] 0 0 0 [(0, .ref b)] [] := by
  obtain ⟨X, hSB, hAf, hNC, hfl, hX, hbl, hbA, hN⟩ := id HX
  refine g_new X hAf (ci := 4) hinX5 tyX5 tyX5_ok w_33 w_34 w_1 rfl (fs := [.null, .null, .int 0]) (by decide) (Nat.le_of_ble_eq_true rfl) (Nat.le_of_ble_eq_true rfl) dL_law_0 (fun q0 => ?_)
  refine g_af (ws' := ([] : va_W) ++ ([(q0, Sum.inr (4, [.null, .null, .int 0]))] : va_W)) (st' := [.ref q0]) (cells' := 1) (slots' := 3) (pc' := 3) rfl rfl rfl rfl rfl ?_
  refine g_perm (ws' := ([(q0, Sum.inr (4, [.null, .null, .int 0]))] : va_W) ++ (([] : va_W))) List.perm_append_comm ?_
  refine g_run X KL_law_3_337 KL_law_3_337_d 4 [(0, .ref b)] [.ref q0, .ref q0] rfl ?_
  refine g_callI X hSB hAf (As := []) (wr := ([] : va_W)) (n := 0) (c_X5_init l D g q0) rfl srcN hrdN w_37 w_35 w_36 rfl w_1 (by decide +kernel) rfl ⟨Nat.le_of_ble_eq_true rfl, Nat.le_of_ble_eq_true rfl⟩ rfl rfl rfl (Nat.le_of_ble_eq_true rfl) ⟨Nat.le_of_ble_eq_true rfl, Nat.le_of_ble_eq_true rfl⟩ dL_law_4 (fun adC h0 => ?_)
  subst h0
  refine g_af (ws' := WC adC g I0 L0 S0) (st' := [.ref (adC 0)]) (cells' := 28) (slots' := 235) (pc' := 7) (List.append_nil _).symm rfl rfl rfl rfl ?_
  refine g_run X KL_law_7_338 KL_law_7_338_d 8 [(1, .ref (adC 0)), (0, .ref b)] [] rfl ?_
  refine g_new X hAf (ci := 8) hinX9 tyX9 tyX9_ok w_1053 w_1054 w_6 rfl (fs := [.int 0, .null, .null, .null, .null, .null, .null, .null, .null, .int 0, .int 0, .int 0, .int 0, .int 0, .int 0, .int 0, .int 0, .int 0, .null, .null, .null, .long 0]) (by decide) (Nat.le_of_ble_eq_true rfl) (Nat.le_of_ble_eq_true rfl) dL_law_8 (fun q1 => ?_)
  refine g_af (ws' := WC adC g I0 L0 S0 ++ ([(q1, Sum.inr (8, [.int 0, .null, .null, .null, .null, .null, .null, .null, .null, .int 0, .int 0, .int 0, .int 0, .int 0, .int 0, .int 0, .int 0, .int 0, .null, .null, .null, .long 0]))] : va_W)) (st' := [.ref q1]) (cells' := 29) (slots' := 257) (pc' := 11) rfl rfl rfl rfl rfl ?_
  refine g_perm (ws' := ([(q1, Sum.inr (8, [.int 0, .null, .null, .null, .null, .null, .null, .null, .null, .int 0, .int 0, .int 0, .int 0, .int 0, .int 0, .int 0, .int 0, .int 0, .null, .null, .null, .long 0]))] : va_W) ++ (WC adC g I0 L0 S0)) List.perm_append_comm ?_
  refine g_run X KL_law_11_339 KL_law_11_339_d 12 [(1, .ref (adC 0)), (0, .ref b)] [.ref q1, .ref q1] rfl ?_
  refine g_callI X hSB hAf (As := []) (wr := WC adC g I0 L0 S0) (n := 0) (c_X9_init l D g q1) rfl srcN hrdN w_1057 w_1055 w_1056 rfl w_6 (by decide +kernel) rfl ⟨Nat.le_of_ble_eq_true rfl, Nat.le_of_ble_eq_true rfl⟩ rfl rfl rfl (Nat.le_of_ble_eq_true rfl) ⟨Nat.le_of_ble_eq_true rfl, Nat.le_of_ble_eq_true rfl⟩ dL_law_12 (fun adM h1 => ?_)
  subst h1
  refine g_af (ws' := WM adM g I0 L0 S0 (fun _ _ => 0) (lN 0) ++ WC adC g I0 L0 S0) (st' := [.ref (adM 0)]) (cells' := 63) (slots' := 1583) (pc' := 15) rfl rfl rfl rfl rfl ?_
  refine g_run X KL_law_15_340 KL_law_15_340_d 16 [(2, .ref (adM 0)), (1, .ref (adC 0)), (0, .ref b)] [] rfl ?_
  refine g_new X hAf (ci := 5) hinX6 tyX6 tyX6_ok w_483 w_484 w_16 rfl (fs := [.long 0, .null]) (by decide) (Nat.le_of_ble_eq_true rfl) (Nat.le_of_ble_eq_true rfl) dL_law_16 (fun q2 => ?_)
  refine g_af (ws' := WM adM g I0 L0 S0 (fun _ _ => 0) (lN 0) ++ WC adC g I0 L0 S0 ++ ([(q2, Sum.inr (5, [.long 0, .null]))] : va_W)) (st' := [.ref q2]) (cells' := 64) (slots' := 1585) (pc' := 19) rfl rfl rfl rfl rfl ?_
  refine g_perm (ws' := ([(q2, Sum.inr (5, [.long 0, .null]))] : va_W) ++ (WM adM g I0 L0 S0 (fun _ _ => 0) (lN 0) ++ WC adC g I0 L0 S0)) List.perm_append_comm ?_
  refine g_run X KL_law_19_341 KL_law_19_341_d 20 [(2, .ref (adM 0)), (1, .ref (adC 0)), (0, .ref b)] [.ref q2, .ref q2] rfl ?_
  refine g_callIN X hSB hAf (host := "ChipfieldLaw") (As := []) (wr := WM adM g I0 L0 S0 (fun _ _ => 0) (lN 0) ++ WC adC g I0 L0 S0) (n := 0) (c_X6_init l D g q2) rfl srcN hrdN w_487 (nw_in n_485 rfl) w_486 rfl w_16 (by decide +kernel) rfl ⟨Nat.le_of_ble_eq_true rfl, Nat.le_of_ble_eq_true rfl⟩ rfl rfl rfl (Nat.le_of_ble_eq_true rfl) ⟨Nat.le_of_ble_eq_true rfl, Nat.le_of_ble_eq_true rfl⟩ dL_law_20 (fun uu h2 => ?_)
  refine g_af (ws' := ([(q2, Sum.inr (5, [.long 0, .null]))] : va_W) ++ (WM adM g I0 L0 S0 (fun _ _ => 0) (lN 0) ++ WC adC g I0 L0 S0)) (st' := [.ref q2]) (cells' := 64) (slots' := 1585) (pc' := 23) rfl rfl rfl rfl rfl ?_
  refine g_run X KL_law_23_342 KL_law_23_342_d 27 [(4, .int (nI 0)), (3, .ref q2), (2, .ref (adM 0)), (1, .ref (adC 0)), (0, .ref b)] [] rfl ?_
  refine g_lv (lv' := [(0, .ref b), (1, .ref (adC 0)), (2, .ref (adM 0)), (3, .ref q2), (4, .int (nI 0))]) (lsub_c 4 rfl (lsub_c 3 rfl (lsub_c 2 rfl (lsub_c 1 rfl (lsub_c 0 rfl (lsub_n)))))) ?_
  refine g_perm (ws' := WL adC adM g q2 I0 L0 S0 (fun _ _ => 0) (lN 0) 0 .null) ((List.perm_append_comm).trans (by rw [← List.append_assoc]; exact List.perm_append_comm)) ?_
  exact law_loop HX 64 1585 (by decide) (by decide) Inv.init (R := fun _ => 0) (fun _ => Nat.zero_lt_succ _) rfl hend

