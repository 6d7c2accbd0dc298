def KL_law_621_70 : List (Nat × Instr × Nat) := [(621, .aload_n 1, 1), (622, .aload_n 0, 1), (623, .iload 4, 2), (625, .iconst 1, 1), (626, .iadd, 1)]
theorem KL_law_621_70_d : ∀ z ∈ KL_law_621_70, decode cL_law z.1 = .ok z.2 := by decide +kernel
def KL_law_628_71 : List (Nat × Instr × Nat) := [(628, .aload_n 3, 1)]
theorem KL_law_628_71_d : ∀ z ∈ KL_law_628_71, decode cL_law z.1 = .ok z.2 := by decide +kernel
def KL_law_632_72 : List (Nat × Instr × Nat) := [(632, .istore 5, 2), (634, .aload_n 2, 1), (635, .aload_n 0, 1), (636, .iload 4, 2), (638, .iconst 1, 1), (639, .iadd, 1)]
theorem KL_law_632_72_d : ∀ z ∈ KL_law_632_72, decode cL_law z.1 = .ok z.2 := by decide +kernel
def KL_law_644_73 : List (Nat × Instr × Nat) := [(644, .istore 6, 2), (646, .aload_n 2, 1)]
theorem KL_law_644_73_d : ∀ z ∈ KL_law_644_73, decode cL_law z.1 = .ok z.2 := by decide +kernel
def KL_law_650_74 : List (Nat × Instr × Nat) := [(650, .iload 5, 2)]
theorem KL_law_650_74_d : ∀ z ∈ KL_law_650_74, decode cL_law z.1 = .ok z.2 := by decide +kernel
def KL_law_657_75 : List (Nat × Instr × Nat) := [(657, .iload 5, 2)]
theorem KL_law_657_75_d : ∀ z ∈ KL_law_657_75, decode cL_law z.1 = .ok z.2 := by decide +kernel
def KL_law_662_76 : List (Nat × Instr × Nat) := [(662, .aload_n 3, 1)]
theorem KL_law_662_76_d : ∀ z ∈ KL_law_662_76, decode cL_law z.1 = .ok z.2 := by decide +kernel
def KL_law_666_77 : List (Nat × Instr × Nat) := [(666, .iload 6, 2), (668, .i2l, 1), (669, .lcmp, 1)]
theorem KL_law_666_77_d : ∀ z ∈ KL_law_666_77, decode cL_law z.1 = .ok z.2 := by decide +kernel
def KL_law_675_78 : List (Nat × Instr × Nat) := [(675, .goto 1581, 3)]
theorem KL_law_675_78_d : ∀ z ∈ KL_law_675_78, decode cL_law z.1 = .ok z.2 := by decide +kernel
set_option maxHeartbeats 4000000 in
set_option maxRecDepth 100000 in
theorem lq5_0 {p : Program} {l : Launch} {e : Env} {s : State} {m : MethodId} {below : List Frame} {meth : Method} {c : Code} {Q : State → Prop} {D : va_G} {A : Nat → Prop} {b N : Nat} {xs : Nat → Int32} {adC adM : Nat → Nat} {g : Nat → ClassId} {ao k cells slots : Nat} {I : Nat → Nat → Int32} {L : Nat → Nat → Int64} {S : Nat → Nat} {n : Nat} {Z : Nat → Nat → Int32} {Y : Int64} {R : Nat → Nat} {on : Int64} {ov : Value} (HX : LX p l s m meth c A b N xs) (hk : 6 * k + 6 ≤ N) (hroom : cells + 60 ≤ 600002 ∧ slots + 1200 ≤ 7302232) (hI : Inv I L S n) (hR : R16 R) (hZ : Z 0 = fun j => nI (R j)) (a1 : Nat) (hl1 : 0 ≤ a1) (hu1 : a1 < 15) (e1 : xs (6 * k + 1) = nI a1) (hn18 : n < 18) (kk : LK p l e s m below meth c Q D A b adC adM g ao k cells slots 2256) : GL p l e room_1 s m #[.ref b] below meth c Q D CL (TYS g) A 9 (WL adC adM g ao I L S Z Y on ov) cells slots 621 [(0, .ref b), (1, .ref (adC 0)), (2, .ref (adM 0)), (3, .ref ao), (4, .int (nI (6 * k)))] [] := by
  obtain ⟨X, hSB, hAf, hNC, hfl, hX, hbl, hbA, hN⟩ := HX
  refine g_run X KL_law_621_70 KL_law_621_70_d 627 [(0, .ref b), (1, .ref (adC 0)), (2, .ref (adM 0)), (3, .ref ao), (4, .int (nI (6 * k)))] [.int ((nI (6 * k)) + (nI 1)), .ref b, .ref (adC 0)] rfl ?_
  refine g_nm (lv' := [(0, .ref b), (1, .ref (adC 0)), (2, .ref (adM 0)), (3, .ref ao), (4, .int (nI (6 * k)))]) (st' := [.int (nI ((6 * k) + 1)), .ref b, .ref (adC 0)]) (by simp only [nI_add]) (by simp only [nI_add]) ?_
  refine g_sld X hX hbl hbA hN (v := nI a1) (by omega) e1 dL_law_627 ?_
  refine g_run X KL_law_628_71 KL_law_628_71_d 629 [(0, .ref b), (1, .ref (adC 0)), (2, .ref (adM 0)), (3, .ref ao), (4, .int (nI (6 * k)))] [.ref ao, .int (nI a1), .ref (adC 0)] rfl ?_
  refine g_callSW X hSB hAf hNC (As := [.ref (adC 0), .int (nI a1), .ref ao]) (wr := WM adM g I L S Z Y) (n := 3) (hc_replace l D g adC I L S a1 n ao on ov (hI.s18) (by first | assumption | omega) (hI.sp.1) (by first | assumption | omega)) rfl w_579 w_577 w_578 w_0 (by decide +kernel) rfl ⟨Nat.le_of_ble_eq_true rfl, Nat.le_of_ble_eq_true rfl⟩ rfl rfl rfl (Nat.le_of_ble_eq_true rfl) ⟨by show cells + 0 ≤ 600002; omega, by show slots + 0 ≤ 7302232; omega⟩ dL_law_629 (fun hu1 _ => ?_)
  refine g_af (ws' := (WC adC g (u2 (u2 (u2 (u2 I 8 5 (nI (n + 1))) 0 (S a1) (-nI 1)) 4 (S a1) (nI 1)) 0 n (nI a1)) (ffl (u2 I 8 5 (nI (n + 1))) L S a1 n (ffb (u2 I 8 5 (nI (n + 1))) S a1) 16) (u1 S a1 n) ++ ([OUT ao ((nI n).toInt64) ov] : va_W)) ++ WM adM g I L S Z Y) (st' := [.int (nI 0)]) (cells' := cells + 0) (slots' := slots + 0) (pc' := 632) rfl rfl rfl rfl rfl ?_
  refine g_run X KL_law_632_72 KL_law_632_72_d 640 [(5, .int (nI 0)), (0, .ref b), (1, .ref (adC 0)), (2, .ref (adM 0)), (3, .ref ao), (4, .int (nI (6 * k)))] [.int ((nI (6 * k)) + (nI 1)), .ref b, .ref (adM 0)] rfl ?_
  refine g_nm (lv' := [(5, .int (nI 0)), (0, .ref b), (1, .ref (adC 0)), (2, .ref (adM 0)), (3, .ref ao), (4, .int (nI (6 * k)))]) (st' := [.int (nI ((6 * k) + 1)), .ref b, .ref (adM 0)]) (by simp only [nI_add]) (by simp only [nI_add]) ?_
  refine g_sld X hX hbl hbA hN (v := nI a1) (by omega) e1 dL_law_640 ?_
  refine g_perm (ws' := WM adM g I L S Z Y ++ (WC adC g (u2 (u2 (u2 (u2 I 8 5 (nI (n + 1))) 0 (S a1) (-nI 1)) 4 (S a1) (nI 1)) 0 n (nI a1)) (ffl (u2 I 8 5 (nI (n + 1))) L S a1 n (ffb (u2 I 8 5 (nI (n + 1))) S a1) 16) (u1 S a1 n) ++ ([OUT ao ((nI n).toInt64) ov] : va_W))) (List.perm_append_comm (l₁ := WM adM g I L S Z Y) (l₂ := (WC adC g (u2 (u2 (u2 (u2 I 8 5 (nI (n + 1))) 0 (S a1) (-nI 1)) 4 (S a1) (nI 1)) 0 n (nI a1)) (ffl (u2 I 8 5 (nI (n + 1))) L S a1 n (ffb (u2 I 8 5 (nI (n + 1))) S a1) 16) (u1 S a1 n) ++ ([OUT ao ((nI n).toInt64) ov] : va_W)))) ?_
  refine g_callV X hSB hAf srcW (hrc1 := (rfl : CL[8]? = some _)) (wm_mem (k := 0) (by decide)) rfl (As := [.int (nI a1)]) (wr := WC adC g (u2 (u2 (u2 (u2 I 8 5 (nI (n + 1))) 0 (S a1) (-nI 1)) 4 (S a1) (nI 1)) 0 n (nI a1)) (ffl (u2 I 8 5 (nI (n + 1))) L S a1 n (ffb (u2 I 8 5 (nI (n + 1))) S a1) 16) (u1 S a1 n) ++ ([OUT ao ((nI n).toInt64) ov] : va_W)) (n := 1) (c_X9_replace l D g adM I L S Z Y a1 n R (hR) (hZ) (hI.s18) (hI.ky) (by first | assumption | omega) (hI.sp) (by first | assumption | omega)) rfl srcN hrdN w_1344 w_1341 w_1342 w_1343 w_6 (by decide +kernel) rfl ⟨Nat.le_of_ble_eq_true rfl, Nat.le_of_ble_eq_true rfl⟩ rfl rfl rfl (Nat.le_of_ble_eq_true rfl) ⟨by show cells + 0 + 16 ≤ 600002; omega, by show slots + 0 + 240 ≤ 7302232; omega⟩ dL_law_641 (fun hu2 hp_hu2 => ?_)
  refine g_af (ws' := WM adM g (rpI I S a1 n) (ffl (u2 I 8 5 (nI (n + 1))) L S a1 n (ffb (u2 I 8 5 (nI (n + 1))) S a1) 16) (u1 S a1 n) (z4 (u2 Z 3 0 (nI 0)) hu2.1 hu2.2.1 hu2.2.2) Y ++ (WC adC g (u2 (u2 (u2 (u2 I 8 5 (nI (n + 1))) 0 (S a1) (-nI 1)) 4 (S a1) (nI 1)) 0 n (nI a1)) (ffl (u2 I 8 5 (nI (n + 1))) L S a1 n (ffb (u2 I 8 5 (nI (n + 1))) S a1) 16) (u1 S a1 n) ++ ([OUT ao ((nI n).toInt64) ov] : va_W))) (st' := [.int (nI n)]) (cells' := cells + 0 + 16) (slots' := slots + 0 + 240) (pc' := 644) rfl rfl rfl rfl rfl ?_
  refine g_run X KL_law_644_73 KL_law_644_73_d 647 [(6, .int (nI n)), (5, .int (nI 0)), (0, .ref b), (1, .ref (adC 0)), (2, .ref (adM 0)), (3, .ref ao), (4, .int (nI (6 * k)))] [.ref (adM 0)] rfl ?_
  refine g_callV X hSB hAf srcW (hrc1 := (rfl : CL[8]? = some _)) (wm_mem (k := 0) (by decide)) rfl (As := []) (wr := WC adC g (u2 (u2 (u2 (u2 I 8 5 (nI (n + 1))) 0 (S a1) (-nI 1)) 4 (S a1) (nI 1)) 0 n (nI a1)) (ffl (u2 I 8 5 (nI (n + 1))) L S a1 n (ffb (u2 I 8 5 (nI (n + 1))) S a1) 16) (u1 S a1 n) ++ ([OUT ao ((nI n).toInt64) ov] : va_W)) (n := 0) (c_X9_thrown l D g adM (rpI I S a1 n) (ffl (u2 I 8 5 (nI (n + 1))) L S a1 n (ffb (u2 I 8 5 (nI (n + 1))) S a1) 16) (u1 S a1 n) (z4 (u2 Z 3 0 (nI 0)) hu2.1 hu2.2.1 hu2.2.2) Y ) rfl srcN hrdN w_1250 w_1247 w_1248 w_1249 w_6 (by decide +kernel) rfl ⟨Nat.le_of_ble_eq_true rfl, Nat.le_of_ble_eq_true rfl⟩ rfl rfl rfl (Nat.le_of_ble_eq_true rfl) ⟨by show cells + 0 + 16 + 0 ≤ 600002; omega, by show slots + 0 + 240 + 0 ≤ 7302232; omega⟩ dL_law_647 (fun hu3 hp_hu3 => ?_)
  refine g_af (ws' := WM adM g (rpI I S a1 n) (ffl (u2 I 8 5 (nI (n + 1))) L S a1 n (ffb (u2 I 8 5 (nI (n + 1))) S a1) 16) (u1 S a1 n) (z4 (u2 Z 3 0 (nI 0)) hu2.1 hu2.2.1 hu2.2.2) Y ++ (WC adC g (u2 (u2 (u2 (u2 I 8 5 (nI (n + 1))) 0 (S a1) (-nI 1)) 4 (S a1) (nI 1)) 0 n (nI a1)) (ffl (u2 I 8 5 (nI (n + 1))) L S a1 n (ffb (u2 I 8 5 (nI (n + 1))) S a1) 16) (u1 S a1 n) ++ ([OUT ao ((nI n).toInt64) ov] : va_W))) (st' := [.int ((z4 (u2 Z 3 0 (nI 0)) hu2.1 hu2.2.1 hu2.2.2) 3 0)]) (cells' := cells + 0 + 16 + 0) (slots' := slots + 0 + 240 + 0) (pc' := 650) rfl rfl rfl rfl rfl ?_
  refine g_st (st' := [.int (nI 0)]) (by first | rfl | (simp [z4, u2]; done)) ?_
  refine g_run X KL_law_650_74 KL_law_650_74_d 652 [(6, .int (nI n)), (5, .int (nI 0)), (0, .ref b), (1, .ref (adC 0)), (2, .ref (adM 0)), (3, .ref ao), (4, .int (nI (6 * k)))] [.int (nI 0), .int (nI 0)] rfl ?_
  refine g_icmp_eq X 657 dL_law_652 (by decide) (fun hc4 => ?_) (fun hc4 => ?_)
  · refine g_run X KL_law_657_75 KL_law_657_75_d 659 [(6, .int (nI n)), (5, .int (nI 0)), (0, .ref b), (1, .ref (adC 0)), (2, .ref (adM 0)), (3, .ref ao), (4, .int (nI (6 * k)))] [.int (nI 0)] rfl ?_
    refine g_if_ne X 675 dL_law_659 (by decide) (fun hc5 => ?_) (fun hc5 => ?_)
    · rw [nz_eq (by omega)] at hc5; first | omega | (simp at hc5)
    · refine g_run X KL_law_662_76 KL_law_662_76_d 663 [(6, .int (nI n)), (5, .int (nI 0)), (0, .ref b), (1, .ref (adC 0)), (2, .ref (adM 0)), (3, .ref ao), (4, .int (nI (6 * k)))] [.ref ao] rfl ?_
      refine g_getN X srcW (host := "ChipfieldLaw") (v := .long ((nI n).toInt64)) hinX6 rfl 0 (by decide) (nw_in n_489 rfl) rfl (List.mem_append_right _ (List.mem_append_right _ List.mem_cons_self)) rfl dL_law_663 ?_
      refine g_run X KL_law_666_77 KL_law_666_77_d 670 [(6, .int (nI n)), (5, .int (nI 0)), (0, .ref b), (1, .ref (adC 0)), (2, .ref (adM 0)), (3, .ref ao), (4, .int (nI (6 * k)))] [.int (lg_cmp ((nI n).toInt64) ((nI n).toInt64))] rfl ?_
      refine g_if_eq X 675 dL_law_670 (by decide) (fun hc6 => ?_) (fun hc6 => ?_)
      · refine g_run X KL_law_675_78 KL_law_675_78_d 2256 [(6, .int (nI n)), (5, .int (nI 0)), (0, .ref b), (1, .ref (adC 0)), (2, .ref (adM 0)), (3, .ref ao), (4, .int (nI (6 * k)))] [] rfl ?_
        refine g_lv (lv' := [(0, .ref b), (1, .ref (adC 0)), (2, .ref (adM 0)), (3, .ref ao), (4, .int (nI (6 * k)))]) (lsub_c 2 rfl (lsub_c 3 rfl (lsub_c 4 rfl (lsub_c 5 rfl (lsub_c 6 rfl (lsub_n)))))) ?_
        refine g_perm (ws' := (WC adC g (u2 (u2 (u2 (u2 I 8 5 (nI (n + 1))) 0 (S a1) (-nI 1)) 4 (S a1) (nI 1)) 0 n (nI a1)) (ffl (u2 I 8 5 (nI (n + 1))) L S a1 n (ffb (u2 I 8 5 (nI (n + 1))) S a1) 16) (u1 S a1 n) ++ ([OUT ao ((nI n).toInt64) ov] : va_W)) ++ WM adM g (rpI I S a1 n) (ffl (u2 I 8 5 (nI (n + 1))) L S a1 n (ffb (u2 I 8 5 (nI (n + 1))) S a1) 16) (u1 S a1 n) (z4 (u2 Z 3 0 (nI 0)) hu2.1 hu2.2.1 hu2.2.2) Y) (List.perm_append_comm (l₁ := (WC adC g (u2 (u2 (u2 (u2 I 8 5 (nI (n + 1))) 0 (S a1) (-nI 1)) 4 (S a1) (nI 1)) 0 n (nI a1)) (ffl (u2 I 8 5 (nI (n + 1))) L S a1 n (ffb (u2 I 8 5 (nI (n + 1))) S a1) 16) (u1 S a1 n) ++ ([OUT ao ((nI n).toInt64) ov] : va_W))) (l₂ := WM adM g (rpI I S a1 n) (ffl (u2 I 8 5 (nI (n + 1))) L S a1 n (ffb (u2 I 8 5 (nI (n + 1))) S a1) 16) (u1 S a1 n) (z4 (u2 Z 3 0 (nI 0)) hu2.1 hu2.2.1 hu2.2.2) Y)) ?_
        refine g_widen (k := cells + 60) (n := slots + 1200) (by omega) (by omega) ?_
        exact kk (rpI I S a1 n) (ffl (u2 I 8 5 (nI (n + 1))) L S a1 n (ffb (u2 I 8 5 (nI (n + 1))) S a1) 16) (u1 S a1 n) (n + 1) (z4 (u2 Z 3 0 (nI 0)) hu2.1 hu2.2.1 hu2.2.2) Y hu2.1 ((nI n).toInt64) ov (hI.rp (by assumption) (by assumption)) (hp_hu2) (rfl)
      · exact absurd lg_self hc6
  · rw [nI_eq (by omega) (by omega)] at hc4; first | omega | (simp at hc4)

set_option maxHeartbeats 4000000 in
set_option maxRecDepth 100000 in
theorem lq5_2 {p : Program} {l : Launch} {e : Env} {s : State} {m : MethodId} {below : List Frame} {meth : Method} {c : Code} {Q : State → Prop} {D : va_G} {A : Nat → Prop} {b N : Nat} {xs : Nat → Int32} {adC adM : Nat → Nat} {g : Nat → ClassId} {ao k cells slots : Nat} {I : Nat → Nat → Int32} {L : Nat → Nat → Int64} {S : Nat → Nat} {n : Nat} {Z : Nat → Nat → Int32} {Y : Int64} {R : Nat → Nat} {on : Int64} {ov : Value} (HX : LX p l s m meth c A b N xs) (hk : 6 * k + 6 ≤ N) (hroom : cells + 60 ≤ 600002 ∧ slots + 1200 ≤ 7302232) (hI : Inv I L S n) (hR : R16 R) (hZ : Z 0 = fun j => nI (R j)) (a1 : Nat) (hl1 : 0 ≤ a1) (hu1 : a1 < 15) (e1 : xs (6 * k + 1) = nI a1) (h18 : n = 18) (kk : LK p l e s m below meth c Q D A b adC adM g ao k cells slots 2256) : GL p l e room_1 s m #[.ref b] below meth c Q D CL (TYS g) A 9 (WL adC adM g ao I L S Z Y on ov) cells slots 621 [(0, .ref b), (1, .ref (adC 0)), (2, .ref (adM 0)), (3, .ref ao), (4, .int (nI (6 * k)))] [] := by
  obtain ⟨X, hSB, hAf, hNC, hfl, hX, hbl, hbA, hN⟩ := HX
  subst h18
  refine g_run X KL_law_621_70 KL_law_621_70_d 627 [(0, .ref b), (1, .ref (adC 0)), (2, .ref (adM 0)), (3, .ref ao), (4, .int (nI (6 * k)))] [.int ((nI (6 * k)) + (nI 1)), .ref b, .ref (adC 0)] rfl ?_
  refine g_nm (lv' := [(0, .ref b), (1, .ref (adC 0)), (2, .ref (adM 0)), (3, .ref ao), (4, .int (nI (6 * k)))]) (st' := [.int (nI ((6 * k) + 1)), .ref b, .ref (adC 0)]) (by simp only [nI_add]) (by simp only [nI_add]) ?_
  refine g_sld X hX hbl hbA hN (v := nI a1) (by omega) e1 dL_law_627 ?_
  refine g_run X KL_law_628_71 KL_law_628_71_d 629 [(0, .ref b), (1, .ref (adC 0)), (2, .ref (adM 0)), (3, .ref ao), (4, .int (nI (6 * k)))] [.ref ao, .int (nI a1), .ref (adC 0)] rfl ?_
  refine g_callSW X hSB hAf hNC (As := [.ref (adC 0), .int (nI a1), .ref ao]) (wr := WM adM g I L S Z Y) (n := 3) (hx_replace_2 l hfl D g adC I L S a1 ao on ov (by first | assumption | omega) (hI.sp.1)) rfl w_579 w_577 w_578 w_0 (by decide +kernel) rfl ⟨Nat.le_of_ble_eq_true rfl, Nat.le_of_ble_eq_true rfl⟩ rfl rfl rfl (Nat.le_of_ble_eq_true rfl) ⟨by show cells + 1 ≤ 600002; omega, by show slots + 6 ≤ 7302232; omega⟩ dL_law_629 (fun hu1 _ => ?_)
  refine g_af (ws' := (WC adC g I L S ++ ([OUT ao on ov] : va_W)) ++ WM adM g I L S Z Y) (st' := [.int (nI 2)]) (cells' := cells + 1) (slots' := slots + 6) (pc' := 632) rfl rfl rfl rfl rfl ?_
  refine g_run X KL_law_632_72 KL_law_632_72_d 640 [(5, .int (nI 2)), (0, .ref b), (1, .ref (adC 0)), (2, .ref (adM 0)), (3, .ref ao), (4, .int (nI (6 * k)))] [.int ((nI (6 * k)) + (nI 1)), .ref b, .ref (adM 0)] rfl ?_
  refine g_nm (lv' := [(5, .int (nI 2)), (0, .ref b), (1, .ref (adC 0)), (2, .ref (adM 0)), (3, .ref ao), (4, .int (nI (6 * k)))]) (st' := [.int (nI ((6 * k) + 1)), .ref b, .ref (adM 0)]) (by simp only [nI_add]) (by simp only [nI_add]) ?_
  refine g_sld X hX hbl hbA hN (v := nI a1) (by omega) e1 dL_law_640 ?_
  refine g_perm (ws' := WM adM g I L S Z Y ++ (WC adC g I L S ++ ([OUT ao on ov] : va_W))) (List.perm_append_comm (l₁ := WM adM g I L S Z Y) (l₂ := (WC adC g I L S ++ ([OUT ao on ov] : va_W)))) ?_
  refine g_callV X hSB hAf srcW (hrc1 := (rfl : CL[8]? = some _)) (wm_mem (k := 0) (by decide)) rfl (As := [.int (nI a1)]) (wr := WC adC g I L S ++ ([OUT ao on ov] : va_W)) (n := 1) (c_X9_replace_2 l D g adM I L S Z Y a1 (by first | assumption | omega) (hI.sp)) rfl srcN hrdN w_1344 w_1341 w_1342 w_1343 w_6 (by decide +kernel) rfl ⟨Nat.le_of_ble_eq_true rfl, Nat.le_of_ble_eq_true rfl⟩ rfl rfl rfl (Nat.le_of_ble_eq_true rfl) ⟨by show cells + 1 + 0 ≤ 600002; omega, by show slots + 6 + 0 ≤ 7302232; omega⟩ dL_law_641 (fun hu2 hp_hu2 => ?_)
  refine g_af (ws' := WM adM g I L S (u2 (u2 Z 3 0 (nI 0)) 3 0 (nI 2)) Y ++ (WC adC g I L S ++ ([OUT ao on ov] : va_W))) (st' := [.int (nI 0)]) (cells' := cells + 1 + 0) (slots' := slots + 6 + 0) (pc' := 644) rfl rfl rfl rfl rfl ?_
  refine g_run X KL_law_644_73 KL_law_644_73_d 647 [(6, .int (nI 0)), (5, .int (nI 2)), (0, .ref b), (1, .ref (adC 0)), (2, .ref (adM 0)), (3, .ref ao), (4, .int (nI (6 * k)))] [.ref (adM 0)] rfl ?_
  refine g_callV X hSB hAf srcW (hrc1 := (rfl : CL[8]? = some _)) (wm_mem (k := 0) (by decide)) rfl (As := []) (wr := WC adC g I L S ++ ([OUT ao on ov] : va_W)) (n := 0) (c_X9_thrown l D g adM I L S (u2 (u2 Z 3 0 (nI 0)) 3 0 (nI 2)) Y ) rfl srcN hrdN w_1250 w_1247 w_1248 w_1249 w_6 (by decide +kernel) rfl ⟨Nat.le_of_ble_eq_true rfl, Nat.le_of_ble_eq_true rfl⟩ rfl rfl rfl (Nat.le_of_ble_eq_true rfl) ⟨by show cells + 1 + 0 + 0 ≤ 600002; omega, by show slots + 6 + 0 + 0 ≤ 7302232; omega⟩ dL_law_647 (fun hu3 hp_hu3 => ?_)
  refine g_af (ws' := WM adM g I L S (u2 (u2 Z 3 0 (nI 0)) 3 0 (nI 2)) Y ++ (WC adC g I L S ++ ([OUT ao on ov] : va_W))) (st' := [.int ((u2 (u2 Z 3 0 (nI 0)) 3 0 (nI 2)) 3 0)]) (cells' := cells + 1 + 0 + 0) (slots' := slots + 6 + 0 + 0) (pc' := 650) rfl rfl rfl rfl rfl ?_
  refine g_st (st' := [.int (nI 2)]) (by first | rfl | (simp [z4, u2]; done)) ?_
  refine g_run X KL_law_650_74 KL_law_650_74_d 652 [(6, .int (nI 0)), (5, .int (nI 2)), (0, .ref b), (1, .ref (adC 0)), (2, .ref (adM 0)), (3, .ref ao), (4, .int (nI (6 * k)))] [.int (nI 2), .int (nI 2)] rfl ?_
  refine g_icmp_eq X 657 dL_law_652 (by decide) (fun hc4 => ?_) (fun hc4 => ?_)
  · refine g_run X KL_law_657_75 KL_law_657_75_d 659 [(6, .int (nI 0)), (5, .int (nI 2)), (0, .ref b), (1, .ref (adC 0)), (2, .ref (adM 0)), (3, .ref ao), (4, .int (nI (6 * k)))] [.int (nI 2)] rfl ?_
    refine g_if_ne X 675 dL_law_659 (by decide) (fun hc5 => ?_) (fun hc5 => ?_)
    · refine g_run X KL_law_675_78 KL_law_675_78_d 2256 [(6, .int (nI 0)), (5, .int (nI 2)), (0, .ref b), (1, .ref (adC 0)), (2, .ref (adM 0)), (3, .ref ao), (4, .int (nI (6 * k)))] [] rfl ?_
      refine g_lv (lv' := [(0, .ref b), (1, .ref (adC 0)), (2, .ref (adM 0)), (3, .ref ao), (4, .int (nI (6 * k)))]) (lsub_c 2 rfl (lsub_c 3 rfl (lsub_c 4 rfl (lsub_c 5 rfl (lsub_c 6 rfl (lsub_n)))))) ?_
      refine g_perm (ws' := (WC adC g I L S ++ ([OUT ao on ov] : va_W)) ++ WM adM g I L S (u2 (u2 Z 3 0 (nI 0)) 3 0 (nI 2)) Y) (List.perm_append_comm (l₁ := (WC adC g I L S ++ ([OUT ao on ov] : va_W))) (l₂ := WM adM g I L S (u2 (u2 Z 3 0 (nI 0)) 3 0 (nI 2)) Y)) ?_
      refine g_widen (k := cells + 60) (n := slots + 1200) (by omega) (by omega) ?_
      exact kk I L S 18 (u2 (u2 Z 3 0 (nI 0)) 3 0 (nI 2)) Y R on ov (hI) (hR) (by first | exact hZ | (rw [zrow]; exact hZ) | (rw [zrow, zrow]; exact hZ))
    · rw [nz_eq (by omega)] at hc5; first | omega | (simp at hc5)
  · rw [nI_eq (by omega) (by omega)] at hc4; first | omega | (simp at hc4)

set_option maxHeartbeats 4000000 in
set_option maxRecDepth 100000 in
theorem lq5_1 {p : Program} {l : Launch} {e : Env} {s : State} {m : MethodId} {below : List Frame} {meth : Method} {c : Code} {Q : State → Prop} {D : va_G} {A : Nat → Prop} {b N : Nat} {xs : Nat → Int32} {adC adM : Nat → Nat} {g : Nat → ClassId} {ao k cells slots : Nat} {I : Nat → Nat → Int32} {L : Nat → Nat → Int64} {S : Nat → Nat} {n : Nat} {Z : Nat → Nat → Int32} {Y : Int64} {R : Nat → Nat} {on : Int64} {ov : Value} (HX : LX p l s m meth c A b N xs) (hk : 6 * k + 6 ≤ N) (hroom : cells + 60 ≤ 600002 ∧ slots + 1200 ≤ 7302232) (hI : Inv I L S n) (hR : R16 R) (hZ : Z 0 = fun j => nI (R j)) (hw : (xs (6 * k + 1)).toInt < (0 : Nat) ∨ ((15 : Nat) : Int) ≤ (xs (6 * k + 1)).toInt) (kk : LK p l e s m below meth c Q D A b adC adM g ao k cells slots 2256) : GL p l e room_1 s m #[.ref b] below meth c Q D CL (TYS g) A 9 (WL adC adM g ao I L S Z Y on ov) cells slots 621 [(0, .ref b), (1, .ref (adC 0)), (2, .ref (adM 0)), (3, .ref ao), (4, .int (nI (6 * k)))] [] := by
  obtain ⟨X, hSB, hAf, hNC, hfl, hX, hbl, hbA, hN⟩ := HX
  refine g_run X KL_law_621_70 KL_law_621_70_d 627 [(0, .ref b), (1, .ref (adC 0)), (2, .ref (adM 0)), (3, .ref ao), (4, .int (nI (6 * k)))] [.int ((nI (6 * k)) + (nI 1)), .ref b, .ref (adC 0)] rfl ?_
  refine g_nm (lv' := [(0, .ref b), (1, .ref (adC 0)), (2, .ref (adM 0)), (3, .ref ao), (4, .int (nI (6 * k)))]) (st' := [.int (nI ((6 * k) + 1)), .ref b, .ref (adC 0)]) (by simp only [nI_add]) (by simp only [nI_add]) ?_
  refine g_sld X hX hbl hbA hN (v := xs (6 * k + 1)) (by omega) rfl dL_law_627 ?_
  refine g_run X KL_law_628_71 KL_law_628_71_d 629 [(0, .ref b), (1, .ref (adC 0)), (2, .ref (adM 0)), (3, .ref ao), (4, .int (nI (6 * k)))] [.ref ao, .int (xs (6 * k + 1)), .ref (adC 0)] rfl ?_
  refine g_callSW X hSB hAf hNC (As := [.ref (adC 0), .int (xs (6 * k + 1)), .ref ao]) (wr := WM adM g I L S Z Y) (n := 3) (hx_replace_1 l hfl D g adC I L S (xs (6 * k + 1)) ao on ov (out_lt (by decide) hw)) rfl w_579 w_577 w_578 w_0 (by decide +kernel) rfl ⟨Nat.le_of_ble_eq_true rfl, Nat.le_of_ble_eq_true rfl⟩ rfl rfl rfl (Nat.le_of_ble_eq_true rfl) ⟨by show cells + 1 ≤ 600002; omega, by show slots + 6 ≤ 7302232; omega⟩ dL_law_629 (fun hu1 _ => ?_)
  refine g_af (ws' := (WC adC g I L S ++ ([OUT ao on ov] : va_W)) ++ WM adM g I L S Z Y) (st' := [.int (nI 1)]) (cells' := cells + 1) (slots' := slots + 6) (pc' := 632) rfl rfl rfl rfl rfl ?_
  refine g_run X KL_law_632_72 KL_law_632_72_d 640 [(5, .int (nI 1)), (0, .ref b), (1, .ref (adC 0)), (2, .ref (adM 0)), (3, .ref ao), (4, .int (nI (6 * k)))] [.int ((nI (6 * k)) + (nI 1)), .ref b, .ref (adM 0)] rfl ?_
  refine g_nm (lv' := [(5, .int (nI 1)), (0, .ref b), (1, .ref (adC 0)), (2, .ref (adM 0)), (3, .ref ao), (4, .int (nI (6 * k)))]) (st' := [.int (nI ((6 * k) + 1)), .ref b, .ref (adM 0)]) (by simp only [nI_add]) (by simp only [nI_add]) ?_
  refine g_sld X hX hbl hbA hN (v := xs (6 * k + 1)) (by omega) rfl dL_law_640 ?_
  refine g_perm (ws' := WM adM g I L S Z Y ++ (WC adC g I L S ++ ([OUT ao on ov] : va_W))) (List.perm_append_comm (l₁ := WM adM g I L S Z Y) (l₂ := (WC adC g I L S ++ ([OUT ao on ov] : va_W)))) ?_
  refine g_callV X hSB hAf srcW (hrc1 := (rfl : CL[8]? = some _)) (wm_mem (k := 0) (by decide)) rfl (As := [.int (xs (6 * k + 1))]) (wr := WC adC g I L S ++ ([OUT ao on ov] : va_W)) (n := 1) (c_X9_replace_1 l D g adM I L S Z Y (xs (6 * k + 1)) (out_le (by decide) hw)) rfl srcN hrdN w_1344 w_1341 w_1342 w_1343 w_6 (by decide +kernel) rfl ⟨Nat.le_of_ble_eq_true rfl, Nat.le_of_ble_eq_true rfl⟩ rfl rfl rfl (Nat.le_of_ble_eq_true rfl) ⟨by show cells + 1 + 0 ≤ 600002; omega, by show slots + 6 + 0 ≤ 7302232; omega⟩ dL_law_641 (fun hu2 hp_hu2 => ?_)
  refine g_af (ws' := WM adM g I L S (u2 (u2 Z 3 0 (nI 0)) 3 0 (nI 1)) Y ++ (WC adC g I L S ++ ([OUT ao on ov] : va_W))) (st' := [.int (nI 0)]) (cells' := cells + 1 + 0) (slots' := slots + 6 + 0) (pc' := 644) rfl rfl rfl rfl rfl ?_
  refine g_run X KL_law_644_73 KL_law_644_73_d 647 [(6, .int (nI 0)), (5, .int (nI 1)), (0, .ref b), (1, .ref (adC 0)), (2, .ref (adM 0)), (3, .ref ao), (4, .int (nI (6 * k)))] [.ref (adM 0)] rfl ?_
  refine g_callV X hSB hAf srcW (hrc1 := (rfl : CL[8]? = some _)) (wm_mem (k := 0) (by decide)) rfl (As := []) (wr := WC adC g I L S ++ ([OUT ao on ov] : va_W)) (n := 0) (c_X9_thrown l D g adM I L S (u2 (u2 Z 3 0 (nI 0)) 3 0 (nI 1)) Y ) rfl srcN hrdN w_1250 w_1247 w_1248 w_1249 w_6 (by decide +kernel) rfl ⟨Nat.le_of_ble_eq_true rfl, Nat.le_of_ble_eq_true rfl⟩ rfl rfl rfl (Nat.le_of_ble_eq_true rfl) ⟨by show cells + 1 + 0 + 0 ≤ 600002; omega, by show slots + 6 + 0 + 0 ≤ 7302232; omega⟩ dL_law_647 (fun hu3 hp_hu3 => ?_)
  refine g_af (ws' := WM adM g I L S (u2 (u2 Z 3 0 (nI 0)) 3 0 (nI 1)) Y ++ (WC adC g I L S ++ ([OUT ao on ov] : va_W))) (st' := [.int ((u2 (u2 Z 3 0 (nI 0)) 3 0 (nI 1)) 3 0)]) (cells' := cells + 1 + 0 + 0) (slots' := slots + 6 + 0 + 0) (pc' := 650) rfl rfl rfl rfl rfl ?_
  refine g_st (st' := [.int (nI 1)]) (by first | rfl | (simp [z4, u2]; done)) ?_
  refine g_run X KL_law_650_74 KL_law_650_74_d 652 [(6, .int (nI 0)), (5, .int (nI 1)), (0, .ref b), (1, .ref (adC 0)), (2, .ref (adM 0)), (3, .ref ao), (4, .int (nI (6 * k)))] [.int (nI 1), .int (nI 1)] rfl ?_
  refine g_icmp_eq X 657 dL_law_652 (by decide) (fun hc4 => ?_) (fun hc4 => ?_)
  · refine g_run X KL_law_657_75 KL_law_657_75_d 659 [(6, .int (nI 0)), (5, .int (nI 1)), (0, .ref b), (1, .ref (adC 0)), (2, .ref (adM 0)), (3, .ref ao), (4, .int (nI (6 * k)))] [.int (nI 1)] rfl ?_
    refine g_if_ne X 675 dL_law_659 (by decide) (fun hc5 => ?_) (fun hc5 => ?_)
    · refine g_run X KL_law_675_78 KL_law_675_78_d 2256 [(6, .int (nI 0)), (5, .int (nI 1)), (0, .ref b), (1, .ref (adC 0)), (2, .ref (adM 0)), (3, .ref ao), (4, .int (nI (6 * k)))] [] rfl ?_
      refine g_lv (lv' := [(0, .ref b), (1, .ref (adC 0)), (2, .ref (adM 0)), (3, .ref ao), (4, .int (nI (6 * k)))]) (lsub_c 2 rfl (lsub_c 3 rfl (lsub_c 4 rfl (lsub_c 5 rfl (lsub_c 6 rfl (lsub_n)))))) ?_
      refine g_perm (ws' := (WC adC g I L S ++ ([OUT ao on ov] : va_W)) ++ WM adM g I L S (u2 (u2 Z 3 0 (nI 0)) 3 0 (nI 1)) Y) (List.perm_append_comm (l₁ := (WC adC g I L S ++ ([OUT ao on ov] : va_W))) (l₂ := WM adM g I L S (u2 (u2 Z 3 0 (nI 0)) 3 0 (nI 1)) Y)) ?_
      refine g_widen (k := cells + 60) (n := slots + 1200) (by omega) (by omega) ?_
      exact kk I L S n (u2 (u2 Z 3 0 (nI 0)) 3 0 (nI 1)) Y R on ov (hI) (hR) (by first | exact hZ | (rw [zrow]; exact hZ) | (rw [zrow, zrow]; exact hZ))
    · rw [nz_eq (by omega)] at hc5; first | omega | (simp at hc5)
  · rw [nI_eq (by omega) (by omega)] at hc4; first | omega | (simp at hc4)

theorem lq5 {p : Program} {l : Launch} {e : Env} {s : State} {m : MethodId} {below : List Frame} {meth : Method} {c : Code} {Q : State → Prop} {D : va_G} {A : Nat → Prop} {b N : Nat} {xs : Nat → Int32} {adC adM : Nat → Nat} {g : Nat → ClassId} {ao k cells slots : Nat} {I : Nat → Nat → Int32} {L : Nat → Nat → Int64} {S : Nat → Nat} {n : Nat} {Z : Nat → Nat → Int32} {Y : Int64} {R : Nat → Nat} {on : Int64} {ov : Value} (HX : LX p l s m meth c A b N xs) (hk : 6 * k + 6 ≤ N) (hroom : cells + 60 ≤ 600002 ∧ slots + 1200 ≤ 7302232) (hI : Inv I L S n) (hR : R16 R) (hZ : Z 0 = fun j => nI (R j)) (kk : LK p l e s m below meth c Q D A b adC adM g ao k cells slots 2256) : GL p l e room_1 s m #[.ref b] below meth c Q D CL (TYS g) A 9 (WL adC adM g ao I L S Z Y on ov) cells slots 621 [(0, .ref b), (1, .ref (adC 0)), (2, .ref (adM 0)), (3, .ref ao), (4, .int (nI (6 * k)))] [] := by
  rcases rg (xs (6 * k + 1)) 0 15 with ⟨a1, hl1, hu1, e1⟩ | hw
  · by_cases hn18 : n < 18
    · exact lq5_0 HX hk hroom hI hR hZ  a1 hl1 hu1 e1 hn18 kk
    · exact lq5_2 HX hk hroom hI hR hZ  a1 hl1 hu1 e1 (by have := hI.sp.2.2.1; omega) kk
  · exact lq5_1 HX hk hroom hI hR hZ  hw kk

def KL_law_678_79 : List (Nat × Instr × Nat) := [(678, .aload_n 1, 1), (679, .aload_n 0, 1), (680, .iload 4, 2), (682, .iconst 1, 1), (683, .iadd, 1)]
theorem KL_law_678_79_d : ∀ z ∈ KL_law_678_79, decode cL_law z.1 = .ok z.2 := by decide +kernel
def KL_law_685_80 : List (Nat × Instr × Nat) := [(685, .aload_n 3, 1)]
theorem KL_law_685_80_d : ∀ z ∈ KL_law_685_80, decode cL_law z.1 = .ok z.2 := by decide +kernel
def KL_law_689_81 : List (Nat × Instr × Nat) := [(689, .istore 5, 2), (691, .aload_n 2, 1), (692, .aload_n 0, 1), (693, .iload 4, 2), (695, .iconst 1, 1), (696, .iadd, 1)]
theorem KL_law_689_81_d : ∀ z ∈ KL_law_689_81, decode cL_law z.1 = .ok z.2 := by decide +kernel
def KL_law_701_82 : List (Nat × Instr × Nat) := [(701, .istore 6, 2), (703, .aload_n 2, 1)]
theorem KL_law_701_82_d : ∀ z ∈ KL_law_701_82, decode cL_law z.1 = .ok z.2 := by decide +kernel
def KL_law_707_83 : List (Nat × Instr × Nat) := [(707, .iload 5, 2)]
theorem KL_law_707_83_d : ∀ z ∈ KL_law_707_83, decode cL_law z.1 = .ok z.2 := by decide +kernel
def KL_law_714_84 : List (Nat × Instr × Nat) := [(714, .iload 5, 2)]
theorem KL_law_714_84_d : ∀ z ∈ KL_law_714_84, decode cL_law z.1 = .ok z.2 := by decide +kernel
def KL_law_719_85 : List (Nat × Instr × Nat) := [(719, .aload_n 3, 1)]
theorem KL_law_719_85_d : ∀ z ∈ KL_law_719_85, decode cL_law z.1 = .ok z.2 := by decide +kernel
def KL_law_723_86 : List (Nat × Instr × Nat) := [(723, .iload 6, 2), (725, .i2l, 1), (726, .lcmp, 1)]
theorem KL_law_723_86_d : ∀ z ∈ KL_law_723_86, decode cL_law z.1 = .ok z.2 := by decide +kernel
def KL_law_732_87 : List (Nat × Instr × Nat) := [(732, .goto 1524, 3)]
theorem KL_law_732_87_d : ∀ z ∈ KL_law_732_87, decode cL_law z.1 = .ok z.2 := by decide +kernel
set_option maxHeartbeats 4000000 in
set_option maxRecDepth 100000 in
theorem lq6_0 {p : Program} {l : Launch} {e : Env} {s : State} {m : MethodId} {below : List Frame} {meth : Method} {c : Code} {Q : State → Prop} {D : va_G} {A : Nat → Prop} {b N : Nat} {xs : Nat → Int32} {adC adM : Nat → Nat} {g : Nat → ClassId} {ao k cells slots : Nat} {I : Nat → Nat → Int32} {L : Nat → Nat → Int64} {S : Nat → Nat} {n : Nat} {Z : Nat → Nat → Int32} {Y : Int64} {R : Nat → Nat} {on : Int64} {ov : Value} (HX : LX p l s m meth c A b N xs) (hk : 6 * k + 6 ≤ N) (hroom : cells + 60 ≤ 600002 ∧ slots + 1200 ≤ 7302232) (hI : Inv I L S n) (hR : R16 R) (hZ : Z 0 = fun j => nI (R j)) (a1 : Nat) (hl1 : 1 ≤ a1) (hu1 : a1 < 100) (e1 : xs (6 * k + 1) = nI a1) (kk : LK p l e s m below meth c Q D A b adC adM g ao k cells slots 2256) : GL p l e room_1 s m #[.ref b] below meth c Q D CL (TYS g) A 9 (WL adC adM g ao I L S Z Y on ov) cells slots 678 [(0, .ref b), (1, .ref (adC 0)), (2, .ref (adM 0)), (3, .ref ao), (4, .int (nI (6 * k)))] [] := by
  obtain ⟨X, hSB, hAf, hNC, hfl, hX, hbl, hbA, hN⟩ := HX
  refine g_run X KL_law_678_79 KL_law_678_79_d 684 [(0, .ref b), (1, .ref (adC 0)), (2, .ref (adM 0)), (3, .ref ao), (4, .int (nI (6 * k)))] [.int ((nI (6 * k)) + (nI 1)), .ref b, .ref (adC 0)] rfl ?_
  refine g_nm (lv' := [(0, .ref b), (1, .ref (adC 0)), (2, .ref (adM 0)), (3, .ref ao), (4, .int (nI (6 * k)))]) (st' := [.int (nI ((6 * k) + 1)), .ref b, .ref (adC 0)]) (by simp only [nI_add]) (by simp only [nI_add]) ?_
  refine g_sld X hX hbl hbA hN (v := nI a1) (by omega) e1 dL_law_684 ?_
  refine g_run X KL_law_685_80 KL_law_685_80_d 686 [(0, .ref b), (1, .ref (adC 0)), (2, .ref (adM 0)), (3, .ref ao), (4, .int (nI (6 * k)))] [.ref ao, .int (nI a1), .ref (adC 0)] rfl ?_
  refine g_callSW X hSB hAf hNC (As := [.ref (adC 0), .int (nI a1), .ref ao]) (wr := WM adM g I L S Z Y) (n := 3) (hc_limit l D g adC I L S a1 ao on ov (by first | assumption | omega) (by first | assumption | omega)) rfl w_596 w_594 w_595 w_0 (by decide +kernel) rfl ⟨Nat.le_of_ble_eq_true rfl, Nat.le_of_ble_eq_true rfl⟩ rfl rfl rfl (Nat.le_of_ble_eq_true rfl) ⟨by show cells + 0 ≤ 600002; omega, by show slots + 0 ≤ 7302232; omega⟩ dL_law_686 (fun hu1 _ => ?_)
  refine g_af (ws' := (WC adC g (u2 I 8 0 (nI a1)) L S ++ ([OUT ao ((I 8 0).toInt64) ov] : va_W)) ++ WM adM g I L S Z Y) (st' := [.int (nI 0)]) (cells' := cells + 0) (slots' := slots + 0) (pc' := 689) rfl rfl rfl rfl rfl ?_
  refine g_run X KL_law_689_81 KL_law_689_81_d 697 [(5, .int (nI 0)), (0, .ref b), (1, .ref (adC 0)), (2, .ref (adM 0)), (3, .ref ao), (4, .int (nI (6 * k)))] [.int ((nI (6 * k)) + (nI 1)), .ref b, .ref (adM 0)] rfl ?_
  refine g_nm (lv' := [(5, .int (nI 0)), (0, .ref b), (1, .ref (adC 0)), (2, .ref (adM 0)), (3, .ref ao), (4, .int (nI (6 * k)))]) (st' := [.int (nI ((6 * k) + 1)), .ref b, .ref (adM 0)]) (by simp only [nI_add]) (by simp only [nI_add]) ?_
  refine g_sld X hX hbl hbA hN (v := nI a1) (by omega) e1 dL_law_697 ?_
  refine g_perm (ws' := WM adM g I L S Z Y ++ (WC adC g (u2 I 8 0 (nI a1)) L S ++ ([OUT ao ((I 8 0).toInt64) ov] : va_W))) (List.perm_append_comm (l₁ := WM adM g I L S Z Y) (l₂ := (WC adC g (u2 I 8 0 (nI a1)) L S ++ ([OUT ao ((I 8 0).toInt64) ov] : va_W)))) ?_
  refine g_callV X hSB hAf srcW (hrc1 := (rfl : CL[8]? = some _)) (wm_mem (k := 0) (by decide)) rfl (As := [.int (nI a1)]) (wr := WC adC g (u2 I 8 0 (nI a1)) L S ++ ([OUT ao ((I 8 0).toInt64) ov] : va_W)) (n := 1) (c_X9_limit l D g adM I L S Z Y a1 (by first | assumption | omega) (by first | assumption | omega)) rfl srcN hrdN w_1356 w_1353 w_1354 w_1355 w_6 (by decide +kernel) rfl ⟨Nat.le_of_ble_eq_true rfl, Nat.le_of_ble_eq_true rfl⟩ rfl rfl rfl (Nat.le_of_ble_eq_true rfl) ⟨by show cells + 0 + 0 ≤ 600002; omega, by show slots + 0 + 0 ≤ 7302232; omega⟩ dL_law_698 (fun hu2 hp_hu2 => ?_)
  refine g_af (ws' := WM adM g (u2 I 8 0 (nI a1)) L S (u2 Z 3 0 (nI 0)) Y ++ (WC adC g (u2 I 8 0 (nI a1)) L S ++ ([OUT ao ((I 8 0).toInt64) ov] : va_W))) (st' := [.int (I 8 0)]) (cells' := cells + 0 + 0) (slots' := slots + 0 + 0) (pc' := 701) rfl rfl rfl rfl rfl ?_
  refine g_run X KL_law_701_82 KL_law_701_82_d 704 [(6, .int (I 8 0)), (5, .int (nI 0)), (0, .ref b), (1, .ref (adC 0)), (2, .ref (adM 0)), (3, .ref ao), (4, .int (nI (6 * k)))] [.ref (adM 0)] rfl ?_
  refine g_callV X hSB hAf srcW (hrc1 := (rfl : CL[8]? = some _)) (wm_mem (k := 0) (by decide)) rfl (As := []) (wr := WC adC g (u2 I 8 0 (nI a1)) L S ++ ([OUT ao ((I 8 0).toInt64) ov] : va_W)) (n := 0) (c_X9_thrown l D g adM (u2 I 8 0 (nI a1)) L S (u2 Z 3 0 (nI 0)) Y ) rfl srcN hrdN w_1250 w_1247 w_1248 w_1249 w_6 (by decide +kernel) rfl ⟨Nat.le_of_ble_eq_true rfl, Nat.le_of_ble_eq_true rfl⟩ rfl rfl rfl (Nat.le_of_ble_eq_true rfl) ⟨by show cells + 0 + 0 + 0 ≤ 600002; omega, by show slots + 0 + 0 + 0 ≤ 7302232; omega⟩ dL_law_704 (fun hu3 hp_hu3 => ?_)
  refine g_af (ws' := WM adM g (u2 I 8 0 (nI a1)) L S (u2 Z 3 0 (nI 0)) Y ++ (WC adC g (u2 I 8 0 (nI a1)) L S ++ ([OUT ao ((I 8 0).toInt64) ov] : va_W))) (st' := [.int ((u2 Z 3 0 (nI 0)) 3 0)]) (cells' := cells + 0 + 0 + 0) (slots' := slots + 0 + 0 + 0) (pc' := 707) rfl rfl rfl rfl rfl ?_
  refine g_st (st' := [.int (nI 0)]) (by first | rfl | (simp [z4, u2]; done)) ?_
  refine g_run X KL_law_707_83 KL_law_707_83_d 709 [(6, .int (I 8 0)), (5, .int (nI 0)), (0, .ref b), (1, .ref (adC 0)), (2, .ref (adM 0)), (3, .ref ao), (4, .int (nI (6 * k)))] [.int (nI 0), .int (nI 0)] rfl ?_
  refine g_icmp_eq X 714 dL_law_709 (by decide) (fun hc4 => ?_) (fun hc4 => ?_)
  · refine g_run X KL_law_714_84 KL_law_714_84_d 716 [(6, .int (I 8 0)), (5, .int (nI 0)), (0, .ref b), (1, .ref (adC 0)), (2, .ref (adM 0)), (3, .ref ao), (4, .int (nI (6 * k)))] [.int (nI 0)] rfl ?_
    refine g_if_ne X 732 dL_law_716 (by decide) (fun hc5 => ?_) (fun hc5 => ?_)
    · rw [nz_eq (by omega)] at hc5; first | omega | (simp at hc5)
    · refine g_run X KL_law_719_85 KL_law_719_85_d 720 [(6, .int (I 8 0)), (5, .int (nI 0)), (0, .ref b), (1, .ref (adC 0)), (2, .ref (adM 0)), (3, .ref ao), (4, .int (nI (6 * k)))] [.ref ao] rfl ?_
      refine g_getN X srcW (host := "ChipfieldLaw") (v := .long ((I 8 0).toInt64)) hinX6 rfl 0 (by decide) (nw_in n_489 rfl) rfl (List.mem_append_right _ (List.mem_append_right _ List.mem_cons_self)) rfl dL_law_720 ?_
      refine g_run X KL_law_723_86 KL_law_723_86_d 727 [(6, .int (I 8 0)), (5, .int (nI 0)), (0, .ref b), (1, .ref (adC 0)), (2, .ref (adM 0)), (3, .ref ao), (4, .int (nI (6 * k)))] [.int (lg_cmp ((I 8 0).toInt64) ((I 8 0).toInt64))] rfl ?_
      refine g_if_eq X 732 dL_law_727 (by decide) (fun hc6 => ?_) (fun hc6 => ?_)
      · refine g_run X KL_law_732_87 KL_law_732_87_d 2256 [(6, .int (I 8 0)), (5, .int (nI 0)), (0, .ref b), (1, .ref (adC 0)), (2, .ref (adM 0)), (3, .ref ao), (4, .int (nI (6 * k)))] [] rfl ?_
        refine g_lv (lv' := [(0, .ref b), (1, .ref (adC 0)), (2, .ref (adM 0)), (3, .ref ao), (4, .int (nI (6 * k)))]) (lsub_c 2 rfl (lsub_c 3 rfl (lsub_c 4 rfl (lsub_c 5 rfl (lsub_c 6 rfl (lsub_n)))))) ?_
        refine g_perm (ws' := (WC adC g (u2 I 8 0 (nI a1)) L S ++ ([OUT ao ((I 8 0).toInt64) ov] : va_W)) ++ WM adM g (u2 I 8 0 (nI a1)) L S (u2 Z 3 0 (nI 0)) Y) (List.perm_append_comm (l₁ := (WC adC g (u2 I 8 0 (nI a1)) L S ++ ([OUT ao ((I 8 0).toInt64) ov] : va_W))) (l₂ := WM adM g (u2 I 8 0 (nI a1)) L S (u2 Z 3 0 (nI 0)) Y)) ?_
        refine g_widen (k := cells + 60) (n := slots + 1200) (by omega) (by omega) ?_
        exact kk (u2 I 8 0 (nI a1)) L S n (u2 Z 3 0 (nI 0)) Y R ((I 8 0).toInt64) ov (hI.u8 (by decide) (by decide)) (hR) (by first | exact hZ | (rw [zrow]; exact hZ) | (rw [zrow, zrow]; exact hZ))
      · exact absurd lg_self hc6
  · rw [nI_eq (by omega) (by omega)] at hc4; first | omega | (simp at hc4)

set_option maxHeartbeats 4000000 in
set_option maxRecDepth 100000 in
theorem lq6_1 {p : Program} {l : Launch} {e : Env} {s : State} {m : MethodId} {below : List Frame} {meth : Method} {c : Code} {Q : State → Prop} {D : va_G} {A : Nat → Prop} {b N : Nat} {xs : Nat → Int32} {adC adM : Nat → Nat} {g : Nat → ClassId} {ao k cells slots : Nat} {I : Nat → Nat → Int32} {L : Nat → Nat → Int64} {S : Nat → Nat} {n : Nat} {Z : Nat → Nat → Int32} {Y : Int64} {R : Nat → Nat} {on : Int64} {ov : Value} (HX : LX p l s m meth c A b N xs) (hk : 6 * k + 6 ≤ N) (hroom : cells + 60 ≤ 600002 ∧ slots + 1200 ≤ 7302232) (hI : Inv I L S n) (hR : R16 R) (hZ : Z 0 = fun j => nI (R j)) (hw : (xs (6 * k + 1)).toInt < (1 : Nat) ∨ ((100 : Nat) : Int) ≤ (xs (6 * k + 1)).toInt) (kk : LK p l e s m below meth c Q D A b adC adM g ao k cells slots 2256) : GL p l e room_1 s m #[.ref b] below meth c Q D CL (TYS g) A 9 (WL adC adM g ao I L S Z Y on ov) cells slots 678 [(0, .ref b), (1, .ref (adC 0)), (2, .ref (adM 0)), (3, .ref ao), (4, .int (nI (6 * k)))] [] := by
  obtain ⟨X, hSB, hAf, hNC, hfl, hX, hbl, hbA, hN⟩ := HX
  refine g_run X KL_law_678_79 KL_law_678_79_d 684 [(0, .ref b), (1, .ref (adC 0)), (2, .ref (adM 0)), (3, .ref ao), (4, .int (nI (6 * k)))] [.int ((nI (6 * k)) + (nI 1)), .ref b, .ref (adC 0)] rfl ?_
  refine g_nm (lv' := [(0, .ref b), (1, .ref (adC 0)), (2, .ref (adM 0)), (3, .ref ao), (4, .int (nI (6 * k)))]) (st' := [.int (nI ((6 * k) + 1)), .ref b, .ref (adC 0)]) (by simp only [nI_add]) (by simp only [nI_add]) ?_
  refine g_sld X hX hbl hbA hN (v := xs (6 * k + 1)) (by omega) rfl dL_law_684 ?_
  refine g_run X KL_law_685_80 KL_law_685_80_d 686 [(0, .ref b), (1, .ref (adC 0)), (2, .ref (adM 0)), (3, .ref ao), (4, .int (nI (6 * k)))] [.ref ao, .int (xs (6 * k + 1)), .ref (adC 0)] rfl ?_
  refine g_callSW X hSB hAf hNC (As := [.ref (adC 0), .int (xs (6 * k + 1)), .ref ao]) (wr := WM adM g I L S Z Y) (n := 3) (hx_limit_1 l hfl D g adC I L S (xs (6 * k + 1)) ao on ov (out_lo (by decide) (by decide) hw)) rfl w_596 w_594 w_595 w_0 (by decide +kernel) rfl ⟨Nat.le_of_ble_eq_true rfl, Nat.le_of_ble_eq_true rfl⟩ rfl rfl rfl (Nat.le_of_ble_eq_true rfl) ⟨by show cells + 1 ≤ 600002; omega, by show slots + 6 ≤ 7302232; omega⟩ dL_law_686 (fun hu1 _ => ?_)
  refine g_af (ws' := (WC adC g I L S ++ ([OUT ao on ov] : va_W)) ++ WM adM g I L S Z Y) (st' := [.int (nI 1)]) (cells' := cells + 1) (slots' := slots + 6) (pc' := 689) rfl rfl rfl rfl rfl ?_
  refine g_run X KL_law_689_81 KL_law_689_81_d 697 [(5, .int (nI 1)), (0, .ref b), (1, .ref (adC 0)), (2, .ref (adM 0)), (3, .ref ao), (4, .int (nI (6 * k)))] [.int ((nI (6 * k)) + (nI 1)), .ref b, .ref (adM 0)] rfl ?_
  refine g_nm (lv' := [(5, .int (nI 1)), (0, .ref b), (1, .ref (adC 0)), (2, .ref (adM 0)), (3, .ref ao), (4, .int (nI (6 * k)))]) (st' := [.int (nI ((6 * k) + 1)), .ref b, .ref (adM 0)]) (by simp only [nI_add]) (by simp only [nI_add]) ?_
  refine g_sld X hX hbl hbA hN (v := xs (6 * k + 1)) (by omega) rfl dL_law_697 ?_
  refine g_perm (ws' := WM adM g I L S Z Y ++ (WC adC g I L S ++ ([OUT ao on ov] : va_W))) (List.perm_append_comm (l₁ := WM adM g I L S Z Y) (l₂ := (WC adC g I L S ++ ([OUT ao on ov] : va_W)))) ?_
  refine g_callV X hSB hAf srcW (hrc1 := (rfl : CL[8]? = some _)) (wm_mem (k := 0) (by decide)) rfl (As := [.int (xs (6 * k + 1))]) (wr := WC adC g I L S ++ ([OUT ao on ov] : va_W)) (n := 1) (c_X9_limit_1 l D g adM I L S Z Y (xs (6 * k + 1)) (out_lo (by decide) (by decide) hw)) rfl srcN hrdN w_1356 w_1353 w_1354 w_1355 w_6 (by decide +kernel) rfl ⟨Nat.le_of_ble_eq_true rfl, Nat.le_of_ble_eq_true rfl⟩ rfl rfl rfl (Nat.le_of_ble_eq_true rfl) ⟨by show cells + 1 + 0 ≤ 600002; omega, by show slots + 6 + 0 ≤ 7302232; omega⟩ dL_law_698 (fun hu2 hp_hu2 => ?_)
  refine g_af (ws' := WM adM g I L S (u2 (u2 Z 3 0 (nI 0)) 3 0 (nI 1)) Y ++ (WC adC g I L S ++ ([OUT ao on ov] : va_W))) (st' := [.int (nI 0)]) (cells' := cells + 1 + 0) (slots' := slots + 6 + 0) (pc' := 701) rfl rfl rfl rfl rfl ?_
  refine g_run X KL_law_701_82 KL_law_701_82_d 704 [(6, .int (nI 0)), (5, .int (nI 1)), (0, .ref b), (1, .ref (adC 0)), (2, .ref (adM 0)), (3, .ref ao), (4, .int (nI (6 * k)))] [.ref (adM 0)] rfl ?_
  refine g_callV X hSB hAf srcW (hrc1 := (rfl : CL[8]? = some _)) (wm_mem (k := 0) (by decide)) rfl (As := []) (wr := WC adC g I L S ++ ([OUT ao on ov] : va_W)) (n := 0) (c_X9_thrown l D g adM I L S (u2 (u2 Z 3 0 (nI 0)) 3 0 (nI 1)) Y ) rfl srcN hrdN w_1250 w_1247 w_1248 w_1249 w_6 (by decide +kernel) rfl ⟨Nat.le_of_ble_eq_true rfl, Nat.le_of_ble_eq_true rfl⟩ rfl rfl rfl (Nat.le_of_ble_eq_true rfl) ⟨by show cells + 1 + 0 + 0 ≤ 600002; omega, by show slots + 6 + 0 + 0 ≤ 7302232; omega⟩ dL_law_704 (fun hu3 hp_hu3 => ?_)
  refine g_af (ws' := WM adM g I L S (u2 (u2 Z 3 0 (nI 0)) 3 0 (nI 1)) Y ++ (WC adC g I L S ++ ([OUT ao on ov] : va_W))) (st' := [.int ((u2 (u2 Z 3 0 (nI 0)) 3 0 (nI 1)) 3 0)]) (cells' := cells + 1 + 0 + 0) (slots' := slots + 6 + 0 + 0) (pc' := 707) rfl rfl rfl rfl rfl ?_
  refine g_st (st' := [.int (nI 1)]) (by first | rfl | (simp [z4, u2]; done)) ?_
  refine g_run X KL_law_707_83 KL_law_707_83_d 709 [(6, .int (nI 0)), (5, .int (nI 1)), (0, .ref b), (1, .ref (adC 0)), (2, .ref (adM 0)), (3, .ref ao), (4, .int (nI (6 * k)))] [.int (nI 1), .int (nI 1)] rfl ?_
  refine g_icmp_eq X 714 dL_law_709 (by decide) (fun hc4 => ?_) (fun hc4 => ?_)
  · refine g_run X KL_law_714_84 KL_law_714_84_d 716 [(6, .int (nI 0)), (5, .int (nI 1)), (0, .ref b), (1, .ref (adC 0)), (2, .ref (adM 0)), (3, .ref ao), (4, .int (nI (6 * k)))] [.int (nI 1)] rfl ?_
    refine g_if_ne X 732 dL_law_716 (by decide) (fun hc5 => ?_) (fun hc5 => ?_)
    · refine g_run X KL_law_732_87 KL_law_732_87_d 2256 [(6, .int (nI 0)), (5, .int (nI 1)), (0, .ref b), (1, .ref (adC 0)), (2, .ref (adM 0)), (3, .ref ao), (4, .int (nI (6 * k)))] [] rfl ?_
      refine g_lv (lv' := [(0, .ref b), (1, .ref (adC 0)), (2, .ref (adM 0)), (3, .ref ao), (4, .int (nI (6 * k)))]) (lsub_c 2 rfl (lsub_c 3 rfl (lsub_c 4 rfl (lsub_c 5 rfl (lsub_c 6 rfl (lsub_n)))))) ?_
      refine g_perm (ws' := (WC adC g I L S ++ ([OUT ao on ov] : va_W)) ++ WM adM g I L S (u2 (u2 Z 3 0 (nI 0)) 3 0 (nI 1)) Y) (List.perm_append_comm (l₁ := (WC adC g I L S ++ ([OUT ao on ov] : va_W))) (l₂ := WM adM g I L S (u2 (u2 Z 3 0 (nI 0)) 3 0 (nI 1)) Y)) ?_
      refine g_widen (k := cells + 60) (n := slots + 1200) (by omega) (by omega) ?_
      exact kk I L S n (u2 (u2 Z 3 0 (nI 0)) 3 0 (nI 1)) Y R on ov (hI) (hR) (by first | exact hZ | (rw [zrow]; exact hZ) | (rw [zrow, zrow]; exact hZ))
    · rw [nz_eq (by omega)] at hc5; first | omega | (simp at hc5)
  · rw [nI_eq (by omega) (by omega)] at hc4; first | omega | (simp at hc4)

theorem lq6 {p : Program} {l : Launch} {e : Env} {s : State} {m : MethodId} {below : List Frame} {meth : Method} {c : Code} {Q : State → Prop} {D : va_G} {A : Nat → Prop} {b N : Nat} {xs : Nat → Int32} {adC adM : Nat → Nat} {g : Nat → ClassId} {ao k cells slots : Nat} {I : Nat → Nat → Int32} {L : Nat → Nat → Int64} {S : Nat → Nat} {n : Nat} {Z : Nat → Nat → Int32} {Y : Int64} {R : Nat → Nat} {on : Int64} {ov : Value} (HX : LX p l s m meth c A b N xs) (hk : 6 * k + 6 ≤ N) (hroom : cells + 60 ≤ 600002 ∧ slots + 1200 ≤ 7302232) (hI : Inv I L S n) (hR : R16 R) (hZ : Z 0 = fun j => nI (R j)) (kk : LK p l e s m below meth c Q D A b adC adM g ao k cells slots 2256) : GL p l e room_1 s m #[.ref b] below meth c Q D CL (TYS g) A 9 (WL adC adM g ao I L S Z Y on ov) cells slots 678 [(0, .ref b), (1, .ref (adC 0)), (2, .ref (adM 0)), (3, .ref ao), (4, .int (nI (6 * k)))] [] := by
  rcases rg (xs (6 * k + 1)) 1 100 with ⟨a1, hl1, hu1, e1⟩ | hw
  · exact lq6_0 HX hk hroom hI hR hZ  a1 hl1 hu1 e1 kk
  · exact lq6_1 HX hk hroom hI hR hZ  hw kk

def KL_law_735_88 : List (Nat × Instr × Nat) := [(735, .aload_n 1, 1), (736, .aload_n 0, 1), (737, .iload 4, 2), (739, .iconst 1, 1), (740, .iadd, 1)]
theorem KL_law_735_88_d : ∀ z ∈ KL_law_735_88, decode cL_law z.1 = .ok z.2 := by decide +kernel
def KL_law_742_89 : List (Nat × Instr × Nat) := [(742, .aload_n 3, 1)]
theorem KL_law_742_89_d : ∀ z ∈ KL_law_742_89, decode cL_law z.1 = .ok z.2 := by decide +kernel
def KL_law_746_90 : List (Nat × Instr × Nat) := [(746, .istore 5, 2), (748, .aload_n 2, 1), (749, .aload_n 0, 1), (750, .iload 4, 2), (752, .iconst 1, 1), (753, .iadd, 1)]
theorem KL_law_746_90_d : ∀ z ∈ KL_law_746_90, decode cL_law z.1 = .ok z.2 := by decide +kernel
def KL_law_758_91 : List (Nat × Instr × Nat) := [(758, .istore 6, 2), (760, .aload_n 2, 1)]
theorem KL_law_758_91_d : ∀ z ∈ KL_law_758_91, decode cL_law z.1 = .ok z.2 := by decide +kernel
def KL_law_764_92 : List (Nat × Instr × Nat) := [(764, .iload 5, 2)]
theorem KL_law_764_92_d : ∀ z ∈ KL_law_764_92, decode cL_law z.1 = .ok z.2 := by decide +kernel
def KL_law_771_93 : List (Nat × Instr × Nat) := [(771, .iload 5, 2)]
theorem KL_law_771_93_d : ∀ z ∈ KL_law_771_93, decode cL_law z.1 = .ok z.2 := by decide +kernel
def KL_law_776_94 : List (Nat × Instr × Nat) := [(776, .aload_n 3, 1)]
theorem KL_law_776_94_d : ∀ z ∈ KL_law_776_94, decode cL_law z.1 = .ok z.2 := by decide +kernel
def KL_law_780_95 : List (Nat × Instr × Nat) := [(780, .iload 6, 2), (782, .i2l, 1), (783, .lcmp, 1)]
theorem KL_law_780_95_d : ∀ z ∈ KL_law_780_95, decode cL_law z.1 = .ok z.2 := by decide +kernel
def KL_law_789_96 : List (Nat × Instr × Nat) := [(789, .goto 1467, 3)]
theorem KL_law_789_96_d : ∀ z ∈ KL_law_789_96, decode cL_law z.1 = .ok z.2 := by decide +kernel
set_option maxHeartbeats 4000000 in
set_option maxRecDepth 100000 in
theorem lq7_0 {p : Program} {l : Launch} {e : Env} {s : State} {m : MethodId} {below : List Frame} {meth : Method} {c : Code} {Q : State → Prop} {D : va_G} {A : Nat → Prop} {b N : Nat} {xs : Nat → Int32} {adC adM : Nat → Nat} {g : Nat → ClassId} {ao k cells slots : Nat} {I : Nat → Nat → Int32} {L : Nat → Nat → Int64} {S : Nat → Nat} {n : Nat} {Z : Nat → Nat → Int32} {Y : Int64} {R : Nat → Nat} {on : Int64} {ov : Value} (HX : LX p l s m meth c A b N xs) (hk : 6 * k + 6 ≤ N) (hroom : cells + 60 ≤ 600002 ∧ slots + 1200 ≤ 7302232) (hI : Inv I L S n) (hR : R16 R) (hZ : Z 0 = fun j => nI (R j)) (a1 : Nat) (hl1 : 0 ≤ a1) (hu1 : a1 < 16) (e1 : xs (6 * k + 1) = nI a1) (kk : LK p l e s m below meth c Q D A b adC adM g ao k cells slots 2256) : GL p l e room_1 s m #[.ref b] below meth c Q D CL (TYS g) A 9 (WL adC adM g ao I L S Z Y on ov) cells slots 735 [(0, .ref b), (1, .ref (adC 0)), (2, .ref (adM 0)), (3, .ref ao), (4, .int (nI (6 * k)))] [] := by
  obtain ⟨X, hSB, hAf, hNC, hfl, hX, hbl, hbA, hN⟩ := HX
  refine g_run X KL_law_735_88 KL_law_735_88_d 741 [(0, .ref b), (1, .ref (adC 0)), (2, .ref (adM 0)), (3, .ref ao), (4, .int (nI (6 * k)))] [.int ((nI (6 * k)) + (nI 1)), .ref b, .ref (adC 0)] rfl ?_
  refine g_nm (lv' := [(0, .ref b), (1, .ref (adC 0)), (2, .ref (adM 0)), (3, .ref ao), (4, .int (nI (6 * k)))]) (st' := [.int (nI ((6 * k) + 1)), .ref b, .ref (adC 0)]) (by simp only [nI_add]) (by simp only [nI_add]) ?_
  refine g_sld X hX hbl hbA hN (v := nI a1) (by omega) e1 dL_law_741 ?_
  refine g_run X KL_law_742_89 KL_law_742_89_d 743 [(0, .ref b), (1, .ref (adC 0)), (2, .ref (adM 0)), (3, .ref ao), (4, .int (nI (6 * k)))] [.ref ao, .int (nI a1), .ref (adC 0)] rfl ?_
  refine g_callSW X hSB hAf hNC (As := [.ref (adC 0), .int (nI a1), .ref ao]) (wr := WM adM g I L S Z Y) (n := 3) (hc_fetch l D g adC I L S a1 ao on ov (hI.s18) (by first | assumption | omega)) rfl w_604 w_602 w_603 w_0 (by decide +kernel) rfl ⟨Nat.le_of_ble_eq_true rfl, Nat.le_of_ble_eq_true rfl⟩ rfl rfl rfl (Nat.le_of_ble_eq_true rfl) ⟨by show cells + 0 ≤ 600002; omega, by show slots + 0 ≤ 7302232; omega⟩ dL_law_743 (fun hu1 _ => ?_)
  refine g_af (ws' := (WC adC g (ftA I L S a1) (ftL I L S a1) S ++ ([OUT ao ((wrO (rwd I L S a1 15) (oL (mwd I L S a1))).toInt64) ov] : va_W)) ++ WM adM g I L S Z Y) (st' := [.int (nI 0)]) (cells' := cells + 0) (slots' := slots + 0) (pc' := 746) rfl rfl rfl rfl rfl ?_
  refine g_run X KL_law_746_90 KL_law_746_90_d 754 [(5, .int (nI 0)), (0, .ref b), (1, .ref (adC 0)), (2, .ref (adM 0)), (3, .ref ao), (4, .int (nI (6 * k)))] [.int ((nI (6 * k)) + (nI 1)), .ref b, .ref (adM 0)] rfl ?_
  refine g_nm (lv' := [(5, .int (nI 0)), (0, .ref b), (1, .ref (adC 0)), (2, .ref (adM 0)), (3, .ref ao), (4, .int (nI (6 * k)))]) (st' := [.int (nI ((6 * k) + 1)), .ref b, .ref (adM 0)]) (by simp only [nI_add]) (by simp only [nI_add]) ?_
  refine g_sld X hX hbl hbA hN (v := nI a1) (by omega) e1 dL_law_754 ?_
  refine g_perm (ws' := WM adM g I L S Z Y ++ (WC adC g (ftA I L S a1) (ftL I L S a1) S ++ ([OUT ao ((wrO (rwd I L S a1 15) (oL (mwd I L S a1))).toInt64) ov] : va_W))) (List.perm_append_comm (l₁ := WM adM g I L S Z Y) (l₂ := (WC adC g (ftA I L S a1) (ftL I L S a1) S ++ ([OUT ao ((wrO (rwd I L S a1 15) (oL (mwd I L S a1))).toInt64) ov] : va_W)))) ?_
  refine g_callV X hSB hAf srcW (hrc1 := (rfl : CL[8]? = some _)) (wm_mem (k := 0) (by decide)) rfl (As := [.int (nI a1)]) (wr := WC adC g (ftA I L S a1) (ftL I L S a1) S ++ ([OUT ao ((wrO (rwd I L S a1 15) (oL (mwd I L S a1))).toInt64) ov] : va_W)) (n := 1) (c_X9_fetch l D g adM I L S Z Y a1 R (hR) (hZ) (hI.s18) (hI.sij) (hI.ky) (hI.b) (by first | assumption | omega)) rfl srcN hrdN w_1360 w_1357 w_1358 w_1359 w_6 (by decide +kernel) rfl ⟨Nat.le_of_ble_eq_true rfl, Nat.le_of_ble_eq_true rfl⟩ rfl rfl rfl (Nat.le_of_ble_eq_true rfl) ⟨by show cells + 0 + 1 ≤ 600002; omega, by show slots + 0 + 15 ≤ 7302232; omega⟩ dL_law_755 (fun hu2 hp_hu2 => ?_)
  refine g_af (ws' := WM adM g (ftA I L S a1) (ftL I L S a1) S (z4 (u2 Z 3 0 (nI 0)) hu2.1 hu2.2 (mdA (Z 2) (mwd I L S a1))) Y ++ (WC adC g (ftA I L S a1) (ftL I L S a1) S ++ ([OUT ao ((wrO (rwd I L S a1 15) (oL (mwd I L S a1))).toInt64) ov] : va_W))) (st' := [.int (wrO (rwd I L S a1 15) (oL (mwd I L S a1)))]) (cells' := cells + 0 + 1) (slots' := slots + 0 + 15) (pc' := 758) rfl rfl rfl rfl rfl ?_
  refine g_run X KL_law_758_91 KL_law_758_91_d 761 [(6, .int (wrO (rwd I L S a1 15) (oL (mwd I L S a1)))), (5, .int (nI 0)), (0, .ref b), (1, .ref (adC 0)), (2, .ref (adM 0)), (3, .ref ao), (4, .int (nI (6 * k)))] [.ref (adM 0)] rfl ?_
  refine g_callV X hSB hAf srcW (hrc1 := (rfl : CL[8]? = some _)) (wm_mem (k := 0) (by decide)) rfl (As := []) (wr := WC adC g (ftA I L S a1) (ftL I L S a1) S ++ ([OUT ao ((wrO (rwd I L S a1 15) (oL (mwd I L S a1))).toInt64) ov] : va_W)) (n := 0) (c_X9_thrown l D g adM (ftA I L S a1) (ftL I L S a1) S (z4 (u2 Z 3 0 (nI 0)) hu2.1 hu2.2 (mdA (Z 2) (mwd I L S a1))) Y ) rfl srcN hrdN w_1250 w_1247 w_1248 w_1249 w_6 (by decide +kernel) rfl ⟨Nat.le_of_ble_eq_true rfl, Nat.le_of_ble_eq_true rfl⟩ rfl rfl rfl (Nat.le_of_ble_eq_true rfl) ⟨by show cells + 0 + 1 + 0 ≤ 600002; omega, by show slots + 0 + 15 + 0 ≤ 7302232; omega⟩ dL_law_761 (fun hu3 hp_hu3 => ?_)
  refine g_af (ws' := WM adM g (ftA I L S a1) (ftL I L S a1) S (z4 (u2 Z 3 0 (nI 0)) hu2.1 hu2.2 (mdA (Z 2) (mwd I L S a1))) Y ++ (WC adC g (ftA I L S a1) (ftL I L S a1) S ++ ([OUT ao ((wrO (rwd I L S a1 15) (oL (mwd I L S a1))).toInt64) ov] : va_W))) (st' := [.int ((z4 (u2 Z 3 0 (nI 0)) hu2.1 hu2.2 (mdA (Z 2) (mwd I L S a1))) 3 0)]) (cells' := cells + 0 + 1 + 0) (slots' := slots + 0 + 15 + 0) (pc' := 764) rfl rfl rfl rfl rfl ?_
  refine g_st (st' := [.int (nI 0)]) (by first | rfl | (simp [z4, u2]; done)) ?_
  refine g_run X KL_law_764_92 KL_law_764_92_d 766 [(6, .int (wrO (rwd I L S a1 15) (oL (mwd I L S a1)))), (5, .int (nI 0)), (0, .ref b), (1, .ref (adC 0)), (2, .ref (adM 0)), (3, .ref ao), (4, .int (nI (6 * k)))] [.int (nI 0), .int (nI 0)] rfl ?_
  refine g_icmp_eq X 771 dL_law_766 (by decide) (fun hc4 => ?_) (fun hc4 => ?_)
  · refine g_run X KL_law_771_93 KL_law_771_93_d 773 [(6, .int (wrO (rwd I L S a1 15) (oL (mwd I L S a1)))), (5, .int (nI 0)), (0, .ref b), (1, .ref (adC 0)), (2, .ref (adM 0)), (3, .ref ao), (4, .int (nI (6 * k)))] [.int (nI 0)] rfl ?_
    refine g_if_ne X 789 dL_law_773 (by decide) (fun hc5 => ?_) (fun hc5 => ?_)
    · rw [nz_eq (by omega)] at hc5; first | omega | (simp at hc5)
    · refine g_run X KL_law_776_94 KL_law_776_94_d 777 [(6, .int (wrO (rwd I L S a1 15) (oL (mwd I L S a1)))), (5, .int (nI 0)), (0, .ref b), (1, .ref (adC 0)), (2, .ref (adM 0)), (3, .ref ao), (4, .int (nI (6 * k)))] [.ref ao] rfl ?_
      refine g_getN X srcW (host := "ChipfieldLaw") (v := .long ((wrO (rwd I L S a1 15) (oL (mwd I L S a1))).toInt64)) hinX6 rfl 0 (by decide) (nw_in n_489 rfl) rfl (List.mem_append_right _ (List.mem_append_right _ List.mem_cons_self)) rfl dL_law_777 ?_
      refine g_run X KL_law_780_95 KL_law_780_95_d 784 [(6, .int (wrO (rwd I L S a1 15) (oL (mwd I L S a1)))), (5, .int (nI 0)), (0, .ref b), (1, .ref (adC 0)), (2, .ref (adM 0)), (3, .ref ao), (4, .int (nI (6 * k)))] [.int (lg_cmp ((wrO (rwd I L S a1 15) (oL (mwd I L S a1))).toInt64) ((wrO (rwd I L S a1 15) (oL (mwd I L S a1))).toInt64))] rfl ?_
      refine g_if_eq X 789 dL_law_784 (by decide) (fun hc6 => ?_) (fun hc6 => ?_)
      · refine g_run X KL_law_789_96 KL_law_789_96_d 2256 [(6, .int (wrO (rwd I L S a1 15) (oL (mwd I L S a1)))), (5, .int (nI 0)), (0, .ref b), (1, .ref (adC 0)), (2, .ref (adM 0)), (3, .ref ao), (4, .int (nI (6 * k)))] [] rfl ?_
        refine g_lv (lv' := [(0, .ref b), (1, .ref (adC 0)), (2, .ref (adM 0)), (3, .ref ao), (4, .int (nI (6 * k)))]) (lsub_c 2 rfl (lsub_c 3 rfl (lsub_c 4 rfl (lsub_c 5 rfl (lsub_c 6 rfl (lsub_n)))))) ?_
        refine g_perm (ws' := (WC adC g (ftA I L S a1) (ftL I L S a1) S ++ ([OUT ao ((wrO (rwd I L S a1 15) (oL (mwd I L S a1))).toInt64) ov] : va_W)) ++ WM adM g (ftA I L S a1) (ftL I L S a1) S (z4 (u2 Z 3 0 (nI 0)) hu2.1 hu2.2 (mdA (Z 2) (mwd I L S a1))) Y) (List.perm_append_comm (l₁ := (WC adC g (ftA I L S a1) (ftL I L S a1) S ++ ([OUT ao ((wrO (rwd I L S a1 15) (oL (mwd I L S a1))).toInt64) ov] : va_W))) (l₂ := WM adM g (ftA I L S a1) (ftL I L S a1) S (z4 (u2 Z 3 0 (nI 0)) hu2.1 hu2.2 (mdA (Z 2) (mwd I L S a1))) Y)) ?_
        refine g_widen (k := cells + 60) (n := slots + 1200) (by omega) (by omega) ?_
        exact kk (ftA I L S a1) (ftL I L S a1) S n (z4 (u2 Z 3 0 (nI 0)) hu2.1 hu2.2 (mdA (Z 2) (mwd I L S a1))) Y hu2.1 ((wrO (rwd I L S a1 15) (oL (mwd I L S a1))).toInt64) ov (hI.ft) (hp_hu2) (rfl)
      · exact absurd lg_self hc6
  · rw [nI_eq (by omega) (by omega)] at hc4; first | omega | (simp at hc4)

set_option maxHeartbeats 4000000 in
set_option maxRecDepth 100000 in
theorem lq7_1 {p : Program} {l : Launch} {e : Env} {s : State} {m : MethodId} {below : List Frame} {meth : Method} {c : Code} {Q : State → Prop} {D : va_G} {A : Nat → Prop} {b N : Nat} {xs : Nat → Int32} {adC adM : Nat → Nat} {g : Nat → ClassId} {ao k cells slots : Nat} {I : Nat → Nat → Int32} {L : Nat → Nat → Int64} {S : Nat → Nat} {n : Nat} {Z : Nat → Nat → Int32} {Y : Int64} {R : Nat → Nat} {on : Int64} {ov : Value} (HX : LX p l s m meth c A b N xs) (hk : 6 * k + 6 ≤ N) (hroom : cells + 60 ≤ 600002 ∧ slots + 1200 ≤ 7302232) (hI : Inv I L S n) (hR : R16 R) (hZ : Z 0 = fun j => nI (R j)) (hw : (xs (6 * k + 1)).toInt < (0 : Nat) ∨ ((16 : Nat) : Int) ≤ (xs (6 * k + 1)).toInt) (kk : LK p l e s m below meth c Q D A b adC adM g ao k cells slots 2256) : GL p l e room_1 s m #[.ref b] below meth c Q D CL (TYS g) A 9 (WL adC adM g ao I L S Z Y on ov) cells slots 735 [(0, .ref b), (1, .ref (adC 0)), (2, .ref (adM 0)), (3, .ref ao), (4, .int (nI (6 * k)))] [] := by
  obtain ⟨X, hSB, hAf, hNC, hfl, hX, hbl, hbA, hN⟩ := HX
  refine g_run X KL_law_735_88 KL_law_735_88_d 741 [(0, .ref b), (1, .ref (adC 0)), (2, .ref (adM 0)), (3, .ref ao), (4, .int (nI (6 * k)))] [.int ((nI (6 * k)) + (nI 1)), .ref b, .ref (adC 0)] rfl ?_
  refine g_nm (lv' := [(0, .ref b), (1, .ref (adC 0)), (2, .ref (adM 0)), (3, .ref ao), (4, .int (nI (6 * k)))]) (st' := [.int (nI ((6 * k) + 1)), .ref b, .ref (adC 0)]) (by simp only [nI_add]) (by simp only [nI_add]) ?_
  refine g_sld X hX hbl hbA hN (v := xs (6 * k + 1)) (by omega) rfl dL_law_741 ?_
  refine g_run X KL_law_742_89 KL_law_742_89_d 743 [(0, .ref b), (1, .ref (adC 0)), (2, .ref (adM 0)), (3, .ref ao), (4, .int (nI (6 * k)))] [.ref ao, .int (xs (6 * k + 1)), .ref (adC 0)] rfl ?_
  refine g_callSW X hSB hAf hNC (As := [.ref (adC 0), .int (xs (6 * k + 1)), .ref ao]) (wr := WM adM g I L S Z Y) (n := 3) (hx_fetch_1 l hfl D g adC I L S (xs (6 * k + 1)) ao on ov (out_lt (by decide) hw)) rfl w_604 w_602 w_603 w_0 (by decide +kernel) rfl ⟨Nat.le_of_ble_eq_true rfl, Nat.le_of_ble_eq_true rfl⟩ rfl rfl rfl (Nat.le_of_ble_eq_true rfl) ⟨by show cells + 1 ≤ 600002; omega, by show slots + 6 ≤ 7302232; omega⟩ dL_law_743 (fun hu1 _ => ?_)
  refine g_af (ws' := (WC adC g I L S ++ ([OUT ao on ov] : va_W)) ++ WM adM g I L S Z Y) (st' := [.int (nI 1)]) (cells' := cells + 1) (slots' := slots + 6) (pc' := 746) rfl rfl rfl rfl rfl ?_
  refine g_run X KL_law_746_90 KL_law_746_90_d 754 [(5, .int (nI 1)), (0, .ref b), (1, .ref (adC 0)), (2, .ref (adM 0)), (3, .ref ao), (4, .int (nI (6 * k)))] [.int ((nI (6 * k)) + (nI 1)), .ref b, .ref (adM 0)] rfl ?_
  refine g_nm (lv' := [(5, .int (nI 1)), (0, .ref b), (1, .ref (adC 0)), (2, .ref (adM 0)), (3, .ref ao), (4, .int (nI (6 * k)))]) (st' := [.int (nI ((6 * k) + 1)), .ref b, .ref (adM 0)]) (by simp only [nI_add]) (by simp only [nI_add]) ?_
  refine g_sld X hX hbl hbA hN (v := xs (6 * k + 1)) (by omega) rfl dL_law_754 ?_
  refine g_perm (ws' := WM adM g I L S Z Y ++ (WC adC g I L S ++ ([OUT ao on ov] : va_W))) (List.perm_append_comm (l₁ := WM adM g I L S Z Y) (l₂ := (WC adC g I L S ++ ([OUT ao on ov] : va_W)))) ?_
  refine g_callV X hSB hAf srcW (hrc1 := (rfl : CL[8]? = some _)) (wm_mem (k := 0) (by decide)) rfl (As := [.int (xs (6 * k + 1))]) (wr := WC adC g I L S ++ ([OUT ao on ov] : va_W)) (n := 1) (c_X9_fetch_1 l D g adM I L S Z Y (xs (6 * k + 1)) (out_le (by decide) hw)) rfl srcN hrdN w_1360 w_1357 w_1358 w_1359 w_6 (by decide +kernel) rfl ⟨Nat.le_of_ble_eq_true rfl, Nat.le_of_ble_eq_true rfl⟩ rfl rfl rfl (Nat.le_of_ble_eq_true rfl) ⟨by show cells + 1 + 0 ≤ 600002; omega, by show slots + 6 + 0 ≤ 7302232; omega⟩ dL_law_755 (fun hu2 hp_hu2 => ?_)
  refine g_af (ws' := WM adM g I L S (u2 (u2 Z 3 0 (nI 0)) 3 0 (nI 1)) Y ++ (WC adC g I L S ++ ([OUT ao on ov] : va_W))) (st' := [.int (nI 0)]) (cells' := cells + 1 + 0) (slots' := slots + 6 + 0) (pc' := 758) rfl rfl rfl rfl rfl ?_
  refine g_run X KL_law_758_91 KL_law_758_91_d 761 [(6, .int (nI 0)), (5, .int (nI 1)), (0, .ref b), (1, .ref (adC 0)), (2, .ref (adM 0)), (3, .ref ao), (4, .int (nI (6 * k)))] [.ref (adM 0)] rfl ?_
  refine g_callV X hSB hAf srcW (hrc1 := (rfl : CL[8]? = some _)) (wm_mem (k := 0) (by decide)) rfl (As := []) (wr := WC adC g I L S ++ ([OUT ao on ov] : va_W)) (n := 0) (c_X9_thrown l D g adM I L S (u2 (u2 Z 3 0 (nI 0)) 3 0 (nI 1)) Y ) rfl srcN hrdN w_1250 w_1247 w_1248 w_1249 w_6 (by decide +kernel) rfl ⟨Nat.le_of_ble_eq_true rfl, Nat.le_of_ble_eq_true rfl⟩ rfl rfl rfl (Nat.le_of_ble_eq_true rfl) ⟨by show cells + 1 + 0 + 0 ≤ 600002; omega, by show slots + 6 + 0 + 0 ≤ 7302232; omega⟩ dL_law_761 (fun hu3 hp_hu3 => ?_)
  refine g_af (ws' := WM adM g I L S (u2 (u2 Z 3 0 (nI 0)) 3 0 (nI 1)) Y ++ (WC adC g I L S ++ ([OUT ao on ov] : va_W))) (st' := [.int ((u2 (u2 Z 3 0 (nI 0)) 3 0 (nI 1)) 3 0)]) (cells' := cells + 1 + 0 + 0) (slots' := slots + 6 + 0 + 0) (pc' := 764) rfl rfl rfl rfl rfl ?_
  refine g_st (st' := [.int (nI 1)]) (by first | rfl | (simp [z4, u2]; done)) ?_
  refine g_run X KL_law_764_92 KL_law_764_92_d 766 [(6, .int (nI 0)), (5, .int (nI 1)), (0, .ref b), (1, .ref (adC 0)), (2, .ref (adM 0)), (3, .ref ao), (4, .int (nI (6 * k)))] [.int (nI 1), .int (nI 1)] rfl ?_
  refine g_icmp_eq X 771 dL_law_766 (by decide) (fun hc4 => ?_) (fun hc4 => ?_)
  · refine g_run X KL_law_771_93 KL_law_771_93_d 773 [(6, .int (nI 0)), (5, .int (nI 1)), (0, .ref b), (1, .ref (adC 0)), (2, .ref (adM 0)), (3, .ref ao), (4, .int (nI (6 * k)))] [.int (nI 1)] rfl ?_
    refine g_if_ne X 789 dL_law_773 (by decide) (fun hc5 => ?_) (fun hc5 => ?_)
    · refine g_run X KL_law_789_96 KL_law_789_96_d 2256 [(6, .int (nI 0)), (5, .int (nI 1)), (0, .ref b), (1, .ref (adC 0)), (2, .ref (adM 0)), (3, .ref ao), (4, .int (nI (6 * k)))] [] rfl ?_
      refine g_lv (lv' := [(0, .ref b), (1, .ref (adC 0)), (2, .ref (adM 0)), (3, .ref ao), (4, .int (nI (6 * k)))]) (lsub_c 2 rfl (lsub_c 3 rfl (lsub_c 4 rfl (lsub_c 5 rfl (lsub_c 6 rfl (lsub_n)))))) ?_
      refine g_perm (ws' := (WC adC g I L S ++ ([OUT ao on ov] : va_W)) ++ WM adM g I L S (u2 (u2 Z 3 0 (nI 0)) 3 0 (nI 1)) Y) (List.perm_append_comm (l₁ := (WC adC g I L S ++ ([OUT ao on ov] : va_W))) (l₂ := WM adM g I L S (u2 (u2 Z 3 0 (nI 0)) 3 0 (nI 1)) Y)) ?_
      refine g_widen (k := cells + 60) (n := slots + 1200) (by omega) (by omega) ?_
      exact kk I L S n (u2 (u2 Z 3 0 (nI 0)) 3 0 (nI 1)) Y R on ov (hI) (hR) (by first | exact hZ | (rw [zrow]; exact hZ) | (rw [zrow, zrow]; exact hZ))
    · rw [nz_eq (by omega)] at hc5; first | omega | (simp at hc5)
  · rw [nI_eq (by omega) (by omega)] at hc4; first | omega | (simp at hc4)

theorem lq7 {p : Program} {l : Launch} {e : Env} {s : State} {m : MethodId} {below : List Frame} {meth : Method} {c : Code} {Q : State → Prop} {D : va_G} {A : Nat → Prop} {b N : Nat} {xs : Nat → Int32} {adC adM : Nat → Nat} {g : Nat → ClassId} {ao k cells slots : Nat} {I : Nat → Nat → Int32} {L : Nat → Nat → Int64} {S : Nat → Nat} {n : Nat} {Z : Nat → Nat → Int32} {Y : Int64} {R : Nat → Nat} {on : Int64} {ov : Value} (HX : LX p l s m meth c A b N xs) (hk : 6 * k + 6 ≤ N) (hroom : cells + 60 ≤ 600002 ∧ slots + 1200 ≤ 7302232) (hI : Inv I L S n) (hR : R16 R) (hZ : Z 0 = fun j => nI (R j)) (kk : LK p l e s m below meth c Q D A b adC adM g ao k cells slots 2256) : GL p l e room_1 s m #[.ref b] below meth c Q D CL (TYS g) A 9 (WL adC adM g ao I L S Z Y on ov) cells slots 735 [(0, .ref b), (1, .ref (adC 0)), (2, .ref (adM 0)), (3, .ref ao), (4, .int (nI (6 * k)))] [] := by
  rcases rg (xs (6 * k + 1)) 0 16 with ⟨a1, hl1, hu1, e1⟩ | hw
  · exact lq7_0 HX hk hroom hI hR hZ  a1 hl1 hu1 e1 kk
  · exact lq7_1 HX hk hroom hI hR hZ  hw kk

def KL_law_792_97 : List (Nat × Instr × Nat) := [(792, .aload_n 1, 1), (793, .aload_n 0, 1), (794, .iload 4, 2), (796, .iconst 1, 1), (797, .iadd, 1)]
theorem KL_law_792_97_d : ∀ z ∈ KL_law_792_97, decode cL_law z.1 = .ok z.2 := by decide +kernel
def KL_law_799_98 : List (Nat × Instr × Nat) := [(799, .aload_n 3, 1)]
theorem KL_law_799_98_d : ∀ z ∈ KL_law_799_98, decode cL_law z.1 = .ok z.2 := by decide +kernel
def KL_law_803_99 : List (Nat × Instr × Nat) := [(803, .istore 5, 2), (805, .aload_n 2, 1), (806, .aload_n 0, 1), (807, .iload 4, 2), (809, .iconst 1, 1), (810, .iadd, 1)]
theorem KL_law_803_99_d : ∀ z ∈ KL_law_803_99, decode cL_law z.1 = .ok z.2 := by decide +kernel
def KL_law_815_100 : List (Nat × Instr × Nat) := [(815, .istore 6, 2), (817, .aload_n 2, 1)]
theorem KL_law_815_100_d : ∀ z ∈ KL_law_815_100, decode cL_law z.1 = .ok z.2 := by decide +kernel
def KL_law_821_101 : List (Nat × Instr × Nat) := [(821, .iload 5, 2)]
theorem KL_law_821_101_d : ∀ z ∈ KL_law_821_101, decode cL_law z.1 = .ok z.2 := by decide +kernel
def KL_law_828_102 : List (Nat × Instr × Nat) := [(828, .iload 5, 2)]
theorem KL_law_828_102_d : ∀ z ∈ KL_law_828_102, decode cL_law z.1 = .ok z.2 := by decide +kernel
def KL_law_833_103 : List (Nat × Instr × Nat) := [(833, .aload_n 3, 1)]
theorem KL_law_833_103_d : ∀ z ∈ KL_law_833_103, decode cL_law z.1 = .ok z.2 := by decide +kernel
def KL_law_837_104 : List (Nat × Instr × Nat) := [(837, .iload 6, 2), (839, .i2l, 1), (840, .lcmp, 1)]
theorem KL_law_837_104_d : ∀ z ∈ KL_law_837_104, decode cL_law z.1 = .ok z.2 := by decide +kernel
def KL_law_846_105 : List (Nat × Instr × Nat) := [(846, .goto 1410, 3)]
theorem KL_law_846_105_d : ∀ z ∈ KL_law_846_105, decode cL_law z.1 = .ok z.2 := by decide +kernel
set_option maxHeartbeats 4000000 in
set_option maxRecDepth 100000 in
theorem lq8_0 {p : Program} {l : Launch} {e : Env} {s : State} {m : MethodId} {below : List Frame} {meth : Method} {c : Code} {Q : State → Prop} {D : va_G} {A : Nat → Prop} {b N : Nat} {xs : Nat → Int32} {adC adM : Nat → Nat} {g : Nat → ClassId} {ao k cells slots : Nat} {I : Nat → Nat → Int32} {L : Nat → Nat → Int64} {S : Nat → Nat} {n : Nat} {Z : Nat → Nat → Int32} {Y : Int64} {R : Nat → Nat} {on : Int64} {ov : Value} (HX : LX p l s m meth c A b N xs) (hk : 6 * k + 6 ≤ N) (hroom : cells + 60 ≤ 600002 ∧ slots + 1200 ≤ 7302232) (hI : Inv I L S n) (hR : R16 R) (hZ : Z 0 = fun j => nI (R j)) (a1 : Nat) (hl1 : 1 ≤ a1) (hu1 : a1 < 41) (e1 : xs (6 * k + 1) = nI a1) (pt : Nat) (hpl : pt < 16) (hpt : I 8 1 = nI pt) (kk : LK p l e s m below meth c Q D A b adC adM g ao k cells slots 2256) : GL p l e room_1 s m #[.ref b] below meth c Q D CL (TYS g) A 9 (WL adC adM g ao I L S Z Y on ov) cells slots 792 [(0, .ref b), (1, .ref (adC 0)), (2, .ref (adM 0)), (3, .ref ao), (4, .int (nI (6 * k)))] [] := by
  obtain ⟨X, hSB, hAf, hNC, hfl, hX, hbl, hbA, hN⟩ := HX
  refine g_run X KL_law_792_97 KL_law_792_97_d 798 [(0, .ref b), (1, .ref (adC 0)), (2, .ref (adM 0)), (3, .ref ao), (4, .int (nI (6 * k)))] [.int ((nI (6 * k)) + (nI 1)), .ref b, .ref (adC 0)] rfl ?_
  refine g_nm (lv' := [(0, .ref b), (1, .ref (adC 0)), (2, .ref (adM 0)), (3, .ref ao), (4, .int (nI (6 * k)))]) (st' := [.int (nI ((6 * k) + 1)), .ref b, .ref (adC 0)]) (by simp only [nI_add]) (by simp only [nI_add]) ?_
  refine g_sld X hX hbl hbA hN (v := nI a1) (by omega) e1 dL_law_798 ?_
  refine g_run X KL_law_799_98 KL_law_799_98_d 800 [(0, .ref b), (1, .ref (adC 0)), (2, .ref (adM 0)), (3, .ref ao), (4, .int (nI (6 * k)))] [.ref ao, .int (nI a1), .ref (adC 0)] rfl ?_
  refine g_callSW X hSB hAf hNC (As := [.ref (adC 0), .int (nI a1), .ref ao]) (wr := WM adM g I L S Z Y) (n := 3) (hc_patrol l D g adC I L S a1 pt ao on ov (hI.s18) (hpt) (by first | assumption | omega) (by first | assumption | omega) (by first | assumption | omega)) rfl w_628 w_626 w_627 w_0 (by decide +kernel) rfl ⟨Nat.le_of_ble_eq_true rfl, Nat.le_of_ble_eq_true rfl⟩ rfl rfl rfl (Nat.le_of_ble_eq_true rfl) ⟨by show cells + 0 ≤ 600002; omega, by show slots + 0 ≤ 7302232; omega⟩ dL_law_800 (fun hu1 _ => ?_)
  refine g_af (ws' := (WC adC g ((ptr I L S pt a1).1) ((ptr I L S pt a1).2) S ++ ([OUT ao ((nI (ptb I L S pt a1)).toInt64) ov] : va_W)) ++ WM adM g I L S Z Y) (st' := [.int (nI 0)]) (cells' := cells + 0) (slots' := slots + 0) (pc' := 803) rfl rfl rfl rfl rfl ?_
  refine g_run X KL_law_803_99 KL_law_803_99_d 811 [(5, .int (nI 0)), (0, .ref b), (1, .ref (adC 0)), (2, .ref (adM 0)), (3, .ref ao), (4, .int (nI (6 * k)))] [.int ((nI (6 * k)) + (nI 1)), .ref b, .ref (adM 0)] rfl ?_
  refine g_nm (lv' := [(5, .int (nI 0)), (0, .ref b), (1, .ref (adC 0)), (2, .ref (adM 0)), (3, .ref ao), (4, .int (nI (6 * k)))]) (st' := [.int (nI ((6 * k) + 1)), .ref b, .ref (adM 0)]) (by simp only [nI_add]) (by simp only [nI_add]) ?_
  refine g_sld X hX hbl hbA hN (v := nI a1) (by omega) e1 dL_law_811 ?_
  refine g_perm (ws' := WM adM g I L S Z Y ++ (WC adC g ((ptr I L S pt a1).1) ((ptr I L S pt a1).2) S ++ ([OUT ao ((nI (ptb I L S pt a1)).toInt64) ov] : va_W))) (List.perm_append_comm (l₁ := WM adM g I L S Z Y) (l₂ := (WC adC g ((ptr I L S pt a1).1) ((ptr I L S pt a1).2) S ++ ([OUT ao ((nI (ptb I L S pt a1)).toInt64) ov] : va_W)))) ?_
  refine g_callV X hSB hAf srcW (hrc1 := (rfl : CL[8]? = some _)) (wm_mem (k := 0) (by decide)) rfl (As := [.int (nI a1)]) (wr := WC adC g ((ptr I L S pt a1).1) ((ptr I L S pt a1).2) S ++ ([OUT ao ((nI (ptb I L S pt a1)).toInt64) ov] : va_W)) (n := 1) (c_X9_patrol l D g adM I L S Z Y a1 pt R (hR) (hZ) (hI.s18) (hI.sij) (hI.ky) (hI.b) (hpt) (by first | assumption | omega) (by first | assumption | omega) (by first | assumption | omega)) rfl srcN hrdN w_1372 w_1369 w_1370 w_1371 w_6 (by decide +kernel) rfl ⟨Nat.le_of_ble_eq_true rfl, Nat.le_of_ble_eq_true rfl⟩ rfl rfl rfl (Nat.le_of_ble_eq_true rfl) ⟨by show cells + 0 + 40 ≤ 600002; omega, by show slots + 0 + 600 ≤ 7302232; omega⟩ dL_law_812 (fun hu2 hp_hu2 => ?_)
  refine g_af (ws' := WM adM g ((ptr I L S pt a1).1) ((ptr I L S pt a1).2) S (z4 (u2 Z 3 0 (nI 0)) hu2.1 hu2.2.1 hu2.2.2) Y ++ (WC adC g ((ptr I L S pt a1).1) ((ptr I L S pt a1).2) S ++ ([OUT ao ((nI (ptb I L S pt a1)).toInt64) ov] : va_W))) (st' := [.int (nI (ptb I L S pt a1))]) (cells' := cells + 0 + 40) (slots' := slots + 0 + 600) (pc' := 815) rfl rfl rfl rfl rfl ?_
  refine g_run X KL_law_815_100 KL_law_815_100_d 818 [(6, .int (nI (ptb I L S pt a1))), (5, .int (nI 0)), (0, .ref b), (1, .ref (adC 0)), (2, .ref (adM 0)), (3, .ref ao), (4, .int (nI (6 * k)))] [.ref (adM 0)] rfl ?_
  refine g_callV X hSB hAf srcW (hrc1 := (rfl : CL[8]? = some _)) (wm_mem (k := 0) (by decide)) rfl (As := []) (wr := WC adC g ((ptr I L S pt a1).1) ((ptr I L S pt a1).2) S ++ ([OUT ao ((nI (ptb I L S pt a1)).toInt64) ov] : va_W)) (n := 0) (c_X9_thrown l D g adM ((ptr I L S pt a1).1) ((ptr I L S pt a1).2) S (z4 (u2 Z 3 0 (nI 0)) hu2.1 hu2.2.1 hu2.2.2) Y ) rfl srcN hrdN w_1250 w_1247 w_1248 w_1249 w_6 (by decide +kernel) rfl ⟨Nat.le_of_ble_eq_true rfl, Nat.le_of_ble_eq_true rfl⟩ rfl rfl rfl (Nat.le_of_ble_eq_true rfl) ⟨by show cells + 0 + 40 + 0 ≤ 600002; omega, by show slots + 0 + 600 + 0 ≤ 7302232; omega⟩ dL_law_818 (fun hu3 hp_hu3 => ?_)
  refine g_af (ws' := WM adM g ((ptr I L S pt a1).1) ((ptr I L S pt a1).2) S (z4 (u2 Z 3 0 (nI 0)) hu2.1 hu2.2.1 hu2.2.2) Y ++ (WC adC g ((ptr I L S pt a1).1) ((ptr I L S pt a1).2) S ++ ([OUT ao ((nI (ptb I L S pt a1)).toInt64) ov] : va_W))) (st' := [.int ((z4 (u2 Z 3 0 (nI 0)) hu2.1 hu2.2.1 hu2.2.2) 3 0)]) (cells' := cells + 0 + 40 + 0) (slots' := slots + 0 + 600 + 0) (pc' := 821) rfl rfl rfl rfl rfl ?_
  refine g_st (st' := [.int (nI 0)]) (by first | rfl | (simp [z4, u2]; done)) ?_
  refine g_run X KL_law_821_101 KL_law_821_101_d 823 [(6, .int (nI (ptb I L S pt a1))), (5, .int (nI 0)), (0, .ref b), (1, .ref (adC 0)), (2, .ref (adM 0)), (3, .ref ao), (4, .int (nI (6 * k)))] [.int (nI 0), .int (nI 0)] rfl ?_
  refine g_icmp_eq X 828 dL_law_823 (by decide) (fun hc4 => ?_) (fun hc4 => ?_)
  · refine g_run X KL_law_828_102 KL_law_828_102_d 830 [(6, .int (nI (ptb I L S pt a1))), (5, .int (nI 0)), (0, .ref b), (1, .ref (adC 0)), (2, .ref (adM 0)), (3, .ref ao), (4, .int (nI (6 * k)))] [.int (nI 0)] rfl ?_
    refine g_if_ne X 846 dL_law_830 (by decide) (fun hc5 => ?_) (fun hc5 => ?_)
    · rw [nz_eq (by omega)] at hc5; first | omega | (simp at hc5)
    · refine g_run X KL_law_833_103 KL_law_833_103_d 834 [(6, .int (nI (ptb I L S pt a1))), (5, .int (nI 0)), (0, .ref b), (1, .ref (adC 0)), (2, .ref (adM 0)), (3, .ref ao), (4, .int (nI (6 * k)))] [.ref ao] rfl ?_
      refine g_getN X srcW (host := "ChipfieldLaw") (v := .long ((nI (ptb I L S pt a1)).toInt64)) hinX6 rfl 0 (by decide) (nw_in n_489 rfl) rfl (List.mem_append_right _ (List.mem_append_right _ List.mem_cons_self)) rfl dL_law_834 ?_
      refine g_run X KL_law_837_104 KL_law_837_104_d 841 [(6, .int (nI (ptb I L S pt a1))), (5, .int (nI 0)), (0, .ref b), (1, .ref (adC 0)), (2, .ref (adM 0)), (3, .ref ao), (4, .int (nI (6 * k)))] [.int (lg_cmp ((nI (ptb I L S pt a1)).toInt64) ((nI (ptb I L S pt a1)).toInt64))] rfl ?_
      refine g_if_eq X 846 dL_law_841 (by decide) (fun hc6 => ?_) (fun hc6 => ?_)
      · refine g_run X KL_law_846_105 KL_law_846_105_d 2256 [(6, .int (nI (ptb I L S pt a1))), (5, .int (nI 0)), (0, .ref b), (1, .ref (adC 0)), (2, .ref (adM 0)), (3, .ref ao), (4, .int (nI (6 * k)))] [] rfl ?_
        refine g_lv (lv' := [(0, .ref b), (1, .ref (adC 0)), (2, .ref (adM 0)), (3, .ref ao), (4, .int (nI (6 * k)))]) (lsub_c 2 rfl (lsub_c 3 rfl (lsub_c 4 rfl (lsub_c 5 rfl (lsub_c 6 rfl (lsub_n)))))) ?_
        refine g_perm (ws' := (WC adC g ((ptr I L S pt a1).1) ((ptr I L S pt a1).2) S ++ ([OUT ao ((nI (ptb I L S pt a1)).toInt64) ov] : va_W)) ++ WM adM g ((ptr I L S pt a1).1) ((ptr I L S pt a1).2) S (z4 (u2 Z 3 0 (nI 0)) hu2.1 hu2.2.1 hu2.2.2) Y) (List.perm_append_comm (l₁ := (WC adC g ((ptr I L S pt a1).1) ((ptr I L S pt a1).2) S ++ ([OUT ao ((nI (ptb I L S pt a1)).toInt64) ov] : va_W))) (l₂ := WM adM g ((ptr I L S pt a1).1) ((ptr I L S pt a1).2) S (z4 (u2 Z 3 0 (nI 0)) hu2.1 hu2.2.1 hu2.2.2) Y)) ?_
        refine g_widen (k := cells + 60) (n := slots + 1200) (by omega) (by omega) ?_
        exact kk ((ptr I L S pt a1).1) ((ptr I L S pt a1).2) S n (z4 (u2 Z 3 0 (nI 0)) hu2.1 hu2.2.1 hu2.2.2) Y hu2.1 ((nI (ptb I L S pt a1)).toInt64) ov (hI.ptr _) (hp_hu2) (rfl)
      · exact absurd lg_self hc6
  · rw [nI_eq (by omega) (by omega)] at hc4; first | omega | (simp at hc4)

set_option maxHeartbeats 4000000 in
set_option maxRecDepth 100000 in
theorem lq8_1 {p : Program} {l : Launch} {e : Env} {s : State} {m : MethodId} {below : List Frame} {meth : Method} {c : Code} {Q : State → Prop} {D : va_G} {A : Nat → Prop} {b N : Nat} {xs : Nat → Int32} {adC adM : Nat → Nat} {g : Nat → ClassId} {ao k cells slots : Nat} {I : Nat → Nat → Int32} {L : Nat → Nat → Int64} {S : Nat → Nat} {n : Nat} {Z : Nat → Nat → Int32} {Y : Int64} {R : Nat → Nat} {on : Int64} {ov : Value} (HX : LX p l s m meth c A b N xs) (hk : 6 * k + 6 ≤ N) (hroom : cells + 60 ≤ 600002 ∧ slots + 1200 ≤ 7302232) (hI : Inv I L S n) (hR : R16 R) (hZ : Z 0 = fun j => nI (R j)) (hw : (xs (6 * k + 1)).toInt < (1 : Nat) ∨ ((41 : Nat) : Int) ≤ (xs (6 * k + 1)).toInt) (kk : LK p l e s m below meth c Q D A b adC adM g ao k cells slots 2256) : GL p l e room_1 s m #[.ref b] below meth c Q D CL (TYS g) A 9 (WL adC adM g ao I L S Z Y on ov) cells slots 792 [(0, .ref b), (1, .ref (adC 0)), (2, .ref (adM 0)), (3, .ref ao), (4, .int (nI (6 * k)))] [] := by
  obtain ⟨X, hSB, hAf, hNC, hfl, hX, hbl, hbA, hN⟩ := HX
  refine g_run X KL_law_792_97 KL_law_792_97_d 798 [(0, .ref b), (1, .ref (adC 0)), (2, .ref (adM 0)), (3, .ref ao), (4, .int (nI (6 * k)))] [.int ((nI (6 * k)) + (nI 1)), .ref b, .ref (adC 0)] rfl ?_
  refine g_nm (lv' := [(0, .ref b), (1, .ref (adC 0)), (2, .ref (adM 0)), (3, .ref ao), (4, .int (nI (6 * k)))]) (st' := [.int (nI ((6 * k) + 1)), .ref b, .ref (adC 0)]) (by simp only [nI_add]) (by simp only [nI_add]) ?_
  refine g_sld X hX hbl hbA hN (v := xs (6 * k + 1)) (by omega) rfl dL_law_798 ?_
  refine g_run X KL_law_799_98 KL_law_799_98_d 800 [(0, .ref b), (1, .ref (adC 0)), (2, .ref (adM 0)), (3, .ref ao), (4, .int (nI (6 * k)))] [.ref ao, .int (xs (6 * k + 1)), .ref (adC 0)] rfl ?_
  refine g_callSW X hSB hAf hNC (As := [.ref (adC 0), .int (xs (6 * k + 1)), .ref ao]) (wr := WM adM g I L S Z Y) (n := 3) (hx_patrol_1 l hfl D g adC I L S (xs (6 * k + 1)) ao on ov (out_lo (by decide) (by decide) hw)) rfl w_628 w_626 w_627 w_0 (by decide +kernel) rfl ⟨Nat.le_of_ble_eq_true rfl, Nat.le_of_ble_eq_true rfl⟩ rfl rfl rfl (Nat.le_of_ble_eq_true rfl) ⟨by show cells + 1 ≤ 600002; omega, by show slots + 6 ≤ 7302232; omega⟩ dL_law_800 (fun hu1 _ => ?_)
  refine g_af (ws' := (WC adC g I L S ++ ([OUT ao on ov] : va_W)) ++ WM adM g I L S Z Y) (st' := [.int (nI 1)]) (cells' := cells + 1) (slots' := slots + 6) (pc' := 803) rfl rfl rfl rfl rfl ?_
  refine g_run X KL_law_803_99 KL_law_803_99_d 811 [(5, .int (nI 1)), (0, .ref b), (1, .ref (adC 0)), (2, .ref (adM 0)), (3, .ref ao), (4, .int (nI (6 * k)))] [.int ((nI (6 * k)) + (nI 1)), .ref b, .ref (adM 0)] rfl ?_
  refine g_nm (lv' := [(5, .int (nI 1)), (0, .ref b), (1, .ref (adC 0)), (2, .ref (adM 0)), (3, .ref ao), (4, .int (nI (6 * k)))]) (st' := [.int (nI ((6 * k) + 1)), .ref b, .ref (adM 0)]) (by simp only [nI_add]) (by simp only [nI_add]) ?_
  refine g_sld X hX hbl hbA hN (v := xs (6 * k + 1)) (by omega) rfl dL_law_811 ?_
  refine g_perm (ws' := WM adM g I L S Z Y ++ (WC adC g I L S ++ ([OUT ao on ov] : va_W))) (List.perm_append_comm (l₁ := WM adM g I L S Z Y) (l₂ := (WC adC g I L S ++ ([OUT ao on ov] : va_W)))) ?_
  refine g_callV X hSB hAf srcW (hrc1 := (rfl : CL[8]? = some _)) (wm_mem (k := 0) (by decide)) rfl (As := [.int (xs (6 * k + 1))]) (wr := WC adC g I L S ++ ([OUT ao on ov] : va_W)) (n := 1) (c_X9_patrol_1 l D g adM I L S Z Y (xs (6 * k + 1)) (out_lo (by decide) (by decide) hw)) rfl srcN hrdN w_1372 w_1369 w_1370 w_1371 w_6 (by decide +kernel) rfl ⟨Nat.le_of_ble_eq_true rfl, Nat.le_of_ble_eq_true rfl⟩ rfl rfl rfl (Nat.le_of_ble_eq_true rfl) ⟨by show cells + 1 + 0 ≤ 600002; omega, by show slots + 6 + 0 ≤ 7302232; omega⟩ dL_law_812 (fun hu2 hp_hu2 => ?_)
  refine g_af (ws' := WM adM g I L S (u2 (u2 Z 3 0 (nI 0)) 3 0 (nI 1)) Y ++ (WC adC g I L S ++ ([OUT ao on ov] : va_W))) (st' := [.int (nI 0)]) (cells' := cells + 1 + 0) (slots' := slots + 6 + 0) (pc' := 815) rfl rfl rfl rfl rfl ?_
  refine g_run X KL_law_815_100 KL_law_815_100_d 818 [(6, .int (nI 0)), (5, .int (nI 1)), (0, .ref b), (1, .ref (adC 0)), (2, .ref (adM 0)), (3, .ref ao), (4, .int (nI (6 * k)))] [.ref (adM 0)] rfl ?_
  refine g_callV X hSB hAf srcW (hrc1 := (rfl : CL[8]? = some _)) (wm_mem (k := 0) (by decide)) rfl (As := []) (wr := WC adC g I L S ++ ([OUT ao on ov] : va_W)) (n := 0) (c_X9_thrown l D g adM I L S (u2 (u2 Z 3 0 (nI 0)) 3 0 (nI 1)) Y ) rfl srcN hrdN w_1250 w_1247 w_1248 w_1249 w_6 (by decide +kernel) rfl ⟨Nat.le_of_ble_eq_true rfl, Nat.le_of_ble_eq_true rfl⟩ rfl rfl rfl (Nat.le_of_ble_eq_true rfl) ⟨by show cells + 1 + 0 + 0 ≤ 600002; omega, by show slots + 6 + 0 + 0 ≤ 7302232; omega⟩ dL_law_818 (fun hu3 hp_hu3 => ?_)
  refine g_af (ws' := WM adM g I L S (u2 (u2 Z 3 0 (nI 0)) 3 0 (nI 1)) Y ++ (WC adC g I L S ++ ([OUT ao on ov] : va_W))) (st' := [.int ((u2 (u2 Z 3 0 (nI 0)) 3 0 (nI 1)) 3 0)]) (cells' := cells + 1 + 0 + 0) (slots' := slots + 6 + 0 + 0) (pc' := 821) rfl rfl rfl rfl rfl ?_
  refine g_st (st' := [.int (nI 1)]) (by first | rfl | (simp [z4, u2]; done)) ?_
  refine g_run X KL_law_821_101 KL_law_821_101_d 823 [(6, .int (nI 0)), (5, .int (nI 1)), (0, .ref b), (1, .ref (adC 0)), (2, .ref (adM 0)), (3, .ref ao), (4, .int (nI (6 * k)))] [.int (nI 1), .int (nI 1)] rfl ?_
  refine g_icmp_eq X 828 dL_law_823 (by decide) (fun hc4 => ?_) (fun hc4 => ?_)
  · refine g_run X KL_law_828_102 KL_law_828_102_d 830 [(6, .int (nI 0)), (5, .int (nI 1)), (0, .ref b), (1, .ref (adC 0)), (2, .ref (adM 0)), (3, .ref ao), (4, .int (nI (6 * k)))] [.int (nI 1)] rfl ?_
    refine g_if_ne X 846 dL_law_830 (by decide) (fun hc5 => ?_) (fun hc5 => ?_)
    · refine g_run X KL_law_846_105 KL_law_846_105_d 2256 [(6, .int (nI 0)), (5, .int (nI 1)), (0, .ref b), (1, .ref (adC 0)), (2, .ref (adM 0)), (3, .ref ao), (4, .int (nI (6 * k)))] [] rfl ?_
      refine g_lv (lv' := [(0, .ref b), (1, .ref (adC 0)), (2, .ref (adM 0)), (3, .ref ao), (4, .int (nI (6 * k)))]) (lsub_c 2 rfl (lsub_c 3 rfl (lsub_c 4 rfl (lsub_c 5 rfl (lsub_c 6 rfl (lsub_n)))))) ?_
      refine g_perm (ws' := (WC adC g I L S ++ ([OUT ao on ov] : va_W)) ++ WM adM g I L S (u2 (u2 Z 3 0 (nI 0)) 3 0 (nI 1)) Y) (List.perm_append_comm (l₁ := (WC adC g I L S ++ ([OUT ao on ov] : va_W))) (l₂ := WM adM g I L S (u2 (u2 Z 3 0 (nI 0)) 3 0 (nI 1)) Y)) ?_
      refine g_widen (k := cells + 60) (n := slots + 1200) (by omega) (by omega) ?_
      exact kk I L S n (u2 (u2 Z 3 0 (nI 0)) 3 0 (nI 1)) Y R on ov (hI) (hR) (by first | exact hZ | (rw [zrow]; exact hZ) | (rw [zrow, zrow]; exact hZ))
    · rw [nz_eq (by omega)] at hc5; first | omega | (simp at hc5)
  · rw [nI_eq (by omega) (by omega)] at hc4; first | omega | (simp at hc4)

theorem lq8 {p : Program} {l : Launch} {e : Env} {s : State} {m : MethodId} {below : List Frame} {meth : Method} {c : Code} {Q : State → Prop} {D : va_G} {A : Nat → Prop} {b N : Nat} {xs : Nat → Int32} {adC adM : Nat → Nat} {g : Nat → ClassId} {ao k cells slots : Nat} {I : Nat → Nat → Int32} {L : Nat → Nat → Int64} {S : Nat → Nat} {n : Nat} {Z : Nat → Nat → Int32} {Y : Int64} {R : Nat → Nat} {on : Int64} {ov : Value} (HX : LX p l s m meth c A b N xs) (hk : 6 * k + 6 ≤ N) (hroom : cells + 60 ≤ 600002 ∧ slots + 1200 ≤ 7302232) (hI : Inv I L S n) (hR : R16 R) (hZ : Z 0 = fun j => nI (R j)) (kk : LK p l e s m below meth c Q D A b adC adM g ao k cells slots 2256) : GL p l e room_1 s m #[.ref b] below meth c Q D CL (TYS g) A 9 (WL adC adM g ao I L S Z Y on ov) cells slots 792 [(0, .ref b), (1, .ref (adC 0)), (2, .ref (adM 0)), (3, .ref ao), (4, .int (nI (6 * k)))] [] := by
  rcases rg (xs (6 * k + 1)) 1 41 with ⟨a1, hl1, hu1, e1⟩ | hw
  · obtain ⟨pt, hpl, hpt⟩ := hI.at_
    exact lq8_0 HX hk hroom hI hR hZ  a1 hl1 hu1 e1 pt hpl hpt kk
  · exact lq8_1 HX hk hroom hI hR hZ  hw kk

def KL_law_849_106 : List (Nat × Instr × Nat) := [(849, .aload_n 1, 1), (850, .aload_n 0, 1), (851, .iload 4, 2), (853, .iconst 1, 1), (854, .iadd, 1)]
theorem KL_law_849_106_d : ∀ z ∈ KL_law_849_106, decode cL_law z.1 = .ok z.2 := by decide +kernel
def KL_law_856_107 : List (Nat × Instr × Nat) := [(856, .aload_n 3, 1)]
theorem KL_law_856_107_d : ∀ z ∈ KL_law_856_107, decode cL_law z.1 = .ok z.2 := by decide +kernel
def KL_law_860_108 : List (Nat × Instr × Nat) := [(860, .istore 5, 2), (862, .aload_n 2, 1), (863, .aload_n 0, 1), (864, .iload 4, 2), (866, .iconst 1, 1), (867, .iadd, 1)]
theorem KL_law_860_108_d : ∀ z ∈ KL_law_860_108, decode cL_law z.1 = .ok z.2 := by decide +kernel
def KL_law_872_109 : List (Nat × Instr × Nat) := [(872, .lstore 6, 2), (874, .aload_n 2, 1)]
theorem KL_law_872_109_d : ∀ z ∈ KL_law_872_109, decode cL_law z.1 = .ok z.2 := by decide +kernel
def KL_law_878_110 : List (Nat × Instr × Nat) := [(878, .iload 5, 2)]
theorem KL_law_878_110_d : ∀ z ∈ KL_law_878_110, decode cL_law z.1 = .ok z.2 := by decide +kernel
def KL_law_885_111 : List (Nat × Instr × Nat) := [(885, .iload 5, 2)]
theorem KL_law_885_111_d : ∀ z ∈ KL_law_885_111, decode cL_law z.1 = .ok z.2 := by decide +kernel
def KL_law_890_112 : List (Nat × Instr × Nat) := [(890, .aload_n 3, 1)]
theorem KL_law_890_112_d : ∀ z ∈ KL_law_890_112, decode cL_law z.1 = .ok z.2 := by decide +kernel
def KL_law_894_113 : List (Nat × Instr × Nat) := [(894, .lload 6, 2), (896, .lcmp, 1)]
theorem KL_law_894_113_d : ∀ z ∈ KL_law_894_113, decode cL_law z.1 = .ok z.2 := by decide +kernel
def KL_law_902_114 : List (Nat × Instr × Nat) := [(902, .goto 1354, 3)]
theorem KL_law_902_114_d : ∀ z ∈ KL_law_902_114, decode cL_law z.1 = .ok z.2 := by decide +kernel
set_option maxHeartbeats 4000000 in
set_option maxRecDepth 100000 in
theorem lq9_0 {p : Program} {l : Launch} {e : Env} {s : State} {m : MethodId} {below : List Frame} {meth : Method} {c : Code} {Q : State → Prop} {D : va_G} {A : Nat → Prop} {b N : Nat} {xs : Nat → Int32} {adC adM : Nat → Nat} {g : Nat → ClassId} {ao k cells slots : Nat} {I : Nat → Nat → Int32} {L : Nat → Nat → Int64} {S : Nat → Nat} {n : Nat} {Z : Nat → Nat → Int32} {Y : Int64} {R : Nat → Nat} {on : Int64} {ov : Value} (HX : LX p l s m meth c A b N xs) (hk : 6 * k + 6 ≤ N) (hroom : cells + 60 ≤ 600002 ∧ slots + 1200 ≤ 7302232) (hI : Inv I L S n) (hR : R16 R) (hZ : Z 0 = fun j => nI (R j)) (a1 : Nat) (hl1 : 0 ≤ a1) (hu1 : a1 < 16) (e1 : xs (6 * k + 1) = nI a1) (kk : LK p l e s m below meth c Q D A b adC adM g ao k cells slots 2256) : GL p l e room_1 s m #[.ref b] below meth c Q D CL (TYS g) A 9 (WL adC adM g ao I L S Z Y on ov) cells slots 849 [(0, .ref b), (1, .ref (adC 0)), (2, .ref (adM 0)), (3, .ref ao), (4, .int (nI (6 * k)))] [] := by
  obtain ⟨X, hSB, hAf, hNC, hfl, hX, hbl, hbA, hN⟩ := HX
  refine g_run X KL_law_849_106 KL_law_849_106_d 855 [(0, .ref b), (1, .ref (adC 0)), (2, .ref (adM 0)), (3, .ref ao), (4, .int (nI (6 * k)))] [.int ((nI (6 * k)) + (nI 1)), .ref b, .ref (adC 0)] rfl ?_
  refine g_nm (lv' := [(0, .ref b), (1, .ref (adC 0)), (2, .ref (adM 0)), (3, .ref ao), (4, .int (nI (6 * k)))]) (st' := [.int (nI ((6 * k) + 1)), .ref b, .ref (adC 0)]) (by simp only [nI_add]) (by simp only [nI_add]) ?_
  refine g_sld X hX hbl hbA hN (v := nI a1) (by omega) e1 dL_law_855 ?_
  refine g_run X KL_law_856_107 KL_law_856_107_d 857 [(0, .ref b), (1, .ref (adC 0)), (2, .ref (adM 0)), (3, .ref ao), (4, .int (nI (6 * k)))] [.ref ao, .int (nI a1), .ref (adC 0)] rfl ?_
  refine g_callSW X hSB hAf hNC (As := [.ref (adC 0), .int (nI a1), .ref ao]) (wr := WM adM g I L S Z Y) (n := 3) (hc_load l D g adC I L S a1 ao on ov (hI.s18) (hI.fr) (by first | assumption | omega)) rfl w_641 w_639 w_640 w_0 (by decide +kernel) rfl ⟨Nat.le_of_ble_eq_true rfl, Nat.le_of_ble_eq_true rfl⟩ rfl rfl rfl (Nat.le_of_ble_eq_true rfl) ⟨by show cells + 0 ≤ 600002; omega, by show slots + 0 ≤ 7302232; omega⟩ dL_law_857 (fun hu1 _ => ?_)
  refine g_af (ws' := (WC adC g (ldI I L S a1) (ldL I L S a1) S ++ ([OUT ao (dtO (ldV I L S a1)) ov] : va_W)) ++ WM adM g I L S Z Y) (st' := [.int (nI 0)]) (cells' := cells + 0) (slots' := slots + 0) (pc' := 860) rfl rfl rfl rfl rfl ?_
  refine g_run X KL_law_860_108 KL_law_860_108_d 868 [(5, .int (nI 0)), (0, .ref b), (1, .ref (adC 0)), (2, .ref (adM 0)), (3, .ref ao), (4, .int (nI (6 * k)))] [.int ((nI (6 * k)) + (nI 1)), .ref b, .ref (adM 0)] rfl ?_
  refine g_nm (lv' := [(5, .int (nI 0)), (0, .ref b), (1, .ref (adC 0)), (2, .ref (adM 0)), (3, .ref ao), (4, .int (nI (6 * k)))]) (st' := [.int (nI ((6 * k) + 1)), .ref b, .ref (adM 0)]) (by simp only [nI_add]) (by simp only [nI_add]) ?_
  refine g_sld X hX hbl hbA hN (v := nI a1) (by omega) e1 dL_law_868 ?_
  refine g_perm (ws' := WM adM g I L S Z Y ++ (WC adC g (ldI I L S a1) (ldL I L S a1) S ++ ([OUT ao (dtO (ldV I L S a1)) ov] : va_W))) (List.perm_append_comm (l₁ := WM adM g I L S Z Y) (l₂ := (WC adC g (ldI I L S a1) (ldL I L S a1) S ++ ([OUT ao (dtO (ldV I L S a1)) ov] : va_W)))) ?_
  refine g_callV X hSB hAf srcW (hrc1 := (rfl : CL[8]? = some _)) (wm_mem (k := 0) (by decide)) rfl (As := [.int (nI a1)]) (wr := WC adC g (ldI I L S a1) (ldL I L S a1) S ++ ([OUT ao (dtO (ldV I L S a1)) ov] : va_W)) (n := 1) (c_X9_load l D g adM I L S Z Y a1 R (hR) (hZ) (hI.s18) (hI.sij) (hI.ky) (hI.b) (hI.fr) (hI.fw) (hI.hin) (by first | assumption | omega)) rfl srcN hrdN w_1376 w_1373 w_1374 w_1375 w_6 (by decide +kernel) rfl ⟨Nat.le_of_ble_eq_true rfl, Nat.le_of_ble_eq_true rfl⟩ rfl rfl rfl (Nat.le_of_ble_eq_true rfl) ⟨by show cells + 0 + 2 ≤ 600002; omega, by show slots + 0 + 30 ≤ 7302232; omega⟩ dL_law_869 (fun hu2 hp_hu2 => ?_)
  refine g_af (ws' := WM adM g (ldI I L S a1) (ldL I L S a1) S (z4 (u2 Z 3 0 (nI 0)) hu2.1 hu2.2.1 hu2.2.2) Y ++ (WC adC g (ldI I L S a1) (ldL I L S a1) S ++ ([OUT ao (dtO (ldV I L S a1)) ov] : va_W))) (st' := [.long (dtO (ldV I L S a1))]) (cells' := cells + 0 + 2) (slots' := slots + 0 + 30) (pc' := 872) rfl rfl rfl rfl rfl ?_
  refine g_run X KL_law_872_109 KL_law_872_109_d 875 [(6, .long (dtO (ldV I L S a1))), (5, .int (nI 0)), (0, .ref b), (1, .ref (adC 0)), (2, .ref (adM 0)), (3, .ref ao), (4, .int (nI (6 * k)))] [.ref (adM 0)] rfl ?_
  refine g_callV X hSB hAf srcW (hrc1 := (rfl : CL[8]? = some _)) (wm_mem (k := 0) (by decide)) rfl (As := []) (wr := WC adC g (ldI I L S a1) (ldL I L S a1) S ++ ([OUT ao (dtO (ldV I L S a1)) ov] : va_W)) (n := 0) (c_X9_thrown l D g adM (ldI I L S a1) (ldL I L S a1) S (z4 (u2 Z 3 0 (nI 0)) hu2.1 hu2.2.1 hu2.2.2) Y ) rfl srcN hrdN w_1250 w_1247 w_1248 w_1249 w_6 (by decide +kernel) rfl ⟨Nat.le_of_ble_eq_true rfl, Nat.le_of_ble_eq_true rfl⟩ rfl rfl rfl (Nat.le_of_ble_eq_true rfl) ⟨by show cells + 0 + 2 + 0 ≤ 600002; omega, by show slots + 0 + 30 + 0 ≤ 7302232; omega⟩ dL_law_875 (fun hu3 hp_hu3 => ?_)
  refine g_af (ws' := WM adM g (ldI I L S a1) (ldL I L S a1) S (z4 (u2 Z 3 0 (nI 0)) hu2.1 hu2.2.1 hu2.2.2) Y ++ (WC adC g (ldI I L S a1) (ldL I L S a1) S ++ ([OUT ao (dtO (ldV I L S a1)) ov] : va_W))) (st' := [.int ((z4 (u2 Z 3 0 (nI 0)) hu2.1 hu2.2.1 hu2.2.2) 3 0)]) (cells' := cells + 0 + 2 + 0) (slots' := slots + 0 + 30 + 0) (pc' := 878) rfl rfl rfl rfl rfl ?_
  refine g_st (st' := [.int (nI 0)]) (by first | rfl | (simp [z4, u2]; done)) ?_
  refine g_run X KL_law_878_110 KL_law_878_110_d 880 [(6, .long (dtO (ldV I L S a1))), (5, .int (nI 0)), (0, .ref b), (1, .ref (adC 0)), (2, .ref (adM 0)), (3, .ref ao), (4, .int (nI (6 * k)))] [.int (nI 0), .int (nI 0)] rfl ?_
  refine g_icmp_eq X 885 dL_law_880 (by decide) (fun hc4 => ?_) (fun hc4 => ?_)
  · refine g_run X KL_law_885_111 KL_law_885_111_d 887 [(6, .long (dtO (ldV I L S a1))), (5, .int (nI 0)), (0, .ref b), (1, .ref (adC 0)), (2, .ref (adM 0)), (3, .ref ao), (4, .int (nI (6 * k)))] [.int (nI 0)] rfl ?_
    refine g_if_ne X 902 dL_law_887 (by decide) (fun hc5 => ?_) (fun hc5 => ?_)
    · rw [nz_eq (by omega)] at hc5; first | omega | (simp at hc5)
    · refine g_run X KL_law_890_112 KL_law_890_112_d 891 [(6, .long (dtO (ldV I L S a1))), (5, .int (nI 0)), (0, .ref b), (1, .ref (adC 0)), (2, .ref (adM 0)), (3, .ref ao), (4, .int (nI (6 * k)))] [.ref ao] rfl ?_
      refine g_getN X srcW (host := "ChipfieldLaw") (v := .long (dtO (ldV I L S a1))) hinX6 rfl 0 (by decide) (nw_in n_489 rfl) rfl (List.mem_append_right _ (List.mem_append_right _ List.mem_cons_self)) rfl dL_law_891 ?_
      refine g_run X KL_law_894_113 KL_law_894_113_d 897 [(6, .long (dtO (ldV I L S a1))), (5, .int (nI 0)), (0, .ref b), (1, .ref (adC 0)), (2, .ref (adM 0)), (3, .ref ao), (4, .int (nI (6 * k)))] [.int (lg_cmp (dtO (ldV I L S a1)) (dtO (ldV I L S a1)))] rfl ?_
      refine g_if_eq X 902 dL_law_897 (by decide) (fun hc6 => ?_) (fun hc6 => ?_)
      · refine g_run X KL_law_902_114 KL_law_902_114_d 2256 [(6, .long (dtO (ldV I L S a1))), (5, .int (nI 0)), (0, .ref b), (1, .ref (adC 0)), (2, .ref (adM 0)), (3, .ref ao), (4, .int (nI (6 * k)))] [] rfl ?_
        refine g_lv (lv' := [(0, .ref b), (1, .ref (adC 0)), (2, .ref (adM 0)), (3, .ref ao), (4, .int (nI (6 * k)))]) (lsub_c 2 rfl (lsub_c 3 rfl (lsub_c 4 rfl (lsub_c 5 rfl (lsub_c 6 rfl (lsub_n)))))) ?_
        refine g_perm (ws' := (WC adC g (ldI I L S a1) (ldL I L S a1) S ++ ([OUT ao (dtO (ldV I L S a1)) ov] : va_W)) ++ WM adM g (ldI I L S a1) (ldL I L S a1) S (z4 (u2 Z 3 0 (nI 0)) hu2.1 hu2.2.1 hu2.2.2) Y) (List.perm_append_comm (l₁ := (WC adC g (ldI I L S a1) (ldL I L S a1) S ++ ([OUT ao (dtO (ldV I L S a1)) ov] : va_W))) (l₂ := WM adM g (ldI I L S a1) (ldL I L S a1) S (z4 (u2 Z 3 0 (nI 0)) hu2.1 hu2.2.1 hu2.2.2) Y)) ?_
        refine g_widen (k := cells + 60) (n := slots + 1200) (by omega) (by omega) ?_
        exact kk (ldI I L S a1) (ldL I L S a1) S n (z4 (u2 Z 3 0 (nI 0)) hu2.1 hu2.2.1 hu2.2.2) Y hu2.1 (dtO (ldV I L S a1)) ov (hI.ld (by assumption)) (hp_hu2) (rfl)
      · exact absurd lg_self hc6
  · rw [nI_eq (by omega) (by omega)] at hc4; first | omega | (simp at hc4)

set_option maxHeartbeats 4000000 in
set_option maxRecDepth 100000 in
theorem lq9_1 {p : Program} {l : Launch} {e : Env} {s : State} {m : MethodId} {below : List Frame} {meth : Method} {c : Code} {Q : State → Prop} {D : va_G} {A : Nat → Prop} {b N : Nat} {xs : Nat → Int32} {adC adM : Nat → Nat} {g : Nat → ClassId} {ao k cells slots : Nat} {I : Nat → Nat → Int32} {L : Nat → Nat → Int64} {S : Nat → Nat} {n : Nat} {Z : Nat → Nat → Int32} {Y : Int64} {R : Nat → Nat} {on : Int64} {ov : Value} (HX : LX p l s m meth c A b N xs) (hk : 6 * k + 6 ≤ N) (hroom : cells + 60 ≤ 600002 ∧ slots + 1200 ≤ 7302232) (hI : Inv I L S n) (hR : R16 R) (hZ : Z 0 = fun j => nI (R j)) (hw : (xs (6 * k + 1)).toInt < (0 : Nat) ∨ ((16 : Nat) : Int) ≤ (xs (6 * k + 1)).toInt) (kk : LK p l e s m below meth c Q D A b adC adM g ao k cells slots 2256) : GL p l e room_1 s m #[.ref b] below meth c Q D CL (TYS g) A 9 (WL adC adM g ao I L S Z Y on ov) cells slots 849 [(0, .ref b), (1, .ref (adC 0)), (2, .ref (adM 0)), (3, .ref ao), (4, .int (nI (6 * k)))] [] := by
  obtain ⟨X, hSB, hAf, hNC, hfl, hX, hbl, hbA, hN⟩ := HX
  refine g_run X KL_law_849_106 KL_law_849_106_d 855 [(0, .ref b), (1, .ref (adC 0)), (2, .ref (adM 0)), (3, .ref ao), (4, .int (nI (6 * k)))] [.int ((nI (6 * k)) + (nI 1)), .ref b, .ref (adC 0)] rfl ?_
  refine g_nm (lv' := [(0, .ref b), (1, .ref (adC 0)), (2, .ref (adM 0)), (3, .ref ao), (4, .int (nI (6 * k)))]) (st' := [.int (nI ((6 * k) + 1)), .ref b, .ref (adC 0)]) (by simp only [nI_add]) (by simp only [nI_add]) ?_
  refine g_sld X hX hbl hbA hN (v := xs (6 * k + 1)) (by omega) rfl dL_law_855 ?_
  refine g_run X KL_law_856_107 KL_law_856_107_d 857 [(0, .ref b), (1, .ref (adC 0)), (2, .ref (adM 0)), (3, .ref ao), (4, .int (nI (6 * k)))] [.ref ao, .int (xs (6 * k + 1)), .ref (adC 0)] rfl ?_
  refine g_callSW X hSB hAf hNC (As := [.ref (adC 0), .int (xs (6 * k + 1)), .ref ao]) (wr := WM adM g I L S Z Y) (n := 3) (hx_load_1 l hfl D g adC I L S (xs (6 * k + 1)) ao on ov (out_lt (by decide) hw)) rfl w_641 w_639 w_640 w_0 (by decide +kernel) rfl ⟨Nat.le_of_ble_eq_true rfl, Nat.le_of_ble_eq_true rfl⟩ rfl rfl rfl (Nat.le_of_ble_eq_true rfl) ⟨by show cells + 1 ≤ 600002; omega, by show slots + 6 ≤ 7302232; omega⟩ dL_law_857 (fun hu1 _ => ?_)
  refine g_af (ws' := (WC adC g I L S ++ ([OUT ao on ov] : va_W)) ++ WM adM g I L S Z Y) (st' := [.int (nI 1)]) (cells' := cells + 1) (slots' := slots + 6) (pc' := 860) rfl rfl rfl rfl rfl ?_
  refine g_run X KL_law_860_108 KL_law_860_108_d 868 [(5, .int (nI 1)), (0, .ref b), (1, .ref (adC 0)), (2, .ref (adM 0)), (3, .ref ao), (4, .int (nI (6 * k)))] [.int ((nI (6 * k)) + (nI 1)), .ref b, .ref (adM 0)] rfl ?_
  refine g_nm (lv' := [(5, .int (nI 1)), (0, .ref b), (1, .ref (adC 0)), (2, .ref (adM 0)), (3, .ref ao), (4, .int (nI (6 * k)))]) (st' := [.int (nI ((6 * k) + 1)), .ref b, .ref (adM 0)]) (by simp only [nI_add]) (by simp only [nI_add]) ?_
  refine g_sld X hX hbl hbA hN (v := xs (6 * k + 1)) (by omega) rfl dL_law_868 ?_
  refine g_perm (ws' := WM adM g I L S Z Y ++ (WC adC g I L S ++ ([OUT ao on ov] : va_W))) (List.perm_append_comm (l₁ := WM adM g I L S Z Y) (l₂ := (WC adC g I L S ++ ([OUT ao on ov] : va_W)))) ?_
  refine g_callV X hSB hAf srcW (hrc1 := (rfl : CL[8]? = some _)) (wm_mem (k := 0) (by decide)) rfl (As := [.int (xs (6 * k + 1))]) (wr := WC adC g I L S ++ ([OUT ao on ov] : va_W)) (n := 1) (c_X9_load_1 l D g adM I L S Z Y (xs (6 * k + 1)) (out_le (by decide) hw)) rfl srcN hrdN w_1376 w_1373 w_1374 w_1375 w_6 (by decide +kernel) rfl ⟨Nat.le_of_ble_eq_true rfl, Nat.le_of_ble_eq_true rfl⟩ rfl rfl rfl (Nat.le_of_ble_eq_true rfl) ⟨by show cells + 1 + 0 ≤ 600002; omega, by show slots + 6 + 0 ≤ 7302232; omega⟩ dL_law_869 (fun hu2 hp_hu2 => ?_)
  refine g_af (ws' := WM adM g I L S (u2 (u2 Z 3 0 (nI 0)) 3 0 (nI 1)) Y ++ (WC adC g I L S ++ ([OUT ao on ov] : va_W))) (st' := [.long ((nI 0).toInt64)]) (cells' := cells + 1 + 0) (slots' := slots + 6 + 0) (pc' := 872) rfl rfl rfl rfl rfl ?_
  refine g_run X KL_law_872_109 KL_law_872_109_d 875 [(6, .long ((nI 0).toInt64)), (5, .int (nI 1)), (0, .ref b), (1, .ref (adC 0)), (2, .ref (adM 0)), (3, .ref ao), (4, .int (nI (6 * k)))] [.ref (adM 0)] rfl ?_
  refine g_callV X hSB hAf srcW (hrc1 := (rfl : CL[8]? = some _)) (wm_mem (k := 0) (by decide)) rfl (As := []) (wr := WC adC g I L S ++ ([OUT ao on ov] : va_W)) (n := 0) (c_X9_thrown l D g adM I L S (u2 (u2 Z 3 0 (nI 0)) 3 0 (nI 1)) Y ) rfl srcN hrdN w_1250 w_1247 w_1248 w_1249 w_6 (by decide +kernel) rfl ⟨Nat.le_of_ble_eq_true rfl, Nat.le_of_ble_eq_true rfl⟩ rfl rfl rfl (Nat.le_of_ble_eq_true rfl) ⟨by show cells + 1 + 0 + 0 ≤ 600002; omega, by show slots + 6 + 0 + 0 ≤ 7302232; omega⟩ dL_law_875 (fun hu3 hp_hu3 => ?_)
  refine g_af (ws' := WM adM g I L S (u2 (u2 Z 3 0 (nI 0)) 3 0 (nI 1)) Y ++ (WC adC g I L S ++ ([OUT ao on ov] : va_W))) (st' := [.int ((u2 (u2 Z 3 0 (nI 0)) 3 0 (nI 1)) 3 0)]) (cells' := cells + 1 + 0 + 0) (slots' := slots + 6 + 0 + 0) (pc' := 878) rfl rfl rfl rfl rfl ?_
  refine g_st (st' := [.int (nI 1)]) (by first | rfl | (simp [z4, u2]; done)) ?_
  refine g_run X KL_law_878_110 KL_law_878_110_d 880 [(6, .long ((nI 0).toInt64)), (5, .int (nI 1)), (0, .ref b), (1, .ref (adC 0)), (2, .ref (adM 0)), (3, .ref ao), (4, .int (nI (6 * k)))] [.int (nI 1), .int (nI 1)] rfl ?_
  refine g_icmp_eq X 885 dL_law_880 (by decide) (fun hc4 => ?_) (fun hc4 => ?_)
  · refine g_run X KL_law_885_111 KL_law_885_111_d 887 [(6, .long ((nI 0).toInt64)), (5, .int (nI 1)), (0, .ref b), (1, .ref (adC 0)), (2, .ref (adM 0)), (3, .ref ao), (4, .int (nI (6 * k)))] [.int (nI 1)] rfl ?_
    refine g_if_ne X 902 dL_law_887 (by decide) (fun hc5 => ?_) (fun hc5 => ?_)
    · refine g_run X KL_law_902_114 KL_law_902_114_d 2256 [(6, .long ((nI 0).toInt64)), (5, .int (nI 1)), (0, .ref b), (1, .ref (adC 0)), (2, .ref (adM 0)), (3, .ref ao), (4, .int (nI (6 * k)))] [] rfl ?_
      refine g_lv (lv' := [(0, .ref b), (1, .ref (adC 0)), (2, .ref (adM 0)), (3, .ref ao), (4, .int (nI (6 * k)))]) (lsub_c 2 rfl (lsub_c 3 rfl (lsub_c 4 rfl (lsub_c 5 rfl (lsub_c 6 rfl (lsub_n)))))) ?_
      refine g_perm (ws' := (WC adC g I L S ++ ([OUT ao on ov] : va_W)) ++ WM adM g I L S (u2 (u2 Z 3 0 (nI 0)) 3 0 (nI 1)) Y) (List.perm_append_comm (l₁ := (WC adC g I L S ++ ([OUT ao on ov] : va_W))) (l₂ := WM adM g I L S (u2 (u2 Z 3 0 (nI 0)) 3 0 (nI 1)) Y)) ?_
      refine g_widen (k := cells + 60) (n := slots + 1200) (by omega) (by omega) ?_
      exact kk I L S n (u2 (u2 Z 3 0 (nI 0)) 3 0 (nI 1)) Y R on ov (hI) (hR) (by first | exact hZ | (rw [zrow]; exact hZ) | (rw [zrow, zrow]; exact hZ))
    · rw [nz_eq (by omega)] at hc5; first | omega | (simp at hc5)
  · rw [nI_eq (by omega) (by omega)] at hc4; first | omega | (simp at hc4)

theorem lq9 {p : Program} {l : Launch} {e : Env} {s : State} {m : MethodId} {below : List Frame} {meth : Method} {c : Code} {Q : State → Prop} {D : va_G} {A : Nat → Prop} {b N : Nat} {xs : Nat → Int32} {adC adM : Nat → Nat} {g : Nat → ClassId} {ao k cells slots : Nat} {I : Nat → Nat → Int32} {L : Nat → Nat → Int64} {S : Nat → Nat} {n : Nat} {Z : Nat → Nat → Int32} {Y : Int64} {R : Nat → Nat} {on : Int64} {ov : Value} (HX : LX p l s m meth c A b N xs) (hk : 6 * k + 6 ≤ N) (hroom : cells + 60 ≤ 600002 ∧ slots + 1200 ≤ 7302232) (hI : Inv I L S n) (hR : R16 R) (hZ : Z 0 = fun j => nI (R j)) (kk : LK p l e s m below meth c Q D A b adC adM g ao k cells slots 2256) : GL p l e room_1 s m #[.ref b] below meth c Q D CL (TYS g) A 9 (WL adC adM g ao I L S Z Y on ov) cells slots 849 [(0, .ref b), (1, .ref (adC 0)), (2, .ref (adM 0)), (3, .ref ao), (4, .int (nI (6 * k)))] [] := by
  rcases rg (xs (6 * k + 1)) 0 16 with ⟨a1, hl1, hu1, e1⟩ | hw
  · exact lq9_0 HX hk hroom hI hR hZ  a1 hl1 hu1 e1 kk
  · exact lq9_1 HX hk hroom hI hR hZ  hw kk

def KL_law_905_115 : List (Nat × Instr × Nat) := [(905, .aload_n 1, 1), (906, .aload_n 0, 1), (907, .iload 4, 2), (909, .iconst 1, 1), (910, .iadd, 1)]
theorem KL_law_905_115_d : ∀ z ∈ KL_law_905_115, decode cL_law z.1 = .ok z.2 := by decide +kernel
def KL_law_912_116 : List (Nat × Instr × Nat) := [(912, .aload_n 0, 1), (913, .iload 4, 2), (915, .iconst 2, 1), (916, .iadd, 1)]
theorem KL_law_912_116_d : ∀ z ∈ KL_law_912_116, decode cL_law z.1 = .ok z.2 := by decide +kernel
def KL_law_918_117 : List (Nat × Instr × Nat) := [(918, .i2l, 1), (919, .bipush 32, 2), (921, .lshl, 1), (922, .aload_n 0, 1), (923, .iload 4, 2), (925, .iconst 3, 1), (926, .iadd, 1)]
theorem KL_law_918_117_d : ∀ z ∈ KL_law_918_117, decode cL_law z.1 = .ok z.2 := by decide +kernel
def KL_law_928_118 : List (Nat × Instr × Nat) := [(928, .i2l, 1)]
theorem KL_law_928_118_d : ∀ z ∈ KL_law_928_118, decode cL_law z.1 = .ok z.2 := by decide +kernel
def KL_law_932_119 : List (Nat × Instr × Nat) := [(932, .land, 1), (933, .lor, 1)]
theorem KL_law_932_119_d : ∀ z ∈ KL_law_932_119, decode cL_law z.1 = .ok z.2 := by decide +kernel
def KL_law_934_120 : List (Nat × Instr × Nat) := [(934, .aload_n 3, 1)]
theorem KL_law_934_120_d : ∀ z ∈ KL_law_934_120, decode cL_law z.1 = .ok z.2 := by decide +kernel
def KL_law_938_121 : List (Nat × Instr × Nat) := [(938, .istore 5, 2), (940, .aload_n 2, 1), (941, .aload_n 0, 1), (942, .iload 4, 2), (944, .iconst 1, 1), (945, .iadd, 1)]
theorem KL_law_938_121_d : ∀ z ∈ KL_law_938_121, decode cL_law z.1 = .ok z.2 := by decide +kernel
def KL_law_947_122 : List (Nat × Instr × Nat) := [(947, .aload_n 0, 1), (948, .iload 4, 2), (950, .iconst 2, 1), (951, .iadd, 1)]
theorem KL_law_947_122_d : ∀ z ∈ KL_law_947_122, decode cL_law z.1 = .ok z.2 := by decide +kernel
def KL_law_953_123 : List (Nat × Instr × Nat) := [(953, .i2l, 1), (954, .bipush 32, 2), (956, .lshl, 1), (957, .aload_n 0, 1), (958, .iload 4, 2), (960, .iconst 3, 1), (961, .iadd, 1)]
theorem KL_law_953_123_d : ∀ z ∈ KL_law_953_123, decode cL_law z.1 = .ok z.2 := by decide +kernel
def KL_law_963_124 : List (Nat × Instr × Nat) := [(963, .i2l, 1)]
theorem KL_law_963_124_d : ∀ z ∈ KL_law_963_124, decode cL_law z.1 = .ok z.2 := by decide +kernel
def KL_law_967_125 : List (Nat × Instr × Nat) := [(967, .land, 1), (968, .lor, 1)]
theorem KL_law_967_125_d : ∀ z ∈ KL_law_967_125, decode cL_law z.1 = .ok z.2 := by decide +kernel
def KL_law_972_126 : List (Nat × Instr × Nat) := [(972, .istore 6, 2), (974, .aload_n 2, 1)]
theorem KL_law_972_126_d : ∀ z ∈ KL_law_972_126, decode cL_law z.1 = .ok z.2 := by decide +kernel
def KL_law_978_127 : List (Nat × Instr × Nat) := [(978, .iload 5, 2)]
theorem KL_law_978_127_d : ∀ z ∈ KL_law_978_127, decode cL_law z.1 = .ok z.2 := by decide +kernel
def KL_law_985_128 : List (Nat × Instr × Nat) := [(985, .iload 5, 2)]
theorem KL_law_985_128_d : ∀ z ∈ KL_law_985_128, decode cL_law z.1 = .ok z.2 := by decide +kernel
def KL_law_990_129 : List (Nat × Instr × Nat) := [(990, .aload_n 3, 1)]
theorem KL_law_990_129_d : ∀ z ∈ KL_law_990_129, decode cL_law z.1 = .ok z.2 := by decide +kernel
def KL_law_994_130 : List (Nat × Instr × Nat) := [(994, .iload 6, 2), (996, .i2l, 1), (997, .lcmp, 1)]
theorem KL_law_994_130_d : ∀ z ∈ KL_law_994_130, decode cL_law z.1 = .ok z.2 := by decide +kernel
def KL_law_1003_131 : List (Nat × Instr × Nat) := [(1003, .goto 1253, 3)]
theorem KL_law_1003_131_d : ∀ z ∈ KL_law_1003_131, decode cL_law z.1 = .ok z.2 := by decide +kernel
set_option maxHeartbeats 4000000 in
set_option maxRecDepth 100000 in
theorem lq10_0 {p : Program} {l : Launch} {e : Env} {s : State} {m : MethodId} {below : List Frame} {meth : Method} {c : Code} {Q : State → Prop} {D : va_G} {A : Nat → Prop} {b N : Nat} {xs : Nat → Int32} {adC adM : Nat → Nat} {g : Nat → ClassId} {ao k cells slots : Nat} {I : Nat → Nat → Int32} {L : Nat → Nat → Int64} {S : Nat → Nat} {n : Nat} {Z : Nat → Nat → Int32} {Y : Int64} {R : Nat → Nat} {on : Int64} {ov : Value} (HX : LX p l s m meth c A b N xs) (hk : 6 * k + 6 ≤ N) (hroom : cells + 60 ≤ 600002 ∧ slots + 1200 ≤ 7302232) (hI : Inv I L S n) (hR : R16 R) (hZ : Z 0 = fun j => nI (R j)) (a1 : Nat) (hl1 : 0 ≤ a1) (hu1 : a1 < 16) (e1 : xs (6 * k + 1) = nI a1) (dd : Nat) (hdd : dd < 2 ^ 44) (ed : lg2 (xs (6 * k + 2)) (xs (6 * k + 3)) = lN dd) (kk : LK p l e s m below meth c Q D A b adC adM g ao k cells slots 2256) : GL p l e room_1 s m #[.ref b] below meth c Q D CL (TYS g) A 9 (WL adC adM g ao I L S Z Y on ov) cells slots 905 [(0, .ref b), (1, .ref (adC 0)), (2, .ref (adM 0)), (3, .ref ao), (4, .int (nI (6 * k)))] [] := by
  obtain ⟨X, hSB, hAf, hNC, hfl, hX, hbl, hbA, hN⟩ := HX
  refine g_run X KL_law_905_115 KL_law_905_115_d 911 [(0, .ref b), (1, .ref (adC 0)), (2, .ref (adM 0)), (3, .ref ao), (4, .int (nI (6 * k)))] [.int ((nI (6 * k)) + (nI 1)), .ref b, .ref (adC 0)] rfl ?_
  refine g_nm (lv' := [(0, .ref b), (1, .ref (adC 0)), (2, .ref (adM 0)), (3, .ref ao), (4, .int (nI (6 * k)))]) (st' := [.int (nI ((6 * k) + 1)), .ref b, .ref (adC 0)]) (by simp only [nI_add]) (by simp only [nI_add]) ?_
  refine g_sld X hX hbl hbA hN (v := nI a1) (by omega) e1 dL_law_911 ?_
  refine g_run X KL_law_912_116 KL_law_912_116_d 917 [(0, .ref b), (1, .ref (adC 0)), (2, .ref (adM 0)), (3, .ref ao), (4, .int (nI (6 * k)))] [.int ((nI (6 * k)) + (nI 2)), .ref b, .int (nI a1), .ref (adC 0)] rfl ?_
  refine g_nm (lv' := [(0, .ref b), (1, .ref (adC 0)), (2, .ref (adM 0)), (3, .ref ao), (4, .int (nI (6 * k)))]) (st' := [.int (nI ((6 * k) + 2)), .ref b, .int (nI a1), .ref (adC 0)]) (by simp only [nI_add]) (by simp only [nI_add]) ?_
  refine g_sld X hX hbl hbA hN (v := xs (6 * k + 2)) (by omega) rfl dL_law_917 ?_
  refine g_run X KL_law_918_117 KL_law_918_117_d 927 [(0, .ref b), (1, .ref (adC 0)), (2, .ref (adM 0)), (3, .ref ao), (4, .int (nI (6 * k)))] [.int ((nI (6 * k)) + (nI 3)), .ref b, .long (((xs (6 * k + 2)).toInt64) <<< ((nI 32).toInt64 &&& 63)), .int (nI a1), .ref (adC 0)] rfl ?_
  refine g_nm (lv' := [(0, .ref b), (1, .ref (adC 0)), (2, .ref (adM 0)), (3, .ref ao), (4, .int (nI (6 * k)))]) (st' := [.int (nI ((6 * k) + 3)), .ref b, .long (((xs (6 * k + 2)).toInt64) <<< ((nI 32).toInt64 &&& 63)), .int (nI a1), .ref (adC 0)]) (by simp only [nI_add]) (by simp only [nI_add]) ?_
  refine g_sld X hX hbl hbA hN (v := xs (6 * k + 3)) (by omega) rfl dL_law_927 ?_
  refine g_run X KL_law_928_118 KL_law_928_118_d 929 [(0, .ref b), (1, .ref (adC 0)), (2, .ref (adM 0)), (3, .ref ao), (4, .int (nI (6 * k)))] [.long ((xs (6 * k + 3)).toInt64), .long (((xs (6 * k + 2)).toInt64) <<< ((nI 32).toInt64 &&& 63)), .int (nI a1), .ref (adC 0)] rfl ?_
  refine g_ldc2 X (v := (4294967295 : Int64)) w_1562 dL_law_929 ?_
  refine g_run X KL_law_932_119 KL_law_932_119_d 934 [(0, .ref b), (1, .ref (adC 0)), (2, .ref (adM 0)), (3, .ref ao), (4, .int (nI (6 * k)))] [.long ((((xs (6 * k + 2)).toInt64) <<< ((nI 32).toInt64 &&& 63)) ||| (((xs (6 * k + 3)).toInt64) &&& (4294967295 : Int64))), .int (nI a1), .ref (adC 0)] rfl ?_
  refine g_st (st' := [.long (lN dd), .int (nI a1), .ref (adC 0)]) (by rw [← ed]; rfl) ?_
  refine g_run X KL_law_934_120 KL_law_934_120_d 935 [(0, .ref b), (1, .ref (adC 0)), (2, .ref (adM 0)), (3, .ref ao), (4, .int (nI (6 * k)))] [.ref ao, .long (lN dd), .int (nI a1), .ref (adC 0)] rfl ?_
  refine g_callSW X hSB hAf hNC (As := [.ref (adC 0), .int (nI a1), .long (lN dd), .ref ao]) (wr := WM adM g I L S Z Y) (n := 4) (hc_store l D g adC I L S a1 (lN dd) ao on ov (hI.s18) (hI.fr) (by first | assumption | omega) (dOK_l hdd)) rfl w_670 w_668 w_669 w_0 (by decide +kernel) rfl ⟨Nat.le_of_ble_eq_true rfl, Nat.le_of_ble_eq_true rfl⟩ rfl rfl rfl (Nat.le_of_ble_eq_true rfl) ⟨by show cells + 0 ≤ 600002; omega, by show slots + 0 ≤ 7302232; omega⟩ dL_law_935 (fun hu1 _ => ?_)
  refine g_af (ws' := (WC adC g (stI I a1) (stL I L S a1 (wdO (lN dd))) S ++ ([OUT ao ((nI (stK I a1)).toInt64) ov] : va_W)) ++ WM adM g I L S Z Y) (st' := [.int (nI 0)]) (cells' := cells + 0) (slots' := slots + 0) (pc' := 938) rfl rfl rfl rfl rfl ?_
  refine g_run X KL_law_938_121 KL_law_938_121_d 946 [(5, .int (nI 0)), (0, .ref b), (1, .ref (adC 0)), (2, .ref (adM 0)), (3, .ref ao), (4, .int (nI (6 * k)))] [.int ((nI (6 * k)) + (nI 1)), .ref b, .ref (adM 0)] rfl ?_
  refine g_nm (lv' := [(5, .int (nI 0)), (0, .ref b), (1, .ref (adC 0)), (2, .ref (adM 0)), (3, .ref ao), (4, .int (nI (6 * k)))]) (st' := [.int (nI ((6 * k) + 1)), .ref b, .ref (adM 0)]) (by simp only [nI_add]) (by simp only [nI_add]) ?_
  refine g_sld X hX hbl hbA hN (v := nI a1) (by omega) e1 dL_law_946 ?_
  refine g_run X KL_law_947_122 KL_law_947_122_d 952 [(5, .int (nI 0)), (0, .ref b), (1, .ref (adC 0)), (2, .ref (adM 0)), (3, .ref ao), (4, .int (nI (6 * k)))] [.int ((nI (6 * k)) + (nI 2)), .ref b, .int (nI a1), .ref (adM 0)] rfl ?_
  refine g_nm (lv' := [(5, .int (nI 0)), (0, .ref b), (1, .ref (adC 0)), (2, .ref (adM 0)), (3, .ref ao), (4, .int (nI (6 * k)))]) (st' := [.int (nI ((6 * k) + 2)), .ref b, .int (nI a1), .ref (adM 0)]) (by simp only [nI_add]) (by simp only [nI_add]) ?_
  refine g_sld X hX hbl hbA hN (v := xs (6 * k + 2)) (by omega) rfl dL_law_952 ?_
  refine g_run X KL_law_953_123 KL_law_953_123_d 962 [(5, .int (nI 0)), (0, .ref b), (1, .ref (adC 0)), (2, .ref (adM 0)), (3, .ref ao), (4, .int (nI (6 * k)))] [.int ((nI (6 * k)) + (nI 3)), .ref b, .long (((xs (6 * k + 2)).toInt64) <<< ((nI 32).toInt64 &&& 63)), .int (nI a1), .ref (adM 0)] rfl ?_
  refine g_nm (lv' := [(5, .int (nI 0)), (0, .ref b), (1, .ref (adC 0)), (2, .ref (adM 0)), (3, .ref ao), (4, .int (nI (6 * k)))]) (st' := [.int (nI ((6 * k) + 3)), .ref b, .long (((xs (6 * k + 2)).toInt64) <<< ((nI 32).toInt64 &&& 63)), .int (nI a1), .ref (adM 0)]) (by simp only [nI_add]) (by simp only [nI_add]) ?_
  refine g_sld X hX hbl hbA hN (v := xs (6 * k + 3)) (by omega) rfl dL_law_962 ?_
  refine g_run X KL_law_963_124 KL_law_963_124_d 964 [(5, .int (nI 0)), (0, .ref b), (1, .ref (adC 0)), (2, .ref (adM 0)), (3, .ref ao), (4, .int (nI (6 * k)))] [.long ((xs (6 * k + 3)).toInt64), .long (((xs (6 * k + 2)).toInt64) <<< ((nI 32).toInt64 &&& 63)), .int (nI a1), .ref (adM 0)] rfl ?_
  refine g_ldc2 X (v := (4294967295 : Int64)) w_1562 dL_law_964 ?_
  refine g_run X KL_law_967_125 KL_law_967_125_d 969 [(5, .int (nI 0)), (0, .ref b), (1, .ref (adC 0)), (2, .ref (adM 0)), (3, .ref ao), (4, .int (nI (6 * k)))] [.long ((((xs (6 * k + 2)).toInt64) <<< ((nI 32).toInt64 &&& 63)) ||| (((xs (6 * k + 3)).toInt64) &&& (4294967295 : Int64))), .int (nI a1), .ref (adM 0)] rfl ?_
  refine g_st (st' := [.long (lN dd), .int (nI a1), .ref (adM 0)]) (by rw [← ed]; rfl) ?_
  refine g_perm (ws' := WM adM g I L S Z Y ++ (WC adC g (stI I a1) (stL I L S a1 (wdO (lN dd))) S ++ ([OUT ao ((nI (stK I a1)).toInt64) ov] : va_W))) (List.perm_append_comm (l₁ := WM adM g I L S Z Y) (l₂ := (WC adC g (stI I a1) (stL I L S a1 (wdO (lN dd))) S ++ ([OUT ao ((nI (stK I a1)).toInt64) ov] : va_W)))) ?_
  refine g_callV X hSB hAf srcW (hrc1 := (rfl : CL[8]? = some _)) (wm_mem (k := 0) (by decide)) rfl (As := [.int (nI a1), .long (lN dd)]) (wr := WC adC g (stI I a1) (stL I L S a1 (wdO (lN dd))) S ++ ([OUT ao ((nI (stK I a1)).toInt64) ov] : va_W)) (n := 2) (c_X9_store l D g adM I L S Z Y a1 dd R (hR) (hZ) (hI.s18) (hI.fr) (hI.fw) (by first | assumption | omega) (by first | assumption | omega)) rfl srcN hrdN w_1412 w_1409 w_1410 w_1411 w_6 (by decide +kernel) rfl ⟨Nat.le_of_ble_eq_true rfl, Nat.le_of_ble_eq_true rfl⟩ rfl rfl rfl (Nat.le_of_ble_eq_true rfl) ⟨by show cells + 0 + 1 ≤ 600002; omega, by show slots + 0 + 15 ≤ 7302232; omega⟩ dL_law_969 (fun hu2 hp_hu2 => ?_)
  refine g_af (ws' := WM adM g (stI I a1) (stL I L S a1 (wdO (lN dd))) S (z4 (u2 Z 3 0 (nI 0)) hu2.1 hu2.2.1 hu2.2.2) Y ++ (WC adC g (stI I a1) (stL I L S a1 (wdO (lN dd))) S ++ ([OUT ao ((nI (stK I a1)).toInt64) ov] : va_W))) (st' := [.int (nI (stK I a1))]) (cells' := cells + 0 + 1) (slots' := slots + 0 + 15) (pc' := 972) rfl rfl rfl rfl rfl ?_
  refine g_run X KL_law_972_126 KL_law_972_126_d 975 [(6, .int (nI (stK I a1))), (5, .int (nI 0)), (0, .ref b), (1, .ref (adC 0)), (2, .ref (adM 0)), (3, .ref ao), (4, .int (nI (6 * k)))] [.ref (adM 0)] rfl ?_
  refine g_callV X hSB hAf srcW (hrc1 := (rfl : CL[8]? = some _)) (wm_mem (k := 0) (by decide)) rfl (As := []) (wr := WC adC g (stI I a1) (stL I L S a1 (wdO (lN dd))) S ++ ([OUT ao ((nI (stK I a1)).toInt64) ov] : va_W)) (n := 0) (c_X9_thrown l D g adM (stI I a1) (stL I L S a1 (wdO (lN dd))) S (z4 (u2 Z 3 0 (nI 0)) hu2.1 hu2.2.1 hu2.2.2) Y ) rfl srcN hrdN w_1250 w_1247 w_1248 w_1249 w_6 (by decide +kernel) rfl ⟨Nat.le_of_ble_eq_true rfl, Nat.le_of_ble_eq_true rfl⟩ rfl rfl rfl (Nat.le_of_ble_eq_true rfl) ⟨by show cells + 0 + 1 + 0 ≤ 600002; omega, by show slots + 0 + 15 + 0 ≤ 7302232; omega⟩ dL_law_975 (fun hu3 hp_hu3 => ?_)
  refine g_af (ws' := WM adM g (stI I a1) (stL I L S a1 (wdO (lN dd))) S (z4 (u2 Z 3 0 (nI 0)) hu2.1 hu2.2.1 hu2.2.2) Y ++ (WC adC g (stI I a1) (stL I L S a1 (wdO (lN dd))) S ++ ([OUT ao ((nI (stK I a1)).toInt64) ov] : va_W))) (st' := [.int ((z4 (u2 Z 3 0 (nI 0)) hu2.1 hu2.2.1 hu2.2.2) 3 0)]) (cells' := cells + 0 + 1 + 0) (slots' := slots + 0 + 15 + 0) (pc' := 978) rfl rfl rfl rfl rfl ?_
  refine g_st (st' := [.int (nI 0)]) (by first | rfl | (simp [z4, u2]; done)) ?_
  refine g_run X KL_law_978_127 KL_law_978_127_d 980 [(6, .int (nI (stK I a1))), (5, .int (nI 0)), (0, .ref b), (1, .ref (adC 0)), (2, .ref (adM 0)), (3, .ref ao), (4, .int (nI (6 * k)))] [.int (nI 0), .int (nI 0)] rfl ?_
  refine g_icmp_eq X 985 dL_law_980 (by decide) (fun hc4 => ?_) (fun hc4 => ?_)
  · refine g_run X KL_law_985_128 KL_law_985_128_d 987 [(6, .int (nI (stK I a1))), (5, .int (nI 0)), (0, .ref b), (1, .ref (adC 0)), (2, .ref (adM 0)), (3, .ref ao), (4, .int (nI (6 * k)))] [.int (nI 0)] rfl ?_
    refine g_if_ne X 1003 dL_law_987 (by decide) (fun hc5 => ?_) (fun hc5 => ?_)
    · rw [nz_eq (by omega)] at hc5; first | omega | (simp at hc5)
    · refine g_run X KL_law_990_129 KL_law_990_129_d 991 [(6, .int (nI (stK I a1))), (5, .int (nI 0)), (0, .ref b), (1, .ref (adC 0)), (2, .ref (adM 0)), (3, .ref ao), (4, .int (nI (6 * k)))] [.ref ao] rfl ?_
      refine g_getN X srcW (host := "ChipfieldLaw") (v := .long ((nI (stK I a1)).toInt64)) hinX6 rfl 0 (by decide) (nw_in n_489 rfl) rfl (List.mem_append_right _ (List.mem_append_right _ List.mem_cons_self)) rfl dL_law_991 ?_
      refine g_run X KL_law_994_130 KL_law_994_130_d 998 [(6, .int (nI (stK I a1))), (5, .int (nI 0)), (0, .ref b), (1, .ref (adC 0)), (2, .ref (adM 0)), (3, .ref ao), (4, .int (nI (6 * k)))] [.int (lg_cmp ((nI (stK I a1)).toInt64) ((nI (stK I a1)).toInt64))] rfl ?_
      refine g_if_eq X 1003 dL_law_998 (by decide) (fun hc6 => ?_) (fun hc6 => ?_)
      · refine g_run X KL_law_1003_131 KL_law_1003_131_d 2256 [(6, .int (nI (stK I a1))), (5, .int (nI 0)), (0, .ref b), (1, .ref (adC 0)), (2, .ref (adM 0)), (3, .ref ao), (4, .int (nI (6 * k)))] [] rfl ?_
        refine g_lv (lv' := [(0, .ref b), (1, .ref (adC 0)), (2, .ref (adM 0)), (3, .ref ao), (4, .int (nI (6 * k)))]) (lsub_c 2 rfl (lsub_c 3 rfl (lsub_c 4 rfl (lsub_c 5 rfl (lsub_c 6 rfl (lsub_n)))))) ?_
        refine g_perm (ws' := (WC adC g (stI I a1) (stL I L S a1 (wdO (lN dd))) S ++ ([OUT ao ((nI (stK I a1)).toInt64) ov] : va_W)) ++ WM adM g (stI I a1) (stL I L S a1 (wdO (lN dd))) S (z4 (u2 Z 3 0 (nI 0)) hu2.1 hu2.2.1 hu2.2.2) Y) (List.perm_append_comm (l₁ := (WC adC g (stI I a1) (stL I L S a1 (wdO (lN dd))) S ++ ([OUT ao ((nI (stK I a1)).toInt64) ov] : va_W))) (l₂ := WM adM g (stI I a1) (stL I L S a1 (wdO (lN dd))) S (z4 (u2 Z 3 0 (nI 0)) hu2.1 hu2.2.1 hu2.2.2) Y)) ?_
        refine g_widen (k := cells + 60) (n := slots + 1200) (by omega) (by omega) ?_
        exact kk (stI I a1) (stL I L S a1 (wdO (lN dd))) S n (z4 (u2 Z 3 0 (nI 0)) hu2.1 hu2.2.1 hu2.2.2) Y hu2.1 ((nI (stK I a1)).toInt64) ov (hI.st (by assumption) ⟨wdO_cw (by assumption), wdO_15 (by assumption)⟩) (hp_hu2) (rfl)
      · exact absurd lg_self hc6
  · rw [nI_eq (by omega) (by omega)] at hc4; first | omega | (simp at hc4)

set_option maxHeartbeats 4000000 in
set_option maxRecDepth 100000 in
theorem lq10_2 {p : Program} {l : Launch} {e : Env} {s : State} {m : MethodId} {below : List Frame} {meth : Method} {c : Code} {Q : State → Prop} {D : va_G} {A : Nat → Prop} {b N : Nat} {xs : Nat → Int32} {adC adM : Nat → Nat} {g : Nat → ClassId} {ao k cells slots : Nat} {I : Nat → Nat → Int32} {L : Nat → Nat → Int64} {S : Nat → Nat} {n : Nat} {Z : Nat → Nat → Int32} {Y : Int64} {R : Nat → Nat} {on : Int64} {ov : Value} (HX : LX p l s m meth c A b N xs) (hk : 6 * k + 6 ≤ N) (hroom : cells + 60 ≤ 600002 ∧ slots + 1200 ≤ 7302232) (hI : Inv I L S n) (hR : R16 R) (hZ : Z 0 = fun j => nI (R j)) (a1 : Nat) (hl1 : 0 ≤ a1) (hu1 : a1 < 16) (e1 : xs (6 * k + 1) = nI a1) (hnd : ¬ dOK (lg2 (xs (6 * k + 2)) (xs (6 * k + 3)))) (kk : LK p l e s m below meth c Q D A b adC adM g ao k cells slots 2256) : GL p l e room_1 s m #[.ref b] below meth c Q D CL (TYS g) A 9 (WL adC adM g ao I L S Z Y on ov) cells slots 905 [(0, .ref b), (1, .ref (adC 0)), (2, .ref (adM 0)), (3, .ref ao), (4, .int (nI (6 * k)))] [] := by
  obtain ⟨X, hSB, hAf, hNC, hfl, hX, hbl, hbA, hN⟩ := HX
  refine g_run X KL_law_905_115 KL_law_905_115_d 911 [(0, .ref b), (1, .ref (adC 0)), (2, .ref (adM 0)), (3, .ref ao), (4, .int (nI (6 * k)))] [.int ((nI (6 * k)) + (nI 1)), .ref b, .ref (adC 0)] rfl ?_
  refine g_nm (lv' := [(0, .ref b), (1, .ref (adC 0)), (2, .ref (adM 0)), (3, .ref ao), (4, .int (nI (6 * k)))]) (st' := [.int (nI ((6 * k) + 1)), .ref b, .ref (adC 0)]) (by simp only [nI_add]) (by simp only [nI_add]) ?_
  refine g_sld X hX hbl hbA hN (v := nI a1) (by omega) e1 dL_law_911 ?_
  refine g_run X KL_law_912_116 KL_law_912_116_d 917 [(0, .ref b), (1, .ref (adC 0)), (2, .ref (adM 0)), (3, .ref ao), (4, .int (nI (6 * k)))] [.int ((nI (6 * k)) + (nI 2)), .ref b, .int (nI a1), .ref (adC 0)] rfl ?_
  refine g_nm (lv' := [(0, .ref b), (1, .ref (adC 0)), (2, .ref (adM 0)), (3, .ref ao), (4, .int (nI (6 * k)))]) (st' := [.int (nI ((6 * k) + 2)), .ref b, .int (nI a1), .ref (adC 0)]) (by simp only [nI_add]) (by simp only [nI_add]) ?_
  refine g_sld X hX hbl hbA hN (v := xs (6 * k + 2)) (by omega) rfl dL_law_917 ?_
  refine g_run X KL_law_918_117 KL_law_918_117_d 927 [(0, .ref b), (1, .ref (adC 0)), (2, .ref (adM 0)), (3, .ref ao), (4, .int (nI (6 * k)))] [.int ((nI (6 * k)) + (nI 3)), .ref b, .long (((xs (6 * k + 2)).toInt64) <<< ((nI 32).toInt64 &&& 63)), .int (nI a1), .ref (adC 0)] rfl ?_
  refine g_nm (lv' := [(0, .ref b), (1, .ref (adC 0)), (2, .ref (adM 0)), (3, .ref ao), (4, .int (nI (6 * k)))]) (st' := [.int (nI ((6 * k) + 3)), .ref b, .long (((xs (6 * k + 2)).toInt64) <<< ((nI 32).toInt64 &&& 63)), .int (nI a1), .ref (adC 0)]) (by simp only [nI_add]) (by simp only [nI_add]) ?_
  refine g_sld X hX hbl hbA hN (v := xs (6 * k + 3)) (by omega) rfl dL_law_927 ?_
  refine g_run X KL_law_928_118 KL_law_928_118_d 929 [(0, .ref b), (1, .ref (adC 0)), (2, .ref (adM 0)), (3, .ref ao), (4, .int (nI (6 * k)))] [.long ((xs (6 * k + 3)).toInt64), .long (((xs (6 * k + 2)).toInt64) <<< ((nI 32).toInt64 &&& 63)), .int (nI a1), .ref (adC 0)] rfl ?_
  refine g_ldc2 X (v := (4294967295 : Int64)) w_1562 dL_law_929 ?_
  refine g_run X KL_law_932_119 KL_law_932_119_d 934 [(0, .ref b), (1, .ref (adC 0)), (2, .ref (adM 0)), (3, .ref ao), (4, .int (nI (6 * k)))] [.long ((((xs (6 * k + 2)).toInt64) <<< ((nI 32).toInt64 &&& 63)) ||| (((xs (6 * k + 3)).toInt64) &&& (4294967295 : Int64))), .int (nI a1), .ref (adC 0)] rfl ?_
  refine g_st (st' := [.long (lg2 (xs (6 * k + 2)) (xs (6 * k + 3))), .int (nI a1), .ref (adC 0)]) (rfl) ?_
  refine g_run X KL_law_934_120 KL_law_934_120_d 935 [(0, .ref b), (1, .ref (adC 0)), (2, .ref (adM 0)), (3, .ref ao), (4, .int (nI (6 * k)))] [.ref ao, .long (lg2 (xs (6 * k + 2)) (xs (6 * k + 3))), .int (nI a1), .ref (adC 0)] rfl ?_
  refine g_callSW X hSB hAf hNC (As := [.ref (adC 0), .int (nI a1), .long (lg2 (xs (6 * k + 2)) (xs (6 * k + 3))), .ref ao]) (wr := WM adM g I L S Z Y) (n := 4) (hx_store_2 l hfl D g adC I L S a1 (lg2 (xs (6 * k + 2)) (xs (6 * k + 3))) ao on ov (by first | assumption | omega) (hnd)) rfl w_670 w_668 w_669 w_0 (by decide +kernel) rfl ⟨Nat.le_of_ble_eq_true rfl, Nat.le_of_ble_eq_true rfl⟩ rfl rfl rfl (Nat.le_of_ble_eq_true rfl) ⟨by show cells + 1 ≤ 600002; omega, by show slots + 6 ≤ 7302232; omega⟩ dL_law_935 (fun hu1 _ => ?_)
  refine g_af (ws' := (WC adC g I L S ++ ([OUT ao on ov] : va_W)) ++ WM adM g I L S Z Y) (st' := [.int (nI 2)]) (cells' := cells + 1) (slots' := slots + 6) (pc' := 938) rfl rfl rfl rfl rfl ?_
  refine g_run X KL_law_938_121 KL_law_938_121_d 946 [(5, .int (nI 2)), (0, .ref b), (1, .ref (adC 0)), (2, .ref (adM 0)), (3, .ref ao), (4, .int (nI (6 * k)))] [.int ((nI (6 * k)) + (nI 1)), .ref b, .ref (adM 0)] rfl ?_
  refine g_nm (lv' := [(5, .int (nI 2)), (0, .ref b), (1, .ref (adC 0)), (2, .ref (adM 0)), (3, .ref ao), (4, .int (nI (6 * k)))]) (st' := [.int (nI ((6 * k) + 1)), .ref b, .ref (adM 0)]) (by simp only [nI_add]) (by simp only [nI_add]) ?_
  refine g_sld X hX hbl hbA hN (v := nI a1) (by omega) e1 dL_law_946 ?_
  refine g_run X KL_law_947_122 KL_law_947_122_d 952 [(5, .int (nI 2)), (0, .ref b), (1, .ref (adC 0)), (2, .ref (adM 0)), (3, .ref ao), (4, .int (nI (6 * k)))] [.int ((nI (6 * k)) + (nI 2)), .ref b, .int (nI a1), .ref (adM 0)] rfl ?_
  refine g_nm (lv' := [(5, .int (nI 2)), (0, .ref b), (1, .ref (adC 0)), (2, .ref (adM 0)), (3, .ref ao), (4, .int (nI (6 * k)))]) (st' := [.int (nI ((6 * k) + 2)), .ref b, .int (nI a1), .ref (adM 0)]) (by simp only [nI_add]) (by simp only [nI_add]) ?_
  refine g_sld X hX hbl hbA hN (v := xs (6 * k + 2)) (by omega) rfl dL_law_952 ?_
  refine g_run X KL_law_953_123 KL_law_953_123_d 962 [(5, .int (nI 2)), (0, .ref b), (1, .ref (adC 0)), (2, .ref (adM 0)), (3, .ref ao), (4, .int (nI (6 * k)))] [.int ((nI (6 * k)) + (nI 3)), .ref b, .long (((xs (6 * k + 2)).toInt64) <<< ((nI 32).toInt64 &&& 63)), .int (nI a1), .ref (adM 0)] rfl ?_
  refine g_nm (lv' := [(5, .int (nI 2)), (0, .ref b), (1, .ref (adC 0)), (2, .ref (adM 0)), (3, .ref ao), (4, .int (nI (6 * k)))]) (st' := [.int (nI ((6 * k) + 3)), .ref b, .long (((xs (6 * k + 2)).toInt64) <<< ((nI 32).toInt64 &&& 63)), .int (nI a1), .ref (adM 0)]) (by simp only [nI_add]) (by simp only [nI_add]) ?_
  refine g_sld X hX hbl hbA hN (v := xs (6 * k + 3)) (by omega) rfl dL_law_962 ?_
  refine g_run X KL_law_963_124 KL_law_963_124_d 964 [(5, .int (nI 2)), (0, .ref b), (1, .ref (adC 0)), (2, .ref (adM 0)), (3, .ref ao), (4, .int (nI (6 * k)))] [.long ((xs (6 * k + 3)).toInt64), .long (((xs (6 * k + 2)).toInt64) <<< ((nI 32).toInt64 &&& 63)), .int (nI a1), .ref (adM 0)] rfl ?_
  refine g_ldc2 X (v := (4294967295 : Int64)) w_1562 dL_law_964 ?_
  refine g_run X KL_law_967_125 KL_law_967_125_d 969 [(5, .int (nI 2)), (0, .ref b), (1, .ref (adC 0)), (2, .ref (adM 0)), (3, .ref ao), (4, .int (nI (6 * k)))] [.long ((((xs (6 * k + 2)).toInt64) <<< ((nI 32).toInt64 &&& 63)) ||| (((xs (6 * k + 3)).toInt64) &&& (4294967295 : Int64))), .int (nI a1), .ref (adM 0)] rfl ?_
  refine g_st (st' := [.long (lg2 (xs (6 * k + 2)) (xs (6 * k + 3))), .int (nI a1), .ref (adM 0)]) (rfl) ?_
  refine g_perm (ws' := WM adM g I L S Z Y ++ (WC adC g I L S ++ ([OUT ao on ov] : va_W))) (List.perm_append_comm (l₁ := WM adM g I L S Z Y) (l₂ := (WC adC g I L S ++ ([OUT ao on ov] : va_W)))) ?_
  refine g_callV X hSB hAf srcW (hrc1 := (rfl : CL[8]? = some _)) (wm_mem (k := 0) (by decide)) rfl (As := [.int (nI a1), .long (lg2 (xs (6 * k + 2)) (xs (6 * k + 3)))]) (wr := WC adC g I L S ++ ([OUT ao on ov] : va_W)) (n := 2) (c_X9_store_2 l D g adM I L S Z Y a1 (lg2 (xs (6 * k + 2)) (xs (6 * k + 3))) (by first | assumption | omega) (hnd)) rfl srcN hrdN w_1412 w_1409 w_1410 w_1411 w_6 (by decide +kernel) rfl ⟨Nat.le_of_ble_eq_true rfl, Nat.le_of_ble_eq_true rfl⟩ rfl rfl rfl (Nat.le_of_ble_eq_true rfl) ⟨by show cells + 1 + 0 ≤ 600002; omega, by show slots + 6 + 0 ≤ 7302232; omega⟩ dL_law_969 (fun hu2 hp_hu2 => ?_)
  refine g_af (ws' := WM adM g I L S (u2 (u2 Z 3 0 (nI 0)) 3 0 (nI 2)) Y ++ (WC adC g I L S ++ ([OUT ao on ov] : va_W))) (st' := [.int (nI 0)]) (cells' := cells + 1 + 0) (slots' := slots + 6 + 0) (pc' := 972) rfl rfl rfl rfl rfl ?_
  refine g_run X KL_law_972_126 KL_law_972_126_d 975 [(6, .int (nI 0)), (5, .int (nI 2)), (0, .ref b), (1, .ref (adC 0)), (2, .ref (adM 0)), (3, .ref ao), (4, .int (nI (6 * k)))] [.ref (adM 0)] rfl ?_
  refine g_callV X hSB hAf srcW (hrc1 := (rfl : CL[8]? = some _)) (wm_mem (k := 0) (by decide)) rfl (As := []) (wr := WC adC g I L S ++ ([OUT ao on ov] : va_W)) (n := 0) (c_X9_thrown l D g adM I L S (u2 (u2 Z 3 0 (nI 0)) 3 0 (nI 2)) Y ) rfl srcN hrdN w_1250 w_1247 w_1248 w_1249 w_6 (by decide +kernel) rfl ⟨Nat.le_of_ble_eq_true rfl, Nat.le_of_ble_eq_true rfl⟩ rfl rfl rfl (Nat.le_of_ble_eq_true rfl) ⟨by show cells + 1 + 0 + 0 ≤ 600002; omega, by show slots + 6 + 0 + 0 ≤ 7302232; omega⟩ dL_law_975 (fun hu3 hp_hu3 => ?_)
  refine g_af (ws' := WM adM g I L S (u2 (u2 Z 3 0 (nI 0)) 3 0 (nI 2)) Y ++ (WC adC g I L S ++ ([OUT ao on ov] : va_W))) (st' := [.int ((u2 (u2 Z 3 0 (nI 0)) 3 0 (nI 2)) 3 0)]) (cells' := cells + 1 + 0 + 0) (slots' := slots + 6 + 0 + 0) (pc' := 978) rfl rfl rfl rfl rfl ?_
  refine g_st (st' := [.int (nI 2)]) (by first | rfl | (simp [z4, u2]; done)) ?_
  refine g_run X KL_law_978_127 KL_law_978_127_d 980 [(6, .int (nI 0)), (5, .int (nI 2)), (0, .ref b), (1, .ref (adC 0)), (2, .ref (adM 0)), (3, .ref ao), (4, .int (nI (6 * k)))] [.int (nI 2), .int (nI 2)] rfl ?_
  refine g_icmp_eq X 985 dL_law_980 (by decide) (fun hc4 => ?_) (fun hc4 => ?_)
  · refine g_run X KL_law_985_128 KL_law_985_128_d 987 [(6, .int (nI 0)), (5, .int (nI 2)), (0, .ref b), (1, .ref (adC 0)), (2, .ref (adM 0)), (3, .ref ao), (4, .int (nI (6 * k)))] [.int (nI 2)] rfl ?_
    refine g_if_ne X 1003 dL_law_987 (by decide) (fun hc5 => ?_) (fun hc5 => ?_)
    · refine g_run X KL_law_1003_131 KL_law_1003_131_d 2256 [(6, .int (nI 0)), (5, .int (nI 2)), (0, .ref b), (1, .ref (adC 0)), (2, .ref (adM 0)), (3, .ref ao), (4, .int (nI (6 * k)))] [] rfl ?_
      refine g_lv (lv' := [(0, .ref b), (1, .ref (adC 0)), (2, .ref (adM 0)), (3, .ref ao), (4, .int (nI (6 * k)))]) (lsub_c 2 rfl (lsub_c 3 rfl (lsub_c 4 rfl (lsub_c 5 rfl (lsub_c 6 rfl (lsub_n)))))) ?_
      refine g_perm (ws' := (WC adC g I L S ++ ([OUT ao on ov] : va_W)) ++ WM adM g I L S (u2 (u2 Z 3 0 (nI 0)) 3 0 (nI 2)) Y) (List.perm_append_comm (l₁ := (WC adC g I L S ++ ([OUT ao on ov] : va_W))) (l₂ := WM adM g I L S (u2 (u2 Z 3 0 (nI 0)) 3 0 (nI 2)) Y)) ?_
      refine g_widen (k := cells + 60) (n := slots + 1200) (by omega) (by omega) ?_
      exact kk I L S n (u2 (u2 Z 3 0 (nI 0)) 3 0 (nI 2)) Y R on ov (hI) (hR) (by first | exact hZ | (rw [zrow]; exact hZ) | (rw [zrow, zrow]; exact hZ))
    · rw [nz_eq (by omega)] at hc5; first | omega | (simp at hc5)
  · rw [nI_eq (by omega) (by omega)] at hc4; first | omega | (simp at hc4)

set_option maxHeartbeats 4000000 in
set_option maxRecDepth 100000 in
theorem lq10_1 {p : Program} {l : Launch} {e : Env} {s : State} {m : MethodId} {below : List Frame} {meth : Method} {c : Code} {Q : State → Prop} {D : va_G} {A : Nat → Prop} {b N : Nat} {xs : Nat → Int32} {adC adM : Nat → Nat} {g : Nat → ClassId} {ao k cells slots : Nat} {I : Nat → Nat → Int32} {L : Nat → Nat → Int64} {S : Nat → Nat} {n : Nat} {Z : Nat → Nat → Int32} {Y : Int64} {R : Nat → Nat} {on : Int64} {ov : Value} (HX : LX p l s m meth c A b N xs) (hk : 6 * k + 6 ≤ N) (hroom : cells + 60 ≤ 600002 ∧ slots + 1200 ≤ 7302232) (hI : Inv I L S n) (hR : R16 R) (hZ : Z 0 = fun j => nI (R j)) (hw : (xs (6 * k + 1)).toInt < (0 : Nat) ∨ ((16 : Nat) : Int) ≤ (xs (6 * k + 1)).toInt) (kk : LK p l e s m below meth c Q D A b adC adM g ao k cells slots 2256) : GL p l e room_1 s m #[.ref b] below meth c Q D CL (TYS g) A 9 (WL adC adM g ao I L S Z Y on ov) cells slots 905 [(0, .ref b), (1, .ref (adC 0)), (2, .ref (adM 0)), (3, .ref ao), (4, .int (nI (6 * k)))] [] := by
  obtain ⟨X, hSB, hAf, hNC, hfl, hX, hbl, hbA, hN⟩ := HX
  refine g_run X KL_law_905_115 KL_law_905_115_d 911 [(0, .ref b), (1, .ref (adC 0)), (2, .ref (adM 0)), (3, .ref ao), (4, .int (nI (6 * k)))] [.int ((nI (6 * k)) + (nI 1)), .ref b, .ref (adC 0)] rfl ?_
  refine g_nm (lv' := [(0, .ref b), (1, .ref (adC 0)), (2, .ref (adM 0)), (3, .ref ao), (4, .int (nI (6 * k)))]) (st' := [.int (nI ((6 * k) + 1)), .ref b, .ref (adC 0)]) (by simp only [nI_add]) (by simp only [nI_add]) ?_
  refine g_sld X hX hbl hbA hN (v := xs (6 * k + 1)) (by omega) rfl dL_law_911 ?_
  refine g_run X KL_law_912_116 KL_law_912_116_d 917 [(0, .ref b), (1, .ref (adC 0)), (2, .ref (adM 0)), (3, .ref ao), (4, .int (nI (6 * k)))] [.int ((nI (6 * k)) + (nI 2)), .ref b, .int (xs (6 * k + 1)), .ref (adC 0)] rfl ?_
  refine g_nm (lv' := [(0, .ref b), (1, .ref (adC 0)), (2, .ref (adM 0)), (3, .ref ao), (4, .int (nI (6 * k)))]) (st' := [.int (nI ((6 * k) + 2)), .ref b, .int (xs (6 * k + 1)), .ref (adC 0)]) (by simp only [nI_add]) (by simp only [nI_add]) ?_
  refine g_sld X hX hbl hbA hN (v := xs (6 * k + 2)) (by omega) rfl dL_law_917 ?_
  refine g_run X KL_law_918_117 KL_law_918_117_d 927 [(0, .ref b), (1, .ref (adC 0)), (2, .ref (adM 0)), (3, .ref ao), (4, .int (nI (6 * k)))] [.int ((nI (6 * k)) + (nI 3)), .ref b, .long (((xs (6 * k + 2)).toInt64) <<< ((nI 32).toInt64 &&& 63)), .int (xs (6 * k + 1)), .ref (adC 0)] rfl ?_
  refine g_nm (lv' := [(0, .ref b), (1, .ref (adC 0)), (2, .ref (adM 0)), (3, .ref ao), (4, .int (nI (6 * k)))]) (st' := [.int (nI ((6 * k) + 3)), .ref b, .long (((xs (6 * k + 2)).toInt64) <<< ((nI 32).toInt64 &&& 63)), .int (xs (6 * k + 1)), .ref (adC 0)]) (by simp only [nI_add]) (by simp only [nI_add]) ?_
  refine g_sld X hX hbl hbA hN (v := xs (6 * k + 3)) (by omega) rfl dL_law_927 ?_
  refine g_run X KL_law_928_118 KL_law_928_118_d 929 [(0, .ref b), (1, .ref (adC 0)), (2, .ref (adM 0)), (3, .ref ao), (4, .int (nI (6 * k)))] [.long ((xs (6 * k + 3)).toInt64), .long (((xs (6 * k + 2)).toInt64) <<< ((nI 32).toInt64 &&& 63)), .int (xs (6 * k + 1)), .ref (adC 0)] rfl ?_
  refine g_ldc2 X (v := (4294967295 : Int64)) w_1562 dL_law_929 ?_
  refine g_run X KL_law_932_119 KL_law_932_119_d 934 [(0, .ref b), (1, .ref (adC 0)), (2, .ref (adM 0)), (3, .ref ao), (4, .int (nI (6 * k)))] [.long ((((xs (6 * k + 2)).toInt64) <<< ((nI 32).toInt64 &&& 63)) ||| (((xs (6 * k + 3)).toInt64) &&& (4294967295 : Int64))), .int (xs (6 * k + 1)), .ref (adC 0)] rfl ?_
  refine g_st (st' := [.long (lg2 (xs (6 * k + 2)) (xs (6 * k + 3))), .int (xs (6 * k + 1)), .ref (adC 0)]) (rfl) ?_
  refine g_run X KL_law_934_120 KL_law_934_120_d 935 [(0, .ref b), (1, .ref (adC 0)), (2, .ref (adM 0)), (3, .ref ao), (4, .int (nI (6 * k)))] [.ref ao, .long (lg2 (xs (6 * k + 2)) (xs (6 * k + 3))), .int (xs (6 * k + 1)), .ref (adC 0)] rfl ?_
  refine g_callSW X hSB hAf hNC (As := [.ref (adC 0), .int (xs (6 * k + 1)), .long (lg2 (xs (6 * k + 2)) (xs (6 * k + 3))), .ref ao]) (wr := WM adM g I L S Z Y) (n := 4) (hx_store_1 l hfl D g adC I L S (xs (6 * k + 1)) (lg2 (xs (6 * k + 2)) (xs (6 * k + 3))) ao on ov (out_lt (by decide) hw)) rfl w_670 w_668 w_669 w_0 (by decide +kernel) rfl ⟨Nat.le_of_ble_eq_true rfl, Nat.le_of_ble_eq_true rfl⟩ rfl rfl rfl (Nat.le_of_ble_eq_true rfl) ⟨by show cells + 1 ≤ 600002; omega, by show slots + 6 ≤ 7302232; omega⟩ dL_law_935 (fun hu1 _ => ?_)
  refine g_af (ws' := (WC adC g I L S ++ ([OUT ao on ov] : va_W)) ++ WM adM g I L S Z Y) (st' := [.int (nI 1)]) (cells' := cells + 1) (slots' := slots + 6) (pc' := 938) rfl rfl rfl rfl rfl ?_
  refine g_run X KL_law_938_121 KL_law_938_121_d 946 [(5, .int (nI 1)), (0, .ref b), (1, .ref (adC 0)), (2, .ref (adM 0)), (3, .ref ao), (4, .int (nI (6 * k)))] [.int ((nI (6 * k)) + (nI 1)), .ref b, .ref (adM 0)] rfl ?_
  refine g_nm (lv' := [(5, .int (nI 1)), (0, .ref b), (1, .ref (adC 0)), (2, .ref (adM 0)), (3, .ref ao), (4, .int (nI (6 * k)))]) (st' := [.int (nI ((6 * k) + 1)), .ref b, .ref (adM 0)]) (by simp only [nI_add]) (by simp only [nI_add]) ?_
  refine g_sld X hX hbl hbA hN (v := xs (6 * k + 1)) (by omega) rfl dL_law_946 ?_
  refine g_run X KL_law_947_122 KL_law_947_122_d 952 [(5, .int (nI 1)), (0, .ref b), (1, .ref (adC 0)), (2, .ref (adM 0)), (3, .ref ao), (4, .int (nI (6 * k)))] [.int ((nI (6 * k)) + (nI 2)), .ref b, .int (xs (6 * k + 1)), .ref (adM 0)] rfl ?_
  refine g_nm (lv' := [(5, .int (nI 1)), (0, .ref b), (1, .ref (adC 0)), (2, .ref (adM 0)), (3, .ref ao), (4, .int (nI (6 * k)))]) (st' := [.int (nI ((6 * k) + 2)), .ref b, .int (xs (6 * k + 1)), .ref (adM 0)]) (by simp only [nI_add]) (by simp only [nI_add]) ?_
  refine g_sld X hX hbl hbA hN (v := xs (6 * k + 2)) (by omega) rfl dL_law_952 ?_
  refine g_run X KL_law_953_123 KL_law_953_123_d 962 [(5, .int (nI 1)), (0, .ref b), (1, .ref (adC 0)), (2, .ref (adM 0)), (3, .ref ao), (4, .int (nI (6 * k)))] [.int ((nI (6 * k)) + (nI 3)), .ref b, .long (((xs (6 * k + 2)).toInt64) <<< ((nI 32).toInt64 &&& 63)), .int (xs (6 * k + 1)), .ref (adM 0)] rfl ?_
  refine g_nm (lv' := [(5, .int (nI 1)), (0, .ref b), (1, .ref (adC 0)), (2, .ref (adM 0)), (3, .ref ao), (4, .int (nI (6 * k)))]) (st' := [.int (nI ((6 * k) + 3)), .ref b, .long (((xs (6 * k + 2)).toInt64) <<< ((nI 32).toInt64 &&& 63)), .int (xs (6 * k + 1)), .ref (adM 0)]) (by simp only [nI_add]) (by simp only [nI_add]) ?_
  refine g_sld X hX hbl hbA hN (v := xs (6 * k + 3)) (by omega) rfl dL_law_962 ?_
  refine g_run X KL_law_963_124 KL_law_963_124_d 964 [(5, .int (nI 1)), (0, .ref b), (1, .ref (adC 0)), (2, .ref (adM 0)), (3, .ref ao), (4, .int (nI (6 * k)))] [.long ((xs (6 * k + 3)).toInt64), .long (((xs (6 * k + 2)).toInt64) <<< ((nI 32).toInt64 &&& 63)), .int (xs (6 * k + 1)), .ref (adM 0)] rfl ?_
  refine g_ldc2 X (v := (4294967295 : Int64)) w_1562 dL_law_964 ?_
  refine g_run X KL_law_967_125 KL_law_967_125_d 969 [(5, .int (nI 1)), (0, .ref b), (1, .ref (adC 0)), (2, .ref (adM 0)), (3, .ref ao), (4, .int (nI (6 * k)))] [.long ((((xs (6 * k + 2)).toInt64) <<< ((nI 32).toInt64 &&& 63)) ||| (((xs (6 * k + 3)).toInt64) &&& (4294967295 : Int64))), .int (xs (6 * k + 1)), .ref (adM 0)] rfl ?_
  refine g_st (st' := [.long (lg2 (xs (6 * k + 2)) (xs (6 * k + 3))), .int (xs (6 * k + 1)), .ref (adM 0)]) (rfl) ?_
  refine g_perm (ws' := WM adM g I L S Z Y ++ (WC adC g I L S ++ ([OUT ao on ov] : va_W))) (List.perm_append_comm (l₁ := WM adM g I L S Z Y) (l₂ := (WC adC g I L S ++ ([OUT ao on ov] : va_W)))) ?_
  refine g_callV X hSB hAf srcW (hrc1 := (rfl : CL[8]? = some _)) (wm_mem (k := 0) (by decide)) rfl (As := [.int (xs (6 * k + 1)), .long (lg2 (xs (6 * k + 2)) (xs (6 * k + 3)))]) (wr := WC adC g I L S ++ ([OUT ao on ov] : va_W)) (n := 2) (c_X9_store_1 l D g adM I L S Z Y (xs (6 * k + 1)) (lg2 (xs (6 * k + 2)) (xs (6 * k + 3))) (out_le (by decide) hw)) rfl srcN hrdN w_1412 w_1409 w_1410 w_1411 w_6 (by decide +kernel) rfl ⟨Nat.le_of_ble_eq_true rfl, Nat.le_of_ble_eq_true rfl⟩ rfl rfl rfl (Nat.le_of_ble_eq_true rfl) ⟨by show cells + 1 + 0 ≤ 600002; omega, by show slots + 6 + 0 ≤ 7302232; omega⟩ dL_law_969 (fun hu2 hp_hu2 => ?_)
  refine g_af (ws' := WM adM g I L S (u2 (u2 Z 3 0 (nI 0)) 3 0 (nI 1)) Y ++ (WC adC g I L S ++ ([OUT ao on ov] : va_W))) (st' := [.int (nI 0)]) (cells' := cells + 1 + 0) (slots' := slots + 6 + 0) (pc' := 972) rfl rfl rfl rfl rfl ?_
  refine g_run X KL_law_972_126 KL_law_972_126_d 975 [(6, .int (nI 0)), (5, .int (nI 1)), (0, .ref b), (1, .ref (adC 0)), (2, .ref (adM 0)), (3, .ref ao), (4, .int (nI (6 * k)))] [.ref (adM 0)] rfl ?_
  refine g_callV X hSB hAf srcW (hrc1 := (rfl : CL[8]? = some _)) (wm_mem (k := 0) (by decide)) rfl (As := []) (wr := WC adC g I L S ++ ([OUT ao on ov] : va_W)) (n := 0) (c_X9_thrown l D g adM I L S (u2 (u2 Z 3 0 (nI 0)) 3 0 (nI 1)) Y ) rfl srcN hrdN w_1250 w_1247 w_1248 w_1249 w_6 (by decide +kernel) rfl ⟨Nat.le_of_ble_eq_true rfl, Nat.le_of_ble_eq_true rfl⟩ rfl rfl rfl (Nat.le_of_ble_eq_true rfl) ⟨by show cells + 1 + 0 + 0 ≤ 600002; omega, by show slots + 6 + 0 + 0 ≤ 7302232; omega⟩ dL_law_975 (fun hu3 hp_hu3 => ?_)
  refine g_af (ws' := WM adM g I L S (u2 (u2 Z 3 0 (nI 0)) 3 0 (nI 1)) Y ++ (WC adC g I L S ++ ([OUT ao on ov] : va_W))) (st' := [.int ((u2 (u2 Z 3 0 (nI 0)) 3 0 (nI 1)) 3 0)]) (cells' := cells + 1 + 0 + 0) (slots' := slots + 6 + 0 + 0) (pc' := 978) rfl rfl rfl rfl rfl ?_
  refine g_st (st' := [.int (nI 1)]) (by first | rfl | (simp [z4, u2]; done)) ?_
  refine g_run X KL_law_978_127 KL_law_978_127_d 980 [(6, .int (nI 0)), (5, .int (nI 1)), (0, .ref b), (1, .ref (adC 0)), (2, .ref (adM 0)), (3, .ref ao), (4, .int (nI (6 * k)))] [.int (nI 1), .int (nI 1)] rfl ?_
  refine g_icmp_eq X 985 dL_law_980 (by decide) (fun hc4 => ?_) (fun hc4 => ?_)
  · refine g_run X KL_law_985_128 KL_law_985_128_d 987 [(6, .int (nI 0)), (5, .int (nI 1)), (0, .ref b), (1, .ref (adC 0)), (2, .ref (adM 0)), (3, .ref ao), (4, .int (nI (6 * k)))] [.int (nI 1)] rfl ?_
    refine g_if_ne X 1003 dL_law_987 (by decide) (fun hc5 => ?_) (fun hc5 => ?_)
    · refine g_run X KL_law_1003_131 KL_law_1003_131_d 2256 [(6, .int (nI 0)), (5, .int (nI 1)), (0, .ref b), (1, .ref (adC 0)), (2, .ref (adM 0)), (3, .ref ao), (4, .int (nI (6 * k)))] [] rfl ?_
      refine g_lv (lv' := [(0, .ref b), (1, .ref (adC 0)), (2, .ref (adM 0)), (3, .ref ao), (4, .int (nI (6 * k)))]) (lsub_c 2 rfl (lsub_c 3 rfl (lsub_c 4 rfl (lsub_c 5 rfl (lsub_c 6 rfl (lsub_n)))))) ?_
      refine g_perm (ws' := (WC adC g I L S ++ ([OUT ao on ov] : va_W)) ++ WM adM g I L S (u2 (u2 Z 3 0 (nI 0)) 3 0 (nI 1)) Y) (List.perm_append_comm (l₁ := (WC adC g I L S ++ ([OUT ao on ov] : va_W))) (l₂ := WM adM g I L S (u2 (u2 Z 3 0 (nI 0)) 3 0 (nI 1)) Y)) ?_
      refine g_widen (k := cells + 60) (n := slots + 1200) (by omega) (by omega) ?_
      exact kk I L S n (u2 (u2 Z 3 0 (nI 0)) 3 0 (nI 1)) Y R on ov (hI) (hR) (by first | exact hZ | (rw [zrow]; exact hZ) | (rw [zrow, zrow]; exact hZ))
    · rw [nz_eq (by omega)] at hc5; first | omega | (simp at hc5)
  · rw [nI_eq (by omega) (by omega)] at hc4; first | omega | (simp at hc4)

theorem lq10 {p : Program} {l : Launch} {e : Env} {s : State} {m : MethodId} {below : List Frame} {meth : Method} {c : Code} {Q : State → Prop} {D : va_G} {A : Nat → Prop} {b N : Nat} {xs : Nat → Int32} {adC adM : Nat → Nat} {g : Nat → ClassId} {ao k cells slots : Nat} {I : Nat → Nat → Int32} {L : Nat → Nat → Int64} {S : Nat → Nat} {n : Nat} {Z : Nat → Nat → Int32} {Y : Int64} {R : Nat → Nat} {on : Int64} {ov : Value} (HX : LX p l s m meth c A b N xs) (hk : 6 * k + 6 ≤ N) (hroom : cells + 60 ≤ 600002 ∧ slots + 1200 ≤ 7302232) (hI : Inv I L S n) (hR : R16 R) (hZ : Z 0 = fun j => nI (R j)) (kk : LK p l e s m below meth c Q D A b adC adM g ao k cells slots 2256) : GL p l e room_1 s m #[.ref b] below meth c Q D CL (TYS g) A 9 (WL adC adM g ao I L S Z Y on ov) cells slots 905 [(0, .ref b), (1, .ref (adC 0)), (2, .ref (adM 0)), (3, .ref ao), (4, .int (nI (6 * k)))] [] := by
  rcases rg (xs (6 * k + 1)) 0 16 with ⟨a1, hl1, hu1, e1⟩ | hw
  · rcases em_d (lg2 (xs (6 * k + 2)) (xs (6 * k + 3))) with ⟨dd, hdd, ed⟩ | hnd
    · exact lq10_0 HX hk hroom hI hR hZ  a1 hl1 hu1 e1 dd hdd ed kk
    · exact lq10_2 HX hk hroom hI hR hZ  a1 hl1 hu1 e1 hnd kk
  · exact lq10_1 HX hk hroom hI hR hZ  hw kk

def KL_law_1006_132 : List (Nat × Instr × Nat) := [(1006, .aload_n 1, 1)]
theorem KL_law_1006_132_d : ∀ z ∈ KL_law_1006_132, decode cL_law z.1 = .ok z.2 := by decide +kernel
def KL_law_1010_133 : List (Nat × Instr × Nat) := [(1010, .aload_n 2, 1)]
theorem KL_law_1010_133_d : ∀ z ∈ KL_law_1010_133, decode cL_law z.1 = .ok z.2 := by decide +kernel
set_option maxHeartbeats 4000000 in
set_option maxRecDepth 100000 in
theorem lq11_0 {p : Program} {l : Launch} {e : Env} {s : State} {m : MethodId} {below : List Frame} {meth : Method} {c : Code} {Q : State → Prop} {D : va_G} {A : Nat → Prop} {b N : Nat} {xs : Nat → Int32} {adC adM : Nat → Nat} {g : Nat → ClassId} {ao k cells slots : Nat} {I : Nat → Nat → Int32} {L : Nat → Nat → Int64} {S : Nat → Nat} {n : Nat} {Z : Nat → Nat → Int32} {Y : Int64} {R : Nat → Nat} {on : Int64} {ov : Value} (HX : LX p l s m meth c A b N xs) (hk : 6 * k + 6 ≤ N) (hroom : cells + 60 ≤ 600002 ∧ slots + 1200 ≤ 7302232) (hI : Inv I L S n) (hR : R16 R) (hZ : Z 0 = fun j => nI (R j))  (kk : LK p l e s m below meth c Q D A b adC adM g ao k cells slots 2256) : GL p l e room_1 s m #[.ref b] below meth c Q D CL (TYS g) A 9 (WL adC adM g ao I L S Z Y on ov) cells slots 1006 [(0, .ref b), (1, .ref (adC 0)), (2, .ref (adM 0)), (3, .ref ao), (4, .int (nI (6 * k)))] [] := by
  obtain ⟨X, hSB, hAf, hNC, hfl, hX, hbl, hbA, hN⟩ := HX
  refine g_run X KL_law_1006_132 KL_law_1006_132_d 1007 [(0, .ref b), (1, .ref (adC 0)), (2, .ref (adM 0)), (3, .ref ao), (4, .int (nI (6 * k)))] [.ref (adC 0)] rfl ?_
  refine g_callV X hSB hAf srcW (hrc1 := (rfl : CL[4]? = some _)) (List.mem_append_left _ (List.mem_append_left _ (wc_mem (k := 0) (by decide)))) rfl (As := []) (wr := ([OUT ao on ov] : va_W) ++ WM adM g I L S Z Y) (n := 0) (c_X5_flush l D g adC I L S (hI.s18) (hI.fr)) (List.append_assoc _ _ _) srcN hrdN w_196 w_193 w_194 w_195 w_1 (by decide +kernel) rfl ⟨Nat.le_of_ble_eq_true rfl, Nat.le_of_ble_eq_true rfl⟩ rfl rfl rfl (Nat.le_of_ble_eq_true rfl) ⟨by show cells + 0 ≤ 600002; omega, by show slots + 0 ≤ 7302232; omega⟩ dL_law_1007 (fun hu1 hp_hu1 => ?_)
  refine g_af (ws' := (WC adC g ((wba I L S 4).1) ((wba I L S 4).2) S ++ ([OUT ao on ov] : va_W)) ++ WM adM g I L S Z Y) (st' := [.int (nI (dirt I 4))]) (cells' := cells + 0) (slots' := slots + 0) (pc' := 1010) (List.append_assoc _ _ _) rfl rfl rfl rfl ?_
  refine g_run X KL_law_1010_133 KL_law_1010_133_d 1011 [(0, .ref b), (1, .ref (adC 0)), (2, .ref (adM 0)), (3, .ref ao), (4, .int (nI (6 * k)))] [.ref (adM 0), .int (nI (dirt I 4))] rfl ?_
  refine g_perm (ws' := WM adM g I L S Z Y ++ (WC adC g ((wba I L S 4).1) ((wba I L S 4).2) S ++ ([OUT ao on ov] : va_W))) (List.perm_append_comm (l₁ := WM adM g I L S Z Y) (l₂ := (WC adC g ((wba I L S 4).1) ((wba I L S 4).2) S ++ ([OUT ao on ov] : va_W)))) ?_
  refine g_callV X hSB hAf srcW (hrc1 := (rfl : CL[8]? = some _)) (wm_mem (k := 0) (by decide)) rfl (As := []) (wr := WC adC g ((wba I L S 4).1) ((wba I L S 4).2) S ++ ([OUT ao on ov] : va_W)) (n := 0) (c_X9_flush l D g adM I L S Z Y R (hR) (hZ) (hI.s18) (hI.fr) (hI.fw)) rfl srcN hrdN w_1416 w_1413 w_1414 w_1415 w_6 (by decide +kernel) rfl ⟨Nat.le_of_ble_eq_true rfl, Nat.le_of_ble_eq_true rfl⟩ rfl rfl rfl (Nat.le_of_ble_eq_true rfl) ⟨by show cells + 0 + 4 ≤ 600002; omega, by show slots + 0 + 60 ≤ 7302232; omega⟩ dL_law_1011 (fun hu2 hp_hu2 => ?_)
  refine g_af (ws' := WM adM g ((wba I L S 4).1) ((wba I L S 4).2) S (z4 (u2 Z 3 0 (nI 0)) hu2.1 hu2.2.1 hu2.2.2) Y ++ (WC adC g ((wba I L S 4).1) ((wba I L S 4).2) S ++ ([OUT ao on ov] : va_W))) (st' := [.int (nI (dirt I 4)), .int (nI (dirt I 4))]) (cells' := cells + 0 + 4) (slots' := slots + 0 + 60) (pc' := 1014) rfl rfl rfl rfl rfl ?_
  refine g_icmp_eq X 2256 dL_law_1014 (by decide) (fun hc3 => ?_) (fun hc3 => ?_)
  · refine g_lv (lv' := [(0, .ref b), (1, .ref (adC 0)), (2, .ref (adM 0)), (3, .ref ao), (4, .int (nI (6 * k)))]) (lsub_c 0 rfl (lsub_c 1 rfl (lsub_c 2 rfl (lsub_c 3 rfl (lsub_c 4 rfl (lsub_n)))))) ?_
    refine g_perm (ws' := (WC adC g ((wba I L S 4).1) ((wba I L S 4).2) S ++ ([OUT ao on ov] : va_W)) ++ WM adM g ((wba I L S 4).1) ((wba I L S 4).2) S (z4 (u2 Z 3 0 (nI 0)) hu2.1 hu2.2.1 hu2.2.2) Y) (List.perm_append_comm (l₁ := (WC adC g ((wba I L S 4).1) ((wba I L S 4).2) S ++ ([OUT ao on ov] : va_W))) (l₂ := WM adM g ((wba I L S 4).1) ((wba I L S 4).2) S (z4 (u2 Z 3 0 (nI 0)) hu2.1 hu2.2.1 hu2.2.2) Y)) ?_
    refine g_widen (k := cells + 60) (n := slots + 1200) (by omega) (by omega) ?_
    exact kk ((wba I L S 4).1) ((wba I L S 4).2) S n (z4 (u2 Z 3 0 (nI 0)) hu2.1 hu2.2.1 hu2.2.2) Y hu2.1 on ov (hI.wba 4) (hp_hu2) (rfl)
  · exact absurd rfl hc3

theorem lq11 {p : Program} {l : Launch} {e : Env} {s : State} {m : MethodId} {below : List Frame} {meth : Method} {c : Code} {Q : State → Prop} {D : va_G} {A : Nat → Prop} {b N : Nat} {xs : Nat → Int32} {adC adM : Nat → Nat} {g : Nat → ClassId} {ao k cells slots : Nat} {I : Nat → Nat → Int32} {L : Nat → Nat → Int64} {S : Nat → Nat} {n : Nat} {Z : Nat → Nat → Int32} {Y : Int64} {R : Nat → Nat} {on : Int64} {ov : Value} (HX : LX p l s m meth c A b N xs) (hk : 6 * k + 6 ≤ N) (hroom : cells + 60 ≤ 600002 ∧ slots + 1200 ≤ 7302232) (hI : Inv I L S n) (hR : R16 R) (hZ : Z 0 = fun j => nI (R j)) (kk : LK p l e s m below meth c Q D A b adC adM g ao k cells slots 2256) : GL p l e room_1 s m #[.ref b] below meth c Q D CL (TYS g) A 9 (WL adC adM g ao I L S Z Y on ov) cells slots 1006 [(0, .ref b), (1, .ref (adC 0)), (2, .ref (adM 0)), (3, .ref ao), (4, .int (nI (6 * k)))] [] := by
  exact lq11_0 HX hk hroom hI hR hZ  kk

def KL_law_1019_134 : List (Nat × Instr × Nat) := [(1019, .aload_n 1, 1)]
theorem KL_law_1019_134_d : ∀ z ∈ KL_law_1019_134, decode cL_law z.1 = .ok z.2 := by decide +kernel
def KL_law_1023_135 : List (Nat × Instr × Nat) := [(1023, .aload_n 2, 1)]
theorem KL_law_1023_135_d : ∀ z ∈ KL_law_1023_135, decode cL_law z.1 = .ok z.2 := by decide +kernel
set_option maxHeartbeats 4000000 in
set_option maxRecDepth 100000 in
theorem lq12_0 {p : Program} {l : Launch} {e : Env} {s : State} {m : MethodId} {below : List Frame} {meth : Method} {c : Code} {Q : State → Prop} {D : va_G} {A : Nat → Prop} {b N : Nat} {xs : Nat → Int32} {adC adM : Nat → Nat} {g : Nat → ClassId} {ao k cells slots : Nat} {I : Nat → Nat → Int32} {L : Nat → Nat → Int64} {S : Nat → Nat} {n : Nat} {Z : Nat → Nat → Int32} {Y : Int64} {R : Nat → Nat} {on : Int64} {ov : Value} (HX : LX p l s m meth c A b N xs) (hk : 6 * k + 6 ≤ N) (hroom : cells + 60 ≤ 600002 ∧ slots + 1200 ≤ 7302232) (hI : Inv I L S n) (hR : R16 R) (hZ : Z 0 = fun j => nI (R j))  (kk : LK p l e s m below meth c Q D A b adC adM g ao k cells slots 2256) : GL p l e room_1 s m #[.ref b] below meth c Q D CL (TYS g) A 9 (WL adC adM g ao I L S Z Y on ov) cells slots 1019 [(0, .ref b), (1, .ref (adC 0)), (2, .ref (adM 0)), (3, .ref ao), (4, .int (nI (6 * k)))] [] := by
  obtain ⟨X, hSB, hAf, hNC, hfl, hX, hbl, hbA, hN⟩ := HX
  refine g_run X KL_law_1019_134 KL_law_1019_134_d 1020 [(0, .ref b), (1, .ref (adC 0)), (2, .ref (adM 0)), (3, .ref ao), (4, .int (nI (6 * k)))] [.ref (adC 0)] rfl ?_
  refine g_callV X hSB hAf srcW (hrc1 := (rfl : CL[4]? = some _)) (List.mem_append_left _ (List.mem_append_left _ (wc_mem (k := 0) (by decide)))) rfl (As := []) (wr := ([OUT ao on ov] : va_W) ++ WM adM g I L S Z Y) (n := 0) (c_X5_call l D g adC I L S ) (List.append_assoc _ _ _) srcN hrdN w_228 w_225 w_226 w_227 w_1 (by decide +kernel) rfl ⟨Nat.le_of_ble_eq_true rfl, Nat.le_of_ble_eq_true rfl⟩ rfl rfl rfl (Nat.le_of_ble_eq_true rfl) ⟨by show cells + 0 ≤ 600002; omega, by show slots + 0 ≤ 7302232; omega⟩ dL_law_1020 (fun hu1 hp_hu1 => ?_)
  refine g_af (ws' := (WC adC g (u2 I 8 9 (I 8 9 + nI 1)) L S ++ ([OUT ao on ov] : va_W)) ++ WM adM g I L S Z Y) (st' := [.int (I 8 9 + nI 1)]) (cells' := cells + 0) (slots' := slots + 0) (pc' := 1023) (List.append_assoc _ _ _) rfl rfl rfl rfl ?_
  refine g_run X KL_law_1023_135 KL_law_1023_135_d 1024 [(0, .ref b), (1, .ref (adC 0)), (2, .ref (adM 0)), (3, .ref ao), (4, .int (nI (6 * k)))] [.ref (adM 0), .int (I 8 9 + nI 1)] rfl ?_
  refine g_perm (ws' := WM adM g I L S Z Y ++ (WC adC g (u2 I 8 9 (I 8 9 + nI 1)) L S ++ ([OUT ao on ov] : va_W))) (List.perm_append_comm (l₁ := WM adM g I L S Z Y) (l₂ := (WC adC g (u2 I 8 9 (I 8 9 + nI 1)) L S ++ ([OUT ao on ov] : va_W)))) ?_
  refine g_callV X hSB hAf srcW (hrc1 := (rfl : CL[8]? = some _)) (wm_mem (k := 0) (by decide)) rfl (As := []) (wr := WC adC g (u2 I 8 9 (I 8 9 + nI 1)) L S ++ ([OUT ao on ov] : va_W)) (n := 0) (c_X9_call l D g adM I L S Z Y ) rfl srcN hrdN w_1424 w_1421 w_1422 w_1423 w_6 (by decide +kernel) rfl ⟨Nat.le_of_ble_eq_true rfl, Nat.le_of_ble_eq_true rfl⟩ rfl rfl rfl (Nat.le_of_ble_eq_true rfl) ⟨by show cells + 0 + 0 ≤ 600002; omega, by show slots + 0 + 0 ≤ 7302232; omega⟩ dL_law_1024 (fun hu2 hp_hu2 => ?_)
  refine g_af (ws' := WM adM g (u2 I 8 9 (I 8 9 + nI 1)) L S (u2 Z 3 0 (nI 0)) Y ++ (WC adC g (u2 I 8 9 (I 8 9 + nI 1)) L S ++ ([OUT ao on ov] : va_W))) (st' := [.int (I 8 9 + nI 1), .int (I 8 9 + nI 1)]) (cells' := cells + 0 + 0) (slots' := slots + 0 + 0) (pc' := 1027) rfl rfl rfl rfl rfl ?_
  refine g_icmp_eq X 2256 dL_law_1027 (by decide) (fun hc3 => ?_) (fun hc3 => ?_)
  · refine g_lv (lv' := [(0, .ref b), (1, .ref (adC 0)), (2, .ref (adM 0)), (3, .ref ao), (4, .int (nI (6 * k)))]) (lsub_c 0 rfl (lsub_c 1 rfl (lsub_c 2 rfl (lsub_c 3 rfl (lsub_c 4 rfl (lsub_n)))))) ?_
    refine g_perm (ws' := (WC adC g (u2 I 8 9 (I 8 9 + nI 1)) L S ++ ([OUT ao on ov] : va_W)) ++ WM adM g (u2 I 8 9 (I 8 9 + nI 1)) L S (u2 Z 3 0 (nI 0)) Y) (List.perm_append_comm (l₁ := (WC adC g (u2 I 8 9 (I 8 9 + nI 1)) L S ++ ([OUT ao on ov] : va_W))) (l₂ := WM adM g (u2 I 8 9 (I 8 9 + nI 1)) L S (u2 Z 3 0 (nI 0)) Y)) ?_
    refine g_widen (k := cells + 60) (n := slots + 1200) (by omega) (by omega) ?_
    exact kk (u2 I 8 9 (I 8 9 + nI 1)) L S n (u2 Z 3 0 (nI 0)) Y R on ov (hI.u8 (by decide) (by decide)) (hR) (by first | exact hZ | (rw [zrow]; exact hZ) | (rw [zrow, zrow]; exact hZ))
  · exact absurd rfl hc3

theorem lq12 {p : Program} {l : Launch} {e : Env} {s : State} {m : MethodId} {below : List Frame} {meth : Method} {c : Code} {Q : State → Prop} {D : va_G} {A : Nat → Prop} {b N : Nat} {xs : Nat → Int32} {adC adM : Nat → Nat} {g : Nat → ClassId} {ao k cells slots : Nat} {I : Nat → Nat → Int32} {L : Nat → Nat → Int64} {S : Nat → Nat} {n : Nat} {Z : Nat → Nat → Int32} {Y : Int64} {R : Nat → Nat} {on : Int64} {ov : Value} (HX : LX p l s m meth c A b N xs) (hk : 6 * k + 6 ≤ N) (hroom : cells + 60 ≤ 600002 ∧ slots + 1200 ≤ 7302232) (hI : Inv I L S n) (hR : R16 R) (hZ : Z 0 = fun j => nI (R j)) (kk : LK p l e s m below meth c Q D A b adC adM g ao k cells slots 2256) : GL p l e room_1 s m #[.ref b] below meth c Q D CL (TYS g) A 9 (WL adC adM g ao I L S Z Y on ov) cells slots 1019 [(0, .ref b), (1, .ref (adC 0)), (2, .ref (adM 0)), (3, .ref ao), (4, .int (nI (6 * k)))] [] := by
  exact lq12_0 HX hk hroom hI hR hZ  kk

