def KX0_wordThrough_0_0 : List (Nat × Instr × Nat) := [(0, .aload_n 0, 1), (1, .iload_n 1, 1)]
theorem KX0_wordThrough_0_0_d : ∀ z ∈ KX0_wordThrough_0_0, decode cX0_wordThrough z.1 = .ok z.2 := by decide +kernel
def KX0_wordThrough_5_1 : List (Nat × Instr × Nat) := [(5, .astore_n 2, 1), (6, .aload_n 2, 1)]
theorem KX0_wordThrough_5_1_d : ∀ z ∈ KX0_wordThrough_5_1, decode cX0_wordThrough z.1 = .ok z.2 := by decide +kernel
def KX0_wordThrough_30_2 : List (Nat × Instr × Nat) := [(30, .aload_n 0, 1), (31, .dup, 1)]
theorem KX0_wordThrough_30_2_d : ∀ z ∈ KX0_wordThrough_30_2, decode cX0_wordThrough z.1 = .ok z.2 := by decide +kernel
def KX0_wordThrough_35_3 : List (Nat × Instr × Nat) := [(35, .iconst 1, 1), (36, .iadd, 1)]
theorem KX0_wordThrough_35_3_d : ∀ z ∈ KX0_wordThrough_35_3, decode cX0_wordThrough z.1 = .ok z.2 := by decide +kernel
def KX0_wordThrough_40_4 : List (Nat × Instr × Nat) := [(40, .aload_n 0, 1)]
theorem KX0_wordThrough_40_4_d : ∀ z ∈ KX0_wordThrough_40_4, decode cX0_wordThrough z.1 = .ok z.2 := by decide +kernel
def KX0_wordThrough_44_5 : List (Nat × Instr × Nat) := [(44, .iload_n 1, 1)]
theorem KX0_wordThrough_44_5_d : ∀ z ∈ KX0_wordThrough_44_5, decode cX0_wordThrough z.1 = .ok z.2 := by decide +kernel
def KX0_wordThrough_48_6 : List (Nat × Instr × Nat) := [(48, .lstore_n 3, 1), (49, .lload_n 3, 1)]
theorem KX0_wordThrough_48_6_d : ∀ z ∈ KX0_wordThrough_48_6, decode cX0_wordThrough z.1 = .ok z.2 := by decide +kernel
def KX0_wordThrough_53_7 : List (Nat × Instr × Nat) := [(53, .lcmp, 1)]
theorem KX0_wordThrough_53_7_d : ∀ z ∈ KX0_wordThrough_53_7, decode cX0_wordThrough z.1 = .ok z.2 := by decide +kernel
def KX0_wordThrough_67_8 : List (Nat × Instr × Nat) := [(67, .lload_n 3, 1)]
theorem KX0_wordThrough_67_8_d : ∀ z ∈ KX0_wordThrough_67_8, decode cX0_wordThrough z.1 = .ok z.2 := by decide +kernel
def KX0_wordThrough_57_9 : List (Nat × Instr × Nat) := [(57, .aload_n 0, 1), (58, .aload_n 0, 1)]
theorem KX0_wordThrough_57_9_d : ∀ z ∈ KX0_wordThrough_57_9, decode cX0_wordThrough z.1 = .ok z.2 := by decide +kernel
def KX0_wordThrough_62_10 : List (Nat × Instr × Nat) := [(62, .iload_n 1, 1), (63, .lload_n 3, 1)]
theorem KX0_wordThrough_62_10_d : ∀ z ∈ KX0_wordThrough_62_10, decode cX0_wordThrough z.1 = .ok z.2 := by decide +kernel
def KX0_wordThrough_10_11 : List (Nat × Instr × Nat) := [(10, .aload_n 0, 1), (11, .dup, 1)]
theorem KX0_wordThrough_10_11_d : ∀ z ∈ KX0_wordThrough_10_11, decode cX0_wordThrough z.1 = .ok z.2 := by decide +kernel
def KX0_wordThrough_15_12 : List (Nat × Instr × Nat) := [(15, .iconst 1, 1), (16, .iadd, 1)]
theorem KX0_wordThrough_15_12_d : ∀ z ∈ KX0_wordThrough_15_12, decode cX0_wordThrough z.1 = .ok z.2 := by decide +kernel
def KX0_wordThrough_20_13 : List (Nat × Instr × Nat) := [(20, .aload_n 0, 1), (21, .aload_n 2, 1)]
theorem KX0_wordThrough_20_13_d : ∀ z ∈ KX0_wordThrough_20_13, decode cX0_wordThrough z.1 = .ok z.2 := by decide +kernel
def KX0_wordThrough_25_14 : List (Nat × Instr × Nat) := [(25, .aload_n 2, 1)]
theorem KX0_wordThrough_25_14_d : ∀ z ∈ KX0_wordThrough_25_14, decode cX0_wordThrough z.1 = .ok z.2 := by decide +kernel
set_option maxHeartbeats 4000000 in
set_option maxRecDepth 100000 in
theorem c_X0_wordThrough (l : Launch) (D : va_G) (g : Nat → ClassId) (ad : Nat → Nat) (I : Nat → Nat → Int32) (L : Nat → Nat → Int64) (S : Nat → Nat) (q : Nat) (hS18 : ∀ p, p < 15 → S p < 18) (hFr : FrI I) (hq : q < 16) : CT l yX0_wordThrough cX0_wordThrough 5 ((Option.some FieldType.long)) ({ frames := 5, cells := 0, slots := 0, locals := 133 } : Room) [.ref (ad 4), .int (nI q)] D CL (TYS g) ([]) (WC ad g I L S) (S := Unit) (fun _ => some (.long (ldV I L S q))) (fun _ => WC ad g (ldI I L S q) (ldL I L S q) S) (fun _ => True) 0 0 := by
  refine ct_of (by decide +kernel) (Nat.le_of_ble_eq_true rfl) ?_
  intro p e s m below meth c A X hr hnm hSB hRO hAf
  refine g_cs (ws' := WC ad g I L S) (lv' := [(0, .ref (ad 4)), (1, .int (nI q))]) rfl rfl ?_
  refine g_run X KX0_wordThrough_0_0 KX0_wordThrough_0_0_d 2 [(0, .ref (ad 4)), (1, .int (nI q))] [.int (nI q), .ref (ad 4)] rfl ?_
  refine g_callV X hSB hAf (srcW) (hrc1 := (rfl : CL[0]? = some _)) (wc_mem (k := 4) (by decide)) rfl (As := [.int (nI q)]) (wr := WC ad g I L S) (n := 1) (c_X0_frameOf l D g ad I L S q ) rfl srcW hrdC w_653 w_650 w_652 w_s5 w_4 (by decide +kernel) rfl ⟨Nat.le_of_ble_eq_true rfl, Nat.le_of_ble_eq_true rfl⟩ rfl rfl rfl (Nat.le_of_ble_eq_true rfl) ⟨Nat.le_of_ble_eq_true rfl, Nat.le_of_ble_eq_true rfl⟩ dX0_wordThrough_2 (fun hu1 _ => ?_)
  refine g_af (ws' := WC ad g I L S) (st' := [fofV ad (fof I q)]) (cells' := 0) (slots' := 0) (pc' := 5) rfl rfl rfl rfl rfl ?_
  rcases hfo : fof I q with _ | k
  · refine g_st (st' := [.null]) rfl ?_
    refine g_run X KX0_wordThrough_5_1 KX0_wordThrough_5_1_d 7 [(2, .null), (0, .ref (ad 4)), (1, .int (nI q))] [.null] rfl ?_
    refine g_ifnullN X 30 dX0_wordThrough_7 (by decide) ?_
    refine g_run X KX0_wordThrough_30_2 KX0_wordThrough_30_2_d 32 [(2, .null), (0, .ref (ad 4)), (1, .int (nI q))] [.ref (ad 4), .ref (ad 4)] rfl ?_
    refine g_get X srcW (v := .int (I 8 7)) hinX0 rfl 2 (by decide) w_168 rfl (wc_mem (k := 4) (by decide)) rfl dX0_wordThrough_32 ?_
    refine g_run X KX0_wordThrough_35_3 KX0_wordThrough_35_3_d 37 [(2, .null), (0, .ref (ad 4)), (1, .int (nI q))] [.int ((I 8 7) + (nI 1)), .ref (ad 4)] rfl ?_
    refine g_put X (ws' := WC ad g (u2 I 8 7 ((I 8 7) + (nI 1))) L S) hinX0 tyX0 tyX0_ok nmX0 rfl 2 (by decide) w_168 rfl rfl (ty := .int) rfl rfl rfl (4) (wc_get (k := 4) (by decide)) (Nat.le_of_ble_eq_true rfl) (ws_ca2) dX0_wordThrough_37 ?_
    refine g_run X KX0_wordThrough_40_4 KX0_wordThrough_40_4_d 41 [(2, .null), (0, .ref (ad 4)), (1, .int (nI q))] [.ref (ad 4)] rfl ?_
    refine g_get X srcW (v := .ref (ad 1)) hinX0 rfl 4 (by decide) w_171 rfl (wc_mem (k := 4) (by decide)) rfl dX0_wordThrough_41 ?_
    refine g_run X KX0_wordThrough_44_5 KX0_wordThrough_44_5_d 45 [(2, .null), (0, .ref (ad 4)), (1, .int (nI q))] [.int (nI q), .ref (ad 1)] rfl ?_
    refine g_callV X hSB hAf (srcW) (hrc1 := (rfl : CL[3]? = some _)) (wc_mem (k := 1) (by decide)) rfl (As := [.int (nI q)]) (wr := []) (n := 1) (c_X4_fetchLine l D g ad (u2 I 8 7 ((I 8 7) + (nI 1))) L S q (hS18) (by omega)) (List.append_nil _).symm srcN hrdN w_612 w_658 w_610 w_611 w_2 (by decide +kernel) rfl ⟨Nat.le_of_ble_eq_true rfl, Nat.le_of_ble_eq_true rfl⟩ rfl rfl rfl (Nat.le_of_ble_eq_true rfl) ⟨Nat.le_of_ble_eq_true rfl, Nat.le_of_ble_eq_true rfl⟩ dX0_wordThrough_45 (fun hu2 _ => ?_)
    refine g_af (ws' := WC ad g (ftA (u2 I 8 7 ((I 8 7) + (nI 1))) L S q) (ftL (u2 I 8 7 ((I 8 7) + (nI 1))) L S q) S) (st' := [.long (oL (mwd (u2 I 8 7 ((I 8 7) + (nI 1))) L S q))]) (cells' := 0) (slots' := 0) (pc' := 48) (List.append_nil _).symm rfl rfl rfl rfl ?_
    refine g_run X KX0_wordThrough_48_6 KX0_wordThrough_48_6_d 50 [(3, .long (oL (mwd (u2 I 8 7 ((I 8 7) + (nI 1))) L S q))), (2, .null), (0, .ref (ad 4)), (1, .int (nI q))] [.long (oL (mwd (u2 I 8 7 ((I 8 7) + (nI 1))) L S q))] rfl ?_
    refine g_ldc2 X (v := (-1 : Int64)) w_659 dX0_wordThrough_50 ?_
    refine g_run X KX0_wordThrough_53_7 KX0_wordThrough_53_7_d 54 [(3, .long (oL (mwd (u2 I 8 7 ((I 8 7) + (nI 1))) L S q))), (2, .null), (0, .ref (ad 4)), (1, .int (nI q))] [.int (lg_cmp (oL (mwd (u2 I 8 7 ((I 8 7) + (nI 1))) L S q)) (-1 : Int64))] rfl ?_
    refine g_if_eq X 67 dX0_wordThrough_54 (by decide) (fun hc3 => ?_) (fun hc3 => ?_)
    · rw [lc0] at hc3; have hld := ld_b hfo hc3
      refine g_run X KX0_wordThrough_67_8 KX0_wordThrough_67_8_d 68 [(3, .long (oL (mwd (u2 I 8 7 ((I 8 7) + (nI 1))) L S q))), (2, .null), (0, .ref (ad 4)), (1, .int (nI q))] [.long (oL (mwd (u2 I 8 7 ((I 8 7) + (nI 1))) L S q))] rfl ?_
      exact g_lret X hr () (by show some (Value.long _) = some (Value.long _); exact congrArg (fun v => some (Value.long v)) hld.2.2) (trivial) (by show _ = WC ad g (ldI I L S q) (ldL I L S q) S ++ []; rw [hld.1, hld.2.1]; exact (List.append_nil _).symm) (Nat.le_of_ble_eq_true rfl) (Nat.le_of_ble_eq_true rfl) dX0_wordThrough_68
    · rw [lc0] at hc3; have hld := ld_n hfo hc3
      refine g_run X KX0_wordThrough_57_9 KX0_wordThrough_57_9_d 59 [(3, .long (oL (mwd (u2 I 8 7 ((I 8 7) + (nI 1))) L S q))), (2, .null), (0, .ref (ad 4)), (1, .int (nI q))] [.ref (ad 4), .ref (ad 4)] rfl ?_
      refine g_callV X hSB hAf (srcW) (hrc1 := (rfl : CL[0]? = some _)) (wc_mem (k := 4) (by decide)) rfl (As := []) (wr := []) (n := 0) (c_X0_frameToFill l D g ad (ftA (u2 I 8 7 ((I 8 7) + (nI 1))) L S q) (ftL (u2 I 8 7 ((I 8 7) + (nI 1))) L S q) S (hS18) (hFr.u8.ft _ (old_lt (by decide)))) (List.append_nil _).symm srcN hrdN w_663 w_660 w_662 w_s7 w_4 (by decide +kernel) rfl ⟨Nat.le_of_ble_eq_true rfl, Nat.le_of_ble_eq_true rfl⟩ rfl rfl rfl (Nat.le_of_ble_eq_true rfl) ⟨Nat.le_of_ble_eq_true rfl, Nat.le_of_ble_eq_true rfl⟩ dX0_wordThrough_59 (fun hu4 _ => ?_)
      refine g_af (ws' := WC ad g (wbI (ftA (u2 I 8 7 ((I 8 7) + (nI 1))) L S q) (old (ftA (u2 I 8 7 ((I 8 7) + (nI 1))) L S q) 3)) (wbL (ftA (u2 I 8 7 ((I 8 7) + (nI 1))) L S q) (ftL (u2 I 8 7 ((I 8 7) + (nI 1))) L S q) S (old (ftA (u2 I 8 7 ((I 8 7) + (nI 1))) L S q) 3)) S) (st' := [.ref (ad (old (ftA (u2 I 8 7 ((I 8 7) + (nI 1))) L S q) 3 + 6)), .ref (ad 4)]) (cells' := 0) (slots' := 0) (pc' := 62) (List.append_nil _).symm rfl rfl rfl rfl ?_
      refine g_run X KX0_wordThrough_62_10 KX0_wordThrough_62_10_d 64 [(3, .long (oL (mwd (u2 I 8 7 ((I 8 7) + (nI 1))) L S q))), (2, .null), (0, .ref (ad 4)), (1, .int (nI q))] [.long (oL (mwd (u2 I 8 7 ((I 8 7) + (nI 1))) L S q)), .int (nI q), .ref (ad (old (ftA (u2 I 8 7 ((I 8 7) + (nI 1))) L S q) 3 + 6)), .ref (ad 4)] rfl ?_
      refine g_callV X hSB hAf (srcW) (hrc1 := (rfl : CL[0]? = some _)) (wc_mem (k := 4) (by decide)) rfl (As := [.ref (ad (old (ftA (u2 I 8 7 ((I 8 7) + (nI 1))) L S q) 3 + 6)), .int (nI q), .long (oL (mwd (u2 I 8 7 ((I 8 7) + (nI 1))) L S q))]) (wr := []) (n := 3) (c_X0_fill l D g ad (wbI (ftA (u2 I 8 7 ((I 8 7) + (nI 1))) L S q) (old (ftA (u2 I 8 7 ((I 8 7) + (nI 1))) L S q) 3)) (wbL (ftA (u2 I 8 7 ((I 8 7) + (nI 1))) L S q) (ftL (u2 I 8 7 ((I 8 7) + (nI 1))) L S q) S (old (ftA (u2 I 8 7 ((I 8 7) + (nI 1))) L S q) 3)) S (old (ftA (u2 I 8 7 ((I 8 7) + (nI 1))) L S q) 3) q (oL (mwd (u2 I 8 7 ((I 8 7) + (nI 1))) L S q)) (old_lt (by decide))) (List.append_nil _).symm srcN hrdN w_667 w_664 w_666 w_s8 w_4 (by decide +kernel) rfl ⟨Nat.le_of_ble_eq_true rfl, Nat.le_of_ble_eq_true rfl⟩ rfl rfl rfl (Nat.le_of_ble_eq_true rfl) ⟨Nat.le_of_ble_eq_true rfl, Nat.le_of_ble_eq_true rfl⟩ dX0_wordThrough_64 (fun hu5 _ => ?_)
      refine g_af (ws' := WC ad g (useI (u2 (wbI (ftA (u2 I 8 7 ((I 8 7) + (nI 1))) L S q) (old (ftA (u2 I 8 7 ((I 8 7) + (nI 1))) L S q) 3)) 5 (old (ftA (u2 I 8 7 ((I 8 7) + (nI 1))) L S q) 3) (nI q)) (old (ftA (u2 I 8 7 ((I 8 7) + (nI 1))) L S q) 3)) (u2 (wbL (ftA (u2 I 8 7 ((I 8 7) + (nI 1))) L S q) (ftL (u2 I 8 7 ((I 8 7) + (nI 1))) L S q) S (old (ftA (u2 I 8 7 ((I 8 7) + (nI 1))) L S q) 3)) 3 (old (ftA (u2 I 8 7 ((I 8 7) + (nI 1))) L S q) 3) (oL (mwd (u2 I 8 7 ((I 8 7) + (nI 1))) L S q))) S) (st' := []) (cells' := 0) (slots' := 0) (pc' := 67) (List.append_nil _).symm rfl rfl rfl rfl ?_
      refine g_run X KX0_wordThrough_67_8 KX0_wordThrough_67_8_d 68 [(3, .long (oL (mwd (u2 I 8 7 ((I 8 7) + (nI 1))) L S q))), (2, .null), (0, .ref (ad 4)), (1, .int (nI q))] [.long (oL (mwd (u2 I 8 7 ((I 8 7) + (nI 1))) L S q))] rfl ?_
      exact g_lret X hr () (by show some (Value.long _) = some (Value.long _); exact congrArg (fun v => some (Value.long v)) hld.2.2) (trivial) (by show _ = WC ad g (ldI I L S q) (ldL I L S q) S ++ []; rw [hld.1, hld.2.1]; exact (List.append_nil _).symm) (Nat.le_of_ble_eq_true rfl) (Nat.le_of_ble_eq_true rfl) dX0_wordThrough_68
  · have hk4 := (fof_lt hfo).1
    refine g_st (st' := [.ref (ad (k + 6))]) rfl ?_
    refine g_run X KX0_wordThrough_5_1 KX0_wordThrough_5_1_d 7 [(2, .ref (ad (k + 6))), (0, .ref (ad 4)), (1, .int (nI q))] [.ref (ad (k + 6))] rfl ?_
    refine g_ifnull X dX0_wordThrough_7 ?_
    refine g_run X KX0_wordThrough_10_11 KX0_wordThrough_10_11_d 12 [(2, .ref (ad (k + 6))), (0, .ref (ad 4)), (1, .int (nI q))] [.ref (ad 4), .ref (ad 4)] rfl ?_
    refine g_get X srcW (v := .int (I 8 6)) hinX0 rfl 1 (by decide) w_166 rfl (wc_mem (k := 4) (by decide)) rfl dX0_wordThrough_12 ?_
    refine g_run X KX0_wordThrough_15_12 KX0_wordThrough_15_12_d 17 [(2, .ref (ad (k + 6))), (0, .ref (ad 4)), (1, .int (nI q))] [.int ((I 8 6) + (nI 1)), .ref (ad 4)] rfl ?_
    refine g_put X (ws' := WC ad g (u2 I 8 6 ((I 8 6) + (nI 1))) L S) hinX0 tyX0 tyX0_ok nmX0 rfl 1 (by decide) w_166 rfl rfl (ty := .int) rfl rfl rfl (4) (wc_get (k := 4) (by decide)) (Nat.le_of_ble_eq_true rfl) (ws_ca1) dX0_wordThrough_17 ?_
    refine g_run X KX0_wordThrough_20_13 KX0_wordThrough_20_13_d 22 [(2, .ref (ad (k + 6))), (0, .ref (ad 4)), (1, .int (nI q))] [.ref (ad (k + 6)), .ref (ad 4)] rfl ?_
    refine g_callV X hSB hAf (srcW) (hrc1 := (rfl : CL[0]? = some _)) (wc_mem (k := 4) (by decide)) rfl (As := [.ref (ad (k + 6))]) (wr := []) (n := 1) (c_X0_use l D g ad (u2 I 8 6 ((I 8 6) + (nI 1))) L S k (by omega)) (List.append_nil _).symm srcN hrdN w_657 w_654 w_656 w_s6 w_4 (by decide +kernel) rfl ⟨Nat.le_of_ble_eq_true rfl, Nat.le_of_ble_eq_true rfl⟩ rfl rfl rfl (Nat.le_of_ble_eq_true rfl) ⟨Nat.le_of_ble_eq_true rfl, Nat.le_of_ble_eq_true rfl⟩ dX0_wordThrough_22 (fun hu6 _ => ?_)
    refine g_af (ws' := WC ad g (useI (u2 I 8 6 ((I 8 6) + (nI 1))) k) L S) (st' := []) (cells' := 0) (slots' := 0) (pc' := 25) (List.append_nil _).symm rfl rfl rfl rfl ?_
    have hld := ld_s (L := L) (S := S) hfo
    refine g_run X KX0_wordThrough_25_14 KX0_wordThrough_25_14_d 26 [(2, .ref (ad (k + 6))), (0, .ref (ad 4)), (1, .int (nI q))] [.ref (ad (k + 6))] rfl ?_
    refine g_get X srcW (v := .long (L 3 k)) hinX3 rfl 2 (by decide) w_145 rfl (wc_fr (by omega)) rfl dX0_wordThrough_26 ?_
    exact g_lret X hr () (by show some (Value.long _) = some (Value.long _); exact congrArg (fun v => some (Value.long v)) hld.2.2) (trivial) (by show _ = WC ad g (ldI I L S q) (ldL I L S q) S ++ []; rw [hld.1, hld.2.1]; exact (List.append_nil _).symm) (Nat.le_of_ble_eq_true rfl) (Nat.le_of_ble_eq_true rfl) dX0_wordThrough_29

def KX0_keepDirty_0_0 : List (Nat × Instr × Nat) := [(0, .aload_n 0, 1), (1, .iload_n 1, 1)]
theorem KX0_keepDirty_0_0_d : ∀ z ∈ KX0_keepDirty_0_0, decode cX0_keepDirty z.1 = .ok z.2 := by decide +kernel
def KX0_keepDirty_5_1 : List (Nat × Instr × Nat) := [(5, .astore 4, 2), (7, .aload 4, 2)]
theorem KX0_keepDirty_5_1_d : ∀ z ∈ KX0_keepDirty_5_1, decode cX0_keepDirty z.1 = .ok z.2 := by decide +kernel
def KX0_keepDirty_25_2 : List (Nat × Instr × Nat) := [(25, .aload_n 0, 1), (26, .dup, 1)]
theorem KX0_keepDirty_25_2_d : ∀ z ∈ KX0_keepDirty_25_2, decode cX0_keepDirty z.1 = .ok z.2 := by decide +kernel
def KX0_keepDirty_30_3 : List (Nat × Instr × Nat) := [(30, .iconst 1, 1), (31, .iadd, 1)]
theorem KX0_keepDirty_30_3_d : ∀ z ∈ KX0_keepDirty_30_3, decode cX0_keepDirty z.1 = .ok z.2 := by decide +kernel
def KX0_keepDirty_35_4 : List (Nat × Instr × Nat) := [(35, .aload_n 0, 1)]
theorem KX0_keepDirty_35_4_d : ∀ z ∈ KX0_keepDirty_35_4, decode cX0_keepDirty z.1 = .ok z.2 := by decide +kernel
def KX0_keepDirty_39_5 : List (Nat × Instr × Nat) := [(39, .astore 4, 2), (41, .aload_n 0, 1), (42, .aload 4, 2), (44, .iload_n 1, 1), (45, .lload_n 2, 1)]
theorem KX0_keepDirty_39_5_d : ∀ z ∈ KX0_keepDirty_39_5, decode cX0_keepDirty z.1 = .ok z.2 := by decide +kernel
def KX0_keepDirty_49_6 : List (Nat × Instr × Nat) := [(49, .aload 4, 2), (51, .iconst 1, 1)]
theorem KX0_keepDirty_49_6_d : ∀ z ∈ KX0_keepDirty_49_6, decode cX0_keepDirty z.1 = .ok z.2 := by decide +kernel
def KX0_keepDirty_55_7 : List (Nat × Instr × Nat) := [(55, .aload 4, 2)]
theorem KX0_keepDirty_55_7_d : ∀ z ∈ KX0_keepDirty_55_7, decode cX0_keepDirty z.1 = .ok z.2 := by decide +kernel
def KX0_keepDirty_12_8 : List (Nat × Instr × Nat) := [(12, .aload_n 0, 1), (13, .dup, 1)]
theorem KX0_keepDirty_12_8_d : ∀ z ∈ KX0_keepDirty_12_8, decode cX0_keepDirty z.1 = .ok z.2 := by decide +kernel
def KX0_keepDirty_17_9 : List (Nat × Instr × Nat) := [(17, .iconst 1, 1), (18, .iadd, 1)]
theorem KX0_keepDirty_17_9_d : ∀ z ∈ KX0_keepDirty_17_9, decode cX0_keepDirty z.1 = .ok z.2 := by decide +kernel
def KX0_keepDirty_22_10 : List (Nat × Instr × Nat) := [(22, .goto 19, 3), (41, .aload_n 0, 1), (42, .aload 4, 2), (44, .iload_n 1, 1), (45, .lload_n 2, 1)]
theorem KX0_keepDirty_22_10_d : ∀ z ∈ KX0_keepDirty_22_10, decode cX0_keepDirty z.1 = .ok z.2 := by decide +kernel
set_option maxHeartbeats 4000000 in
set_option maxRecDepth 100000 in
theorem c_X0_keepDirty (l : Launch) (D : va_G) (g : Nat → ClassId) (ad : Nat → Nat) (I : Nat → Nat → Int32) (L : Nat → Nat → Int64) (S : Nat → Nat) (q : Nat) (x : Int64) (hS18 : ∀ p, p < 15 → S p < 18) (hFr : FrI I) (hq : q < 16) : CT l yX0_keepDirty cX0_keepDirty 5 ((Option.some FieldType.int)) ({ frames := 5, cells := 0, slots := 0, locals := 113 } : Room) [.ref (ad 4), .int (nI q), .long x] D CL (TYS g) ([]) (WC ad g I L S) (S := Unit) (fun _ => some (.int (nI (stK I q)))) (fun _ => WC ad g (stI I q) (stL I L S q x) S) (fun _ => True) 0 0 := by
  refine ct_of (by decide +kernel) (Nat.le_of_ble_eq_true rfl) ?_
  intro p e s m below meth c A X hr hnm hSB hRO hAf
  refine g_cs (ws' := WC ad g I L S) (lv' := [(0, .ref (ad 4)), (1, .int (nI q)), (2, .long x)]) rfl rfl ?_
  refine g_run X KX0_keepDirty_0_0 KX0_keepDirty_0_0_d 2 [(0, .ref (ad 4)), (1, .int (nI q)), (2, .long x)] [.int (nI q), .ref (ad 4)] rfl ?_
  refine g_callV X hSB hAf (srcW) (hrc1 := (rfl : CL[0]? = some _)) (wc_mem (k := 4) (by decide)) rfl (As := [.int (nI q)]) (wr := WC ad g I L S) (n := 1) (c_X0_frameOf l D g ad I L S q ) rfl srcW hrdC w_653 w_650 w_652 w_s5 w_4 (by decide +kernel) rfl ⟨Nat.le_of_ble_eq_true rfl, Nat.le_of_ble_eq_true rfl⟩ rfl rfl rfl (Nat.le_of_ble_eq_true rfl) ⟨Nat.le_of_ble_eq_true rfl, Nat.le_of_ble_eq_true rfl⟩ dX0_keepDirty_2 (fun hu1 _ => ?_)
  refine g_af (ws' := WC ad g I L S) (st' := [fofV ad (fof I q)]) (cells' := 0) (slots' := 0) (pc' := 5) rfl rfl rfl rfl rfl ?_
  rcases hfo : fof I q with _ | k
  · refine g_st (st' := [.null]) rfl ?_
    refine g_run X KX0_keepDirty_5_1 KX0_keepDirty_5_1_d 9 [(4, .null), (0, .ref (ad 4)), (1, .int (nI q)), (2, .long x)] [.null] rfl ?_
    refine g_ifnullN X 25 dX0_keepDirty_9 (by decide) ?_
    refine g_run X KX0_keepDirty_25_2 KX0_keepDirty_25_2_d 27 [(4, .null), (0, .ref (ad 4)), (1, .int (nI q)), (2, .long x)] [.ref (ad 4), .ref (ad 4)] rfl ?_
    refine g_get X srcW (v := .int (I 8 7)) hinX0 rfl 2 (by decide) w_168 rfl (wc_mem (k := 4) (by decide)) rfl dX0_keepDirty_27 ?_
    refine g_run X KX0_keepDirty_30_3 KX0_keepDirty_30_3_d 32 [(4, .null), (0, .ref (ad 4)), (1, .int (nI q)), (2, .long x)] [.int ((I 8 7) + (nI 1)), .ref (ad 4)] rfl ?_
    refine g_put X (ws' := WC ad g (u2 I 8 7 ((I 8 7) + (nI 1))) L S) hinX0 tyX0 tyX0_ok nmX0 rfl 2 (by decide) w_168 rfl rfl (ty := .int) rfl rfl rfl (4) (wc_get (k := 4) (by decide)) (Nat.le_of_ble_eq_true rfl) (ws_ca2) dX0_keepDirty_32 ?_
    refine g_run X KX0_keepDirty_35_4 KX0_keepDirty_35_4_d 36 [(4, .null), (0, .ref (ad 4)), (1, .int (nI q)), (2, .long x)] [.ref (ad 4)] rfl ?_
    refine g_callV X hSB hAf (srcW) (hrc1 := (rfl : CL[0]? = some _)) (wc_mem (k := 4) (by decide)) rfl (As := []) (wr := []) (n := 0) (c_X0_frameToFill l D g ad (u2 I 8 7 ((I 8 7) + (nI 1))) L S (hS18) (hFr.u8 _ (old_lt (by decide)))) (List.append_nil _).symm srcN hrdN w_663 w_660 w_662 w_s7 w_4 (by decide +kernel) rfl ⟨Nat.le_of_ble_eq_true rfl, Nat.le_of_ble_eq_true rfl⟩ rfl rfl rfl (Nat.le_of_ble_eq_true rfl) ⟨Nat.le_of_ble_eq_true rfl, Nat.le_of_ble_eq_true rfl⟩ dX0_keepDirty_36 (fun hu2 _ => ?_)
    refine g_af (ws' := WC ad g (wbI (u2 I 8 7 ((I 8 7) + (nI 1))) (old (u2 I 8 7 ((I 8 7) + (nI 1))) 3)) (wbL (u2 I 8 7 ((I 8 7) + (nI 1))) L S (old (u2 I 8 7 ((I 8 7) + (nI 1))) 3)) S) (st' := [.ref (ad (old (u2 I 8 7 ((I 8 7) + (nI 1))) 3 + 6))]) (cells' := 0) (slots' := 0) (pc' := 39) (List.append_nil _).symm rfl rfl rfl rfl ?_
    refine g_run X KX0_keepDirty_39_5 KX0_keepDirty_39_5_d 46 [(4, .ref (ad (old (u2 I 8 7 ((I 8 7) + (nI 1))) 3 + 6))), (0, .ref (ad 4)), (1, .int (nI q)), (2, .long x)] [.long x, .int (nI q), .ref (ad (old (u2 I 8 7 ((I 8 7) + (nI 1))) 3 + 6)), .ref (ad 4)] rfl ?_
    refine g_callV X hSB hAf (srcW) (hrc1 := (rfl : CL[0]? = some _)) (wc_mem (k := 4) (by decide)) rfl (As := [.ref (ad (old (u2 I 8 7 ((I 8 7) + (nI 1))) 3 + 6)), .int (nI q), .long x]) (wr := []) (n := 3) (c_X0_fill l D g ad (wbI (u2 I 8 7 ((I 8 7) + (nI 1))) (old (u2 I 8 7 ((I 8 7) + (nI 1))) 3)) (wbL (u2 I 8 7 ((I 8 7) + (nI 1))) L S (old (u2 I 8 7 ((I 8 7) + (nI 1))) 3)) S (old (u2 I 8 7 ((I 8 7) + (nI 1))) 3) q x (by first | omega | exact old_lt (by omega))) (List.append_nil _).symm srcN hrdN w_667 w_664 w_666 w_s8 w_4 (by decide +kernel) rfl ⟨Nat.le_of_ble_eq_true rfl, Nat.le_of_ble_eq_true rfl⟩ rfl rfl rfl (Nat.le_of_ble_eq_true rfl) ⟨Nat.le_of_ble_eq_true rfl, Nat.le_of_ble_eq_true rfl⟩ dX0_keepDirty_46 (fun hu3 _ => ?_)
    refine g_af (ws' := WC ad g (useI (u2 (wbI (u2 I 8 7 ((I 8 7) + (nI 1))) (old (u2 I 8 7 ((I 8 7) + (nI 1))) 3)) 5 (old (u2 I 8 7 ((I 8 7) + (nI 1))) 3) (nI q)) (old (u2 I 8 7 ((I 8 7) + (nI 1))) 3)) (u2 (wbL (u2 I 8 7 ((I 8 7) + (nI 1))) L S (old (u2 I 8 7 ((I 8 7) + (nI 1))) 3)) 3 (old (u2 I 8 7 ((I 8 7) + (nI 1))) 3) x) S) (st' := []) (cells' := 0) (slots' := 0) (pc' := 49) (List.append_nil _).symm rfl rfl rfl rfl ?_
    refine g_run X KX0_keepDirty_49_6 KX0_keepDirty_49_6_d 52 [(4, .ref (ad (old (u2 I 8 7 ((I 8 7) + (nI 1))) 3 + 6))), (0, .ref (ad 4)), (1, .int (nI q)), (2, .long x)] [.int (nI 1), .ref (ad (old (u2 I 8 7 ((I 8 7) + (nI 1))) 3 + 6))] rfl ?_
    refine g_put X (ws' := WC ad g (u2 (useI (u2 (wbI (u2 I 8 7 ((I 8 7) + (nI 1))) (old (u2 I 8 7 ((I 8 7) + (nI 1))) 3)) 5 (old (u2 I 8 7 ((I 8 7) + (nI 1))) 3) (nI q)) (old (u2 I 8 7 ((I 8 7) + (nI 1))) 3)) 6 (old (u2 I 8 7 ((I 8 7) + (nI 1))) 3) (nI 1)) (u2 (wbL (u2 I 8 7 ((I 8 7) + (nI 1))) L S (old (u2 I 8 7 ((I 8 7) + (nI 1))) 3)) 3 (old (u2 I 8 7 ((I 8 7) + (nI 1))) 3) x) S) hinX3 tyX3 tyX3_ok nmX3 rfl 3 (by decide) w_148 rfl rfl (ty := .boolean) rfl (by decide +kernel) rfl ((old (u2 I 8 7 ((I 8 7) + (nI 1))) 3) + 6) (wc_frG (by first | omega | exact old_lt (by omega))) (Nat.le_of_ble_eq_true rfl) (ws_fr3 (by first | omega | exact old_lt (by omega))) dX0_keepDirty_52 ?_
    refine g_run X KX0_keepDirty_55_7 KX0_keepDirty_55_7_d 57 [(4, .ref (ad (old (u2 I 8 7 ((I 8 7) + (nI 1))) 3 + 6))), (0, .ref (ad 4)), (1, .int (nI q)), (2, .long x)] [.ref (ad (old (u2 I 8 7 ((I 8 7) + (nI 1))) 3 + 6))] rfl ?_
    refine g_get X srcW (v := .int (nI (old (u2 I 8 7 ((I 8 7) + (nI 1))) 3))) hinX3 rfl 0 (by decide) w_140 rfl (wc_fr (by first | omega | exact old_lt (by omega))) rfl dX0_keepDirty_57 ?_
    exact g_iret X hr () (by show some (Value.int _) = some (Value.int _); first | rw [(st_s (L := L) (S := S) (x := x) hfo).2.2] | rw [(st_n (L := L) (S := S) (x := x) hfo).2.2]; rfl) (trivial) (by show _ = WC ad g (stI I q) (stL I L S q x) S ++ []; first | (rw [(st_s (L := L) (S := S) (x := x) hfo).1, (st_s (L := L) (S := S) (x := x) hfo).2.1]; exact (List.append_nil _).symm) | (rw [(st_n (L := L) (S := S) (x := x) hfo).1, (st_n (L := L) (S := S) (x := x) hfo).2.1]; exact (List.append_nil _).symm)) (Nat.le_of_ble_eq_true rfl) (Nat.le_of_ble_eq_true rfl) dX0_keepDirty_60
  · have hk4 := (fof_lt hfo).1
    refine g_st (st' := [.ref (ad (k + 6))]) rfl ?_
    refine g_run X KX0_keepDirty_5_1 KX0_keepDirty_5_1_d 9 [(4, .ref (ad (k + 6))), (0, .ref (ad 4)), (1, .int (nI q)), (2, .long x)] [.ref (ad (k + 6))] rfl ?_
    refine g_ifnull X dX0_keepDirty_9 ?_
    refine g_run X KX0_keepDirty_12_8 KX0_keepDirty_12_8_d 14 [(4, .ref (ad (k + 6))), (0, .ref (ad 4)), (1, .int (nI q)), (2, .long x)] [.ref (ad 4), .ref (ad 4)] rfl ?_
    refine g_get X srcW (v := .int (I 8 6)) hinX0 rfl 1 (by decide) w_166 rfl (wc_mem (k := 4) (by decide)) rfl dX0_keepDirty_14 ?_
    refine g_run X KX0_keepDirty_17_9 KX0_keepDirty_17_9_d 19 [(4, .ref (ad (k + 6))), (0, .ref (ad 4)), (1, .int (nI q)), (2, .long x)] [.int ((I 8 6) + (nI 1)), .ref (ad 4)] rfl ?_
    refine g_put X (ws' := WC ad g (u2 I 8 6 ((I 8 6) + (nI 1))) L S) hinX0 tyX0 tyX0_ok nmX0 rfl 1 (by decide) w_166 rfl rfl (ty := .int) rfl rfl rfl (4) (wc_get (k := 4) (by decide)) (Nat.le_of_ble_eq_true rfl) (ws_ca1) dX0_keepDirty_19 ?_
    refine g_run X KX0_keepDirty_22_10 KX0_keepDirty_22_10_d 46 [(4, .ref (ad (k + 6))), (0, .ref (ad 4)), (1, .int (nI q)), (2, .long x)] [.long x, .int (nI q), .ref (ad (k + 6)), .ref (ad 4)] rfl ?_
    refine g_callV X hSB hAf (srcW) (hrc1 := (rfl : CL[0]? = some _)) (wc_mem (k := 4) (by decide)) rfl (As := [.ref (ad (k + 6)), .int (nI q), .long x]) (wr := []) (n := 3) (c_X0_fill l D g ad (u2 I 8 6 ((I 8 6) + (nI 1))) L S k q x (by first | omega | exact old_lt (by omega))) (List.append_nil _).symm srcN hrdN w_667 w_664 w_666 w_s8 w_4 (by decide +kernel) rfl ⟨Nat.le_of_ble_eq_true rfl, Nat.le_of_ble_eq_true rfl⟩ rfl rfl rfl (Nat.le_of_ble_eq_true rfl) ⟨Nat.le_of_ble_eq_true rfl, Nat.le_of_ble_eq_true rfl⟩ dX0_keepDirty_46 (fun hu4 _ => ?_)
    refine g_af (ws' := WC ad g (useI (u2 (u2 I 8 6 ((I 8 6) + (nI 1))) 5 k (nI q)) k) (u2 L 3 k x) S) (st' := []) (cells' := 0) (slots' := 0) (pc' := 49) (List.append_nil _).symm rfl rfl rfl rfl ?_
    refine g_run X KX0_keepDirty_49_6 KX0_keepDirty_49_6_d 52 [(4, .ref (ad (k + 6))), (0, .ref (ad 4)), (1, .int (nI q)), (2, .long x)] [.int (nI 1), .ref (ad (k + 6))] rfl ?_
    refine g_put X (ws' := WC ad g (u2 (useI (u2 (u2 I 8 6 ((I 8 6) + (nI 1))) 5 k (nI q)) k) 6 k (nI 1)) (u2 L 3 k x) S) hinX3 tyX3 tyX3_ok nmX3 rfl 3 (by decide) w_148 rfl rfl (ty := .boolean) rfl (by decide +kernel) rfl (k + 6) (wc_frG (by omega)) (Nat.le_of_ble_eq_true rfl) (ws_fr3 (by omega)) dX0_keepDirty_52 ?_
    refine g_run X KX0_keepDirty_55_7 KX0_keepDirty_55_7_d 57 [(4, .ref (ad (k + 6))), (0, .ref (ad 4)), (1, .int (nI q)), (2, .long x)] [.ref (ad (k + 6))] rfl ?_
    refine g_get X srcW (v := .int (nI k)) hinX3 rfl 0 (by decide) w_140 rfl (wc_fr (by omega)) rfl dX0_keepDirty_57 ?_
    exact g_iret X hr () (by show some (Value.int _) = some (Value.int _); first | rw [(st_s (L := L) (S := S) (x := x) hfo).2.2] | rw [(st_n (L := L) (S := S) (x := x) hfo).2.2]; rfl) (trivial) (by show _ = WC ad g (stI I q) (stL I L S q x) S ++ []; first | (rw [(st_s (L := L) (S := S) (x := x) hfo).1, (st_s (L := L) (S := S) (x := x) hfo).2.1]; exact (List.append_nil _).symm) | (rw [(st_n (L := L) (S := S) (x := x) hfo).1, (st_n (L := L) (S := S) (x := x) hfo).2.1]; exact (List.append_nil _).symm)) (Nat.le_of_ble_eq_true rfl) (Nat.le_of_ble_eq_true rfl) dX0_keepDirty_60

def KX0_writeBackAll_0_0 : List (Nat × Instr × Nat) := [(0, .aload_n 0, 1)]
theorem KX0_writeBackAll_0_0_d : ∀ z ∈ KX0_writeBackAll_0_0, decode cX0_writeBackAll z.1 = .ok z.2 := by decide +kernel
def KX0_writeBackAll_4_1 : List (Nat × Instr × Nat) := [(4, .istore_n 1, 1), (5, .iconst 0, 1), (6, .istore_n 2, 1)]
theorem KX0_writeBackAll_4_1_d : ∀ z ∈ KX0_writeBackAll_4_1, decode cX0_writeBackAll z.1 = .ok z.2 := by decide +kernel
def KX0_writeBackAll_7_2 : List (Nat × Instr × Nat) := [(7, .iload_n 2, 1), (8, .iconst 4, 1)]
theorem KX0_writeBackAll_7_2_d : ∀ z ∈ KX0_writeBackAll_7_2, decode cX0_writeBackAll z.1 = .ok z.2 := by decide +kernel
def KX0_writeBackAll_28_3 : List (Nat × Instr × Nat) := [(28, .iload_n 1, 1)]
theorem KX0_writeBackAll_28_3_d : ∀ z ∈ KX0_writeBackAll_28_3, decode cX0_writeBackAll z.1 = .ok z.2 := by decide +kernel
def KX0_writeBackAll_12_4 : List (Nat × Instr × Nat) := [(12, .aload_n 0, 1), (13, .aload_n 0, 1)]
theorem KX0_writeBackAll_12_4_d : ∀ z ∈ KX0_writeBackAll_12_4, decode cX0_writeBackAll z.1 = .ok z.2 := by decide +kernel
def KX0_writeBackAll_17_5 : List (Nat × Instr × Nat) := [(17, .iload_n 2, 1)]
theorem KX0_writeBackAll_17_5_d : ∀ z ∈ KX0_writeBackAll_17_5, decode cX0_writeBackAll z.1 = .ok z.2 := by decide +kernel
def KX0_writeBackAll_22_6 : List (Nat × Instr × Nat) := [(22, .iinc 2 1, 3), (25, .goto (-18), 3)]
theorem KX0_writeBackAll_22_6_d : ∀ z ∈ KX0_writeBackAll_22_6, decode cX0_writeBackAll z.1 = .ok z.2 := by decide +kernel
set_option maxHeartbeats 4000000 in
set_option maxRecDepth 100000 in
theorem c_X0_writeBackAll (l : Launch) (D : va_G) (g : Nat → ClassId) (ad : Nat → Nat) (I : Nat → Nat → Int32) (L : Nat → Nat → Int64) (S : Nat → Nat) (hS18 : ∀ p, p < 15 → S p < 18) (hFr : FrI I) : CT l yX0_writeBackAll cX0_writeBackAll 3 ((Option.some FieldType.int)) ({ frames := 4, cells := 0, slots := 0, locals := 91 } : Room) [.ref (ad 4)] D CL (TYS g) ([]) (WC ad g I L S) (S := Unit) (fun _ => some (.int (nI (dirt I 4)))) (fun _ => WC ad g ((wba I L S 4).1) ((wba I L S 4).2) S) (fun _ => True) 0 0 := by
  refine ct_of (by decide +kernel) (Nat.le_of_ble_eq_true rfl) ?_
  intro p e s m below meth c A X hr hnm hSB hRO hAf
  refine g_cs (ws' := WC ad g I L S) (lv' := [(0, .ref (ad 4))]) rfl rfl ?_
  refine g_run X KX0_writeBackAll_0_0 KX0_writeBackAll_0_0_d 1 [(0, .ref (ad 4))] [.ref (ad 4)] rfl ?_
  refine g_callV X hSB hAf (srcW) (hrc1 := (rfl : CL[0]? = some _)) (wc_mem (k := 4) (by decide)) rfl (As := []) (wr := WC ad g I L S) (n := 0) (c_X0_dirtyFrames l D g ad I L S ) rfl srcW hrdC w_204 w_201 w_202 w_203 w_4 (by decide +kernel) rfl ⟨Nat.le_of_ble_eq_true rfl, Nat.le_of_ble_eq_true rfl⟩ rfl rfl rfl (Nat.le_of_ble_eq_true rfl) ⟨Nat.le_of_ble_eq_true rfl, Nat.le_of_ble_eq_true rfl⟩ dX0_writeBackAll_1 (fun hu1 _ => ?_)
  refine g_af (ws' := WC ad g I L S) (st' := [.int (nI (dirt I 4))]) (cells' := 0) (slots' := 0) (pc' := 4) rfl rfl rfl rfl rfl ?_
  refine g_run X KX0_writeBackAll_4_1 KX0_writeBackAll_4_1_d 7 [(2, .int (nI 0)), (1, .int (nI (dirt I 4))), (0, .ref (ad 4))] [] rfl ?_
  refine g_lv (lv' := [(0, .ref (ad 4)), (1, .int (nI (dirt I 4))), (2, .int (nI 0))]) (lsub_c 2 rfl (lsub_c 1 rfl (lsub_c 0 rfl (lsub_n)))) ?_
  refine g_for 4 (fun i => WC ad g ((wba I L S i).1) ((wba I L S i).2) S) (fun i => [(0, .ref (ad 4)), (1, .int (nI (dirt I 4))), (2, .int (nI i))]) (rfl) (rfl) ?_ ?_
  · refine g_run X KX0_writeBackAll_7_2 KX0_writeBackAll_7_2_d 9 [(0, .ref (ad 4)), (1, .int (nI (dirt I 4))), (2, .int (nI 4))] [.int (nI 4), .int (nI 4)] rfl ?_
    refine g_icmp_ge X 28 dX0_writeBackAll_9 (by decide) (fun hc2 => ?_) (fun hc2 => ?_)
    · refine g_run X KX0_writeBackAll_28_3 KX0_writeBackAll_28_3_d 29 [(0, .ref (ad 4)), (1, .int (nI (dirt I 4))), (2, .int (nI 4))] [.int (nI (dirt I 4))] rfl ?_
      exact g_iret X hr () (rfl) (trivial) ((List.append_nil _).symm) (Nat.le_of_ble_eq_true rfl) (Nat.le_of_ble_eq_true rfl) dX0_writeBackAll_29
    · rw [nI_leI (by omega) (by omega)] at hc2; first | omega | (simp at hc2)
  · intro i hi k7
    refine g_run X KX0_writeBackAll_7_2 KX0_writeBackAll_7_2_d 9 [(0, .ref (ad 4)), (1, .int (nI (dirt I 4))), (2, .int (nI i))] [.int (nI 4), .int (nI i)] rfl ?_
    refine g_icmp_ge X 28 dX0_writeBackAll_9 (by decide) (fun hc3 => ?_) (fun hc3 => ?_)
    · rw [nI_leI (by omega) (by omega)] at hc3; first | omega | (simp at hc3)
    · refine g_run X KX0_writeBackAll_12_4 KX0_writeBackAll_12_4_d 14 [(0, .ref (ad 4)), (1, .int (nI (dirt I 4))), (2, .int (nI i))] [.ref (ad 4), .ref (ad 4)] rfl ?_
      refine g_get X srcW (v := .ref (ad 5)) hinX0 rfl 0 (by decide) w_164 rfl (wc_mem (k := 4) (by decide)) rfl dX0_writeBackAll_14 ?_
      refine g_run X KX0_writeBackAll_17_5 KX0_writeBackAll_17_5_d 18 [(0, .ref (ad 4)), (1, .int (nI (dirt I 4))), (2, .int (nI i))] [.int (nI i), .ref (ad 5), .ref (ad 4)] rfl ?_
      refine g_aald X srcW (b := ad (i + 6)) 2 rfl (wc_mem (k := 5) (by decide)) i rfl (by omega) (by decide) (rfl) dX0_writeBackAll_18 ?_
      refine g_callV X hSB hAf (srcW) (hrc1 := (rfl : CL[0]? = some _)) (wc_mem (k := 4) (by decide)) rfl (As := [.ref (ad (i + 6))]) (wr := []) (n := 1) (c_X0_writeBack l D g ad ((wba I L S i).1) ((wba I L S i).2) S i (hS18) (by omega) (wba_ln hFr hi)) (List.append_nil _).symm srcN hrdN w_208 w_205 w_207 w_s0 w_4 (by decide +kernel) rfl ⟨Nat.le_of_ble_eq_true rfl, Nat.le_of_ble_eq_true rfl⟩ rfl rfl rfl (Nat.le_of_ble_eq_true rfl) ⟨Nat.le_of_ble_eq_true rfl, Nat.le_of_ble_eq_true rfl⟩ dX0_writeBackAll_19 (fun hu4 _ => ?_)
      refine g_af (ws' := WC ad g (wbI ((wba I L S i).1) i) (wbL ((wba I L S i).1) ((wba I L S i).2) S i) S) (st' := []) (cells' := 0) (slots' := 0) (pc' := 22) (List.append_nil _).symm rfl rfl rfl rfl ?_
      refine g_run X KX0_writeBackAll_22_6 KX0_writeBackAll_22_6_d 7 [(2, .int ((nI i) + (nI 1))), (0, .ref (ad 4)), (1, .int (nI (dirt I 4)))] [] rfl ?_
      refine g_nm (lv' := [(2, .int (nI (i + 1))), (0, .ref (ad 4)), (1, .int (nI (dirt I 4)))]) (st' := []) (by simp only [nI_add]) (by simp only [nI_add]) ?_
      refine g_lv (lv' := [(0, .ref (ad 4)), (1, .int (nI (dirt I 4))), (2, .int (nI (i + 1)))]) (lsub_c 1 rfl (lsub_c 2 rfl (lsub_c 0 rfl (lsub_n)))) ?_
      refine g_cs (ws' := WC ad g ((wba I L S (i + 1)).1) ((wba I L S (i + 1)).2) S) (lv' := [(0, .ref (ad 4)), (1, .int (nI (dirt I 4))), (2, .int (nI (i + 1)))]) (rfl) (rfl) ?_
      exact k7

def KX0_areFramesSound_0_0 : List (Nat × Instr × Nat) := [(0, .iconst 0, 1), (1, .istore_n 1, 1)]
theorem KX0_areFramesSound_0_0_d : ∀ z ∈ KX0_areFramesSound_0_0, decode cX0_areFramesSound z.1 = .ok z.2 := by decide +kernel
def KX0_areFramesSound_2_1 : List (Nat × Instr × Nat) := [(2, .iload_n 1, 1), (3, .iconst 4, 1)]
theorem KX0_areFramesSound_2_1_d : ∀ z ∈ KX0_areFramesSound_2_1, decode cX0_areFramesSound z.1 = .ok z.2 := by decide +kernel
def KX0_areFramesSound_98_2 : List (Nat × Instr × Nat) := [(98, .iconst 1, 1)]
theorem KX0_areFramesSound_98_2_d : ∀ z ∈ KX0_areFramesSound_98_2, decode cX0_areFramesSound z.1 = .ok z.2 := by decide +kernel
def KX0_areFramesSound_7_3 : List (Nat × Instr × Nat) := [(7, .iload_n 1, 1), (8, .iconst 1, 1), (9, .iadd, 1), (10, .istore_n 2, 1)]
theorem KX0_areFramesSound_7_3_d : ∀ z ∈ KX0_areFramesSound_7_3, decode cX0_areFramesSound z.1 = .ok z.2 := by decide +kernel
def KX0_areFramesSound_11_4 : List (Nat × Instr × Nat) := [(11, .iload_n 2, 1), (12, .iconst 4, 1)]
theorem KX0_areFramesSound_11_4_d : ∀ z ∈ KX0_areFramesSound_11_4, decode cX0_areFramesSound z.1 = .ok z.2 := by decide +kernel
def KX0_areFramesSound_92_5 : List (Nat × Instr × Nat) := [(92, .iinc 1 1, 3), (95, .goto (-93), 3)]
theorem KX0_areFramesSound_92_5_d : ∀ z ∈ KX0_areFramesSound_92_5, decode cX0_areFramesSound z.1 = .ok z.2 := by decide +kernel
def KX0_areFramesSound_16_6 : List (Nat × Instr × Nat) := [(16, .aload_n 0, 1)]
theorem KX0_areFramesSound_16_6_d : ∀ z ∈ KX0_areFramesSound_16_6, decode cX0_areFramesSound z.1 = .ok z.2 := by decide +kernel
def KX0_areFramesSound_20_7 : List (Nat × Instr × Nat) := [(20, .iload_n 1, 1)]
theorem KX0_areFramesSound_20_7_d : ∀ z ∈ KX0_areFramesSound_20_7, decode cX0_areFramesSound z.1 = .ok z.2 := by decide +kernel
def KX0_areFramesSound_22_8 : List (Nat × Instr × Nat) := [(22, .astore_n 3, 1), (23, .aload_n 0, 1)]
theorem KX0_areFramesSound_22_8_d : ∀ z ∈ KX0_areFramesSound_22_8, decode cX0_areFramesSound z.1 = .ok z.2 := by decide +kernel
def KX0_areFramesSound_27_9 : List (Nat × Instr × Nat) := [(27, .iload_n 2, 1)]
theorem KX0_areFramesSound_27_9_d : ∀ z ∈ KX0_areFramesSound_27_9, decode cX0_areFramesSound z.1 = .ok z.2 := by decide +kernel
def KX0_areFramesSound_29_10 : List (Nat × Instr × Nat) := [(29, .astore 4, 2), (31, .aload_n 3, 1)]
theorem KX0_areFramesSound_29_10_d : ∀ z ∈ KX0_areFramesSound_29_10, decode cX0_areFramesSound z.1 = .ok z.2 := by decide +kernel
def KX0_areFramesSound_35_11 : List (Nat × Instr × Nat) := [(35, .aload 4, 2)]
theorem KX0_areFramesSound_35_11_d : ∀ z ∈ KX0_areFramesSound_35_11, decode cX0_areFramesSound z.1 = .ok z.2 := by decide +kernel
def KX0_areFramesSound_55_12 : List (Nat × Instr × Nat) := [(55, .iconst 1, 1), (56, .goto 4, 3), (60, .istore 5, 2), (62, .aload_n 3, 1)]
theorem KX0_areFramesSound_55_12_d : ∀ z ∈ KX0_areFramesSound_55_12, decode cX0_areFramesSound z.1 = .ok z.2 := by decide +kernel
def KX0_areFramesSound_66_13 : List (Nat × Instr × Nat) := [(66, .iconst (-1), 1)]
theorem KX0_areFramesSound_66_13_d : ∀ z ∈ KX0_areFramesSound_66_13, decode cX0_areFramesSound z.1 = .ok z.2 := by decide +kernel
def KX0_areFramesSound_86_14 : List (Nat × Instr × Nat) := [(86, .iinc 2 1, 3), (89, .goto (-78), 3)]
theorem KX0_areFramesSound_86_14_d : ∀ z ∈ KX0_areFramesSound_86_14, decode cX0_areFramesSound z.1 = .ok z.2 := by decide +kernel
def KX0_areFramesSound_70_15 : List (Nat × Instr × Nat) := [(70, .aload 4, 2)]
theorem KX0_areFramesSound_70_15_d : ∀ z ∈ KX0_areFramesSound_70_15, decode cX0_areFramesSound z.1 = .ok z.2 := by decide +kernel
def KX0_areFramesSound_75_16 : List (Nat × Instr × Nat) := [(75, .iconst (-1), 1)]
theorem KX0_areFramesSound_75_16_d : ∀ z ∈ KX0_areFramesSound_75_16, decode cX0_areFramesSound z.1 = .ok z.2 := by decide +kernel
def KX0_areFramesSound_79_17 : List (Nat × Instr × Nat) := [(79, .iload 5, 2)]
theorem KX0_areFramesSound_79_17_d : ∀ z ∈ KX0_areFramesSound_79_17, decode cX0_areFramesSound z.1 = .ok z.2 := by decide +kernel
def KX0_areFramesSound_84_18 : List (Nat × Instr × Nat) := [(84, .iconst 0, 1)]
theorem KX0_areFramesSound_84_18_d : ∀ z ∈ KX0_areFramesSound_84_18, decode cX0_areFramesSound z.1 = .ok z.2 := by decide +kernel
def KX0_areFramesSound_43_19 : List (Nat × Instr × Nat) := [(43, .aload_n 3, 1)]
theorem KX0_areFramesSound_43_19_d : ∀ z ∈ KX0_areFramesSound_43_19, decode cX0_areFramesSound z.1 = .ok z.2 := by decide +kernel
def KX0_areFramesSound_47_20 : List (Nat × Instr × Nat) := [(47, .aload 4, 2)]
theorem KX0_areFramesSound_47_20_d : ∀ z ∈ KX0_areFramesSound_47_20, decode cX0_areFramesSound z.1 = .ok z.2 := by decide +kernel
def KX0_areFramesSound_59_21 : List (Nat × Instr × Nat) := [(59, .iconst 0, 1), (60, .istore 5, 2), (62, .aload_n 3, 1)]
theorem KX0_areFramesSound_59_21_d : ∀ z ∈ KX0_areFramesSound_59_21, decode cX0_areFramesSound z.1 = .ok z.2 := by decide +kernel
set_option maxHeartbeats 4000000 in
set_option maxRecDepth 100000 in
theorem c_X0_areFramesSound (l : Launch) (D : va_G) (g : Nat → ClassId) (ad : Nat → Nat) (I : Nat → Nat → Int32) (L : Nat → Nat → Int64) (S : Nat → Nat) : CT l yX0_areFramesSound cX0_areFramesSound 6 ((Option.some FieldType.boolean)) ({ frames := 0, cells := 0, slots := 0, locals := 0 } : Room) [.ref (ad 4)] D CL (TYS g) (WC ad g I L S) ([]) (S := Unit) (fun _ => some (.int (nI (pB (fok I))))) (fun _ => []) (fun _ => True) 0 0 := by
  refine ct_of (by decide +kernel) (Nat.le_of_ble_eq_true rfl) ?_
  intro p e s m below meth c A X hr hnm hSB hRO hAf
  refine g_cs (ws' := []) (lv' := [(0, .ref (ad 4))]) rfl rfl ?_
  refine g_run X KX0_areFramesSound_0_0 KX0_areFramesSound_0_0_d 2 [(1, .int (nI 0)), (0, .ref (ad 4))] [] rfl ?_
  refine g_lv (lv' := [(0, .ref (ad 4)), (1, .int (nI 0))]) (lsub_c 1 rfl (lsub_c 0 rfl (lsub_n))) ?_
  refine g_forP 4 (fun _ => []) (fun i => [(0, .ref (ad 4)), (1, .int (nI i))]) (fun i => ∀ j, j < i → ∀ k, k < 4 → j < k → fpr I j k) (fun _ h => absurd h (Nat.not_lt_zero _)) (rfl) (rfl) ?_ ?_
  · intro hP2
    refine g_run X KX0_areFramesSound_2_1 KX0_areFramesSound_2_1_d 4 [(0, .ref (ad 4)), (1, .int (nI 4))] [.int (nI 4), .int (nI 4)] rfl ?_
    refine g_icmp_ge X 98 dX0_areFramesSound_4 (by decide) (fun hc1 => ?_) (fun hc1 => ?_)
    · refine g_run X KX0_areFramesSound_98_2 KX0_areFramesSound_98_2_d 99 [(0, .ref (ad 4)), (1, .int (nI 4))] [.int (nI 1)] rfl ?_
      exact g_zret X hr (by decide +kernel) () (by show some (Value.int _) = some (Value.int _); rw [pB_t (show fok I from hP2)]) (trivial) ((List.append_nil _).symm) (Nat.le_of_ble_eq_true rfl) (Nat.le_of_ble_eq_true rfl) dX0_areFramesSound_99
    · rw [nI_leI (by omega) (by omega)] at hc1; first | omega | (simp at hc1)
  · intro i hi hP2 k2
    refine g_run X KX0_areFramesSound_2_1 KX0_areFramesSound_2_1_d 4 [(0, .ref (ad 4)), (1, .int (nI i))] [.int (nI 4), .int (nI i)] rfl ?_
    refine g_icmp_ge X 98 dX0_areFramesSound_4 (by decide) (fun hc2 => ?_) (fun hc2 => ?_)
    · rw [nI_leI (by omega) (by omega)] at hc2; first | omega | (simp at hc2)
    · refine g_run X KX0_areFramesSound_7_3 KX0_areFramesSound_7_3_d 11 [(2, .int ((nI i) + (nI 1))), (0, .ref (ad 4)), (1, .int (nI i))] [] rfl ?_
      refine g_nm (lv' := [(2, .int (nI (i + 1))), (0, .ref (ad 4)), (1, .int (nI i))]) (st' := []) (by simp only [nI_add]) (by simp only [nI_add]) ?_
      refine g_lv (lv' := [(0, .ref (ad 4)), (1, .int (nI i)), (2, .int (nI (i + 1)))]) (lsub_c 1 rfl (lsub_c 2 rfl (lsub_c 0 rfl (lsub_n)))) ?_
      refine g_forP (3 - i) (fun _ => []) (fun t => [(0, .ref (ad 4)), (1, .int (nI i)), (2, .int (nI (i + 1 + t)))]) (fun t => ∀ k, k < t → fpr I i (i + 1 + k)) (fun _ h => absurd h (Nat.not_lt_zero _)) (rfl) (rfl) ?_ ?_
      · intro hP11
        refine g_run X KX0_areFramesSound_11_4 KX0_areFramesSound_11_4_d 13 [(0, .ref (ad 4)), (1, .int (nI i)), (2, .int (nI (i + 1 + (3 - i))))] [.int (nI 4), .int (nI (i + 1 + (3 - i)))] rfl ?_
        refine g_icmp_ge X 92 dX0_areFramesSound_13 (by decide) (fun hc3 => ?_) (fun hc3 => ?_)
        · refine g_run X KX0_areFramesSound_92_5 KX0_areFramesSound_92_5_d 2 [(1, .int ((nI i) + (nI 1))), (0, .ref (ad 4)), (2, .int (nI (i + 1 + (3 - i))))] [] rfl ?_
          refine g_nm (lv' := [(1, .int (nI (i + 1))), (0, .ref (ad 4)), (2, .int (nI (i + 1 + (3 - i))))]) (st' := []) (by simp only [nI_add]) (by simp only [nI_add]) ?_
          refine g_lv (lv' := [(0, .ref (ad 4)), (1, .int (nI (i + 1)))]) (lsub_c 1 rfl (lsub_c 0 rfl (lsub_n))) ?_
          refine g_cs (ws' := []) (lv' := [(0, .ref (ad 4)), (1, .int (nI (i + 1)))]) (rfl) (rfl) ?_
          exact k2 (fun j hj k hk hjk => by rcases Nat.lt_succ_iff_lt_or_eq.mp hj with h | h; exact hP2 j h k hk hjk; subst h; have := hP11 (k - (j + 1)) (by omega); rwa [show j + 1 + (k - (j + 1)) = k by omega] at this)
        · rw [nI_leI (by omega) (by omega)] at hc3; first | omega | (simp at hc3)
      · intro t ht hP11 k11
        refine g_run X KX0_areFramesSound_11_4 KX0_areFramesSound_11_4_d 13 [(0, .ref (ad 4)), (1, .int (nI i)), (2, .int (nI (i + 1 + t)))] [.int (nI 4), .int (nI (i + 1 + t))] rfl ?_
        refine g_icmp_ge X 92 dX0_areFramesSound_13 (by decide) (fun hc4 => ?_) (fun hc4 => ?_)
        · rw [nI_leI (by omega) (by omega)] at hc4; first | omega | (simp at hc4)
        · refine g_run X KX0_areFramesSound_16_6 KX0_areFramesSound_16_6_d 17 [(0, .ref (ad 4)), (1, .int (nI i)), (2, .int (nI (i + 1 + t)))] [.ref (ad 4)] rfl ?_
          refine g_get X (srcR hRO) (v := .ref (ad 5)) hinX0 rfl 0 (by decide) w_164 rfl (wc_mem (k := 4) (by decide)) rfl dX0_areFramesSound_17 ?_
          refine g_run X KX0_areFramesSound_20_7 KX0_areFramesSound_20_7_d 21 [(0, .ref (ad 4)), (1, .int (nI i)), (2, .int (nI (i + 1 + t)))] [.int (nI i), .ref (ad 5)] rfl ?_
          refine g_aald X (srcR hRO) (b := ad (i + 6)) 2 rfl (wc_mem (k := 5) (by decide)) i rfl (by omega) (by decide) (rfl) dX0_areFramesSound_21 ?_
          refine g_run X KX0_areFramesSound_22_8 KX0_areFramesSound_22_8_d 24 [(3, .ref (ad (i + 6))), (0, .ref (ad 4)), (1, .int (nI i)), (2, .int (nI (i + 1 + t)))] [.ref (ad 4)] rfl ?_
          refine g_get X (srcR hRO) (v := .ref (ad 5)) hinX0 rfl 0 (by decide) w_164 rfl (wc_mem (k := 4) (by decide)) rfl dX0_areFramesSound_24 ?_
          refine g_run X KX0_areFramesSound_27_9 KX0_areFramesSound_27_9_d 28 [(3, .ref (ad (i + 6))), (0, .ref (ad 4)), (1, .int (nI i)), (2, .int (nI (i + 1 + t)))] [.int (nI (i + 1 + t)), .ref (ad 5)] rfl ?_
          refine g_aald X (srcR hRO) (b := ad ((i + 1 + t) + 6)) 2 rfl (wc_mem (k := 5) (by decide)) (i + 1 + t) rfl (by omega) (by decide) (rfl) dX0_areFramesSound_28 ?_
          refine g_run X KX0_areFramesSound_29_10 KX0_areFramesSound_29_10_d 32 [(4, .ref (ad ((i + 1 + t) + 6))), (3, .ref (ad (i + 6))), (0, .ref (ad 4)), (1, .int (nI i)), (2, .int (nI (i + 1 + t)))] [.ref (ad (i + 6))] rfl ?_
          refine g_get X (srcR hRO) (v := .int (I 5 i)) hinX3 rfl 1 (by decide) w_142 rfl (wc_fr (by omega)) rfl dX0_areFramesSound_32 ?_
          refine g_run X KX0_areFramesSound_35_11 KX0_areFramesSound_35_11_d 37 [(4, .ref (ad ((i + 1 + t) + 6))), (3, .ref (ad (i + 6))), (0, .ref (ad 4)), (1, .int (nI i)), (2, .int (nI (i + 1 + t)))] [.ref (ad ((i + 1 + t) + 6)), .int (I 5 i)] rfl ?_
          refine g_get X (srcR hRO) (v := .int (I 5 (i + 1 + t))) hinX3 rfl 1 (by decide) w_142 rfl (wc_fr (by omega)) rfl dX0_areFramesSound_37 ?_
          refine g_icmp_eq X 55 dX0_areFramesSound_40 (by decide) (fun hc5 => ?_) (fun hc5 => ?_)
          · have hL := hc5
            refine g_run X KX0_areFramesSound_55_12 KX0_areFramesSound_55_12_d 63 [(5, .int (nI 1)), (4, .ref (ad ((i + 1 + t) + 6))), (3, .ref (ad (i + 6))), (0, .ref (ad 4)), (1, .int (nI i)), (2, .int (nI (i + 1 + t)))] [.ref (ad (i + 6))] rfl ?_
            refine g_get X (srcR hRO) (v := .int (I 5 i)) hinX3 rfl 1 (by decide) w_142 rfl (wc_fr (by omega)) rfl dX0_areFramesSound_63 ?_
            refine g_run X KX0_areFramesSound_66_13 KX0_areFramesSound_66_13_d 67 [(5, .int (nI 1)), (4, .ref (ad ((i + 1 + t) + 6))), (3, .ref (ad (i + 6))), (0, .ref (ad 4)), (1, .int (nI i)), (2, .int (nI (i + 1 + t)))] [.int (-nI 1), .int (I 5 i)] rfl ?_
            refine g_icmp_eq X 86 dX0_areFramesSound_67 (by decide) (fun hc6 => ?_) (fun hc6 => ?_)
            · have hpr : fpr I i (i + 1 + t) := Or.inl hc6
              have hpr : fpr I i (i + 1 + t) := by first | exact hpr | exact Or.inr (Or.inr ⟨hL, hT⟩)
              refine g_run X KX0_areFramesSound_86_14 KX0_areFramesSound_86_14_d 11 [(2, .int ((nI (i + 1 + t)) + (nI 1))), (5, .int (nI 1)), (4, .ref (ad ((i + 1 + t) + 6))), (3, .ref (ad (i + 6))), (0, .ref (ad 4)), (1, .int (nI i))] [] rfl ?_
              refine g_nm (lv' := [(2, .int (nI ((i + 1 + t) + 1))), (5, .int (nI 1)), (4, .ref (ad ((i + 1 + t) + 6))), (3, .ref (ad (i + 6))), (0, .ref (ad 4)), (1, .int (nI i))]) (st' := []) (by simp only [nI_add]) (by simp only [nI_add]) ?_
              refine g_lv (lv' := [(0, .ref (ad 4)), (1, .int (nI i)), (2, .int (nI ((i + 1 + t) + 1)))]) (lsub_c 4 rfl (lsub_c 5 rfl (lsub_c 0 rfl (lsub_n)))) ?_
              refine g_cs (ws' := []) (lv' := [(0, .ref (ad 4)), (1, .int (nI i)), (2, .int (nI (i + 1 + (t + 1))))]) (rfl) (rfl) ?_
              exact k11 (fun k hk => by rcases Nat.lt_succ_iff_lt_or_eq.mp hk with h | h; exact hP11 k h; subst h; exact hpr)
            · have h67 := hc6
              refine g_run X KX0_areFramesSound_70_15 KX0_areFramesSound_70_15_d 72 [(5, .int (nI 1)), (4, .ref (ad ((i + 1 + t) + 6))), (3, .ref (ad (i + 6))), (0, .ref (ad 4)), (1, .int (nI i)), (2, .int (nI (i + 1 + t)))] [.ref (ad ((i + 1 + t) + 6))] rfl ?_
              refine g_get X (srcR hRO) (v := .int (I 5 (i + 1 + t))) hinX3 rfl 1 (by decide) w_142 rfl (wc_fr (by omega)) rfl dX0_areFramesSound_72 ?_
              refine g_run X KX0_areFramesSound_75_16 KX0_areFramesSound_75_16_d 76 [(5, .int (nI 1)), (4, .ref (ad ((i + 1 + t) + 6))), (3, .ref (ad (i + 6))), (0, .ref (ad 4)), (1, .int (nI i)), (2, .int (nI (i + 1 + t)))] [.int (-nI 1), .int (I 5 (i + 1 + t))] rfl ?_
              refine g_icmp_eq X 86 dX0_areFramesSound_76 (by decide) (fun hc7 => ?_) (fun hc7 => ?_)
              · have hpr : fpr I i (i + 1 + t) := Or.inr (Or.inl hc7)
                have hpr : fpr I i (i + 1 + t) := by first | exact hpr | exact Or.inr (Or.inr ⟨hL, hT⟩)
                refine g_run X KX0_areFramesSound_86_14 KX0_areFramesSound_86_14_d 11 [(2, .int ((nI (i + 1 + t)) + (nI 1))), (5, .int (nI 1)), (4, .ref (ad ((i + 1 + t) + 6))), (3, .ref (ad (i + 6))), (0, .ref (ad 4)), (1, .int (nI i))] [] rfl ?_
                refine g_nm (lv' := [(2, .int (nI ((i + 1 + t) + 1))), (5, .int (nI 1)), (4, .ref (ad ((i + 1 + t) + 6))), (3, .ref (ad (i + 6))), (0, .ref (ad 4)), (1, .int (nI i))]) (st' := []) (by simp only [nI_add]) (by simp only [nI_add]) ?_
                refine g_lv (lv' := [(0, .ref (ad 4)), (1, .int (nI i)), (2, .int (nI ((i + 1 + t) + 1)))]) (lsub_c 4 rfl (lsub_c 5 rfl (lsub_c 0 rfl (lsub_n)))) ?_
                refine g_cs (ws' := []) (lv' := [(0, .ref (ad 4)), (1, .int (nI i)), (2, .int (nI (i + 1 + (t + 1))))]) (rfl) (rfl) ?_
                exact k11 (fun k hk => by rcases Nat.lt_succ_iff_lt_or_eq.mp hk with h | h; exact hP11 k h; subst h; exact hpr)
              · have h76 := hc7
                refine g_run X KX0_areFramesSound_79_17 KX0_areFramesSound_79_17_d 81 [(5, .int (nI 1)), (4, .ref (ad ((i + 1 + t) + 6))), (3, .ref (ad (i + 6))), (0, .ref (ad 4)), (1, .int (nI i)), (2, .int (nI (i + 1 + t)))] [.int (nI 1)] rfl ?_
                refine g_if_eq X 86 dX0_areFramesSound_81 (by decide) (fun hc8 => ?_) (fun hc8 => ?_)
                · exact absurd hc8 (by decide)
                · have hno : ¬ fok I := fun z => by
                    rcases z i hi (i + 1 + t) (by omega) (by omega) with h | h | h
                    · exact h67 h
                    · exact h76 h
                    · first | exact h.1 hL | exact h.2 hT
                  refine g_run X KX0_areFramesSound_84_18 KX0_areFramesSound_84_18_d 85 [(5, .int (nI 1)), (4, .ref (ad ((i + 1 + t) + 6))), (3, .ref (ad (i + 6))), (0, .ref (ad 4)), (1, .int (nI i)), (2, .int (nI (i + 1 + t)))] [.int (nI 0)] rfl ?_
                  exact g_zret X hr (by decide +kernel) () (by show some (Value.int _) = some (Value.int _); rw [pB_f hno]) (trivial) ((List.append_nil _).symm) (Nat.le_of_ble_eq_true rfl) (Nat.le_of_ble_eq_true rfl) dX0_areFramesSound_85
          · have hL := hc5
            refine g_run X KX0_areFramesSound_43_19 KX0_areFramesSound_43_19_d 44 [(4, .ref (ad ((i + 1 + t) + 6))), (3, .ref (ad (i + 6))), (0, .ref (ad 4)), (1, .int (nI i)), (2, .int (nI (i + 1 + t)))] [.ref (ad (i + 6))] rfl ?_
            refine g_get X (srcR hRO) (v := .int (I 7 i)) hinX3 rfl 4 (by decide) w_151 rfl (wc_fr (by omega)) rfl dX0_areFramesSound_44 ?_
            refine g_run X KX0_areFramesSound_47_20 KX0_areFramesSound_47_20_d 49 [(4, .ref (ad ((i + 1 + t) + 6))), (3, .ref (ad (i + 6))), (0, .ref (ad 4)), (1, .int (nI i)), (2, .int (nI (i + 1 + t)))] [.ref (ad ((i + 1 + t) + 6)), .int (I 7 i)] rfl ?_
            refine g_get X (srcR hRO) (v := .int (I 7 (i + 1 + t))) hinX3 rfl 4 (by decide) w_151 rfl (wc_fr (by omega)) rfl dX0_areFramesSound_49 ?_
            refine g_icmp_ne X 59 dX0_areFramesSound_52 (by decide) (fun hc9 => ?_) (fun hc9 => ?_)
            · have hT := hc9
              refine g_run X KX0_areFramesSound_59_21 KX0_areFramesSound_59_21_d 63 [(5, .int (nI 0)), (4, .ref (ad ((i + 1 + t) + 6))), (3, .ref (ad (i + 6))), (0, .ref (ad 4)), (1, .int (nI i)), (2, .int (nI (i + 1 + t)))] [.ref (ad (i + 6))] rfl ?_
              refine g_get X (srcR hRO) (v := .int (I 5 i)) hinX3 rfl 1 (by decide) w_142 rfl (wc_fr (by omega)) rfl dX0_areFramesSound_63 ?_
              refine g_run X KX0_areFramesSound_66_13 KX0_areFramesSound_66_13_d 67 [(5, .int (nI 0)), (4, .ref (ad ((i + 1 + t) + 6))), (3, .ref (ad (i + 6))), (0, .ref (ad 4)), (1, .int (nI i)), (2, .int (nI (i + 1 + t)))] [.int (-nI 1), .int (I 5 i)] rfl ?_
              refine g_icmp_eq X 86 dX0_areFramesSound_67 (by decide) (fun hc10 => ?_) (fun hc10 => ?_)
              · have hpr : fpr I i (i + 1 + t) := Or.inl hc10
                have hpr : fpr I i (i + 1 + t) := by first | exact hpr | exact Or.inr (Or.inr ⟨hL, hT⟩)
                refine g_run X KX0_areFramesSound_86_14 KX0_areFramesSound_86_14_d 11 [(2, .int ((nI (i + 1 + t)) + (nI 1))), (5, .int (nI 0)), (4, .ref (ad ((i + 1 + t) + 6))), (3, .ref (ad (i + 6))), (0, .ref (ad 4)), (1, .int (nI i))] [] rfl ?_
                refine g_nm (lv' := [(2, .int (nI ((i + 1 + t) + 1))), (5, .int (nI 0)), (4, .ref (ad ((i + 1 + t) + 6))), (3, .ref (ad (i + 6))), (0, .ref (ad 4)), (1, .int (nI i))]) (st' := []) (by simp only [nI_add]) (by simp only [nI_add]) ?_
                refine g_lv (lv' := [(0, .ref (ad 4)), (1, .int (nI i)), (2, .int (nI ((i + 1 + t) + 1)))]) (lsub_c 4 rfl (lsub_c 5 rfl (lsub_c 0 rfl (lsub_n)))) ?_
                refine g_cs (ws' := []) (lv' := [(0, .ref (ad 4)), (1, .int (nI i)), (2, .int (nI (i + 1 + (t + 1))))]) (rfl) (rfl) ?_
                exact k11 (fun k hk => by rcases Nat.lt_succ_iff_lt_or_eq.mp hk with h | h; exact hP11 k h; subst h; exact hpr)
              · have h67 := hc10
                refine g_run X KX0_areFramesSound_70_15 KX0_areFramesSound_70_15_d 72 [(5, .int (nI 0)), (4, .ref (ad ((i + 1 + t) + 6))), (3, .ref (ad (i + 6))), (0, .ref (ad 4)), (1, .int (nI i)), (2, .int (nI (i + 1 + t)))] [.ref (ad ((i + 1 + t) + 6))] rfl ?_
                refine g_get X (srcR hRO) (v := .int (I 5 (i + 1 + t))) hinX3 rfl 1 (by decide) w_142 rfl (wc_fr (by omega)) rfl dX0_areFramesSound_72 ?_
                refine g_run X KX0_areFramesSound_75_16 KX0_areFramesSound_75_16_d 76 [(5, .int (nI 0)), (4, .ref (ad ((i + 1 + t) + 6))), (3, .ref (ad (i + 6))), (0, .ref (ad 4)), (1, .int (nI i)), (2, .int (nI (i + 1 + t)))] [.int (-nI 1), .int (I 5 (i + 1 + t))] rfl ?_
                refine g_icmp_eq X 86 dX0_areFramesSound_76 (by decide) (fun hc11 => ?_) (fun hc11 => ?_)
                · have hpr : fpr I i (i + 1 + t) := Or.inr (Or.inl hc11)
                  have hpr : fpr I i (i + 1 + t) := by first | exact hpr | exact Or.inr (Or.inr ⟨hL, hT⟩)
                  refine g_run X KX0_areFramesSound_86_14 KX0_areFramesSound_86_14_d 11 [(2, .int ((nI (i + 1 + t)) + (nI 1))), (5, .int (nI 0)), (4, .ref (ad ((i + 1 + t) + 6))), (3, .ref (ad (i + 6))), (0, .ref (ad 4)), (1, .int (nI i))] [] rfl ?_
                  refine g_nm (lv' := [(2, .int (nI ((i + 1 + t) + 1))), (5, .int (nI 0)), (4, .ref (ad ((i + 1 + t) + 6))), (3, .ref (ad (i + 6))), (0, .ref (ad 4)), (1, .int (nI i))]) (st' := []) (by simp only [nI_add]) (by simp only [nI_add]) ?_
                  refine g_lv (lv' := [(0, .ref (ad 4)), (1, .int (nI i)), (2, .int (nI ((i + 1 + t) + 1)))]) (lsub_c 4 rfl (lsub_c 5 rfl (lsub_c 0 rfl (lsub_n)))) ?_
                  refine g_cs (ws' := []) (lv' := [(0, .ref (ad 4)), (1, .int (nI i)), (2, .int (nI (i + 1 + (t + 1))))]) (rfl) (rfl) ?_
                  exact k11 (fun k hk => by rcases Nat.lt_succ_iff_lt_or_eq.mp hk with h | h; exact hP11 k h; subst h; exact hpr)
                · have h76 := hc11
                  refine g_run X KX0_areFramesSound_79_17 KX0_areFramesSound_79_17_d 81 [(5, .int (nI 0)), (4, .ref (ad ((i + 1 + t) + 6))), (3, .ref (ad (i + 6))), (0, .ref (ad 4)), (1, .int (nI i)), (2, .int (nI (i + 1 + t)))] [.int (nI 0)] rfl ?_
                  refine g_if_eq X 86 dX0_areFramesSound_81 (by decide) (fun hc12 => ?_) (fun hc12 => ?_)
                  · have hpr : fpr I i (i + 1 + t) := by first | exact hpr | exact Or.inr (Or.inr ⟨hL, hT⟩)
                    refine g_run X KX0_areFramesSound_86_14 KX0_areFramesSound_86_14_d 11 [(2, .int ((nI (i + 1 + t)) + (nI 1))), (5, .int (nI 0)), (4, .ref (ad ((i + 1 + t) + 6))), (3, .ref (ad (i + 6))), (0, .ref (ad 4)), (1, .int (nI i))] [] rfl ?_
                    refine g_nm (lv' := [(2, .int (nI ((i + 1 + t) + 1))), (5, .int (nI 0)), (4, .ref (ad ((i + 1 + t) + 6))), (3, .ref (ad (i + 6))), (0, .ref (ad 4)), (1, .int (nI i))]) (st' := []) (by simp only [nI_add]) (by simp only [nI_add]) ?_
                    refine g_lv (lv' := [(0, .ref (ad 4)), (1, .int (nI i)), (2, .int (nI ((i + 1 + t) + 1)))]) (lsub_c 4 rfl (lsub_c 5 rfl (lsub_c 0 rfl (lsub_n)))) ?_
                    refine g_cs (ws' := []) (lv' := [(0, .ref (ad 4)), (1, .int (nI i)), (2, .int (nI (i + 1 + (t + 1))))]) (rfl) (rfl) ?_
                    exact k11 (fun k hk => by rcases Nat.lt_succ_iff_lt_or_eq.mp hk with h | h; exact hP11 k h; subst h; exact hpr)
                  · exact absurd rfl hc12
            · have hT := hc9
              refine g_run X KX0_areFramesSound_55_12 KX0_areFramesSound_55_12_d 63 [(5, .int (nI 1)), (4, .ref (ad ((i + 1 + t) + 6))), (3, .ref (ad (i + 6))), (0, .ref (ad 4)), (1, .int (nI i)), (2, .int (nI (i + 1 + t)))] [.ref (ad (i + 6))] rfl ?_
              refine g_get X (srcR hRO) (v := .int (I 5 i)) hinX3 rfl 1 (by decide) w_142 rfl (wc_fr (by omega)) rfl dX0_areFramesSound_63 ?_
              refine g_run X KX0_areFramesSound_66_13 KX0_areFramesSound_66_13_d 67 [(5, .int (nI 1)), (4, .ref (ad ((i + 1 + t) + 6))), (3, .ref (ad (i + 6))), (0, .ref (ad 4)), (1, .int (nI i)), (2, .int (nI (i + 1 + t)))] [.int (-nI 1), .int (I 5 i)] rfl ?_
              refine g_icmp_eq X 86 dX0_areFramesSound_67 (by decide) (fun hc13 => ?_) (fun hc13 => ?_)
              · have hpr : fpr I i (i + 1 + t) := Or.inl hc13
                have hpr : fpr I i (i + 1 + t) := by first | exact hpr | exact Or.inr (Or.inr ⟨hL, hT⟩)
                refine g_run X KX0_areFramesSound_86_14 KX0_areFramesSound_86_14_d 11 [(2, .int ((nI (i + 1 + t)) + (nI 1))), (5, .int (nI 1)), (4, .ref (ad ((i + 1 + t) + 6))), (3, .ref (ad (i + 6))), (0, .ref (ad 4)), (1, .int (nI i))] [] rfl ?_
                refine g_nm (lv' := [(2, .int (nI ((i + 1 + t) + 1))), (5, .int (nI 1)), (4, .ref (ad ((i + 1 + t) + 6))), (3, .ref (ad (i + 6))), (0, .ref (ad 4)), (1, .int (nI i))]) (st' := []) (by simp only [nI_add]) (by simp only [nI_add]) ?_
                refine g_lv (lv' := [(0, .ref (ad 4)), (1, .int (nI i)), (2, .int (nI ((i + 1 + t) + 1)))]) (lsub_c 4 rfl (lsub_c 5 rfl (lsub_c 0 rfl (lsub_n)))) ?_
                refine g_cs (ws' := []) (lv' := [(0, .ref (ad 4)), (1, .int (nI i)), (2, .int (nI (i + 1 + (t + 1))))]) (rfl) (rfl) ?_
                exact k11 (fun k hk => by rcases Nat.lt_succ_iff_lt_or_eq.mp hk with h | h; exact hP11 k h; subst h; exact hpr)
              · have h67 := hc13
                refine g_run X KX0_areFramesSound_70_15 KX0_areFramesSound_70_15_d 72 [(5, .int (nI 1)), (4, .ref (ad ((i + 1 + t) + 6))), (3, .ref (ad (i + 6))), (0, .ref (ad 4)), (1, .int (nI i)), (2, .int (nI (i + 1 + t)))] [.ref (ad ((i + 1 + t) + 6))] rfl ?_
                refine g_get X (srcR hRO) (v := .int (I 5 (i + 1 + t))) hinX3 rfl 1 (by decide) w_142 rfl (wc_fr (by omega)) rfl dX0_areFramesSound_72 ?_
                refine g_run X KX0_areFramesSound_75_16 KX0_areFramesSound_75_16_d 76 [(5, .int (nI 1)), (4, .ref (ad ((i + 1 + t) + 6))), (3, .ref (ad (i + 6))), (0, .ref (ad 4)), (1, .int (nI i)), (2, .int (nI (i + 1 + t)))] [.int (-nI 1), .int (I 5 (i + 1 + t))] rfl ?_
                refine g_icmp_eq X 86 dX0_areFramesSound_76 (by decide) (fun hc14 => ?_) (fun hc14 => ?_)
                · have hpr : fpr I i (i + 1 + t) := Or.inr (Or.inl hc14)
                  have hpr : fpr I i (i + 1 + t) := by first | exact hpr | exact Or.inr (Or.inr ⟨hL, hT⟩)
                  refine g_run X KX0_areFramesSound_86_14 KX0_areFramesSound_86_14_d 11 [(2, .int ((nI (i + 1 + t)) + (nI 1))), (5, .int (nI 1)), (4, .ref (ad ((i + 1 + t) + 6))), (3, .ref (ad (i + 6))), (0, .ref (ad 4)), (1, .int (nI i))] [] rfl ?_
                  refine g_nm (lv' := [(2, .int (nI ((i + 1 + t) + 1))), (5, .int (nI 1)), (4, .ref (ad ((i + 1 + t) + 6))), (3, .ref (ad (i + 6))), (0, .ref (ad 4)), (1, .int (nI i))]) (st' := []) (by simp only [nI_add]) (by simp only [nI_add]) ?_
                  refine g_lv (lv' := [(0, .ref (ad 4)), (1, .int (nI i)), (2, .int (nI ((i + 1 + t) + 1)))]) (lsub_c 4 rfl (lsub_c 5 rfl (lsub_c 0 rfl (lsub_n)))) ?_
                  refine g_cs (ws' := []) (lv' := [(0, .ref (ad 4)), (1, .int (nI i)), (2, .int (nI (i + 1 + (t + 1))))]) (rfl) (rfl) ?_
                  exact k11 (fun k hk => by rcases Nat.lt_succ_iff_lt_or_eq.mp hk with h | h; exact hP11 k h; subst h; exact hpr)
                · have h76 := hc14
                  refine g_run X KX0_areFramesSound_79_17 KX0_areFramesSound_79_17_d 81 [(5, .int (nI 1)), (4, .ref (ad ((i + 1 + t) + 6))), (3, .ref (ad (i + 6))), (0, .ref (ad 4)), (1, .int (nI i)), (2, .int (nI (i + 1 + t)))] [.int (nI 1)] rfl ?_
                  refine g_if_eq X 86 dX0_areFramesSound_81 (by decide) (fun hc15 => ?_) (fun hc15 => ?_)
                  · exact absurd hc15 (by decide)
                  · have hno : ¬ fok I := fun z => by
                      rcases z i hi (i + 1 + t) (by omega) (by omega) with h | h | h
                      · exact h67 h
                      · exact h76 h
                      · first | exact h.1 hL | exact h.2 hT
                    refine g_run X KX0_areFramesSound_84_18 KX0_areFramesSound_84_18_d 85 [(5, .int (nI 1)), (4, .ref (ad ((i + 1 + t) + 6))), (3, .ref (ad (i + 6))), (0, .ref (ad 4)), (1, .int (nI i)), (2, .int (nI (i + 1 + t)))] [.int (nI 0)] rfl ?_
                    exact g_zret X hr (by decide +kernel) () (by show some (Value.int _) = some (Value.int _); rw [pB_f hno]) (trivial) ((List.append_nil _).symm) (Nat.le_of_ble_eq_true rfl) (Nat.le_of_ble_eq_true rfl) dX0_areFramesSound_85

