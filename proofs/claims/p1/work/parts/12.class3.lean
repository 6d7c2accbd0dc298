def KX4_replaceAt_0_0 : List (Nat × Instr × Nat) := [(0, .aload_n 0, 1)]
theorem KX4_replaceAt_0_0_d : ∀ z ∈ KX4_replaceAt_0_0, decode cX4_replaceAt z.1 = .ok z.2 := by decide +kernel
def KX4_replaceAt_4_1 : List (Nat × Instr × Nat) := [(4, .bipush 18, 2)]
theorem KX4_replaceAt_4_1_d : ∀ z ∈ KX4_replaceAt_4_1, decode cX4_replaceAt z.1 = .ok z.2 := by decide +kernel
def KX4_replaceAt_10_2 : List (Nat × Instr × Nat) := [(10, .aload_n 0, 1)]
theorem KX4_replaceAt_10_2_d : ∀ z ∈ KX4_replaceAt_10_2, decode cX4_replaceAt z.1 = .ok z.2 := by decide +kernel
def KX4_replaceAt_14_3 : List (Nat × Instr × Nat) := [(14, .aload_n 0, 1)]
theorem KX4_replaceAt_14_3_d : ∀ z ∈ KX4_replaceAt_14_3, decode cX4_replaceAt z.1 = .ok z.2 := by decide +kernel
def KX4_replaceAt_19_4 : List (Nat × Instr × Nat) := [(19, .astore_n 2, 1), (20, .aload_n 0, 1), (21, .dup, 1)]
theorem KX4_replaceAt_19_4_d : ∀ z ∈ KX4_replaceAt_19_4, decode cX4_replaceAt z.1 = .ok z.2 := by decide +kernel
def KX4_replaceAt_25_5 : List (Nat × Instr × Nat) := [(25, .iconst 1, 1), (26, .iadd, 1)]
theorem KX4_replaceAt_25_5_d : ∀ z ∈ KX4_replaceAt_25_5, decode cX4_replaceAt z.1 = .ok z.2 := by decide +kernel
def KX4_replaceAt_30_6 : List (Nat × Instr × Nat) := [(30, .aload_n 0, 1), (31, .iload_n 1, 1), (32, .aload_n 2, 1)]
theorem KX4_replaceAt_30_6_d : ∀ z ∈ KX4_replaceAt_30_6, decode cX4_replaceAt z.1 = .ok z.2 := by decide +kernel
def KX4_replaceAt_36_7 : List (Nat × Instr × Nat) := [(36, .aload_n 0, 1)]
theorem KX4_replaceAt_36_7_d : ∀ z ∈ KX4_replaceAt_36_7, decode cX4_replaceAt z.1 = .ok z.2 := by decide +kernel
def KX4_replaceAt_40_8 : List (Nat × Instr × Nat) := [(40, .iload_n 1, 1)]
theorem KX4_replaceAt_40_8_d : ∀ z ∈ KX4_replaceAt_40_8, decode cX4_replaceAt z.1 = .ok z.2 := by decide +kernel
def KX4_replaceAt_42_9 : List (Nat × Instr × Nat) := [(42, .astore_n 3, 1), (43, .aload_n 3, 1), (44, .iconst (-1), 1)]
theorem KX4_replaceAt_42_9_d : ∀ z ∈ KX4_replaceAt_42_9, decode cX4_replaceAt z.1 = .ok z.2 := by decide +kernel
def KX4_replaceAt_48_10 : List (Nat × Instr × Nat) := [(48, .aload_n 3, 1), (49, .iconst 1, 1)]
theorem KX4_replaceAt_48_10_d : ∀ z ∈ KX4_replaceAt_48_10, decode cX4_replaceAt z.1 = .ok z.2 := by decide +kernel
def KX4_replaceAt_53_11 : List (Nat × Instr × Nat) := [(53, .aload_n 2, 1), (54, .iload_n 1, 1)]
theorem KX4_replaceAt_53_11_d : ∀ z ∈ KX4_replaceAt_53_11, decode cX4_replaceAt z.1 = .ok z.2 := by decide +kernel
def KX4_replaceAt_58_12 : List (Nat × Instr × Nat) := [(58, .aload_n 0, 1)]
theorem KX4_replaceAt_58_12_d : ∀ z ∈ KX4_replaceAt_58_12, decode cX4_replaceAt z.1 = .ok z.2 := by decide +kernel
def KX4_replaceAt_62_13 : List (Nat × Instr × Nat) := [(62, .iload_n 1, 1), (63, .aload_n 2, 1)]
theorem KX4_replaceAt_62_13_d : ∀ z ∈ KX4_replaceAt_62_13, decode cX4_replaceAt z.1 = .ok z.2 := by decide +kernel
set_option maxHeartbeats 4000000 in
set_option maxRecDepth 100000 in
theorem c_X4_replaceAt (l : Launch) (D : va_G) (g : Nat → ClassId) (ad : Nat → Nat) (I : Nat → Nat → Int32) (L : Nat → Nat → Int64) (S : Nat → Nat) (q : Nat) (n : Nat) (hS18 : ∀ p, p < 15 → S p < 18) (hq : q < 15) (hns : I 8 5 = nI n) (hn : n < 18) : CT l yX4_replaceAt cX4_replaceAt 4 ((Option.none : Option Jvm.ClassFile.FieldType)) ({ frames := 5, cells := 0, slots := 0, locals := 136 } : Room) [.ref (ad 1), .int (nI q)] D CL (TYS g) ([]) (WC ad g I L S) (S := Unit) (fun _ => none) (fun _ => WC ad g (u2 (u2 (u2 (u2 I 8 5 (nI (n + 1))) 0 (S q) (-nI 1)) 4 (S q) (nI 1)) 0 n (nI q)) (ffl (u2 I 8 5 (nI (n + 1))) L S q n (ffb (u2 I 8 5 (nI (n + 1))) S q) 16) (u1 S q n)) (fun _ => True) 0 0 := by
  refine ct_of (by decide +kernel) (Nat.le_of_ble_eq_true rfl) ?_
  intro p e s m below meth c A X hr hnm hSB hRO hAf
  refine g_cs (ws' := WC ad g I L S) (lv' := [(0, .ref (ad 1)), (1, .int (nI q))]) rfl rfl ?_
  refine g_run X KX4_replaceAt_0_0 KX4_replaceAt_0_0_d 1 [(0, .ref (ad 1)), (1, .int (nI q))] [.ref (ad 1)] rfl ?_
  refine g_get X srcW (v := .int (I 8 5)) hinX4 rfl 7 (by decide) w_107 rfl (wc_mem (k := 1) (by decide)) rfl dX4_replaceAt_1 ?_
  refine g_st (st' := [.int (nI n)]) (by rw [hns]) ?_
  refine g_run X KX4_replaceAt_4_1 KX4_replaceAt_4_1_d 6 [(0, .ref (ad 1)), (1, .int (nI q))] [.int (nI 18), .int (nI n)] rfl ?_
  refine g_icmp_lt X 10 dX4_replaceAt_6 (by decide) (fun hc1 => ?_) (fun hc1 => ?_)
  · refine g_run X KX4_replaceAt_10_2 KX4_replaceAt_10_2_d 11 [(0, .ref (ad 1)), (1, .int (nI q))] [.ref (ad 1)] rfl ?_
    refine g_get X srcW (v := .ref (ad 2)) hinX4 rfl 0 (by decide) w_93 rfl (wc_mem (k := 1) (by decide)) rfl dX4_replaceAt_11 ?_
    refine g_run X KX4_replaceAt_14_3 KX4_replaceAt_14_3_d 15 [(0, .ref (ad 1)), (1, .int (nI q))] [.ref (ad 1), .ref (ad 2)] rfl ?_
    refine g_get X srcW (v := .int (I 8 5)) hinX4 rfl 7 (by decide) w_107 rfl (wc_mem (k := 1) (by decide)) rfl dX4_replaceAt_15 ?_
    refine g_st (st' := [.int (nI n), .ref (ad 2)]) (by rw [hns]) ?_
    refine g_aald X srcW (b := ad (n + 10)) 1 rfl (wc_mem (k := 2) (by decide)) n rfl (by omega) (by decide) (rfl) dX4_replaceAt_18 ?_
    refine g_run X KX4_replaceAt_19_4 KX4_replaceAt_19_4_d 22 [(2, .ref (ad (n + 10))), (0, .ref (ad 1)), (1, .int (nI q))] [.ref (ad 1), .ref (ad 1)] rfl ?_
    refine g_get X srcW (v := .int (I 8 5)) hinX4 rfl 7 (by decide) w_107 rfl (wc_mem (k := 1) (by decide)) rfl dX4_replaceAt_22 ?_
    refine g_st (st' := [.int (nI n), .ref (ad 1)]) (by rw [hns]) ?_
    refine g_run X KX4_replaceAt_25_5 KX4_replaceAt_25_5_d 27 [(2, .ref (ad (n + 10))), (0, .ref (ad 1)), (1, .int (nI q))] [.int ((nI n) + (nI 1)), .ref (ad 1)] rfl ?_
    refine g_nm (lv' := [(2, .ref (ad (n + 10))), (0, .ref (ad 1)), (1, .int (nI q))]) (st' := [.int (nI (n + 1)), .ref (ad 1)]) (by simp only [nI_add]) (by simp only [nI_add]) ?_
    refine g_put X (ws' := WC ad g (u2 I 8 5 (nI (n + 1))) L S) hinX4 tyX4 tyX4_ok nmX4 rfl 7 (by decide) w_107 rfl rfl (ty := .int) rfl rfl rfl (1) (wc_get (k := 1) (by decide)) (Nat.le_of_ble_eq_true rfl) (ws_me7) dX4_replaceAt_27 ?_
    refine g_run X KX4_replaceAt_30_6 KX4_replaceAt_30_6_d 33 [(2, .ref (ad (n + 10))), (0, .ref (ad 1)), (1, .int (nI q))] [.ref (ad (n + 10)), .int (nI q), .ref (ad 1)] rfl ?_
    refine g_callV X hSB hAf (srcW) (hrc1 := (rfl : CL[3]? = some _)) (wc_mem (k := 1) (by decide)) rfl (As := [.int (nI q), .ref (ad (n + 10))]) (wr := []) (n := 2) (c_X4_fillFor l D g ad (u2 I 8 5 (nI (n + 1))) L S q n (hS18) (by omega) (hn)) (List.append_nil _).symm srcN hrdN w_592 w_589 w_591 w_s2 w_2 (by decide +kernel) rfl ⟨Nat.le_of_ble_eq_true rfl, Nat.le_of_ble_eq_true rfl⟩ rfl rfl rfl (Nat.le_of_ble_eq_true rfl) ⟨Nat.le_of_ble_eq_true rfl, Nat.le_of_ble_eq_true rfl⟩ dX4_replaceAt_33 (fun hu2 _ => ?_)
    refine g_af (ws' := WC ad g (u2 I 8 5 (nI (n + 1))) (ffl (u2 I 8 5 (nI (n + 1))) L S q n (ffb (u2 I 8 5 (nI (n + 1))) S q) 16) S) (st' := []) (cells' := 0) (slots' := 0) (pc' := 36) (List.append_nil _).symm rfl rfl rfl rfl ?_
    refine g_run X KX4_replaceAt_36_7 KX4_replaceAt_36_7_d 37 [(2, .ref (ad (n + 10))), (0, .ref (ad 1)), (1, .int (nI q))] [.ref (ad 1)] rfl ?_
    refine g_get X srcW (v := .ref (ad 3)) hinX4 rfl 1 (by decide) w_95 rfl (wc_mem (k := 1) (by decide)) rfl dX4_replaceAt_37 ?_
    refine g_run X KX4_replaceAt_40_8 KX4_replaceAt_40_8_d 41 [(2, .ref (ad (n + 10))), (0, .ref (ad 1)), (1, .int (nI q))] [.int (nI q), .ref (ad 3)] rfl ?_
    refine g_aald X srcW (b := ad ((S q) + 10)) 1 rfl (wc_mem (k := 3) (by decide)) q rfl (by omega) (by decide) (rfl) dX4_replaceAt_41 ?_
    refine g_run X KX4_replaceAt_42_9 KX4_replaceAt_42_9_d 45 [(3, .ref (ad ((S q) + 10))), (2, .ref (ad (n + 10))), (0, .ref (ad 1)), (1, .int (nI q))] [.int (-nI 1), .ref (ad ((S q) + 10))] rfl ?_
    refine g_put X (ws' := WC ad g (u2 (u2 I 8 5 (nI (n + 1))) 0 (S q) (-nI 1)) (ffl (u2 I 8 5 (nI (n + 1))) L S q n (ffb (u2 I 8 5 (nI (n + 1))) S q) 16) S) hinX1 tyX1 tyX1_ok nmX1 rfl 1 (by decide) w_58 rfl rfl (ty := .int) rfl rfl rfl ((S q) + 10) (wc_get (k := (S q) + 10) (Nat.add_lt_add_right (hS18 _ (by omega)) 10)) (Nat.le_of_ble_eq_true rfl) (ws_ch1) dX4_replaceAt_45 ?_
    refine g_run X KX4_replaceAt_48_10 KX4_replaceAt_48_10_d 50 [(3, .ref (ad ((S q) + 10))), (2, .ref (ad (n + 10))), (0, .ref (ad 1)), (1, .int (nI q))] [.int (nI 1), .ref (ad ((S q) + 10))] rfl ?_
    refine g_put X (ws' := WC ad g (u2 (u2 (u2 I 8 5 (nI (n + 1))) 0 (S q) (-nI 1)) 4 (S q) (nI 1)) (ffl (u2 I 8 5 (nI (n + 1))) L S q n (ffb (u2 I 8 5 (nI (n + 1))) S q) 16) S) hinX1 tyX1 tyX1_ok nmX1 rfl 5 (by decide) w_69 rfl rfl (ty := .boolean) rfl (by decide +kernel) rfl ((S q) + 10) (wc_get (k := (S q) + 10) (Nat.add_lt_add_right (hS18 _ (by omega)) 10)) (Nat.le_of_ble_eq_true rfl) (ws_ch5) dX4_replaceAt_50 ?_
    refine g_run X KX4_replaceAt_53_11 KX4_replaceAt_53_11_d 55 [(3, .ref (ad ((S q) + 10))), (2, .ref (ad (n + 10))), (0, .ref (ad 1)), (1, .int (nI q))] [.int (nI q), .ref (ad (n + 10))] rfl ?_
    refine g_put X (ws' := WC ad g (u2 (u2 (u2 (u2 I 8 5 (nI (n + 1))) 0 (S q) (-nI 1)) 4 (S q) (nI 1)) 0 n (nI q)) (ffl (u2 I 8 5 (nI (n + 1))) L S q n (ffb (u2 I 8 5 (nI (n + 1))) S q) 16) S) hinX1 tyX1 tyX1_ok nmX1 rfl 1 (by decide) w_58 rfl rfl (ty := .int) rfl rfl rfl (n + 10) (wc_get (k := n + 10) (Nat.add_lt_add_right (by omega) 10)) (Nat.le_of_ble_eq_true rfl) (ws_ch1) dX4_replaceAt_55 ?_
    refine g_run X KX4_replaceAt_58_12 KX4_replaceAt_58_12_d 59 [(3, .ref (ad ((S q) + 10))), (2, .ref (ad (n + 10))), (0, .ref (ad 1)), (1, .int (nI q))] [.ref (ad 1)] rfl ?_
    refine g_get X srcW (v := .ref (ad 3)) hinX4 rfl 1 (by decide) w_95 rfl (wc_mem (k := 1) (by decide)) rfl dX4_replaceAt_59 ?_
    refine g_run X KX4_replaceAt_62_13 KX4_replaceAt_62_13_d 64 [(3, .ref (ad ((S q) + 10))), (2, .ref (ad (n + 10))), (0, .ref (ad 1)), (1, .int (nI q))] [.ref (ad (n + 10)), .int (nI q), .ref (ad 3)] rfl ?_
    refine g_aast X (ws' := WC ad g (u2 (u2 (u2 (u2 I 8 5 (nI (n + 1))) 0 (S q) (-nI 1)) 4 (S q) (nI 1)) 0 n (nI q)) (ffl (u2 I 8 5 (nI (n + 1))) L S q n (ffb (u2 I 8 5 (nI (n + 1))) S q) 16) (u1 S q n)) (r := CL[1]) 1 rfl 3 (wc_get (k := 3) (by decide)) (wc_chip (by omega)) rfl q rfl (by omega) (by decide) (ws_seat) dX4_replaceAt_64 ?_
    exact g_vret X hr () rfl (trivial) ((List.append_nil _).symm) (Nat.le_of_ble_eq_true rfl) (Nat.le_of_ble_eq_true rfl) dX4_replaceAt_65
  · rw [nI_ltI (by omega) (by omega)] at hc1; first | omega | (simp at hc1)

def KX4_areSeatsSound_0_0 : List (Nat × Instr × Nat) := [(0, .iconst 0, 1), (1, .istore_n 1, 1), (2, .iconst 0, 1), (3, .istore_n 2, 1)]
theorem KX4_areSeatsSound_0_0_d : ∀ z ∈ KX4_areSeatsSound_0_0, decode cX4_areSeatsSound z.1 = .ok z.2 := by decide +kernel
def KX4_areSeatsSound_4_1 : List (Nat × Instr × Nat) := [(4, .iload_n 2, 1), (5, .bipush 15, 2)]
theorem KX4_areSeatsSound_4_1_d : ∀ z ∈ KX4_areSeatsSound_4_1, decode cX4_areSeatsSound z.1 = .ok z.2 := by decide +kernel
def KX4_areSeatsSound_52_2 : List (Nat × Instr × Nat) := [(52, .iconst 1, 1)]
theorem KX4_areSeatsSound_52_2_d : ∀ z ∈ KX4_areSeatsSound_52_2, decode cX4_areSeatsSound z.1 = .ok z.2 := by decide +kernel
def KX4_areSeatsSound_10_3 : List (Nat × Instr × Nat) := [(10, .aload_n 0, 1)]
theorem KX4_areSeatsSound_10_3_d : ∀ z ∈ KX4_areSeatsSound_10_3, decode cX4_areSeatsSound z.1 = .ok z.2 := by decide +kernel
def KX4_areSeatsSound_14_4 : List (Nat × Instr × Nat) := [(14, .iload_n 2, 1)]
theorem KX4_areSeatsSound_14_4_d : ∀ z ∈ KX4_areSeatsSound_14_4, decode cX4_areSeatsSound z.1 = .ok z.2 := by decide +kernel
def KX4_areSeatsSound_16_5 : List (Nat × Instr × Nat) := [(16, .astore_n 3, 1), (17, .aload_n 3, 1)]
theorem KX4_areSeatsSound_16_5_d : ∀ z ∈ KX4_areSeatsSound_16_5, decode cX4_areSeatsSound z.1 = .ok z.2 := by decide +kernel
def KX4_areSeatsSound_35_6 : List (Nat × Instr × Nat) := [(35, .iconst 0, 1)]
theorem KX4_areSeatsSound_35_6_d : ∀ z ∈ KX4_areSeatsSound_35_6, decode cX4_areSeatsSound z.1 = .ok z.2 := by decide +kernel
def KX4_areSeatsSound_24_7 : List (Nat × Instr × Nat) := [(24, .iload_n 1, 1), (25, .aload_n 3, 1)]
theorem KX4_areSeatsSound_24_7_d : ∀ z ∈ KX4_areSeatsSound_24_7, decode cX4_areSeatsSound z.1 = .ok z.2 := by decide +kernel
def KX4_areSeatsSound_37_8 : List (Nat × Instr × Nat) := [(37, .iload_n 1, 1), (38, .iconst 1, 1), (39, .aload_n 3, 1)]
theorem KX4_areSeatsSound_37_8_d : ∀ z ∈ KX4_areSeatsSound_37_8, decode cX4_areSeatsSound z.1 = .ok z.2 := by decide +kernel
def KX4_areSeatsSound_43_9 : List (Nat × Instr × Nat) := [(43, .ishl, 1), (44, .ior, 1), (45, .istore_n 1, 1), (46, .iinc 2 1, 3), (49, .goto (-45), 3)]
theorem KX4_areSeatsSound_43_9_d : ∀ z ∈ KX4_areSeatsSound_43_9, decode cX4_areSeatsSound z.1 = .ok z.2 := by decide +kernel
set_option maxHeartbeats 4000000 in
set_option maxRecDepth 100000 in
theorem c_X4_areSeatsSound (l : Launch) (D : va_G) (g : Nat → ClassId) (ad : Nat → Nat) (I : Nat → Nat → Int32) (L : Nat → Nat → Int64) (S : Nat → Nat) (hS18 : ∀ p, p < 15 → S p < 18) : CT l yX4_areSeatsSound cX4_areSeatsSound 4 ((Option.some FieldType.boolean)) ({ frames := 1, cells := 0, slots := 0, locals := 21 } : Room) [.ref (ad 1)] D CL (TYS g) (WC ad g I L S) ([]) (S := Unit) (fun _ => some (.int (nI (pB (sok I S))))) (fun _ => []) (fun _ => True) 0 0 := by
  refine ct_of (by decide +kernel) (Nat.le_of_ble_eq_true rfl) ?_
  intro p e s m below meth c A X hr hnm hSB hRO hAf
  refine g_cs (ws' := []) (lv' := [(0, .ref (ad 1))]) rfl rfl ?_
  refine g_run X KX4_areSeatsSound_0_0 KX4_areSeatsSound_0_0_d 4 [(2, .int (nI 0)), (1, .int (nI 0)), (0, .ref (ad 1))] [] rfl ?_
  refine g_lv (lv' := [(0, .ref (ad 1)), (1, .int (nI 0)), (2, .int (nI 0))]) (lsub_c 2 rfl (lsub_c 1 rfl (lsub_c 0 rfl (lsub_n)))) ?_
  refine g_forP 15 (fun _ => []) (fun i => [(0, .ref (ad 1)), (1, .int (nI (sset S i))), (2, .int (nI i))]) (fun i => ∀ k, k < i → sok1 I S k) (fun _ h => absurd h (Nat.not_lt_zero _)) (rfl) (rfl) ?_ ?_
  · intro hP4
    refine g_run X KX4_areSeatsSound_4_1 KX4_areSeatsSound_4_1_d 7 [(0, .ref (ad 1)), (1, .int (nI (sset S 15))), (2, .int (nI 15))] [.int (nI 15), .int (nI 15)] rfl ?_
    refine g_icmp_ge X 52 dX4_areSeatsSound_7 (by decide) (fun hc1 => ?_) (fun hc1 => ?_)
    · refine g_run X KX4_areSeatsSound_52_2 KX4_areSeatsSound_52_2_d 53 [(0, .ref (ad 1)), (1, .int (nI (sset S 15))), (2, .int (nI 15))] [.int (nI 1)] rfl ?_
      exact g_zret X hr (by decide +kernel) () (by show some (Value.int _) = some (Value.int _); rw [pB_t (show sok I S from hP4)]) (trivial) ((List.append_nil _).symm) (Nat.le_of_ble_eq_true rfl) (Nat.le_of_ble_eq_true rfl) dX4_areSeatsSound_53
    · rw [nI_leI (by omega) (by omega)] at hc1; first | omega | (simp at hc1)
  · intro i hi hP4 k4
    have hsi := hS18 i hi
    have hsl := sset_lt hS18 (show i ≤ 15 by omega)
    refine g_run X KX4_areSeatsSound_4_1 KX4_areSeatsSound_4_1_d 7 [(0, .ref (ad 1)), (1, .int (nI (sset S i))), (2, .int (nI i))] [.int (nI 15), .int (nI i)] rfl ?_
    refine g_icmp_ge X 52 dX4_areSeatsSound_7 (by decide) (fun hc2 => ?_) (fun hc2 => ?_)
    · rw [nI_leI (by omega) (by omega)] at hc2; first | omega | (simp at hc2)
    · refine g_run X KX4_areSeatsSound_10_3 KX4_areSeatsSound_10_3_d 11 [(0, .ref (ad 1)), (1, .int (nI (sset S i))), (2, .int (nI i))] [.ref (ad 1)] rfl ?_
      refine g_get X (srcR hRO) (v := .ref (ad 3)) hinX4 rfl 1 (by decide) w_95 rfl (wc_mem (k := 1) (by decide)) rfl dX4_areSeatsSound_11 ?_
      refine g_run X KX4_areSeatsSound_14_4 KX4_areSeatsSound_14_4_d 15 [(0, .ref (ad 1)), (1, .int (nI (sset S i))), (2, .int (nI i))] [.int (nI i), .ref (ad 3)] rfl ?_
      refine g_aald X (srcR hRO) (b := ad ((S i) + 10)) 1 rfl (wc_mem (k := 3) (by decide)) i rfl (by omega) (by decide) (rfl) dX4_areSeatsSound_15 ?_
      refine g_run X KX4_areSeatsSound_16_5 KX4_areSeatsSound_16_5_d 18 [(3, .ref (ad ((S i) + 10))), (0, .ref (ad 1)), (1, .int (nI (sset S i))), (2, .int (nI i))] [.ref (ad ((S i) + 10))] rfl ?_
      refine g_get X (srcR hRO) (v := .int (I 4 (S i))) hinX1 rfl 5 (by decide) w_69 rfl (wc_chip (hS18 _ (by omega))) rfl dX4_areSeatsSound_18 ?_
      refine g_if_ne X 35 dX4_areSeatsSound_21 (by decide) (fun hc3 => ?_) (fun hc3 => ?_)
      · have hno : ¬ sok I S := fun z => hc3 (z i hi).1
        refine g_run X KX4_areSeatsSound_35_6 KX4_areSeatsSound_35_6_d 36 [(3, .ref (ad ((S i) + 10))), (0, .ref (ad 1)), (1, .int (nI (sset S i))), (2, .int (nI i))] [.int (nI 0)] rfl ?_
        exact g_zret X hr (by decide +kernel) () (by show some (Value.int _) = some (Value.int _); rw [pB_f hno]) (trivial) ((List.append_nil _).symm) (Nat.le_of_ble_eq_true rfl) (Nat.le_of_ble_eq_true rfl) dX4_areSeatsSound_36
      · have ho := hc3
        refine g_run X KX4_areSeatsSound_24_7 KX4_areSeatsSound_24_7_d 26 [(3, .ref (ad ((S i) + 10))), (0, .ref (ad 1)), (1, .int (nI (sset S i))), (2, .int (nI i))] [.ref (ad ((S i) + 10)), .int (nI (sset S i))] rfl ?_
        refine g_get X (srcR hRO) (v := .int (nI (S i))) hinX1 rfl 0 (by decide) w_56 rfl (wc_chip (hS18 _ (by omega))) rfl dX4_areSeatsSound_26 ?_
        refine g_callSN X hSB hAf (host := "Chipfield") (As := [.int (nI (sset S i)), .int (nI (S i))]) (wr := []) (n := 2) (c_X5_isIn l D g (sset S i) (S i) (by omega) (by omega)) rfl srcN hrdN w_281 (nw_in n_307 rfl) w_280 w_1 (by decide +kernel) rfl ⟨Nat.le_of_ble_eq_true rfl, Nat.le_of_ble_eq_true rfl⟩ rfl rfl rfl (Nat.le_of_ble_eq_true rfl) ⟨Nat.le_of_ble_eq_true rfl, Nat.le_of_ble_eq_true rfl⟩ dX4_areSeatsSound_29 (fun hu4 _ => ?_)
        refine g_af (ws' := []) (st' := [.int (nI (bN ((sset S i).testBit (S i))))]) (cells' := 0) (slots' := 0) (pc' := 32) rfl rfl rfl rfl rfl ?_
        refine g_if_eq X 37 dX4_areSeatsSound_32 (by decide) (fun hc5 => ?_) (fun hc5 => ?_)
        · rw [bN_eq0] at hc5; have hin := hc5
          refine g_run X KX4_areSeatsSound_37_8 KX4_areSeatsSound_37_8_d 40 [(3, .ref (ad ((S i) + 10))), (0, .ref (ad 1)), (1, .int (nI (sset S i))), (2, .int (nI i))] [.ref (ad ((S i) + 10)), .int (nI 1), .int (nI (sset S i))] rfl ?_
          refine g_get X (srcR hRO) (v := .int (nI (S i))) hinX1 rfl 0 (by decide) w_56 rfl (wc_chip (hS18 _ (by omega))) rfl dX4_areSeatsSound_40 ?_
          refine g_run X KX4_areSeatsSound_43_9 KX4_areSeatsSound_43_9_d 4 [(2, .int ((nI i) + (nI 1))), (1, .int ((nI (sset S i)) ||| ((nI 1) <<< ((nI (S i)) &&& 31)))), (3, .ref (ad ((S i) + 10))), (0, .ref (ad 1))] [] rfl ?_
          refine g_nm (lv' := [(2, .int (nI (i + 1))), (1, .int (nI ((sset S i) ||| (2 ^ (S i))))), (3, .ref (ad ((S i) + 10))), (0, .ref (ad 1))]) (st' := []) (by simp only [nI_add, nx_or, sh1 (show S i < 31 by omega)]) (by simp only [nI_add, nx_or, sh1 (show S i < 31 by omega)]) ?_
          refine g_lv (lv' := [(0, .ref (ad 1)), (1, .int (nI ((sset S i) ||| (2 ^ (S i))))), (2, .int (nI (i + 1)))]) (lsub_c 3 rfl (lsub_c 1 rfl (lsub_c 0 rfl (lsub_n)))) ?_
          refine g_cs (ws' := []) (lv' := [(0, .ref (ad 1)), (1, .int (nI (sset S (i + 1)))), (2, .int (nI (i + 1)))]) (rfl) (rfl) ?_
          exact k4 (fun k hk => by rcases Nat.lt_succ_iff_lt_or_eq.mp hk with h | h; exact hP4 k h; subst h; exact ⟨ho, hin⟩)
        · rw [bN_eq0] at hc5; have hno : ¬ sok I S := fun z => hc5 (z i hi).2
          refine g_run X KX4_areSeatsSound_35_6 KX4_areSeatsSound_35_6_d 36 [(3, .ref (ad ((S i) + 10))), (0, .ref (ad 1)), (1, .int (nI (sset S i))), (2, .int (nI i))] [.int (nI 0)] rfl ?_
          exact g_zret X hr (by decide +kernel) () (by show some (Value.int _) = some (Value.int _); rw [pB_f hno]) (trivial) ((List.append_nil _).symm) (Nat.le_of_ble_eq_true rfl) (Nat.le_of_ble_eq_true rfl) dX4_areSeatsSound_36

def KX0_use_0_0 : List (Nat × Instr × Nat) := [(0, .aload_n 0, 1), (1, .dup, 1)]
theorem KX0_use_0_0_d : ∀ z ∈ KX0_use_0_0, decode cX0_use z.1 = .ok z.2 := by decide +kernel
def KX0_use_5_1 : List (Nat × Instr × Nat) := [(5, .iconst 1, 1), (6, .iadd, 1)]
theorem KX0_use_5_1_d : ∀ z ∈ KX0_use_5_1, decode cX0_use z.1 = .ok z.2 := by decide +kernel
def KX0_use_10_2 : List (Nat × Instr × Nat) := [(10, .aload_n 1, 1), (11, .aload_n 0, 1)]
theorem KX0_use_10_2_d : ∀ z ∈ KX0_use_10_2, decode cX0_use z.1 = .ok z.2 := by decide +kernel
set_option maxHeartbeats 4000000 in
set_option maxRecDepth 100000 in
theorem c_X0_use (l : Launch) (D : va_G) (g : Nat → ClassId) (ad : Nat → Nat) (I : Nat → Nat → Int32) (L : Nat → Nat → Int64) (S : Nat → Nat) (fk : Nat) (hk : fk < 4) : CT l yX0_use cX0_use 2 ((Option.none : Option Jvm.ClassFile.FieldType)) ({ frames := 0, cells := 0, slots := 0, locals := 0 } : Room) [.ref (ad 4), .ref (ad (fk + 6))] D CL (TYS g) ([]) (WC ad g I L S) (S := Unit) (fun _ => none) (fun _ => WC ad g (useI I fk) L S) (fun _ => True) 0 0 := by
  refine ct_of (by decide +kernel) (Nat.le_of_ble_eq_true rfl) ?_
  intro p e s m below meth c A X hr hnm hSB hRO hAf
  refine g_cs (ws' := WC ad g I L S) (lv' := [(0, .ref (ad 4)), (1, .ref (ad (fk + 6)))]) rfl rfl ?_
  refine g_run X KX0_use_0_0 KX0_use_0_0_d 2 [(0, .ref (ad 4)), (1, .ref (ad (fk + 6)))] [.ref (ad 4), .ref (ad 4)] rfl ?_
  refine g_get X srcW (v := .int (I 8 8)) hinX0 rfl 3 (by decide) w_170 rfl (wc_mem (k := 4) (by decide)) rfl dX0_use_2 ?_
  refine g_run X KX0_use_5_1 KX0_use_5_1_d 7 [(0, .ref (ad 4)), (1, .ref (ad (fk + 6)))] [.int ((I 8 8) + (nI 1)), .ref (ad 4)] rfl ?_
  refine g_put X (ws' := WC ad g (u2 I 8 8 ((I 8 8) + (nI 1))) L S) hinX0 tyX0 tyX0_ok nmX0 rfl 3 (by decide) w_170 rfl rfl (ty := .int) rfl rfl rfl (4) (wc_get (k := 4) (by decide)) (Nat.le_of_ble_eq_true rfl) (ws_ca3) dX0_use_7 ?_
  refine g_run X KX0_use_10_2 KX0_use_10_2_d 12 [(0, .ref (ad 4)), (1, .ref (ad (fk + 6)))] [.ref (ad 4), .ref (ad (fk + 6))] rfl ?_
  refine g_get X srcW (v := .int ((u2 I 8 8 ((I 8 8) + (nI 1))) 8 8)) hinX0 rfl 3 (by decide) w_170 rfl (wc_mem (k := 4) (by decide)) rfl dX0_use_12 ?_
  refine g_nm (lv' := [(0, .ref (ad 4)), (1, .ref (ad (fk + 6)))]) (st' := [.int ((I 8 8) + (nI 1)), .ref (ad (fk + 6))]) (by simp only [u2_s]) (by simp only [u2_s]) ?_
  refine g_put X (ws' := WC ad g (u2 (u2 I 8 8 ((I 8 8) + (nI 1))) 7 fk ((I 8 8) + (nI 1))) L S) hinX3 tyX3 tyX3_ok nmX3 rfl 4 (by decide) w_151 rfl rfl (ty := .int) rfl rfl rfl (fk + 6) (wc_frG (by omega)) (Nat.le_of_ble_eq_true rfl) (ws_fr4 (by omega)) dX0_use_15 ?_
  exact g_vret X hr () rfl (trivial) ((List.append_nil _).symm) (Nat.le_of_ble_eq_true rfl) (Nat.le_of_ble_eq_true rfl) dX0_use_18

def KX0_fill_0_0 : List (Nat × Instr × Nat) := [(0, .aload_n 1, 1), (1, .iload_n 2, 1)]
theorem KX0_fill_0_0_d : ∀ z ∈ KX0_fill_0_0, decode cX0_fill z.1 = .ok z.2 := by decide +kernel
def KX0_fill_5_1 : List (Nat × Instr × Nat) := [(5, .aload_n 1, 1), (6, .lload_n 3, 1)]
theorem KX0_fill_5_1_d : ∀ z ∈ KX0_fill_5_1, decode cX0_fill z.1 = .ok z.2 := by decide +kernel
def KX0_fill_10_2 : List (Nat × Instr × Nat) := [(10, .aload_n 0, 1), (11, .aload_n 1, 1)]
theorem KX0_fill_10_2_d : ∀ z ∈ KX0_fill_10_2, decode cX0_fill z.1 = .ok z.2 := by decide +kernel
set_option maxHeartbeats 4000000 in
set_option maxRecDepth 100000 in
theorem c_X0_fill (l : Launch) (D : va_G) (g : Nat → ClassId) (ad : Nat → Nat) (I : Nat → Nat → Int32) (L : Nat → Nat → Int64) (S : Nat → Nat) (fk : Nat) (q : Nat) (x : Int64) (hk : fk < 4) : CT l yX0_fill cX0_fill 5 ((Option.none : Option Jvm.ClassFile.FieldType)) ({ frames := 1, cells := 0, slots := 0, locals := 21 } : Room) [.ref (ad 4), .ref (ad (fk + 6)), .int (nI q), .long x] D CL (TYS g) ([]) (WC ad g I L S) (S := Unit) (fun _ => none) (fun _ => WC ad g (useI (u2 I 5 fk (nI q)) fk) (u2 L 3 fk x) S) (fun _ => True) 0 0 := by
  refine ct_of (by decide +kernel) (Nat.le_of_ble_eq_true rfl) ?_
  intro p e s m below meth c A X hr hnm hSB hRO hAf
  refine g_cs (ws' := WC ad g I L S) (lv' := [(0, .ref (ad 4)), (1, .ref (ad (fk + 6))), (2, .int (nI q)), (3, .long x)]) rfl rfl ?_
  refine g_run X KX0_fill_0_0 KX0_fill_0_0_d 2 [(0, .ref (ad 4)), (1, .ref (ad (fk + 6))), (2, .int (nI q)), (3, .long x)] [.int (nI q), .ref (ad (fk + 6))] rfl ?_
  refine g_put X (ws' := WC ad g (u2 I 5 fk (nI q)) L S) hinX3 tyX3 tyX3_ok nmX3 rfl 1 (by decide) w_142 rfl rfl (ty := .int) rfl rfl rfl (fk + 6) (wc_frG (by omega)) (Nat.le_of_ble_eq_true rfl) (ws_fr1 (by omega)) dX0_fill_2 ?_
  refine g_run X KX0_fill_5_1 KX0_fill_5_1_d 7 [(0, .ref (ad 4)), (1, .ref (ad (fk + 6))), (2, .int (nI q)), (3, .long x)] [.long x, .ref (ad (fk + 6))] rfl ?_
  refine g_put X (ws' := WC ad g (u2 I 5 fk (nI q)) (u2 L 3 fk x) S) hinX3 tyX3 tyX3_ok nmX3 rfl 2 (by decide) w_145 rfl rfl (ty := .long) rfl rfl rfl (fk + 6) (wc_frG (by omega)) (Nat.le_of_ble_eq_true rfl) (ws_fr2 (by omega)) dX0_fill_7 ?_
  refine g_run X KX0_fill_10_2 KX0_fill_10_2_d 12 [(0, .ref (ad 4)), (1, .ref (ad (fk + 6))), (2, .int (nI q)), (3, .long x)] [.ref (ad (fk + 6)), .ref (ad 4)] rfl ?_
  refine g_callV X hSB hAf (srcW) (hrc1 := (rfl : CL[0]? = some _)) (wc_mem (k := 4) (by decide)) rfl (As := [.ref (ad (fk + 6))]) (wr := []) (n := 1) (c_X0_use l D g ad (u2 I 5 fk (nI q)) (u2 L 3 fk x) S fk (by omega)) (List.append_nil _).symm srcN hrdN w_657 w_654 w_656 w_s6 w_4 (by decide +kernel) rfl ⟨Nat.le_of_ble_eq_true rfl, Nat.le_of_ble_eq_true rfl⟩ rfl rfl rfl (Nat.le_of_ble_eq_true rfl) ⟨Nat.le_of_ble_eq_true rfl, Nat.le_of_ble_eq_true rfl⟩ dX0_fill_12 (fun hu1 _ => ?_)
  refine g_af (ws' := WC ad g (useI (u2 I 5 fk (nI q)) fk) (u2 L 3 fk x) S) (st' := []) (cells' := 0) (slots' := 0) (pc' := 15) (List.append_nil _).symm rfl rfl rfl rfl ?_
  exact g_vret X hr () rfl (trivial) ((List.append_nil _).symm) (Nat.le_of_ble_eq_true rfl) (Nat.le_of_ble_eq_true rfl) dX0_fill_15

def KX0_writeBack_0_0 : List (Nat × Instr × Nat) := [(0, .aload_n 1, 1)]
theorem KX0_writeBack_0_0_d : ∀ z ∈ KX0_writeBack_0_0, decode cX0_writeBack z.1 = .ok z.2 := by decide +kernel
def KX0_writeBack_7_1 : List (Nat × Instr × Nat) := [(7, .aload_n 0, 1)]
theorem KX0_writeBack_7_1_d : ∀ z ∈ KX0_writeBack_7_1, decode cX0_writeBack z.1 = .ok z.2 := by decide +kernel
def KX0_writeBack_11_2 : List (Nat × Instr × Nat) := [(11, .aload_n 1, 1)]
theorem KX0_writeBack_11_2_d : ∀ z ∈ KX0_writeBack_11_2, decode cX0_writeBack z.1 = .ok z.2 := by decide +kernel
def KX0_writeBack_15_3 : List (Nat × Instr × Nat) := [(15, .aload_n 1, 1)]
theorem KX0_writeBack_15_3_d : ∀ z ∈ KX0_writeBack_15_3, decode cX0_writeBack z.1 = .ok z.2 := by decide +kernel
def KX0_writeBack_22_4 : List (Nat × Instr × Nat) := [(22, .aload_n 1, 1), (23, .iconst 0, 1)]
theorem KX0_writeBack_22_4_d : ∀ z ∈ KX0_writeBack_22_4, decode cX0_writeBack z.1 = .ok z.2 := by decide +kernel
set_option maxHeartbeats 4000000 in
set_option maxRecDepth 100000 in
theorem c_X0_writeBack (l : Launch) (D : va_G) (g : Nat → ClassId) (ad : Nat → Nat) (I : Nat → Nat → Int32) (L : Nat → Nat → Int64) (S : Nat → Nat) (fk : Nat) (hS18 : ∀ p, p < 15 → S p < 18) (hk : fk < 4) (hln : ¬ I 6 fk = 0 → lnN I fk < 16 ∧ I 5 fk = nI (lnN I fk)) : CT l yX0_writeBack cX0_writeBack 2 ((Option.none : Option Jvm.ClassFile.FieldType)) ({ frames := 3, cells := 0, slots := 0, locals := 70 } : Room) [.ref (ad 4), .ref (ad (fk + 6))] D CL (TYS g) ([]) (WC ad g I L S) (S := Unit) (fun _ => none) (fun _ => WC ad g (wbI I fk) (wbL I L S fk) S) (fun _ => True) 0 0 := by
  refine ct_of (by decide +kernel) (Nat.le_of_ble_eq_true rfl) ?_
  intro p e s m below meth c A X hr hnm hSB hRO hAf
  refine g_cs (ws' := WC ad g I L S) (lv' := [(0, .ref (ad 4)), (1, .ref (ad (fk + 6)))]) rfl rfl ?_
  refine g_run X KX0_writeBack_0_0 KX0_writeBack_0_0_d 1 [(0, .ref (ad 4)), (1, .ref (ad (fk + 6)))] [.ref (ad (fk + 6))] rfl ?_
  refine g_get X srcW (v := .int (I 6 fk)) hinX3 rfl 3 (by decide) w_148 rfl (wc_fr (by omega)) rfl dX0_writeBack_1 ?_
  refine g_if_eq X 27 dX0_writeBack_4 (by decide) (fun hc1 => ?_) (fun hc1 => ?_)
  · refine g_ws (ws' := WC ad g (wbI I fk) (wbL I L S fk) S) (by rw [wbI, wbL, if_pos hc1, if_pos hc1]) ?_
    exact g_vret X hr () rfl (trivial) (by first | exact (List.append_nil _).symm | (show _ = WC ad g (wbI I fk) (wbL I L S fk) S ++ []; rw [wbI, wbL, if_neg hnd, if_neg hnd]; exact (List.append_nil _).symm)) (Nat.le_of_ble_eq_true rfl) (Nat.le_of_ble_eq_true rfl) dX0_writeBack_27
  · have hnd := hc1
    refine g_run X KX0_writeBack_7_1 KX0_writeBack_7_1_d 8 [(0, .ref (ad 4)), (1, .ref (ad (fk + 6)))] [.ref (ad 4)] rfl ?_
    refine g_get X srcW (v := .ref (ad 1)) hinX0 rfl 4 (by decide) w_171 rfl (wc_mem (k := 4) (by decide)) rfl dX0_writeBack_8 ?_
    refine g_run X KX0_writeBack_11_2 KX0_writeBack_11_2_d 12 [(0, .ref (ad 4)), (1, .ref (ad (fk + 6)))] [.ref (ad (fk + 6)), .ref (ad 1)] rfl ?_
    refine g_get X srcW (v := .int (I 5 fk)) hinX3 rfl 1 (by decide) w_142 rfl (wc_fr (by omega)) rfl dX0_writeBack_12 ?_
    have hl2 := hln (by assumption)
    refine g_st (st' := [.int (nI (lnN I fk)), .ref (ad 1)]) (by rw [← hl2.2]) ?_
    refine g_run X KX0_writeBack_15_3 KX0_writeBack_15_3_d 16 [(0, .ref (ad 4)), (1, .ref (ad (fk + 6)))] [.ref (ad (fk + 6)), .int (nI (lnN I fk)), .ref (ad 1)] rfl ?_
    refine g_get X srcW (v := .long (L 3 fk)) hinX3 rfl 2 (by decide) w_145 rfl (wc_fr (by omega)) rfl dX0_writeBack_16 ?_
    refine g_callV X hSB hAf (srcW) (hrc1 := (rfl : CL[3]? = some _)) (wc_mem (k := 1) (by decide)) rfl (As := [.int (nI (lnN I fk)), .long (L 3 fk)]) (wr := []) (n := 2) (c_X4_writeWord l D g ad I L S (lnN I fk) (L 3 fk) (hS18) (hl2.1)) (List.append_nil _).symm srcN hrdN w_212 w_209 w_210 w_211 w_2 (by decide +kernel) rfl ⟨Nat.le_of_ble_eq_true rfl, Nat.le_of_ble_eq_true rfl⟩ rfl rfl rfl (Nat.le_of_ble_eq_true rfl) ⟨Nat.le_of_ble_eq_true rfl, Nat.le_of_ble_eq_true rfl⟩ dX0_writeBack_19 (fun hu2 _ => ?_)
    refine g_af (ws' := WC ad g I (wrw S L (lnN I fk) (L 3 fk) 15) S) (st' := []) (cells' := 0) (slots' := 0) (pc' := 22) (List.append_nil _).symm rfl rfl rfl rfl ?_
    refine g_run X KX0_writeBack_22_4 KX0_writeBack_22_4_d 24 [(0, .ref (ad 4)), (1, .ref (ad (fk + 6)))] [.int (nI 0), .ref (ad (fk + 6))] rfl ?_
    refine g_put X (ws' := WC ad g (u2 I 6 fk (nI 0)) (wrw S L (lnN I fk) (L 3 fk) 15) S) hinX3 tyX3 tyX3_ok nmX3 rfl 3 (by decide) w_148 rfl rfl (ty := .boolean) rfl (by decide +kernel) rfl (fk + 6) (wc_frG (by omega)) (Nat.le_of_ble_eq_true rfl) (ws_fr3 (by omega)) dX0_writeBack_24 ?_
    exact g_vret X hr () rfl (trivial) (by first | exact (List.append_nil _).symm | (show _ = WC ad g (wbI I fk) (wbL I L S fk) S ++ []; rw [wbI, wbL, if_neg hnd, if_neg hnd]; exact (List.append_nil _).symm)) (Nat.le_of_ble_eq_true rfl) (Nat.le_of_ble_eq_true rfl) dX0_writeBack_27

def KX0_frameOf_0_0 : List (Nat × Instr × Nat) := [(0, .iconst 0, 1), (1, .istore_n 2, 1)]
theorem KX0_frameOf_0_0_d : ∀ z ∈ KX0_frameOf_0_0, decode cX0_frameOf z.1 = .ok z.2 := by decide +kernel
def KX0_frameOf_2_1 : List (Nat × Instr × Nat) := [(2, .iload_n 2, 1), (3, .iconst 4, 1)]
theorem KX0_frameOf_2_1_d : ∀ z ∈ KX0_frameOf_2_1, decode cX0_frameOf z.1 = .ok z.2 := by decide +kernel
def KX0_frameOf_33_2 : List (Nat × Instr × Nat) := [(33, .aconst_null, 1)]
theorem KX0_frameOf_33_2_d : ∀ z ∈ KX0_frameOf_33_2, decode cX0_frameOf z.1 = .ok z.2 := by decide +kernel
def KX0_frameOf_7_3 : List (Nat × Instr × Nat) := [(7, .aload_n 0, 1)]
theorem KX0_frameOf_7_3_d : ∀ z ∈ KX0_frameOf_7_3, decode cX0_frameOf z.1 = .ok z.2 := by decide +kernel
def KX0_frameOf_11_4 : List (Nat × Instr × Nat) := [(11, .iload_n 2, 1)]
theorem KX0_frameOf_11_4_d : ∀ z ∈ KX0_frameOf_11_4, decode cX0_frameOf z.1 = .ok z.2 := by decide +kernel
def KX0_frameOf_16_5 : List (Nat × Instr × Nat) := [(16, .iload_n 1, 1)]
theorem KX0_frameOf_16_5_d : ∀ z ∈ KX0_frameOf_16_5, decode cX0_frameOf z.1 = .ok z.2 := by decide +kernel
def KX0_frameOf_27_6 : List (Nat × Instr × Nat) := [(27, .iinc 2 1, 3), (30, .goto (-28), 3)]
theorem KX0_frameOf_27_6_d : ∀ z ∈ KX0_frameOf_27_6, decode cX0_frameOf z.1 = .ok z.2 := by decide +kernel
def KX0_frameOf_20_7 : List (Nat × Instr × Nat) := [(20, .aload_n 0, 1)]
theorem KX0_frameOf_20_7_d : ∀ z ∈ KX0_frameOf_20_7, decode cX0_frameOf z.1 = .ok z.2 := by decide +kernel
def KX0_frameOf_24_8 : List (Nat × Instr × Nat) := [(24, .iload_n 2, 1)]
theorem KX0_frameOf_24_8_d : ∀ z ∈ KX0_frameOf_24_8, decode cX0_frameOf z.1 = .ok z.2 := by decide +kernel
set_option maxHeartbeats 4000000 in
set_option maxRecDepth 100000 in
theorem c_X0_frameOf (l : Launch) (D : va_G) (g : Nat → ClassId) (ad : Nat → Nat) (I : Nat → Nat → Int32) (L : Nat → Nat → Int64) (S : Nat → Nat) (q : Nat) : CT l yX0_frameOf cX0_frameOf 3 ((Option.some (FieldType.object "Chipfield$Frame"))) ({ frames := 0, cells := 0, slots := 0, locals := 0 } : Room) [.ref (ad 4), .int (nI q)] D CL (TYS g) (WC ad g I L S) ([]) (S := Unit) (fun _ => some (fofV ad (fof I q))) (fun _ => []) (fun _ => True) 0 0 := by
  refine ct_of (by decide +kernel) (Nat.le_of_ble_eq_true rfl) ?_
  intro p e s m below meth c A X hr hnm hSB hRO hAf
  refine g_cs (ws' := []) (lv' := [(0, .ref (ad 4)), (1, .int (nI q))]) rfl rfl ?_
  refine g_run X KX0_frameOf_0_0 KX0_frameOf_0_0_d 2 [(2, .int (nI 0)), (0, .ref (ad 4)), (1, .int (nI q))] [] rfl ?_
  refine g_lv (lv' := [(0, .ref (ad 4)), (1, .int (nI q)), (2, .int (nI 0))]) (lsub_c 1 rfl (lsub_c 2 rfl (lsub_c 0 rfl (lsub_n)))) ?_
  refine g_forP 4 (fun _ => []) (fun i => [(0, .ref (ad 4)), (1, .int (nI q)), (2, .int (nI i))]) (fun i => fsome (fun k => if I 5 k = nI q then some k else none) 4 0 = fsome (fun k => if I 5 k = nI q then some k else none) (4 - i) i) (rfl) (rfl) (rfl) ?_ ?_
  · intro hP2
    refine g_run X KX0_frameOf_2_1 KX0_frameOf_2_1_d 4 [(0, .ref (ad 4)), (1, .int (nI q)), (2, .int (nI 4))] [.int (nI 4), .int (nI 4)] rfl ?_
    refine g_icmp_ge X 33 dX0_frameOf_4 (by decide) (fun hc1 => ?_) (fun hc1 => ?_)
    · refine g_run X KX0_frameOf_33_2 KX0_frameOf_33_2_d 34 [(0, .ref (ad 4)), (1, .int (nI q)), (2, .int (nI 4))] [.null] rfl ?_
      exact g_aret X hr (Or.inl ⟨_, rfl⟩) (Or.inl rfl) () (by show some (fofV ad (fof I q)) = _; first | (rw [fof, hP2]; done) | (rw [fof, hP2]; rfl)) (trivial) ((List.append_nil _).symm) (Nat.le_of_ble_eq_true rfl) (Nat.le_of_ble_eq_true rfl) dX0_frameOf_34
    · rw [nI_leI (by omega) (by omega)] at hc1; first | omega | (simp at hc1)
  · intro i hi hP2 k2
    refine g_run X KX0_frameOf_2_1 KX0_frameOf_2_1_d 4 [(0, .ref (ad 4)), (1, .int (nI q)), (2, .int (nI i))] [.int (nI 4), .int (nI i)] rfl ?_
    refine g_icmp_ge X 33 dX0_frameOf_4 (by decide) (fun hc2 => ?_) (fun hc2 => ?_)
    · rw [nI_leI (by omega) (by omega)] at hc2; first | omega | (simp at hc2)
    · refine g_run X KX0_frameOf_7_3 KX0_frameOf_7_3_d 8 [(0, .ref (ad 4)), (1, .int (nI q)), (2, .int (nI i))] [.ref (ad 4)] rfl ?_
      refine g_get X (srcR hRO) (v := .ref (ad 5)) hinX0 rfl 0 (by decide) w_164 rfl (wc_mem (k := 4) (by decide)) rfl dX0_frameOf_8 ?_
      refine g_run X KX0_frameOf_11_4 KX0_frameOf_11_4_d 12 [(0, .ref (ad 4)), (1, .int (nI q)), (2, .int (nI i))] [.int (nI i), .ref (ad 5)] rfl ?_
      refine g_aald X (srcR hRO) (b := ad (i + 6)) 2 rfl (wc_mem (k := 5) (by decide)) i rfl (by omega) (by decide) (rfl) dX0_frameOf_12 ?_
      refine g_get X (srcR hRO) (v := .int (I 5 i)) hinX3 rfl 1 (by decide) w_142 rfl (wc_fr (by omega)) rfl dX0_frameOf_13 ?_
      refine g_run X KX0_frameOf_16_5 KX0_frameOf_16_5_d 17 [(0, .ref (ad 4)), (1, .int (nI q)), (2, .int (nI i))] [.int (nI q), .int (I 5 i)] rfl ?_
      refine g_icmp_ne X 27 dX0_frameOf_17 (by decide) (fun hc3 => ?_) (fun hc3 => ?_)
      · have hne := hc3
        refine g_run X KX0_frameOf_27_6 KX0_frameOf_27_6_d 2 [(2, .int ((nI i) + (nI 1))), (0, .ref (ad 4)), (1, .int (nI q))] [] rfl ?_
        refine g_nm (lv' := [(2, .int (nI (i + 1))), (0, .ref (ad 4)), (1, .int (nI q))]) (st' := []) (by simp only [nI_add]) (by simp only [nI_add]) ?_
        refine g_lv (lv' := [(0, .ref (ad 4)), (1, .int (nI q)), (2, .int (nI (i + 1)))]) (lsub_c 1 rfl (lsub_c 2 rfl (lsub_c 0 rfl (lsub_n)))) ?_
        refine g_cs (ws' := []) (lv' := [(0, .ref (ad 4)), (1, .int (nI q)), (2, .int (nI (i + 1)))]) (rfl) (rfl) ?_
        exact k2 (hP2.trans (fs_none hi (if_neg hne)))
      · have heq := hc3
        refine g_run X KX0_frameOf_20_7 KX0_frameOf_20_7_d 21 [(0, .ref (ad 4)), (1, .int (nI q)), (2, .int (nI i))] [.ref (ad 4)] rfl ?_
        refine g_get X (srcR hRO) (v := .ref (ad 5)) hinX0 rfl 0 (by decide) w_164 rfl (wc_mem (k := 4) (by decide)) rfl dX0_frameOf_21 ?_
        refine g_run X KX0_frameOf_24_8 KX0_frameOf_24_8_d 25 [(0, .ref (ad 4)), (1, .int (nI q)), (2, .int (nI i))] [.int (nI i), .ref (ad 5)] rfl ?_
        refine g_aald X (srcR hRO) (b := ad (i + 6)) 2 rfl (wc_mem (k := 5) (by decide)) i rfl (by omega) (by decide) (rfl) dX0_frameOf_25 ?_
        exact g_aret X hr (Or.inl ⟨_, rfl⟩) (Or.inr ⟨_, rfl⟩) () (by show some (fofV ad (fof I q)) = _; first | (rw [fof, hP2, fs_some hi (if_pos heq)]; done) | (rw [fof, hP2, fs_some hi (if_pos heq)]; rfl)) (trivial) ((List.append_nil _).symm) (Nat.le_of_ble_eq_true rfl) (Nat.le_of_ble_eq_true rfl) dX0_frameOf_26

def KX0_frameToFill_0_0 : List (Nat × Instr × Nat) := [(0, .aload_n 0, 1)]
theorem KX0_frameToFill_0_0_d : ∀ z ∈ KX0_frameToFill_0_0, decode cX0_frameToFill z.1 = .ok z.2 := by decide +kernel
def KX0_frameToFill_4_1 : List (Nat × Instr × Nat) := [(4, .iconst 0, 1)]
theorem KX0_frameToFill_4_1_d : ∀ z ∈ KX0_frameToFill_4_1, decode cX0_frameToFill z.1 = .ok z.2 := by decide +kernel
def KX0_frameToFill_6_2 : List (Nat × Instr × Nat) := [(6, .astore_n 1, 1), (7, .iconst 1, 1), (8, .istore_n 2, 1)]
theorem KX0_frameToFill_6_2_d : ∀ z ∈ KX0_frameToFill_6_2, decode cX0_frameToFill z.1 = .ok z.2 := by decide +kernel
def KX0_frameToFill_9_3 : List (Nat × Instr × Nat) := [(9, .iload_n 2, 1), (10, .iconst 4, 1)]
theorem KX0_frameToFill_9_3_d : ∀ z ∈ KX0_frameToFill_9_3, decode cX0_frameToFill z.1 = .ok z.2 := by decide +kernel
def KX0_frameToFill_43_4 : List (Nat × Instr × Nat) := [(43, .aload_n 0, 1), (44, .aload_n 1, 1)]
theorem KX0_frameToFill_43_4_d : ∀ z ∈ KX0_frameToFill_43_4, decode cX0_frameToFill z.1 = .ok z.2 := by decide +kernel
def KX0_frameToFill_48_5 : List (Nat × Instr × Nat) := [(48, .aload_n 1, 1)]
theorem KX0_frameToFill_48_5_d : ∀ z ∈ KX0_frameToFill_48_5, decode cX0_frameToFill z.1 = .ok z.2 := by decide +kernel
def KX0_frameToFill_14_6 : List (Nat × Instr × Nat) := [(14, .aload_n 0, 1)]
theorem KX0_frameToFill_14_6_d : ∀ z ∈ KX0_frameToFill_14_6, decode cX0_frameToFill z.1 = .ok z.2 := by decide +kernel
def KX0_frameToFill_18_7 : List (Nat × Instr × Nat) := [(18, .iload_n 2, 1)]
theorem KX0_frameToFill_18_7_d : ∀ z ∈ KX0_frameToFill_18_7, decode cX0_frameToFill z.1 = .ok z.2 := by decide +kernel
def KX0_frameToFill_23_8 : List (Nat × Instr × Nat) := [(23, .aload_n 1, 1)]
theorem KX0_frameToFill_23_8_d : ∀ z ∈ KX0_frameToFill_23_8, decode cX0_frameToFill z.1 = .ok z.2 := by decide +kernel
def KX0_frameToFill_37_9 : List (Nat × Instr × Nat) := [(37, .iinc 2 1, 3), (40, .goto (-31), 3)]
theorem KX0_frameToFill_37_9_d : ∀ z ∈ KX0_frameToFill_37_9, decode cX0_frameToFill z.1 = .ok z.2 := by decide +kernel
def KX0_frameToFill_30_10 : List (Nat × Instr × Nat) := [(30, .aload_n 0, 1)]
theorem KX0_frameToFill_30_10_d : ∀ z ∈ KX0_frameToFill_30_10, decode cX0_frameToFill z.1 = .ok z.2 := by decide +kernel
def KX0_frameToFill_34_11 : List (Nat × Instr × Nat) := [(34, .iload_n 2, 1)]
theorem KX0_frameToFill_34_11_d : ∀ z ∈ KX0_frameToFill_34_11, decode cX0_frameToFill z.1 = .ok z.2 := by decide +kernel
def KX0_frameToFill_36_12 : List (Nat × Instr × Nat) := [(36, .astore_n 1, 1), (37, .iinc 2 1, 3), (40, .goto (-31), 3)]
theorem KX0_frameToFill_36_12_d : ∀ z ∈ KX0_frameToFill_36_12, decode cX0_frameToFill z.1 = .ok z.2 := by decide +kernel
set_option maxHeartbeats 4000000 in
set_option maxRecDepth 100000 in
theorem c_X0_frameToFill (l : Launch) (D : va_G) (g : Nat → ClassId) (ad : Nat → Nat) (I : Nat → Nat → Int32) (L : Nat → Nat → Int64) (S : Nat → Nat) (hS18 : ∀ p, p < 15 → S p < 18) (hln : ¬ I 6 (old I 3) = 0 → lnN I (old I 3) < 16 ∧ I 5 (old I 3) = nI (lnN I (old I 3))) : CT l yX0_frameToFill cX0_frameToFill 3 ((Option.some (FieldType.object "Chipfield$Frame"))) ({ frames := 4, cells := 0, slots := 0, locals := 91 } : Room) [.ref (ad 4)] D CL (TYS g) ([]) (WC ad g I L S) (S := Unit) (fun _ => some (.ref (ad (old I 3 + 6)))) (fun _ => WC ad g (wbI I (old I 3)) (wbL I L S (old I 3)) S) (fun _ => True) 0 0 := by
  refine ct_of (by decide +kernel) (Nat.le_of_ble_eq_true rfl) ?_
  intro p e s m below meth c A X hr hnm hSB hRO hAf
  refine g_cs (ws' := WC ad g I L S) (lv' := [(0, .ref (ad 4))]) rfl rfl ?_
  refine g_run X KX0_frameToFill_0_0 KX0_frameToFill_0_0_d 1 [(0, .ref (ad 4))] [.ref (ad 4)] rfl ?_
  refine g_get X srcW (v := .ref (ad 5)) hinX0 rfl 0 (by decide) w_164 rfl (wc_mem (k := 4) (by decide)) rfl dX0_frameToFill_1 ?_
  refine g_run X KX0_frameToFill_4_1 KX0_frameToFill_4_1_d 5 [(0, .ref (ad 4))] [.int (nI 0), .ref (ad 5)] rfl ?_
  refine g_aald X srcW (b := ad (0 + 6)) 2 rfl (wc_mem (k := 5) (by decide)) 0 rfl (by omega) (by decide) (rfl) dX0_frameToFill_5 ?_
  refine g_run X KX0_frameToFill_6_2 KX0_frameToFill_6_2_d 9 [(2, .int (nI 1)), (1, .ref (ad (0 + 6))), (0, .ref (ad 4))] [] rfl ?_
  refine g_lv (lv' := [(0, .ref (ad 4)), (1, .ref (ad (0 + 6))), (2, .int (nI 1))]) (lsub_c 2 rfl (lsub_c 1 rfl (lsub_c 0 rfl (lsub_n)))) ?_
  refine g_for 3 (fun _ => WC ad g I L S) (fun i => [(0, .ref (ad 4)), (1, .ref (ad (old I i + 6))), (2, .int (nI (i + 1)))]) (rfl) (rfl) ?_ ?_
  · refine g_run X KX0_frameToFill_9_3 KX0_frameToFill_9_3_d 11 [(0, .ref (ad 4)), (1, .ref (ad (old I 3 + 6))), (2, .int (nI (3 + 1)))] [.int (nI 4), .int (nI (3 + 1))] rfl ?_
    refine g_icmp_ge X 43 dX0_frameToFill_11 (by decide) (fun hc1 => ?_) (fun hc1 => ?_)
    · refine g_run X KX0_frameToFill_43_4 KX0_frameToFill_43_4_d 45 [(0, .ref (ad 4)), (1, .ref (ad (old I 3 + 6))), (2, .int (nI (3 + 1)))] [.ref (ad (old I 3 + 6)), .ref (ad 4)] rfl ?_
      refine g_callV X hSB hAf (srcW) (hrc1 := (rfl : CL[0]? = some _)) (wc_mem (k := 4) (by decide)) rfl (As := [.ref (ad (old I 3 + 6))]) (wr := []) (n := 1) (c_X0_writeBack l D g ad I L S (old I 3) (hS18) (old_lt (by omega)) (hln)) (List.append_nil _).symm srcN hrdN w_208 w_205 w_207 w_s0 w_4 (by decide +kernel) rfl ⟨Nat.le_of_ble_eq_true rfl, Nat.le_of_ble_eq_true rfl⟩ rfl rfl rfl (Nat.le_of_ble_eq_true rfl) ⟨Nat.le_of_ble_eq_true rfl, Nat.le_of_ble_eq_true rfl⟩ dX0_frameToFill_45 (fun hu2 _ => ?_)
      refine g_af (ws' := WC ad g (wbI I (old I 3)) (wbL I L S (old I 3)) S) (st' := []) (cells' := 0) (slots' := 0) (pc' := 48) (List.append_nil _).symm rfl rfl rfl rfl ?_
      refine g_run X KX0_frameToFill_48_5 KX0_frameToFill_48_5_d 49 [(0, .ref (ad 4)), (1, .ref (ad (old I 3 + 6))), (2, .int (nI (3 + 1)))] [.ref (ad (old I 3 + 6))] rfl ?_
      exact g_aret X hr (Or.inl ⟨_, rfl⟩) (Or.inr ⟨_, rfl⟩) () (rfl) (trivial) ((List.append_nil _).symm) (Nat.le_of_ble_eq_true rfl) (Nat.le_of_ble_eq_true rfl) dX0_frameToFill_49
    · rw [nI_leI (by omega) (by omega)] at hc1; first | omega | (simp at hc1)
  · intro i hi k9
    have hol := old_lt (I := I) (show i < 4 by omega)
    refine g_run X KX0_frameToFill_9_3 KX0_frameToFill_9_3_d 11 [(0, .ref (ad 4)), (1, .ref (ad (old I i + 6))), (2, .int (nI (i + 1)))] [.int (nI 4), .int (nI (i + 1))] rfl ?_
    refine g_icmp_ge X 43 dX0_frameToFill_11 (by decide) (fun hc3 => ?_) (fun hc3 => ?_)
    · rw [nI_leI (by omega) (by omega)] at hc3; first | omega | (simp at hc3)
    · refine g_run X KX0_frameToFill_14_6 KX0_frameToFill_14_6_d 15 [(0, .ref (ad 4)), (1, .ref (ad (old I i + 6))), (2, .int (nI (i + 1)))] [.ref (ad 4)] rfl ?_
      refine g_get X srcW (v := .ref (ad 5)) hinX0 rfl 0 (by decide) w_164 rfl (wc_mem (k := 4) (by decide)) rfl dX0_frameToFill_15 ?_
      refine g_run X KX0_frameToFill_18_7 KX0_frameToFill_18_7_d 19 [(0, .ref (ad 4)), (1, .ref (ad (old I i + 6))), (2, .int (nI (i + 1)))] [.int (nI (i + 1)), .ref (ad 5)] rfl ?_
      refine g_aald X srcW (b := ad ((i + 1) + 6)) 2 rfl (wc_mem (k := 5) (by decide)) (i + 1) rfl (by omega) (by decide) (rfl) dX0_frameToFill_19 ?_
      refine g_get X srcW (v := .int (I 7 (i + 1))) hinX3 rfl 4 (by decide) w_151 rfl (wc_fr (by omega)) rfl dX0_frameToFill_20 ?_
      refine g_run X KX0_frameToFill_23_8 KX0_frameToFill_23_8_d 24 [(0, .ref (ad 4)), (1, .ref (ad (old I i + 6))), (2, .int (nI (i + 1)))] [.ref (ad (old I i + 6)), .int (I 7 (i + 1))] rfl ?_
      refine g_get X srcW (v := .int (I 7 (old I i))) hinX3 rfl 4 (by decide) w_151 rfl (wc_fr (by first | omega | exact old_lt (by omega))) rfl dX0_frameToFill_24 ?_
      refine g_icmp_ge X 37 dX0_frameToFill_27 (by decide) (fun hc4 => ?_) (fun hc4 => ?_)
      · have hnl : ¬ I 7 (i + 1) < I 7 (old I i) := Int32.not_lt.mpr hc4
        refine g_run X KX0_frameToFill_37_9 KX0_frameToFill_37_9_d 9 [(2, .int ((nI (i + 1)) + (nI 1))), (0, .ref (ad 4)), (1, .ref (ad (old I i + 6)))] [] rfl ?_
        refine g_nm (lv' := [(2, .int (nI ((i + 1) + 1))), (0, .ref (ad 4)), (1, .ref (ad (old I i + 6)))]) (st' := []) (by simp only [nI_add]) (by simp only [nI_add]) ?_
        refine g_lv (lv' := [(0, .ref (ad 4)), (1, .ref (ad (old I i + 6))), (2, .int (nI ((i + 1) + 1)))]) (lsub_c 1 rfl (lsub_c 2 rfl (lsub_c 0 rfl (lsub_n)))) ?_
        refine g_cs (ws' := WC ad g I L S) (lv' := [(0, .ref (ad 4)), (1, .ref (ad (old I (i + 1) + 6))), (2, .int (nI ((i + 1) + 1)))]) (rfl) (by simp [old, *]) ?_
        exact k9
      · have hll : I 7 (i + 1) < I 7 (old I i) := Int32.not_le.mp hc4
        refine g_run X KX0_frameToFill_30_10 KX0_frameToFill_30_10_d 31 [(0, .ref (ad 4)), (1, .ref (ad (old I i + 6))), (2, .int (nI (i + 1)))] [.ref (ad 4)] rfl ?_
        refine g_get X srcW (v := .ref (ad 5)) hinX0 rfl 0 (by decide) w_164 rfl (wc_mem (k := 4) (by decide)) rfl dX0_frameToFill_31 ?_
        refine g_run X KX0_frameToFill_34_11 KX0_frameToFill_34_11_d 35 [(0, .ref (ad 4)), (1, .ref (ad (old I i + 6))), (2, .int (nI (i + 1)))] [.int (nI (i + 1)), .ref (ad 5)] rfl ?_
        refine g_aald X srcW (b := ad ((i + 1) + 6)) 2 rfl (wc_mem (k := 5) (by decide)) (i + 1) rfl (by omega) (by decide) (rfl) dX0_frameToFill_35 ?_
        refine g_run X KX0_frameToFill_36_12 KX0_frameToFill_36_12_d 9 [(2, .int ((nI (i + 1)) + (nI 1))), (1, .ref (ad ((i + 1) + 6))), (0, .ref (ad 4))] [] rfl ?_
        refine g_nm (lv' := [(2, .int (nI ((i + 1) + 1))), (1, .ref (ad ((i + 1) + 6))), (0, .ref (ad 4))]) (st' := []) (by simp only [nI_add]) (by simp only [nI_add]) ?_
        refine g_lv (lv' := [(0, .ref (ad 4)), (1, .ref (ad ((i + 1) + 6))), (2, .int (nI ((i + 1) + 1)))]) (lsub_c 2 rfl (lsub_c 1 rfl (lsub_c 0 rfl (lsub_n)))) ?_
        refine g_cs (ws' := WC ad g I L S) (lv' := [(0, .ref (ad 4)), (1, .ref (ad (old I (i + 1) + 6))), (2, .int (nI ((i + 1) + 1)))]) (rfl) (by simp [old, *]) ?_
        exact k9

