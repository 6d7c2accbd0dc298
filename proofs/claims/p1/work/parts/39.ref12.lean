
/-- the product, bit by bit: what is added, what is shifted, how many bits -/
def ps_ (a b : Nat) : Nat → Nat × Nat
  | 0 => (0, a)
  | i + 1 => (if b / 2 ^ i % 2 = 1 then (ps_ a b i).1 ^^^ (ps_ a b i).2 else (ps_ a b i).1, if 15 < (ps_ a b i).2 * 2 then (ps_ a b i).2 * 2 ^^^ 19 else (ps_ a b i).2 * 2)
def ln_ (b : Nat) : Nat := if b = 0 then 0 else Nat.log2 b + 1
theorem ln_1 : ∀ b, b < 16 → b / 2 ^ ln_ b = 0 := by decide +kernel
theorem ln_2 : ∀ b, b < 16 → ∀ i, i < 5 → i < ln_ b → 0 < b / 2 ^ i := by decide +kernel
theorem ln_3 : ∀ b, b < 16 → ln_ b < 5 := by decide +kernel
theorem ps_ok : ∀ a, a < 16 → ∀ b, b < 16 → (ps_ a b (ln_ b)).1 = gm a b := by decide +kernel
theorem ps_lt : ∀ a, a < 16 → ∀ b, b < 16 → ∀ i, i < 5 → (ps_ a b i).1 < 16 ∧ (ps_ a b i).2 < 16 := by decide +kernel

def KX9_product_0_0 : List (Nat × Instr × Nat) := [(0, .iconst 0, 1), (1, .istore_n 2, 1), (2, .iload_n 0, 1), (3, .istore_n 3, 1), (4, .iload_n 1, 1), (5, .istore 4, 2)]
theorem KX9_product_0_0_d : ∀ z ∈ KX9_product_0_0, decode cX9_product z.1 = .ok z.2 := by decide +kernel
def KX9_product_7_1 : List (Nat × Instr × Nat) := [(7, .iload 4, 2)]
theorem KX9_product_7_1_d : ∀ z ∈ KX9_product_7_1, decode cX9_product z.1 = .ok z.2 := by decide +kernel
def KX9_product_48_2 : List (Nat × Instr × Nat) := [(48, .iload_n 2, 1)]
theorem KX9_product_48_2_d : ∀ z ∈ KX9_product_48_2, decode cX9_product z.1 = .ok z.2 := by decide +kernel
def KX9_product_12_3 : List (Nat × Instr × Nat) := [(12, .iload 4, 2), (14, .iconst 2, 1)]
theorem KX9_product_12_3_d : ∀ z ∈ KX9_product_12_3, decode cX9_product z.1 = .ok z.2 := by decide +kernel
def KX9_product_16_4 : List (Nat × Instr × Nat) := [(16, .iconst 1, 1)]
theorem KX9_product_16_4_d : ∀ z ∈ KX9_product_16_4, decode cX9_product z.1 = .ok z.2 := by decide +kernel
def KX9_product_24_5 : List (Nat × Instr × Nat) := [(24, .iload_n 3, 1), (25, .iconst 2, 1), (26, .imul, 1), (27, .istore_n 3, 1), (28, .iload_n 3, 1), (29, .bipush 15, 2)]
theorem KX9_product_24_5_d : ∀ z ∈ KX9_product_24_5, decode cX9_product z.1 = .ok z.2 := by decide +kernel
def KX9_product_39_6 : List (Nat × Instr × Nat) := [(39, .iload 4, 2), (41, .iconst 2, 1)]
theorem KX9_product_39_6_d : ∀ z ∈ KX9_product_39_6, decode cX9_product z.1 = .ok z.2 := by decide +kernel
def KX9_product_43_7 : List (Nat × Instr × Nat) := [(43, .istore 4, 2), (45, .goto (-38), 3)]
theorem KX9_product_43_7_d : ∀ z ∈ KX9_product_43_7, decode cX9_product z.1 = .ok z.2 := by decide +kernel
def KX9_product_34_8 : List (Nat × Instr × Nat) := [(34, .iload_n 3, 1), (35, .bipush 19, 2), (37, .ixor, 1), (38, .istore_n 3, 1), (39, .iload 4, 2), (41, .iconst 2, 1)]
theorem KX9_product_34_8_d : ∀ z ∈ KX9_product_34_8, decode cX9_product z.1 = .ok z.2 := by decide +kernel
def KX9_product_20_9 : List (Nat × Instr × Nat) := [(20, .iload_n 2, 1), (21, .iload_n 3, 1), (22, .ixor, 1), (23, .istore_n 2, 1), (24, .iload_n 3, 1), (25, .iconst 2, 1), (26, .imul, 1), (27, .istore_n 3, 1), (28, .iload_n 3, 1), (29, .bipush 15, 2)]
theorem KX9_product_20_9_d : ∀ z ∈ KX9_product_20_9, decode cX9_product z.1 = .ok z.2 := by decide +kernel
set_option maxHeartbeats 4000000 in
set_option maxRecDepth 100000 in
theorem c_X9_product (l : Launch) (D : va_G) (g : Nat → ClassId) (a : Nat) (b : Nat) (ha : a < 16) (hb : b < 16) : CT l yX9_product cX9_product 5 ((Option.some FieldType.int)) ({ frames := 0, cells := 0, slots := 0, locals := 0 } : Room) [.int (nI a), .int (nI b)] D CL (TYS g) ([]) ([]) (S := Unit) (fun _ => some (.int (nI (gm a b)))) (fun _ => []) (fun _ => True) 0 0 := by
  refine ct_of (by decide +kernel) (Nat.le_of_ble_eq_true rfl) ?_
  intro p e s m below meth c A X hr hnm hSB hRO hAf
  refine g_cs (ws' := []) (lv' := [(0, .int (nI a)), (1, .int (nI b))]) rfl rfl ?_
  refine g_run X KX9_product_0_0 KX9_product_0_0_d 7 [(4, .int (nI b)), (3, .int (nI a)), (2, .int (nI 0)), (0, .int (nI a)), (1, .int (nI b))] [] rfl ?_
  refine g_lv (lv' := [(0, .int (nI a)), (1, .int (nI b)), (2, .int (nI 0)), (3, .int (nI a)), (4, .int (nI b))]) (lsub_c 3 rfl (lsub_c 4 rfl (lsub_c 2 rfl (lsub_c 1 rfl (lsub_c 0 rfl (lsub_n)))))) ?_
  refine g_for (ln_ b) (fun _ => []) (fun i => [(0, .int (nI a)), (1, .int (nI b)), (2, .int (nI ((ps_ a b i).1))), (3, .int (nI ((ps_ a b i).2))), (4, .int (nI (b / 2 ^ i)))]) (rfl) (by rw [ps_, Nat.pow_zero, Nat.div_one]) ?_ ?_
  · refine g_run X KX9_product_7_1 KX9_product_7_1_d 9 [(0, .int (nI a)), (1, .int (nI b)), (2, .int (nI ((ps_ a b (ln_ b)).1))), (3, .int (nI ((ps_ a b (ln_ b)).2))), (4, .int (nI (b / 2 ^ (ln_ b))))] [.int (nI (b / 2 ^ (ln_ b)))] rfl ?_
    refine g_if_le X 48 dX9_product_9 (by decide) (fun hc1 => ?_) (fun hc1 => ?_)
    · refine g_run X KX9_product_48_2 KX9_product_48_2_d 49 [(0, .int (nI a)), (1, .int (nI b)), (2, .int (nI ((ps_ a b (ln_ b)).1))), (3, .int (nI ((ps_ a b (ln_ b)).2))), (4, .int (nI (b / 2 ^ (ln_ b))))] [.int (nI ((ps_ a b (ln_ b)).1))] rfl ?_
      exact g_iret X hr () (by show some (Value.int _) = some (Value.int _); rw [ps_ok a ha b hb]) (trivial) ((List.append_nil _).symm) (Nat.le_of_ble_eq_true rfl) (Nat.le_of_ble_eq_true rfl) dX9_product_49
    · rw [nz_le (by have := ln_1 b hb; omega)] at hc1; exact (hc1 (ln_1 b hb)).elim
  · intro i hi k7
    have hln := ln_3 b hb; have hps := ps_lt a ha b hb i (by omega); have hdb : b / 2 ^ i ≤ b := Nat.div_le_self _ _
    refine g_run X KX9_product_7_1 KX9_product_7_1_d 9 [(0, .int (nI a)), (1, .int (nI b)), (2, .int (nI ((ps_ a b i).1))), (3, .int (nI ((ps_ a b i).2))), (4, .int (nI (b / 2 ^ i)))] [.int (nI (b / 2 ^ i))] rfl ?_
    refine g_if_le X 48 dX9_product_9 (by decide) (fun hc2 => ?_) (fun hc2 => ?_)
    · rw [nz_le (by omega)] at hc2; have := ln_2 b hb i (by omega) hi; omega
    · refine g_run X KX9_product_12_3 KX9_product_12_3_d 15 [(0, .int (nI a)), (1, .int (nI b)), (2, .int (nI ((ps_ a b i).1))), (3, .int (nI ((ps_ a b i).2))), (4, .int (nI (b / 2 ^ i)))] [.int (nI 2), .int (nI (b / 2 ^ i))] rfl ?_
      refine g_irem X (v := nI ((b / 2 ^ i) % 2)) (nI_ne0 (by decide) (by decide)) (pk_rem (by omega) (by omega) (by decide)) dX9_product_15 ?_
      refine g_run X KX9_product_16_4 KX9_product_16_4_d 17 [(0, .int (nI a)), (1, .int (nI b)), (2, .int (nI ((ps_ a b i).1))), (3, .int (nI ((ps_ a b i).2))), (4, .int (nI (b / 2 ^ i)))] [.int (nI 1), .int (nI ((b / 2 ^ i) % 2))] rfl ?_
      refine g_icmp_ne X 24 dX9_product_17 (by decide) (fun hc3 => ?_) (fun hc3 => ?_)
      · rw [nI_eq (by omega) (by omega)] at hc3
        refine g_run X KX9_product_24_5 KX9_product_24_5_d 31 [(3, .int ((nI ((ps_ a b i).2)) * (nI 2))), (0, .int (nI a)), (1, .int (nI b)), (2, .int (nI ((ps_ a b i).1))), (4, .int (nI (b / 2 ^ i)))] [.int (nI 15), .int ((nI ((ps_ a b i).2)) * (nI 2))] rfl ?_
        refine g_nm (lv' := [(3, .int (nI (((ps_ a b i).2) * 2))), (0, .int (nI a)), (1, .int (nI b)), (2, .int (nI ((ps_ a b i).1))), (4, .int (nI (b / 2 ^ i)))]) (st' := [.int (nI 15), .int (nI (((ps_ a b i).2) * 2))]) (by simp only [pk_mul]) (by simp only [pk_mul]) ?_
        refine g_icmp_le X 39 dX9_product_31 (by decide) (fun hc4 => ?_) (fun hc4 => ?_)
        · rw [nI_leI (by omega) (by omega)] at hc4; have hsh : ¬ 15 < (ps_ a b i).2 * 2 := by omega
          refine g_run X KX9_product_39_6 KX9_product_39_6_d 42 [(3, .int (nI (((ps_ a b i).2) * 2))), (0, .int (nI a)), (1, .int (nI b)), (2, .int (nI ((ps_ a b i).1))), (4, .int (nI (b / 2 ^ i)))] [.int (nI 2), .int (nI (b / 2 ^ i))] rfl ?_
          refine g_idiv X (v := nI ((b / 2 ^ i) / 2)) (nI_ne0 (by decide) (by decide)) (pk_div (by omega) (by decide) (by decide)) dX9_product_42 ?_
          refine g_run X KX9_product_43_7 KX9_product_43_7_d 7 [(4, .int (nI ((b / 2 ^ i) / 2))), (3, .int (nI (((ps_ a b i).2) * 2))), (0, .int (nI a)), (1, .int (nI b)), (2, .int (nI ((ps_ a b i).1)))] [] rfl ?_
          refine g_lv (lv' := [(0, .int (nI a)), (1, .int (nI b)), (2, .int (nI ((ps_ a b i).1))), (3, .int (nI (((ps_ a b i).2) * 2))), (4, .int (nI ((b / 2 ^ i) / 2)))]) (lsub_c 2 rfl (lsub_c 3 rfl (lsub_c 4 rfl (lsub_c 1 rfl (lsub_c 0 rfl (lsub_n)))))) ?_
          refine g_cs (ws' := []) (lv' := [(0, .int (nI a)), (1, .int (nI b)), (2, .int (nI ((ps_ a b (i + 1)).1))), (3, .int (nI ((ps_ a b (i + 1)).2))), (4, .int (nI (b / 2 ^ (i + 1))))]) (rfl) (by simp [ps_, hsh, *, Nat.pow_succ, Nat.div_div_eq_div_mul]) ?_
          exact k7
        · rw [nI_leI (by omega) (by omega)] at hc4; have hsh : 15 < (ps_ a b i).2 * 2 := by omega
          refine g_run X KX9_product_34_8 KX9_product_34_8_d 42 [(3, .int ((nI (((ps_ a b i).2) * 2)) ^^^ (nI 19))), (0, .int (nI a)), (1, .int (nI b)), (2, .int (nI ((ps_ a b i).1))), (4, .int (nI (b / 2 ^ i)))] [.int (nI 2), .int (nI (b / 2 ^ i))] rfl ?_
          refine g_nm (lv' := [(3, .int (nI ((((ps_ a b i).2) * 2) ^^^ 19))), (0, .int (nI a)), (1, .int (nI b)), (2, .int (nI ((ps_ a b i).1))), (4, .int (nI (b / 2 ^ i)))]) (st' := [.int (nI 2), .int (nI (b / 2 ^ i))]) (by simp only [nx_xor]) (by simp only [nx_xor]) ?_
          refine g_idiv X (v := nI ((b / 2 ^ i) / 2)) (nI_ne0 (by decide) (by decide)) (pk_div (by omega) (by decide) (by decide)) dX9_product_42 ?_
          refine g_run X KX9_product_43_7 KX9_product_43_7_d 7 [(4, .int (nI ((b / 2 ^ i) / 2))), (3, .int (nI ((((ps_ a b i).2) * 2) ^^^ 19))), (0, .int (nI a)), (1, .int (nI b)), (2, .int (nI ((ps_ a b i).1)))] [] rfl ?_
          refine g_lv (lv' := [(0, .int (nI a)), (1, .int (nI b)), (2, .int (nI ((ps_ a b i).1))), (3, .int (nI ((((ps_ a b i).2) * 2) ^^^ 19))), (4, .int (nI ((b / 2 ^ i) / 2)))]) (lsub_c 2 rfl (lsub_c 3 rfl (lsub_c 4 rfl (lsub_c 1 rfl (lsub_c 0 rfl (lsub_n)))))) ?_
          refine g_cs (ws' := []) (lv' := [(0, .int (nI a)), (1, .int (nI b)), (2, .int (nI ((ps_ a b (i + 1)).1))), (3, .int (nI ((ps_ a b (i + 1)).2))), (4, .int (nI (b / 2 ^ (i + 1))))]) (rfl) (by simp [ps_, hsh, *, Nat.pow_succ, Nat.div_div_eq_div_mul]) ?_
          exact k7
      · rw [nI_eq (by omega) (by omega)] at hc3
        refine g_run X KX9_product_20_9 KX9_product_20_9_d 31 [(3, .int ((nI ((ps_ a b i).2)) * (nI 2))), (2, .int ((nI ((ps_ a b i).1)) ^^^ (nI ((ps_ a b i).2)))), (0, .int (nI a)), (1, .int (nI b)), (4, .int (nI (b / 2 ^ i)))] [.int (nI 15), .int ((nI ((ps_ a b i).2)) * (nI 2))] rfl ?_
        refine g_nm (lv' := [(3, .int (nI (((ps_ a b i).2) * 2))), (2, .int (nI (((ps_ a b i).1) ^^^ ((ps_ a b i).2)))), (0, .int (nI a)), (1, .int (nI b)), (4, .int (nI (b / 2 ^ i)))]) (st' := [.int (nI 15), .int (nI (((ps_ a b i).2) * 2))]) (by simp only [nx_xor, pk_mul]) (by simp only [nx_xor, pk_mul]) ?_
        refine g_icmp_le X 39 dX9_product_31 (by decide) (fun hc5 => ?_) (fun hc5 => ?_)
        · rw [nI_leI (by omega) (by omega)] at hc5; have hsh : ¬ 15 < (ps_ a b i).2 * 2 := by omega
          refine g_run X KX9_product_39_6 KX9_product_39_6_d 42 [(3, .int (nI (((ps_ a b i).2) * 2))), (2, .int (nI (((ps_ a b i).1) ^^^ ((ps_ a b i).2)))), (0, .int (nI a)), (1, .int (nI b)), (4, .int (nI (b / 2 ^ i)))] [.int (nI 2), .int (nI (b / 2 ^ i))] rfl ?_
          refine g_idiv X (v := nI ((b / 2 ^ i) / 2)) (nI_ne0 (by decide) (by decide)) (pk_div (by omega) (by decide) (by decide)) dX9_product_42 ?_
          refine g_run X KX9_product_43_7 KX9_product_43_7_d 7 [(4, .int (nI ((b / 2 ^ i) / 2))), (3, .int (nI (((ps_ a b i).2) * 2))), (2, .int (nI (((ps_ a b i).1) ^^^ ((ps_ a b i).2)))), (0, .int (nI a)), (1, .int (nI b))] [] rfl ?_
          refine g_lv (lv' := [(0, .int (nI a)), (1, .int (nI b)), (2, .int (nI (((ps_ a b i).1) ^^^ ((ps_ a b i).2)))), (3, .int (nI (((ps_ a b i).2) * 2))), (4, .int (nI ((b / 2 ^ i) / 2)))]) (lsub_c 3 rfl (lsub_c 4 rfl (lsub_c 2 rfl (lsub_c 1 rfl (lsub_c 0 rfl (lsub_n)))))) ?_
          refine g_cs (ws' := []) (lv' := [(0, .int (nI a)), (1, .int (nI b)), (2, .int (nI ((ps_ a b (i + 1)).1))), (3, .int (nI ((ps_ a b (i + 1)).2))), (4, .int (nI (b / 2 ^ (i + 1))))]) (rfl) (by simp [ps_, hsh, *, Nat.pow_succ, Nat.div_div_eq_div_mul]) ?_
          exact k7
        · rw [nI_leI (by omega) (by omega)] at hc5; have hsh : 15 < (ps_ a b i).2 * 2 := by omega
          refine g_run X KX9_product_34_8 KX9_product_34_8_d 42 [(3, .int ((nI (((ps_ a b i).2) * 2)) ^^^ (nI 19))), (2, .int (nI (((ps_ a b i).1) ^^^ ((ps_ a b i).2)))), (0, .int (nI a)), (1, .int (nI b)), (4, .int (nI (b / 2 ^ i)))] [.int (nI 2), .int (nI (b / 2 ^ i))] rfl ?_
          refine g_nm (lv' := [(3, .int (nI ((((ps_ a b i).2) * 2) ^^^ 19))), (2, .int (nI (((ps_ a b i).1) ^^^ ((ps_ a b i).2)))), (0, .int (nI a)), (1, .int (nI b)), (4, .int (nI (b / 2 ^ i)))]) (st' := [.int (nI 2), .int (nI (b / 2 ^ i))]) (by simp only [nx_xor]) (by simp only [nx_xor]) ?_
          refine g_idiv X (v := nI ((b / 2 ^ i) / 2)) (nI_ne0 (by decide) (by decide)) (pk_div (by omega) (by decide) (by decide)) dX9_product_42 ?_
          refine g_run X KX9_product_43_7 KX9_product_43_7_d 7 [(4, .int (nI ((b / 2 ^ i) / 2))), (3, .int (nI ((((ps_ a b i).2) * 2) ^^^ 19))), (2, .int (nI (((ps_ a b i).1) ^^^ ((ps_ a b i).2)))), (0, .int (nI a)), (1, .int (nI b))] [] rfl ?_
          refine g_lv (lv' := [(0, .int (nI a)), (1, .int (nI b)), (2, .int (nI (((ps_ a b i).1) ^^^ ((ps_ a b i).2)))), (3, .int (nI ((((ps_ a b i).2) * 2) ^^^ 19))), (4, .int (nI ((b / 2 ^ i) / 2)))]) (lsub_c 3 rfl (lsub_c 4 rfl (lsub_c 2 rfl (lsub_c 1 rfl (lsub_c 0 rfl (lsub_n)))))) ?_
          refine g_cs (ws' := []) (lv' := [(0, .int (nI a)), (1, .int (nI b)), (2, .int (nI ((ps_ a b (i + 1)).1))), (3, .int (nI ((ps_ a b (i + 1)).2))), (4, .int (nI (b / 2 ^ (i + 1))))]) (rfl) (by simp [ps_, hsh, *, Nat.pow_succ, Nat.div_div_eq_div_mul]) ?_
          exact k7

