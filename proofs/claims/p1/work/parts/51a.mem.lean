
theorem perm_last {a b : va_W} {c : Nat × va_E} : (a ++ (b ++ [c])).Perm (c :: a ++ b) := by
  rw [← List.append_assoc]; exact List.perm_append_comm (l₁ := a ++ b) (l₂ := [c])
theorem perm_3 {a b c : va_W} : (a ++ c ++ b).Perm (a ++ b ++ c) := by
  rw [List.append_assoc, List.append_assoc]; exact List.perm_append_comm.append_left a
theorem perm_4 {a b c d : va_W} : (a ++ c ++ b ++ d).Perm (a ++ b ++ (c ++ d)) := by
  rw [← List.append_assoc]; exact (perm_3 (a := a) (b := b) (c := c)).append_right d
theorem perm_r {a b c x : va_W} : (c ++ (b ++ a) ++ x).Perm (a ++ (b ++ c) ++ x) := by
  refine List.Perm.append_right x ?_
  refine (List.perm_append_comm (l₁ := c) (l₂ := b ++ a)).trans ?_
  refine (List.Perm.append_right c (List.perm_append_comm (l₁ := b) (l₂ := a))).trans ?_
  rw [List.append_assoc]
def FC : Nat → va_E := fun k => .inr (1, chF I0 L0 k)
def FF : Nat → va_E := fun k => .inr (2, frF I0 L0 k)
theorem chF_a {i : Nat} (h : i < 15) : FC i = .inr (1, [.int (nI i), .int (nI i), .int (-nI 1), .int (nI 0), .int (nI 0), .int (nI 0), .long (lN 0), .long (lN 0), .long (lN 0)]) := by
  simp [FC, chF, I0, L0, h]
theorem chF_b {i : Nat} (h : ¬ i < 15) : FC i = .inr (1, [.int (nI i), .int (-nI 1), .int (-nI 1), .int (nI 0), .int (nI 0), .int (nI 0), .long (lN 0), .long (lN 0), .long (lN 0)]) := by
  simp [FC, chF, I0, L0, h]
theorem frF_a {i : Nat} : FF i = .inr (2, [.int (nI i), .int (-nI 1), .long (-1 : Int64), .int (nI 0), .int (nI 0)]) := rfl
/-- addresses of the class's cells -/
def adC (a m ca sa c fa : Nat) (uf uc : Nat → Nat) : Nat → Nat
  | 0 => a
  | 1 => m
  | 2 => ca
  | 3 => sa
  | 4 => c
  | 5 => fa
  | 6 => uf 0
  | 7 => uf 1
  | 8 => uf 2
  | 9 => uf 3
  | k + 10 => uc k
theorem adC_f {a m ca sa c fa : Nat} {uf uc : Nat → Nat} {j : Nat} (h : j < 4) : cA uf 4 j = some (adC a m ca sa c fa uf uc (j + 6)) := by
  rw [cA_at h]
  rcases (show j = 0 ∨ j = 1 ∨ j = 2 ∨ j = 3 by omega) with rfl | rfl | rfl | rfl <;> rfl

def KX4_init_0_0 : List (Nat × Instr × Nat) := [(0, .aload_n 0, 1)]
theorem KX4_init_0_0_d : ∀ z ∈ KX4_init_0_0, decode cX4_init z.1 = .ok z.2 := by decide +kernel
def KX4_init_4_1 : List (Nat × Instr × Nat) := [(4, .aload_n 0, 1), (5, .bipush 18, 2)]
theorem KX4_init_4_1_d : ∀ z ∈ KX4_init_4_1, decode cX4_init z.1 = .ok z.2 := by decide +kernel
def KX4_init_13_2 : List (Nat × Instr × Nat) := [(13, .aload_n 0, 1), (14, .bipush 15, 2)]
theorem KX4_init_13_2_d : ∀ z ∈ KX4_init_13_2, decode cX4_init z.1 = .ok z.2 := by decide +kernel
def KX4_init_22_3 : List (Nat × Instr × Nat) := [(22, .aload_n 0, 1), (23, .iconst 4, 1)]
theorem KX4_init_22_3_d : ∀ z ∈ KX4_init_22_3, decode cX4_init z.1 = .ok z.2 := by decide +kernel
def KX4_init_27_4 : List (Nat × Instr × Nat) := [(27, .aload_n 0, 1), (28, .iconst 0, 1)]
theorem KX4_init_27_4_d : ∀ z ∈ KX4_init_27_4, decode cX4_init z.1 = .ok z.2 := by decide +kernel
def KX4_init_32_5 : List (Nat × Instr × Nat) := [(32, .aload_n 0, 1), (33, .iconst 0, 1)]
theorem KX4_init_32_5_d : ∀ z ∈ KX4_init_32_5, decode cX4_init z.1 = .ok z.2 := by decide +kernel
def KX4_init_37_6 : List (Nat × Instr × Nat) := [(37, .aload_n 0, 1), (38, .iconst 0, 1)]
theorem KX4_init_37_6_d : ∀ z ∈ KX4_init_37_6, decode cX4_init z.1 = .ok z.2 := by decide +kernel
def KX4_init_42_7 : List (Nat × Instr × Nat) := [(42, .aload_n 0, 1), (43, .iconst 0, 1)]
theorem KX4_init_42_7_d : ∀ z ∈ KX4_init_42_7, decode cX4_init z.1 = .ok z.2 := by decide +kernel
def KX4_init_47_8 : List (Nat × Instr × Nat) := [(47, .aload_n 0, 1), (48, .bipush 15, 2)]
theorem KX4_init_47_8_d : ∀ z ∈ KX4_init_47_8, decode cX4_init z.1 = .ok z.2 := by decide +kernel
def KX4_init_53_9 : List (Nat × Instr × Nat) := [(53, .iconst 0, 1), (54, .istore_n 1, 1)]
theorem KX4_init_53_9_d : ∀ z ∈ KX4_init_53_9, decode cX4_init z.1 = .ok z.2 := by decide +kernel
def KX4_init_55_10 : List (Nat × Instr × Nat) := [(55, .iload_n 1, 1), (56, .bipush 18, 2)]
theorem KX4_init_55_10_d : ∀ z ∈ KX4_init_55_10, decode cX4_init z.1 = .ok z.2 := by decide +kernel
def KX4_init_92_11 : List (Nat × Instr × Nat) := [(92, .iconst 0, 1), (93, .istore_n 1, 1)]
theorem KX4_init_92_11_d : ∀ z ∈ KX4_init_92_11, decode cX4_init z.1 = .ok z.2 := by decide +kernel
def KX4_init_94_12 : List (Nat × Instr × Nat) := [(94, .iload_n 1, 1), (95, .bipush 15, 2)]
theorem KX4_init_94_12_d : ∀ z ∈ KX4_init_94_12, decode cX4_init z.1 = .ok z.2 := by decide +kernel
def KX4_init_100_13 : List (Nat × Instr × Nat) := [(100, .aload_n 0, 1)]
theorem KX4_init_100_13_d : ∀ z ∈ KX4_init_100_13, decode cX4_init z.1 = .ok z.2 := by decide +kernel
def KX4_init_104_14 : List (Nat × Instr × Nat) := [(104, .iload_n 1, 1), (105, .aload_n 0, 1)]
theorem KX4_init_104_14_d : ∀ z ∈ KX4_init_104_14, decode cX4_init z.1 = .ok z.2 := by decide +kernel
def KX4_init_109_15 : List (Nat × Instr × Nat) := [(109, .iload_n 1, 1)]
theorem KX4_init_109_15_d : ∀ z ∈ KX4_init_109_15, decode cX4_init z.1 = .ok z.2 := by decide +kernel
def KX4_init_112_16 : List (Nat × Instr × Nat) := [(112, .iinc 1 1, 3), (115, .goto (-21), 3)]
theorem KX4_init_112_16_d : ∀ z ∈ KX4_init_112_16, decode cX4_init z.1 = .ok z.2 := by decide +kernel
def KX4_init_61_17 : List (Nat × Instr × Nat) := [(61, .aload_n 0, 1)]
theorem KX4_init_61_17_d : ∀ z ∈ KX4_init_61_17, decode cX4_init z.1 = .ok z.2 := by decide +kernel
def KX4_init_65_18 : List (Nat × Instr × Nat) := [(65, .iload_n 1, 1)]
theorem KX4_init_65_18_d : ∀ z ∈ KX4_init_65_18, decode cX4_init z.1 = .ok z.2 := by decide +kernel
def KX4_init_69_19 : List (Nat × Instr × Nat) := [(69, .dup, 1), (70, .iload_n 1, 1), (71, .iload_n 1, 1), (72, .bipush 15, 2)]
theorem KX4_init_69_19_d : ∀ z ∈ KX4_init_69_19, decode cX4_init z.1 = .ok z.2 := by decide +kernel
def KX4_init_81_20 : List (Nat × Instr × Nat) := [(81, .iconst (-1), 1)]
theorem KX4_init_81_20_d : ∀ z ∈ KX4_init_81_20, decode cX4_init z.1 = .ok z.2 := by decide +kernel
def KX4_init_86_21 : List (Nat × Instr × Nat) := [(86, .iinc 1 1, 3), (89, .goto (-34), 3)]
theorem KX4_init_86_21_d : ∀ z ∈ KX4_init_86_21, decode cX4_init z.1 = .ok z.2 := by decide +kernel
def KX4_init_77_22 : List (Nat × Instr × Nat) := [(77, .iload_n 1, 1), (78, .goto 4, 3)]
theorem KX4_init_77_22_d : ∀ z ∈ KX4_init_77_22, decode cX4_init z.1 = .ok z.2 := by decide +kernel
set_option maxHeartbeats 4000000 in
set_option maxRecDepth 100000 in
theorem c_X4_init (l : Launch) (D : va_G) (g : Nat → ClassId) (a : Nat) : CT l yX4_init cX4_init 2 ((Option.none : Option Jvm.ClassFile.FieldType)) ({ frames := 2, cells := 20, slots := 195, locals := 42 } : Room) [.ref a] D CL (TYS g) ([]) ([(a, Sum.inr (3, [.null, .null, .int 0, .int 0, .int 0, .int 0, .int 0, .int 0]))]) (S := Nat × Nat × (Nat → Nat)) (fun _ => none) (fun u => [(a, Sum.inr (3, [.ref u.1, .ref u.2.1, .int (nI 4), .int (nI 0), .int (nI 0), .int (nI 0), .int (nI 0), .int (nI 15)])), (u.1, Sum.inl (g 1, 18, .inr (.inr (.inr (.inr (cA u.2.2 18)))))), (u.2.1, Sum.inl (g 1, 15, .inr (.inr (.inr (.inr (cA u.2.2 15))))))] ++ blk FC u.2.2 18) (fun _ => True) 20 195 := by
  refine ct_of (by decide +kernel) (Nat.le_of_ble_eq_true rfl) ?_
  intro p e s m below meth c A X hr hnm hSB hRO hAf
  refine g_cs (ws' := ([(a, Sum.inr (3, [.null, .null, .int 0, .int 0, .int 0, .int 0, .int 0, .int 0]))] : va_W)) (lv' := [(0, .ref a)]) (rfl) rfl ?_
  refine g_run X KX4_init_0_0 KX4_init_0_0_d 1 [(0, .ref a)] [.ref a] rfl ?_
  refine g_objInit X w_46 w_39 w_40 (Nat.le_of_ble_eq_true rfl) (Nat.le_of_ble_eq_true rfl) (Nat.le_of_ble_eq_true rfl) dX4_init_1 ?_
  refine g_run X KX4_init_4_1 KX4_init_4_1_d 7 [(0, .ref a)] [.int (nI 18), .ref a] rfl ?_
  refine g_newq X hAf 1 rfl w_47 (X.nw (nw_in n_48 rfl)) 18 rfl (by decide) (Nat.le_of_ble_eq_true rfl) (Nat.le_of_ble_eq_true rfl) dX4_init_7 (fun qr1 => ?_)
  refine g_af (ws' := (([(a, Sum.inr (3, [.null, .null, .int 0, .int 0, .int 0, .int 0, .int 0, .int 0]))] : va_W)) ++ [(qr1, Sum.inl (g 1, 18, .inr (.inr (.inr (.inr (fun _ => none))))))]) (st' := [.ref qr1, .ref a]) (cells' := 1) (slots' := 18) (pc' := 10) rfl rfl rfl rfl rfl ?_
  refine g_perm (ws' := ([(qr1, Sum.inl (g 1, 18, .inr (.inr (.inr (.inr (fun _ => none)))))), (a, Sum.inr (3, [.null, .null, .int 0, .int 0, .int 0, .int 0, .int 0, .int 0]))] : va_W)) (List.perm_append_comm (l₁ := ([(qr1, Sum.inl (g 1, 18, .inr (.inr (.inr (.inr (fun _ => none))))))] : va_W))) ?_
  refine g_putF X (ws' := ([(qr1, Sum.inl (g 1, 18, .inr (.inr (.inr (.inr (fun _ => none)))))), (a, Sum.inr (3, [.ref qr1, .null, .int 0, .int 0, .int 0, .int 0, .int 0, .int 0]))] : va_W)) hinX4 tyX4 tyX4_ok nmX4 rfl 0 (by decide) w_93 rfl rfl hnm rfl (ty := tyX4 0) (tyX4_ok 0 (by decide)) rfl rfl (1) (rfl) (Nat.le_of_ble_eq_true rfl) (rfl) dX4_init_10 ?_
  refine g_run X KX4_init_13_2 KX4_init_13_2_d 16 [(0, .ref a)] [.int (nI 15), .ref a] rfl ?_
  refine g_newq X hAf 1 rfl w_47 (X.nw (nw_in n_48 rfl)) 15 rfl (by decide) (Nat.le_of_ble_eq_true rfl) (Nat.le_of_ble_eq_true rfl) dX4_init_16 (fun qr2 => ?_)
  refine g_af (ws' := (([(qr1, Sum.inl (g 1, 18, .inr (.inr (.inr (.inr (fun _ => none)))))), (a, Sum.inr (3, [.ref qr1, .null, .int 0, .int 0, .int 0, .int 0, .int 0, .int 0]))] : va_W)) ++ [(qr2, Sum.inl (g 1, 15, .inr (.inr (.inr (.inr (fun _ => none))))))]) (st' := [.ref qr2, .ref a]) (cells' := 2) (slots' := 33) (pc' := 19) rfl rfl rfl rfl rfl ?_
  refine g_perm (ws' := ([(qr2, Sum.inl (g 1, 15, .inr (.inr (.inr (.inr (fun _ => none)))))), (qr1, Sum.inl (g 1, 18, .inr (.inr (.inr (.inr (fun _ => none)))))), (a, Sum.inr (3, [.ref qr1, .null, .int 0, .int 0, .int 0, .int 0, .int 0, .int 0]))] : va_W)) (List.perm_append_comm (l₁ := ([(qr2, Sum.inl (g 1, 15, .inr (.inr (.inr (.inr (fun _ => none))))))] : va_W))) ?_
  refine g_putF X (ws' := ([(qr2, Sum.inl (g 1, 15, .inr (.inr (.inr (.inr (fun _ => none)))))), (qr1, Sum.inl (g 1, 18, .inr (.inr (.inr (.inr (fun _ => none)))))), (a, Sum.inr (3, [.ref qr1, .ref qr2, .int 0, .int 0, .int 0, .int 0, .int 0, .int 0]))] : va_W)) hinX4 tyX4 tyX4_ok nmX4 rfl 1 (by decide) w_95 rfl rfl hnm rfl (ty := tyX4 1) (tyX4_ok 1 (by decide)) rfl rfl (2) (rfl) (Nat.le_of_ble_eq_true rfl) (rfl) dX4_init_19 ?_
  refine g_run X KX4_init_22_3 KX4_init_22_3_d 24 [(0, .ref a)] [.int (nI 4), .ref a] rfl ?_
  refine g_put X (ws' := ([(qr2, Sum.inl (g 1, 15, .inr (.inr (.inr (.inr (fun _ => none)))))), (qr1, Sum.inl (g 1, 18, .inr (.inr (.inr (.inr (fun _ => none)))))), (a, Sum.inr (3, [.ref qr1, .ref qr2, .int (nI 4), .int 0, .int 0, .int 0, .int 0, .int 0]))] : va_W)) hinX4 tyX4 tyX4_ok nmX4 rfl 2 (by decide) w_97 rfl rfl (ty := .int) rfl rfl rfl (2) (rfl) (Nat.le_of_ble_eq_true rfl) (rfl) dX4_init_24 ?_
  refine g_run X KX4_init_27_4 KX4_init_27_4_d 29 [(0, .ref a)] [.int (nI 0), .ref a] rfl ?_
  refine g_put X (ws' := ([(qr2, Sum.inl (g 1, 15, .inr (.inr (.inr (.inr (fun _ => none)))))), (qr1, Sum.inl (g 1, 18, .inr (.inr (.inr (.inr (fun _ => none)))))), (a, Sum.inr (3, [.ref qr1, .ref qr2, .int (nI 4), .int (nI 0), .int 0, .int 0, .int 0, .int 0]))] : va_W)) hinX4 tyX4 tyX4_ok nmX4 rfl 3 (by decide) w_99 rfl rfl (ty := .int) rfl rfl rfl (2) (rfl) (Nat.le_of_ble_eq_true rfl) (rfl) dX4_init_29 ?_
  refine g_run X KX4_init_32_5 KX4_init_32_5_d 34 [(0, .ref a)] [.int (nI 0), .ref a] rfl ?_
  refine g_put X (ws' := ([(qr2, Sum.inl (g 1, 15, .inr (.inr (.inr (.inr (fun _ => none)))))), (qr1, Sum.inl (g 1, 18, .inr (.inr (.inr (.inr (fun _ => none)))))), (a, Sum.inr (3, [.ref qr1, .ref qr2, .int (nI 4), .int (nI 0), .int (nI 0), .int 0, .int 0, .int 0]))] : va_W)) hinX4 tyX4 tyX4_ok nmX4 rfl 4 (by decide) w_101 rfl rfl (ty := .int) rfl rfl rfl (2) (rfl) (Nat.le_of_ble_eq_true rfl) (rfl) dX4_init_34 ?_
  refine g_run X KX4_init_37_6 KX4_init_37_6_d 39 [(0, .ref a)] [.int (nI 0), .ref a] rfl ?_
  refine g_put X (ws' := ([(qr2, Sum.inl (g 1, 15, .inr (.inr (.inr (.inr (fun _ => none)))))), (qr1, Sum.inl (g 1, 18, .inr (.inr (.inr (.inr (fun _ => none)))))), (a, Sum.inr (3, [.ref qr1, .ref qr2, .int (nI 4), .int (nI 0), .int (nI 0), .int (nI 0), .int 0, .int 0]))] : va_W)) hinX4 tyX4 tyX4_ok nmX4 rfl 5 (by decide) w_103 rfl rfl (ty := .int) rfl rfl rfl (2) (rfl) (Nat.le_of_ble_eq_true rfl) (rfl) dX4_init_39 ?_
  refine g_run X KX4_init_42_7 KX4_init_42_7_d 44 [(0, .ref a)] [.int (nI 0), .ref a] rfl ?_
  refine g_put X (ws' := ([(qr2, Sum.inl (g 1, 15, .inr (.inr (.inr (.inr (fun _ => none)))))), (qr1, Sum.inl (g 1, 18, .inr (.inr (.inr (.inr (fun _ => none)))))), (a, Sum.inr (3, [.ref qr1, .ref qr2, .int (nI 4), .int (nI 0), .int (nI 0), .int (nI 0), .int (nI 0), .int 0]))] : va_W)) hinX4 tyX4 tyX4_ok nmX4 rfl 6 (by decide) w_105 rfl rfl (ty := .int) rfl rfl rfl (2) (rfl) (Nat.le_of_ble_eq_true rfl) (rfl) dX4_init_44 ?_
  refine g_run X KX4_init_47_8 KX4_init_47_8_d 50 [(0, .ref a)] [.int (nI 15), .ref a] rfl ?_
  refine g_put X (ws' := ([(qr2, Sum.inl (g 1, 15, .inr (.inr (.inr (.inr (fun _ => none)))))), (qr1, Sum.inl (g 1, 18, .inr (.inr (.inr (.inr (fun _ => none)))))), (a, Sum.inr (3, [.ref qr1, .ref qr2, .int (nI 4), .int (nI 0), .int (nI 0), .int (nI 0), .int (nI 0), .int (nI 15)]))] : va_W)) hinX4 tyX4 tyX4_ok nmX4 rfl 7 (by decide) w_107 rfl rfl (ty := .int) rfl rfl rfl (2) (rfl) (Nat.le_of_ble_eq_true rfl) (rfl) dX4_init_50 ?_
  refine g_perm (ws' := ([(a, Sum.inr (3, [.ref qr1, .ref qr2, .int (nI 4), .int (nI 0), .int (nI 0), .int (nI 0), .int (nI 0), .int (nI 15)])), (qr1, Sum.inl (g 1, 18, .inr (.inr (.inr (.inr (fun _ => none)))))), (qr2, Sum.inl (g 1, 15, .inr (.inr (.inr (.inr (fun _ => none))))))] : va_W)) (List.Perm.trans (List.Perm.cons _ (List.Perm.swap _ _ [])) (List.Perm.trans (List.Perm.swap _ _ _) (List.Perm.cons _ (List.Perm.swap _ _ [])))) ?_
  refine g_ws (ws' := ([(a, Sum.inr (3, [.ref qr1, .ref qr2, .int (nI 4), .int (nI 0), .int (nI 0), .int (nI 0), .int (nI 0), .int (nI 15)])), (qr1, Sum.inl (g 1, 18, .inr (.inr (.inr (.inr (cA (fun _ => 0) 0)))))), (qr2, Sum.inl (g 1, 15, .inr (.inr (.inr (.inr (fun _ => none))))))] : va_W) ++ blk FC (fun _ => 0) 0) (by rw [← cA_0, blk_0, List.append_nil]) ?_
  refine g_run X KX4_init_53_9 KX4_init_53_9_d 55 [(1, .int (nI 0)), (0, .ref a)] [] rfl ?_
  refine g_lv (lv' := [(0, .ref a), (1, .int (nI 0))]) (lsub_c 1 rfl (lsub_c 0 rfl (lsub_n))) ?_
  refine g_forX (σ := Nat → Nat) 18 (fun uX55 i => ([(a, Sum.inr (3, [.ref qr1, .ref qr2, .int (nI 4), .int (nI 0), .int (nI 0), .int (nI 0), .int (nI 0), .int (nI 15)])), (qr1, Sum.inl (g 1, 18, .inr (.inr (.inr (.inr (cA uX55 i)))))), (qr2, Sum.inl (g 1, 15, .inr (.inr (.inr (.inr (fun _ => none))))))] : va_W) ++ blk FC uX55 i) (fun i => [(0, .ref a), (1, .int (nI i))]) (fun uX55 i => True) 1 9 (fun _ => 0) (trivial) (rfl) (rfl) ?_ ?_
  · intro uX55 hP55
    refine g_widen (k := 20) (n := 195) (Nat.le_of_ble_eq_true rfl) (Nat.le_of_ble_eq_true rfl) ?_
    refine g_run X KX4_init_55_10 KX4_init_55_10_d 58 [(0, .ref a), (1, .int (nI 18))] [.int (nI 18), .int (nI 18)] rfl ?_
    refine g_icmp_ge X 92 dX4_init_58 (by decide) (fun hc3 => ?_) (fun hc3 => ?_)
    · refine g_ws (ws' := ([(a, Sum.inr (3, [.ref qr1, .ref qr2, .int (nI 4), .int (nI 0), .int (nI 0), .int (nI 0), .int (nI 0), .int (nI 15)])), (qr1, Sum.inl (g 1, 18, .inr (.inr (.inr (.inr (cA uX55 18)))))), (qr2, Sum.inl (g 1, 15, .inr (.inr (.inr (.inr (cA uX55 0))))))] : va_W) ++ blk FC uX55 18) (by rw [← cA_0]) ?_
      refine g_run X KX4_init_92_11 KX4_init_92_11_d 94 [(1, .int (nI 0)), (0, .ref a)] [] rfl ?_
      refine g_lv (lv' := [(0, .ref a), (1, .int (nI 0))]) (lsub_c 1 rfl (lsub_c 0 rfl (lsub_n))) ?_
      refine g_for 15 (fun i => ([(a, Sum.inr (3, [.ref qr1, .ref qr2, .int (nI 4), .int (nI 0), .int (nI 0), .int (nI 0), .int (nI 0), .int (nI 15)])), (qr1, Sum.inl (g 1, 18, .inr (.inr (.inr (.inr (cA uX55 18)))))), (qr2, Sum.inl (g 1, 15, .inr (.inr (.inr (.inr (cA uX55 i))))))] : va_W) ++ blk FC uX55 18) (fun i => [(0, .ref a), (1, .int (nI i))]) (rfl) (rfl) ?_ ?_
      · refine g_run X KX4_init_94_12 KX4_init_94_12_d 97 [(0, .ref a), (1, .int (nI 15))] [.int (nI 15), .int (nI 15)] rfl ?_
        refine g_icmp_ge X 118 dX4_init_97 (by decide) (fun hc4 => ?_) (fun hc4 => ?_)
        · exact g_vret X hr (qr1, qr2, uX55) rfl (trivial) (rfl) (Nat.le_of_ble_eq_true rfl) (Nat.le_of_ble_eq_true rfl) dX4_init_118
        · rw [nI_leI (by omega) (by omega)] at hc4; first | omega | (simp at hc4)
      · intro i hi k94
        refine g_run X KX4_init_94_12 KX4_init_94_12_d 97 [(0, .ref a), (1, .int (nI i))] [.int (nI 15), .int (nI i)] rfl ?_
        refine g_icmp_ge X 118 dX4_init_97 (by decide) (fun hc5 => ?_) (fun hc5 => ?_)
        · rw [nI_leI (by omega) (by omega)] at hc5; first | omega | (simp at hc5)
        · refine g_run X KX4_init_100_13 KX4_init_100_13_d 101 [(0, .ref a), (1, .int (nI i))] [.ref a] rfl ?_
          refine g_get X srcW (v := .ref qr2) hinX4 rfl 1 (by decide) w_95 rfl (List.mem_of_getElem? (i := 0) rfl) rfl dX4_init_101 ?_
          refine g_run X KX4_init_104_14 KX4_init_104_14_d 106 [(0, .ref a), (1, .int (nI i))] [.ref a, .int (nI i), .ref qr2] rfl ?_
          refine g_get X srcW (v := .ref qr1) hinX4 rfl 0 (by decide) w_93 rfl (List.mem_of_getElem? (i := 0) rfl) rfl dX4_init_106 ?_
          refine g_run X KX4_init_109_15 KX4_init_109_15_d 110 [(0, .ref a), (1, .int (nI i))] [.int (nI i), .ref qr1, .int (nI i), .ref qr2] rfl ?_
          refine g_aald X srcW (b := uX55 i) 1 rfl (List.mem_of_getElem? (i := 1) rfl) i rfl (by omega) (by decide) (cA_at (by omega)) dX4_init_110 ?_
          refine g_aast X (ws' := ([(a, Sum.inr (3, [.ref qr1, .ref qr2, .int (nI 4), .int (nI 0), .int (nI 0), .int (nI 0), .int (nI 0), .int (nI 15)])), (qr1, Sum.inl (g 1, 18, .inr (.inr (.inr (.inr (cA uX55 18)))))), (qr2, Sum.inl (g 1, 15, .inr (.inr (.inr (.inr (cA uX55 (i + 1)))))))] : va_W) ++ blk FC uX55 18) (r := CL[1]) 1 rfl 2 rfl (List.mem_append_right _ (blk_mem (F := FC) (show i < 18 by omega))) rfl i rfl (by omega) (by decide) (by rw [cA_t]; rfl) dX4_init_111 ?_
          refine g_run X KX4_init_112_16 KX4_init_112_16_d 94 [(1, .int ((nI i) + (nI 1))), (0, .ref a)] [] rfl ?_
          refine g_nm (lv' := [(1, .int (nI (i + 1))), (0, .ref a)]) (st' := []) (by simp only [nI_add]) (by simp only [nI_add]) ?_
          refine g_lv (lv' := [(0, .ref a), (1, .int (nI (i + 1)))]) (lsub_c 1 rfl (lsub_c 0 rfl (lsub_n))) ?_
          refine g_cs (ws' := ([(a, Sum.inr (3, [.ref qr1, .ref qr2, .int (nI 4), .int (nI 0), .int (nI 0), .int (nI 0), .int (nI 0), .int (nI 15)])), (qr1, Sum.inl (g 1, 18, .inr (.inr (.inr (.inr (cA uX55 18)))))), (qr2, Sum.inl (g 1, 15, .inr (.inr (.inr (.inr (cA uX55 (i + 1)))))))] : va_W) ++ blk FC uX55 18) (lv' := [(0, .ref a), (1, .int (nI (i + 1)))]) (rfl) (rfl) ?_
          exact k94
    · rw [nI_leI (by omega) (by omega)] at hc3; first | omega | (simp at hc3)
  · intro i hi uX55 hP55 k55
    refine g_run X KX4_init_55_10 KX4_init_55_10_d 58 [(0, .ref a), (1, .int (nI i))] [.int (nI 18), .int (nI i)] rfl ?_
    refine g_icmp_ge X 92 dX4_init_58 (by decide) (fun hc6 => ?_) (fun hc6 => ?_)
    · rw [nI_leI (by omega) (by omega)] at hc6; first | omega | (simp at hc6)
    · refine g_run X KX4_init_61_17 KX4_init_61_17_d 62 [(0, .ref a), (1, .int (nI i))] [.ref a] rfl ?_
      refine g_get X srcW (v := .ref qr1) hinX4 rfl 0 (by decide) w_93 rfl (List.mem_of_getElem? (i := 0) rfl) rfl dX4_init_62 ?_
      refine g_run X KX4_init_65_18 KX4_init_65_18_d 66 [(0, .ref a), (1, .int (nI i))] [.int (nI i), .ref qr1] rfl ?_
      refine g_new X hAf (ci := 1) hinX1 tyX1 tyX1_ok w_47 w_49 w_3 rfl (fs := [.int 0, .int 0, .int 0, .int 0, .int 0, .int 0, .long 0, .long 0, .long 0]) (by decide) (by show (2 + i * 1) + 1 ≤ 20; omega) (by show (33 + i * 9) + 9 ≤ 195; omega) dX4_init_66 (fun qn7 => ?_)
      refine g_af (ws' := (([(a, Sum.inr (3, [.ref qr1, .ref qr2, .int (nI 4), .int (nI 0), .int (nI 0), .int (nI 0), .int (nI 0), .int (nI 15)])), (qr1, Sum.inl (g 1, 18, .inr (.inr (.inr (.inr (cA uX55 i)))))), (qr2, Sum.inl (g 1, 15, .inr (.inr (.inr (.inr (fun _ => none))))))] : va_W) ++ blk FC uX55 i) ++ [(qn7, Sum.inr (1, [.int 0, .int 0, .int 0, .int 0, .int 0, .int 0, .long 0, .long 0, .long 0]))]) (st' := [.ref qn7, .int (nI i), .ref qr1]) (cells' := 2 + i * 1 + 1) (slots' := 33 + i * 9 + 9) (pc' := 69) rfl rfl rfl rfl rfl ?_
      refine g_perm (ws' := ([(qn7, Sum.inr (1, [.int 0, .int 0, .int 0, .int 0, .int 0, .int 0, .long 0, .long 0, .long 0])), (a, Sum.inr (3, [.ref qr1, .ref qr2, .int (nI 4), .int (nI 0), .int (nI 0), .int (nI 0), .int (nI 0), .int (nI 15)])), (qr1, Sum.inl (g 1, 18, .inr (.inr (.inr (.inr (cA uX55 i)))))), (qr2, Sum.inl (g 1, 15, .inr (.inr (.inr (.inr (fun _ => none))))))] : va_W) ++ blk FC uX55 i) (List.perm_append_comm (l₁ := ([(qn7, Sum.inr (1, [.int 0, .int 0, .int 0, .int 0, .int 0, .int 0, .long 0, .long 0, .long 0]))] : va_W))) ?_
      refine g_run X KX4_init_69_19 KX4_init_69_19_d 74 [(0, .ref a), (1, .int (nI i))] [.int (nI 15), .int (nI i), .int (nI i), .ref qn7, .ref qn7, .int (nI i), .ref qr1] rfl ?_
      refine g_icmp_ge X 81 dX4_init_74 (by decide) (fun hc8 => ?_) (fun hc8 => ?_)
      · rw [nI_leI (by omega) (by omega)] at hc8; have hp15 : ¬ i < 15 := by omega
        refine g_run X KX4_init_81_20 KX4_init_81_20_d 82 [(0, .ref a), (1, .int (nI i))] [.int (-nI 1), .int (nI i), .ref qn7, .ref qn7, .int (nI i), .ref qr1] rfl ?_
        refine g_callI X hSB hAf (As := [.int (nI i), .int (-nI 1)]) (wr := ([(a, Sum.inr (3, [.ref qr1, .ref qr2, .int (nI 4), .int (nI 0), .int (nI 0), .int (nI 0), .int (nI 0), .int (nI 15)])), (qr1, Sum.inl (g 1, 18, .inr (.inr (.inr (.inr (cA uX55 i)))))), (qr2, Sum.inl (g 1, 15, .inr (.inr (.inr (.inr (fun _ => none))))))] : va_W) ++ blk FC uX55 i) (n := 2) (c_X1_init l D g qn7 i (-nI 1) ) rfl srcN hrdN w_52 w_50 w_51 rfl w_3 (by decide +kernel) rfl ⟨Nat.le_of_ble_eq_true rfl, Nat.le_of_ble_eq_true rfl⟩ rfl rfl rfl (Nat.le_of_ble_eq_true rfl) ⟨by show (2 + i * 1 + 1) + 0 ≤ 20; omega, by show (33 + i * 9 + 9) + 0 ≤ 195; omega⟩ dX4_init_82 (fun hu9 _ => ?_)
        refine g_af (ws' := ([(qn7, Sum.inr (1, [.int (nI i), .int (-nI 1), .int (-nI 1), .int (nI 0), .int (nI 0), .int (nI 0), .long (lN 0), .long (lN 0), .long (lN 0)])), (a, Sum.inr (3, [.ref qr1, .ref qr2, .int (nI 4), .int (nI 0), .int (nI 0), .int (nI 0), .int (nI 0), .int (nI 15)])), (qr1, Sum.inl (g 1, 18, .inr (.inr (.inr (.inr (cA uX55 i)))))), (qr2, Sum.inl (g 1, 15, .inr (.inr (.inr (.inr (fun _ => none))))))] : va_W) ++ blk FC uX55 i) (st' := [.ref qn7, .int (nI i), .ref qr1]) (cells' := 2 + i * 1 + 1 + 0) (slots' := 33 + i * 9 + 9 + 0) (pc' := 85) rfl rfl rfl rfl rfl ?_
        refine g_aast X (ws' := ([(qn7, Sum.inr (1, [.int (nI i), .int (-nI 1), .int (-nI 1), .int (nI 0), .int (nI 0), .int (nI 0), .long (lN 0), .long (lN 0), .long (lN 0)])), (a, Sum.inr (3, [.ref qr1, .ref qr2, .int (nI 4), .int (nI 0), .int (nI 0), .int (nI 0), .int (nI 0), .int (nI 15)])), (qr1, Sum.inl (g 1, 18, .inr (.inr (.inr (.inr (cA (u1 uX55 i qn7) (i + 1))))))), (qr2, Sum.inl (g 1, 15, .inr (.inr (.inr (.inr (fun _ => none))))))] : va_W) ++ blk FC uX55 i) (r := CL[1]) 1 rfl 2 rfl (List.mem_of_getElem? (i := 0) rfl) rfl i rfl (by omega) (by decide) (by rw [cA_s]; rfl) dX4_init_85 ?_
        refine g_run X KX4_init_86_21 KX4_init_86_21_d 55 [(1, .int ((nI i) + (nI 1))), (0, .ref a)] [] rfl ?_
        refine g_nm (lv' := [(1, .int (nI (i + 1))), (0, .ref a)]) (st' := []) (by simp only [nI_add]) (by simp only [nI_add]) ?_
        refine g_lv (lv' := [(0, .ref a), (1, .int (nI (i + 1)))]) (lsub_c 1 rfl (lsub_c 0 rfl (lsub_n))) ?_
        refine g_ws (ws' := ([(qn7, FC i), (a, Sum.inr (3, [.ref qr1, .ref qr2, .int (nI 4), .int (nI 0), .int (nI 0), .int (nI 0), .int (nI 0), .int (nI 15)])), (qr1, Sum.inl (g 1, 18, .inr (.inr (.inr (.inr (cA (u1 uX55 i qn7) (i + 1))))))), (qr2, Sum.inl (g 1, 15, .inr (.inr (.inr (.inr (fun _ => none))))))] : va_W) ++ blk FC uX55 i) (by first | rw [chF_a hp15] | rw [chF_b hp15]) ?_
        refine g_perm (ws' := ([(a, Sum.inr (3, [.ref qr1, .ref qr2, .int (nI 4), .int (nI 0), .int (nI 0), .int (nI 0), .int (nI 0), .int (nI 15)])), (qr1, Sum.inl (g 1, 18, .inr (.inr (.inr (.inr (cA (u1 uX55 i qn7) (i + 1))))))), (qr2, Sum.inl (g 1, 15, .inr (.inr (.inr (.inr (fun _ => none))))))] : va_W) ++ (blk FC uX55 i ++ [(qn7, FC i)])) perm_last ?_
        refine g_ws (ws' := ([(a, Sum.inr (3, [.ref qr1, .ref qr2, .int (nI 4), .int (nI 0), .int (nI 0), .int (nI 0), .int (nI 0), .int (nI 15)])), (qr1, Sum.inl (g 1, 18, .inr (.inr (.inr (.inr (cA (u1 uX55 i qn7) (i + 1))))))), (qr2, Sum.inl (g 1, 15, .inr (.inr (.inr (.inr (fun _ => none))))))] : va_W) ++ blk FC (u1 uX55 i qn7) (i + 1)) (by rw [blk_s]) ?_
        refine g_widen (k := 2 + i * 1 + 1) (n := 33 + i * 9 + 9) (by omega) (by omega) ?_
        refine g_cs (ws' := ([(a, Sum.inr (3, [.ref qr1, .ref qr2, .int (nI 4), .int (nI 0), .int (nI 0), .int (nI 0), .int (nI 0), .int (nI 15)])), (qr1, Sum.inl (g 1, 18, .inr (.inr (.inr (.inr (cA (u1 uX55 i qn7) (i + 1))))))), (qr2, Sum.inl (g 1, 15, .inr (.inr (.inr (.inr (fun _ => none))))))] : va_W) ++ blk FC (u1 uX55 i qn7) (i + 1)) (lv' := [(0, .ref a), (1, .int (nI (i + 1)))]) (rfl) (rfl) ?_
        exact k55 (u1 uX55 i qn7) (trivial)
      · rw [nI_leI (by omega) (by omega)] at hc8; have hp15 : i < 15 := by omega
        refine g_run X KX4_init_77_22 KX4_init_77_22_d 82 [(0, .ref a), (1, .int (nI i))] [.int (nI i), .int (nI i), .ref qn7, .ref qn7, .int (nI i), .ref qr1] rfl ?_
        refine g_callI X hSB hAf (As := [.int (nI i), .int (nI i)]) (wr := ([(a, Sum.inr (3, [.ref qr1, .ref qr2, .int (nI 4), .int (nI 0), .int (nI 0), .int (nI 0), .int (nI 0), .int (nI 15)])), (qr1, Sum.inl (g 1, 18, .inr (.inr (.inr (.inr (cA uX55 i)))))), (qr2, Sum.inl (g 1, 15, .inr (.inr (.inr (.inr (fun _ => none))))))] : va_W) ++ blk FC uX55 i) (n := 2) (c_X1_init l D g qn7 i (nI i) ) rfl srcN hrdN w_52 w_50 w_51 rfl w_3 (by decide +kernel) rfl ⟨Nat.le_of_ble_eq_true rfl, Nat.le_of_ble_eq_true rfl⟩ rfl rfl rfl (Nat.le_of_ble_eq_true rfl) ⟨by show (2 + i * 1 + 1) + 0 ≤ 20; omega, by show (33 + i * 9 + 9) + 0 ≤ 195; omega⟩ dX4_init_82 (fun hu10 _ => ?_)
        refine g_af (ws' := ([(qn7, Sum.inr (1, [.int (nI i), .int (nI i), .int (-nI 1), .int (nI 0), .int (nI 0), .int (nI 0), .long (lN 0), .long (lN 0), .long (lN 0)])), (a, Sum.inr (3, [.ref qr1, .ref qr2, .int (nI 4), .int (nI 0), .int (nI 0), .int (nI 0), .int (nI 0), .int (nI 15)])), (qr1, Sum.inl (g 1, 18, .inr (.inr (.inr (.inr (cA uX55 i)))))), (qr2, Sum.inl (g 1, 15, .inr (.inr (.inr (.inr (fun _ => none))))))] : va_W) ++ blk FC uX55 i) (st' := [.ref qn7, .int (nI i), .ref qr1]) (cells' := 2 + i * 1 + 1 + 0) (slots' := 33 + i * 9 + 9 + 0) (pc' := 85) rfl rfl rfl rfl rfl ?_
        refine g_aast X (ws' := ([(qn7, Sum.inr (1, [.int (nI i), .int (nI i), .int (-nI 1), .int (nI 0), .int (nI 0), .int (nI 0), .long (lN 0), .long (lN 0), .long (lN 0)])), (a, Sum.inr (3, [.ref qr1, .ref qr2, .int (nI 4), .int (nI 0), .int (nI 0), .int (nI 0), .int (nI 0), .int (nI 15)])), (qr1, Sum.inl (g 1, 18, .inr (.inr (.inr (.inr (cA (u1 uX55 i qn7) (i + 1))))))), (qr2, Sum.inl (g 1, 15, .inr (.inr (.inr (.inr (fun _ => none))))))] : va_W) ++ blk FC uX55 i) (r := CL[1]) 1 rfl 2 rfl (List.mem_of_getElem? (i := 0) rfl) rfl i rfl (by omega) (by decide) (by rw [cA_s]; rfl) dX4_init_85 ?_
        refine g_run X KX4_init_86_21 KX4_init_86_21_d 55 [(1, .int ((nI i) + (nI 1))), (0, .ref a)] [] rfl ?_
        refine g_nm (lv' := [(1, .int (nI (i + 1))), (0, .ref a)]) (st' := []) (by simp only [nI_add]) (by simp only [nI_add]) ?_
        refine g_lv (lv' := [(0, .ref a), (1, .int (nI (i + 1)))]) (lsub_c 1 rfl (lsub_c 0 rfl (lsub_n))) ?_
        refine g_ws (ws' := ([(qn7, FC i), (a, Sum.inr (3, [.ref qr1, .ref qr2, .int (nI 4), .int (nI 0), .int (nI 0), .int (nI 0), .int (nI 0), .int (nI 15)])), (qr1, Sum.inl (g 1, 18, .inr (.inr (.inr (.inr (cA (u1 uX55 i qn7) (i + 1))))))), (qr2, Sum.inl (g 1, 15, .inr (.inr (.inr (.inr (fun _ => none))))))] : va_W) ++ blk FC uX55 i) (by first | rw [chF_a hp15] | rw [chF_b hp15]) ?_
        refine g_perm (ws' := ([(a, Sum.inr (3, [.ref qr1, .ref qr2, .int (nI 4), .int (nI 0), .int (nI 0), .int (nI 0), .int (nI 0), .int (nI 15)])), (qr1, Sum.inl (g 1, 18, .inr (.inr (.inr (.inr (cA (u1 uX55 i qn7) (i + 1))))))), (qr2, Sum.inl (g 1, 15, .inr (.inr (.inr (.inr (fun _ => none))))))] : va_W) ++ (blk FC uX55 i ++ [(qn7, FC i)])) perm_last ?_
        refine g_ws (ws' := ([(a, Sum.inr (3, [.ref qr1, .ref qr2, .int (nI 4), .int (nI 0), .int (nI 0), .int (nI 0), .int (nI 0), .int (nI 15)])), (qr1, Sum.inl (g 1, 18, .inr (.inr (.inr (.inr (cA (u1 uX55 i qn7) (i + 1))))))), (qr2, Sum.inl (g 1, 15, .inr (.inr (.inr (.inr (fun _ => none))))))] : va_W) ++ blk FC (u1 uX55 i qn7) (i + 1)) (by rw [blk_s]) ?_
        refine g_widen (k := 2 + i * 1 + 1) (n := 33 + i * 9 + 9) (by omega) (by omega) ?_
        refine g_cs (ws' := ([(a, Sum.inr (3, [.ref qr1, .ref qr2, .int (nI 4), .int (nI 0), .int (nI 0), .int (nI 0), .int (nI 0), .int (nI 15)])), (qr1, Sum.inl (g 1, 18, .inr (.inr (.inr (.inr (cA (u1 uX55 i qn7) (i + 1))))))), (qr2, Sum.inl (g 1, 15, .inr (.inr (.inr (.inr (fun _ => none))))))] : va_W) ++ blk FC (u1 uX55 i qn7) (i + 1)) (lv' := [(0, .ref a), (1, .int (nI (i + 1)))]) (rfl) (rfl) ?_
        exact k55 (u1 uX55 i qn7) (trivial)

