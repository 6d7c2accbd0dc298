def KJx4a65c_add_72be8_0_0 : List (Nat × Instr × Nat) := [(0, .iload_n 3, 1), (1, .aload_n 2, 1)]
theorem KJx4a65c_add_72be8_0_0_d : ∀ z ∈ KJx4a65c_add_72be8_0_0, decode cJx4a65c_add_72be8 z.1 = .ok z.2 := by decide +kernel
def KJx4a65c_add_72be8_6_1 : List (Nat × Instr × Nat) := [(6, .aload_n 0, 1)]
theorem KJx4a65c_add_72be8_6_1_d : ∀ z ∈ KJx4a65c_add_72be8_6_1, decode cJx4a65c_add_72be8 z.1 = .ok z.2 := by decide +kernel
def KJx4a65c_add_72be8_10_2 : List (Nat × Instr × Nat) := [(10, .astore_n 2, 1), (11, .aload_n 2, 1), (12, .iload_n 3, 1), (13, .aload_n 1, 1)]
theorem KJx4a65c_add_72be8_10_2_d : ∀ z ∈ KJx4a65c_add_72be8_10_2, decode cJx4a65c_add_72be8 z.1 = .ok z.2 := by decide +kernel
def KJx4a65c_add_72be8_15_3 : List (Nat × Instr × Nat) := [(15, .aload_n 0, 1), (16, .iload_n 3, 1), (17, .iconst 1, 1), (18, .iadd, 1)]
theorem KJx4a65c_add_72be8_15_3_d : ∀ z ∈ KJx4a65c_add_72be8_15_3, decode cJx4a65c_add_72be8 z.1 = .ok z.2 := by decide +kernel
set_option maxHeartbeats 4000000 in
set_option maxRecDepth 100000 in
theorem c_Jx4a65c_add_72be8_f (l : Launch) (D : va_G) (g : Nat → ClassId) (t : Nat) (a : Nat) (f : Nat) : CTt t l yJx4a65c_add_72be8 cJx4a65c_add_72be8 4 ((Option.none : Option Jvm.ClassFile.FieldType)) ({ frames := 3, cells := 1, slots := 10, locals := 64 } : Room) [.ref a, .ref f, .ref t, .int (nI 0)] D CL (TYS g) ([]) ([(a, Sum.inr (9, [.int (nI 1), .ref t, .int 0])), (f, Sum.inr (7, [.int (-nI 1), .long 0, .int 0, .int 0]))]) (S := Nat) (fun _ => none) (fun u => [(a, Sum.inr (9, [.int (nI 1), .ref u, .int (nI 1)])), (u, Sum.inl (g 4, 10, .inr (.inr (.inr (.inr (va_up (fun _ => none) 0 (some f))))))), (f, Sum.inr (7, [.int (-nI 1), .long 0, .int 0, .int 0]))]) (fun _ => True) 1 10 := by
  refine ctt_of (by decide +kernel) (Nat.le_of_ble_eq_true rfl) ?_
  intro p e s m below meth c A X hr hnm hSB hJ hRO hAf
  refine g_cs (ws' := ([(a, Sum.inr (9, [.int (nI 1), .ref t, .int 0])), (f, Sum.inr (7, [.int (-nI 1), .long 0, .int 0, .int 0]))] : va_W)) (lv' := [(0, .ref a), (1, .ref f), (2, .ref t), (3, .int (nI 0))]) (rfl) rfl ?_
  refine g_run X KJx4a65c_add_72be8_0_0 KJx4a65c_add_72be8_0_0_d 2 [(0, .ref a), (1, .ref f), (2, .ref t), (3, .int (nI 0))] [.ref t, .int (nI 0)] rfl ?_
  refine g_tlen X hJ.2.2.1 (v := nI 0) rfl dJx4a65c_add_72be8_2 ?_
  refine g_icmp_ne X 11 dJx4a65c_add_72be8_3 (by decide) (fun hc1 => ?_) (fun hc1 => ?_)
  · exact (hc1 rfl).elim
  · refine g_run X KJx4a65c_add_72be8_6_1 KJx4a65c_add_72be8_6_1_d 7 [(0, .ref a), (1, .ref f), (2, .ref t), (3, .int (nI 0))] [.ref a] rfl ?_
    refine g_callVt X hSB hJ hAf srcW (hrc1 := (rfl : CL[9]? = some _)) (List.mem_of_getElem? (i := 0) rfl) rfl (As := []) (wr := ([(f, Sum.inr (7, [.int (-nI 1), .long 0, .int 0, .int 0]))] : va_W)) (n := 0) (c_Jx4a65c_grow_d5877 l D g t a ) rfl srcN hrdN w_1144 w_1141 w_1143 w_s10 w_9 (by decide +kernel) rfl ⟨Nat.le_of_ble_eq_true rfl, Nat.le_of_ble_eq_true rfl⟩ rfl rfl rfl (Nat.le_of_ble_eq_true rfl) ⟨Nat.le_of_ble_eq_true rfl, Nat.le_of_ble_eq_true rfl⟩ dJx4a65c_add_72be8_7 (fun hu2 _ => ?_)
    refine g_af (ws' := ([(a, Sum.inr (9, [.int (nI 1), .ref hu2, .int 0])), (hu2, Sum.inl (g 4, 10, .inr (.inr (.inr (.inr (fun _ => none)))))), (f, Sum.inr (7, [.int (-nI 1), .long 0, .int 0, .int 0]))] : va_W)) (st' := [.ref hu2]) (cells' := 1) (slots' := 10) (pc' := 10) rfl rfl rfl rfl rfl ?_
    refine g_run X KJx4a65c_add_72be8_10_2 KJx4a65c_add_72be8_10_2_d 14 [(2, .ref hu2), (0, .ref a), (1, .ref f), (3, .int (nI 0))] [.ref f, .int (nI 0), .ref hu2] rfl ?_
    refine g_aastO X (ws' := ([(a, Sum.inr (9, [.int (nI 1), .ref hu2, .int 0])), (hu2, Sum.inl (g 4, 10, .inr (.inr (.inr (.inr (va_up (fun _ => none) 0 (some f))))))), (f, Sum.inr (7, [.int (-nI 1), .long 0, .int 0, .int 0]))] : va_W)) (r := CL[7]) 4 rfl (nw_in n_1581 rfl) 1 rfl (List.mem_of_getElem? (i := 2) rfl) rfl 0 rfl (by omega) (by decide) (rfl) dJx4a65c_add_72be8_14 ?_
    refine g_run X KJx4a65c_add_72be8_15_3 KJx4a65c_add_72be8_15_3_d 19 [(2, .ref hu2), (0, .ref a), (1, .ref f), (3, .int (nI 0))] [.int ((nI 0) + (nI 1)), .ref a] rfl ?_
    refine g_nm (lv' := [(2, .ref hu2), (0, .ref a), (1, .ref f), (3, .int (nI 0))]) (st' := [.int (nI (0 + 1)), .ref a]) (by simp only [nI_add]) (by simp only [nI_add]) ?_
    refine g_put X (ws' := ([(a, Sum.inr (9, [.int (nI 1), .ref hu2, .int (nI (0 + 1))])), (hu2, Sum.inl (g 4, 10, .inr (.inr (.inr (.inr (va_up (fun _ => none) 0 (some f))))))), (f, Sum.inr (7, [.int (-nI 1), .long 0, .int 0, .int 0]))] : va_W)) hinJx4a65c tyJx4a65c tyJx4a65c_ok nmJx4a65c rfl 2 (by decide) w_1076 rfl rfl (ty := .int) rfl rfl rfl (0) (rfl) (Nat.le_of_ble_eq_true rfl) (rfl) dJx4a65c_add_72be8_19 ?_
    exact g_vret X hr hu2 rfl (trivial) (rfl) (Nat.le_of_ble_eq_true rfl) (Nat.le_of_ble_eq_true rfl) dJx4a65c_add_72be8_22

def KJx4a65c_add_9ea2d_0_0 : List (Nat × Instr × Nat) := [(0, .aload_n 0, 1), (1, .dup, 1)]
theorem KJx4a65c_add_9ea2d_0_0_d : ∀ z ∈ KJx4a65c_add_9ea2d_0_0, decode cJx4a65c_add_9ea2d z.1 = .ok z.2 := by decide +kernel
def KJx4a65c_add_9ea2d_5_1 : List (Nat × Instr × Nat) := [(5, .iconst 1, 1), (6, .iadd, 1)]
theorem KJx4a65c_add_9ea2d_5_1_d : ∀ z ∈ KJx4a65c_add_9ea2d_5_1, decode cJx4a65c_add_9ea2d z.1 = .ok z.2 := by decide +kernel
def KJx4a65c_add_9ea2d_10_2 : List (Nat × Instr × Nat) := [(10, .aload_n 0, 1), (11, .aload_n 1, 1), (12, .aload_n 0, 1)]
theorem KJx4a65c_add_9ea2d_10_2_d : ∀ z ∈ KJx4a65c_add_9ea2d_10_2, decode cJx4a65c_add_9ea2d z.1 = .ok z.2 := by decide +kernel
def KJx4a65c_add_9ea2d_16_3 : List (Nat × Instr × Nat) := [(16, .aload_n 0, 1)]
theorem KJx4a65c_add_9ea2d_16_3_d : ∀ z ∈ KJx4a65c_add_9ea2d_16_3, decode cJx4a65c_add_9ea2d z.1 = .ok z.2 := by decide +kernel
def KJx4a65c_add_9ea2d_23_4 : List (Nat × Instr × Nat) := [(23, .iconst 1, 1)]
theorem KJx4a65c_add_9ea2d_23_4_d : ∀ z ∈ KJx4a65c_add_9ea2d_23_4, decode cJx4a65c_add_9ea2d z.1 = .ok z.2 := by decide +kernel
set_option maxHeartbeats 4000000 in
set_option maxRecDepth 100000 in
theorem c_Jx4a65c_add_9ea2d_f (l : Launch) (D : va_G) (g : Nat → ClassId) (t : Nat) (a : Nat) (f : Nat) : CTt t l yJx4a65c_add_9ea2d cJx4a65c_add_9ea2d 2 ((Option.some FieldType.boolean)) ({ frames := 4, cells := 1, slots := 10, locals := 87 } : Room) [.ref a, .ref f] D CL (TYS g) ([]) ([(a, Sum.inr (9, [.int (nI 0), .ref t, .int 0])), (f, Sum.inr (7, [.int (-nI 1), .long 0, .int 0, .int 0]))]) (S := Nat) (fun _ => some (.int (nI 1))) (fun u => [(a, Sum.inr (9, [.int (nI 1), .ref u, .int (nI 1)])), (u, Sum.inl (g 4, 10, .inr (.inr (.inr (.inr (va_up (fun _ => none) 0 (some f))))))), (f, Sum.inr (7, [.int (-nI 1), .long 0, .int 0, .int 0]))]) (fun _ => True) 1 10 := by
  refine ctt_of (by decide +kernel) (Nat.le_of_ble_eq_true rfl) ?_
  intro p e s m below meth c A X hr hnm hSB hJ hRO hAf
  refine g_cs (ws' := ([(a, Sum.inr (9, [.int (nI 0), .ref t, .int 0])), (f, Sum.inr (7, [.int (-nI 1), .long 0, .int 0, .int 0]))] : va_W)) (lv' := [(0, .ref a), (1, .ref f)]) (rfl) rfl ?_
  refine g_run X KJx4a65c_add_9ea2d_0_0 KJx4a65c_add_9ea2d_0_0_d 2 [(0, .ref a), (1, .ref f)] [.ref a, .ref a] rfl ?_
  refine g_getS X srcW (v := .int (nI 0)) hinJx4a65c rfl 0 (by decide) w_1078 w_1079 (List.mem_of_getElem? (i := 0) rfl) rfl dJx4a65c_add_9ea2d_2 ?_
  refine g_run X KJx4a65c_add_9ea2d_5_1 KJx4a65c_add_9ea2d_5_1_d 7 [(0, .ref a), (1, .ref f)] [.int ((nI 0) + (nI 1)), .ref a] rfl ?_
  refine g_nm (lv' := [(0, .ref a), (1, .ref f)]) (st' := [.int (nI (0 + 1)), .ref a]) (by simp only [nI_add]) (by simp only [nI_add]) ?_
  refine g_putS X (ws' := ([(a, Sum.inr (9, [.int (nI (0 + 1)), .ref t, .int 0])), (f, Sum.inr (7, [.int (-nI 1), .long 0, .int 0, .int 0]))] : va_W)) hinJx4a65c tyJx4a65c tyJx4a65c_ok nmJx4a65c rfl 0 (by decide) w_1078 w_1079 rfl (ty := .int) rfl rfl rfl (0) (rfl) (Nat.le_of_ble_eq_true rfl) (rfl) dJx4a65c_add_9ea2d_7 ?_
  refine g_run X KJx4a65c_add_9ea2d_10_2 KJx4a65c_add_9ea2d_10_2_d 13 [(0, .ref a), (1, .ref f)] [.ref a, .ref f, .ref a] rfl ?_
  refine g_get X srcW (v := .ref t) hinJx4a65c rfl 1 (by decide) w_1075 rfl (List.mem_of_getElem? (i := 0) rfl) rfl dJx4a65c_add_9ea2d_13 ?_
  refine g_run X KJx4a65c_add_9ea2d_16_3 KJx4a65c_add_9ea2d_16_3_d 17 [(0, .ref a), (1, .ref f)] [.ref a, .ref t, .ref f, .ref a] rfl ?_
  refine g_get X srcW (v := .int 0) hinJx4a65c rfl 2 (by decide) w_1076 rfl (List.mem_of_getElem? (i := 0) rfl) rfl dJx4a65c_add_9ea2d_17 ?_
  refine g_st (st' := [.int (nI 0), .ref t, .ref f, .ref a]) (rfl) ?_
  refine g_callVt X hSB hJ hAf srcW (hrc1 := (rfl : CL[9]? = some _)) (List.mem_of_getElem? (i := 0) rfl) rfl (As := [.ref f, .ref t, .int (nI 0)]) (wr := ([] : va_W)) (n := 3) (c_Jx4a65c_add_72be8_f l D g t a f ) rfl srcN hrdN w_1140 w_1137 w_1139 w_s9 w_9 (by decide +kernel) rfl ⟨Nat.le_of_ble_eq_true rfl, Nat.le_of_ble_eq_true rfl⟩ rfl rfl rfl (Nat.le_of_ble_eq_true rfl) ⟨Nat.le_of_ble_eq_true rfl, Nat.le_of_ble_eq_true rfl⟩ dJx4a65c_add_9ea2d_20 (fun hu1 _ => ?_)
  refine g_af (ws' := ([(a, Sum.inr (9, [.int (nI 1), .ref hu1, .int (nI 1)])), (hu1, Sum.inl (g 4, 10, .inr (.inr (.inr (.inr (va_up (fun _ => none) 0 (some f))))))), (f, Sum.inr (7, [.int (-nI 1), .long 0, .int 0, .int 0]))] : va_W)) (st' := []) (cells' := 1) (slots' := 10) (pc' := 23) rfl rfl rfl rfl rfl ?_
  refine g_run X KJx4a65c_add_9ea2d_23_4 KJx4a65c_add_9ea2d_23_4_d 24 [(0, .ref a), (1, .ref f)] [.int (nI 1)] rfl ?_
  exact g_zret X hr (by decide +kernel) hu1 (rfl) (trivial) (rfl) (Nat.le_of_ble_eq_true rfl) (Nat.le_of_ble_eq_true rfl) dJx4a65c_add_9ea2d_24

def KJx4a65c_add_72be8_11_4 : List (Nat × Instr × Nat) := [(11, .aload_n 2, 1), (12, .iload_n 3, 1), (13, .aload_n 1, 1)]
theorem KJx4a65c_add_72be8_11_4_d : ∀ z ∈ KJx4a65c_add_72be8_11_4, decode cJx4a65c_add_72be8 z.1 = .ok z.2 := by decide +kernel
set_option maxHeartbeats 4000000 in
set_option maxRecDepth 100000 in
theorem c_Jx4a65c_add_72be8_n (l : Launch) (D : va_G) (g : Nat → ClassId) (t : Nat) (a : Nat) (f : Nat) (q : Nat) (k : Nat) (fn : Nat → Option Nat) (hk : k < 9) : CTt t l yJx4a65c_add_72be8 cJx4a65c_add_72be8 4 ((Option.none : Option Jvm.ClassFile.FieldType)) ({ frames := 0, cells := 0, slots := 0, locals := 0 } : Room) [.ref a, .ref f, .ref q, .int (nI k)] D CL (TYS g) ([]) ([(a, Sum.inr (9, [.int (nI (k + 1)), .ref q, .int (nI k)])), (q, Sum.inl (g 4, 10, .inr (.inr (.inr (.inr fn))))), (f, Sum.inr (7, [.int (-nI 1), .long 0, .int 0, .int 0]))]) (S := Unit) (fun _ => none) (fun u => [(a, Sum.inr (9, [.int (nI (k + 1)), .ref q, .int (nI (k + 1))])), (q, Sum.inl (g 4, 10, .inr (.inr (.inr (.inr (va_up fn k (some f))))))), (f, Sum.inr (7, [.int (-nI 1), .long 0, .int 0, .int 0]))]) (fun _ => True) 0 0 := by
  refine ctt_of (by decide +kernel) (Nat.le_of_ble_eq_true rfl) ?_
  intro p e s m below meth c A X hr hnm hSB hJ hRO hAf
  refine g_cs (ws' := ([(a, Sum.inr (9, [.int (nI (k + 1)), .ref q, .int (nI k)])), (q, Sum.inl (g 4, 10, .inr (.inr (.inr (.inr fn))))), (f, Sum.inr (7, [.int (-nI 1), .long 0, .int 0, .int 0]))] : va_W)) (lv' := [(0, .ref a), (1, .ref f), (2, .ref q), (3, .int (nI k))]) (rfl) rfl ?_
  refine g_run X KJx4a65c_add_72be8_0_0 KJx4a65c_add_72be8_0_0_d 2 [(0, .ref a), (1, .ref f), (2, .ref q), (3, .int (nI k))] [.ref q, .int (nI k)] rfl ?_
  refine g_alen X srcW (v := nI 10) 4 rfl (List.mem_of_getElem? (i := 1) rfl) rfl dJx4a65c_add_72be8_2 ?_
  refine g_icmp_ne X 11 dJx4a65c_add_72be8_3 (by decide) (fun hc1 => ?_) (fun hc1 => ?_)
  · refine g_run X KJx4a65c_add_72be8_11_4 KJx4a65c_add_72be8_11_4_d 14 [(0, .ref a), (1, .ref f), (2, .ref q), (3, .int (nI k))] [.ref f, .int (nI k), .ref q] rfl ?_
    refine g_aastO X (ws' := ([(a, Sum.inr (9, [.int (nI (k + 1)), .ref q, .int (nI k)])), (q, Sum.inl (g 4, 10, .inr (.inr (.inr (.inr (va_up fn k (some f))))))), (f, Sum.inr (7, [.int (-nI 1), .long 0, .int 0, .int 0]))] : va_W)) (r := CL[7]) 4 rfl (nw_in n_1581 rfl) 1 rfl (List.mem_of_getElem? (i := 2) rfl) rfl k rfl (by omega) (by decide) (rfl) dJx4a65c_add_72be8_14 ?_
    refine g_run X KJx4a65c_add_72be8_15_3 KJx4a65c_add_72be8_15_3_d 19 [(0, .ref a), (1, .ref f), (2, .ref q), (3, .int (nI k))] [.int ((nI k) + (nI 1)), .ref a] rfl ?_
    refine g_nm (lv' := [(0, .ref a), (1, .ref f), (2, .ref q), (3, .int (nI k))]) (st' := [.int (nI (k + 1)), .ref a]) (by simp only [nI_add]) (by simp only [nI_add]) ?_
    refine g_put X (ws' := ([(a, Sum.inr (9, [.int (nI (k + 1)), .ref q, .int (nI (k + 1))])), (q, Sum.inl (g 4, 10, .inr (.inr (.inr (.inr (va_up fn k (some f))))))), (f, Sum.inr (7, [.int (-nI 1), .long 0, .int 0, .int 0]))] : va_W)) hinJx4a65c tyJx4a65c tyJx4a65c_ok nmJx4a65c rfl 2 (by decide) w_1076 rfl rfl (ty := .int) rfl rfl rfl (0) (rfl) (Nat.le_of_ble_eq_true rfl) (rfl) dJx4a65c_add_72be8_19 ?_
    exact g_vret X hr () rfl (trivial) (rfl) (Nat.le_of_ble_eq_true rfl) (Nat.le_of_ble_eq_true rfl) dJx4a65c_add_72be8_22
  · rw [nI_eq (by omega) (by omega)] at hc1; first | omega | (simp at hc1)

set_option maxHeartbeats 4000000 in
set_option maxRecDepth 100000 in
theorem c_Jx4a65c_add_9ea2d_n (l : Launch) (D : va_G) (g : Nat → ClassId) (t : Nat) (a : Nat) (f : Nat) (q : Nat) (k : Nat) (fn : Nat → Option Nat) (hk : k < 9) : CTt t l yJx4a65c_add_9ea2d cJx4a65c_add_9ea2d 2 ((Option.some FieldType.boolean)) ({ frames := 1, cells := 0, slots := 0, locals := 23 } : Room) [.ref a, .ref f] D CL (TYS g) ([]) ([(a, Sum.inr (9, [.int (nI k), .ref q, .int (nI k)])), (q, Sum.inl (g 4, 10, .inr (.inr (.inr (.inr fn))))), (f, Sum.inr (7, [.int (-nI 1), .long 0, .int 0, .int 0]))]) (S := Unit) (fun _ => some (.int (nI 1))) (fun u => [(a, Sum.inr (9, [.int (nI (k + 1)), .ref q, .int (nI (k + 1))])), (q, Sum.inl (g 4, 10, .inr (.inr (.inr (.inr (va_up fn k (some f))))))), (f, Sum.inr (7, [.int (-nI 1), .long 0, .int 0, .int 0]))]) (fun _ => True) 0 0 := by
  refine ctt_of (by decide +kernel) (Nat.le_of_ble_eq_true rfl) ?_
  intro p e s m below meth c A X hr hnm hSB hJ hRO hAf
  refine g_cs (ws' := ([(a, Sum.inr (9, [.int (nI k), .ref q, .int (nI k)])), (q, Sum.inl (g 4, 10, .inr (.inr (.inr (.inr fn))))), (f, Sum.inr (7, [.int (-nI 1), .long 0, .int 0, .int 0]))] : va_W)) (lv' := [(0, .ref a), (1, .ref f)]) (rfl) rfl ?_
  refine g_run X KJx4a65c_add_9ea2d_0_0 KJx4a65c_add_9ea2d_0_0_d 2 [(0, .ref a), (1, .ref f)] [.ref a, .ref a] rfl ?_
  refine g_getS X srcW (v := .int (nI k)) hinJx4a65c rfl 0 (by decide) w_1078 w_1079 (List.mem_of_getElem? (i := 0) rfl) rfl dJx4a65c_add_9ea2d_2 ?_
  refine g_run X KJx4a65c_add_9ea2d_5_1 KJx4a65c_add_9ea2d_5_1_d 7 [(0, .ref a), (1, .ref f)] [.int ((nI k) + (nI 1)), .ref a] rfl ?_
  refine g_nm (lv' := [(0, .ref a), (1, .ref f)]) (st' := [.int (nI (k + 1)), .ref a]) (by simp only [nI_add]) (by simp only [nI_add]) ?_
  refine g_putS X (ws' := ([(a, Sum.inr (9, [.int (nI (k + 1)), .ref q, .int (nI k)])), (q, Sum.inl (g 4, 10, .inr (.inr (.inr (.inr fn))))), (f, Sum.inr (7, [.int (-nI 1), .long 0, .int 0, .int 0]))] : va_W)) hinJx4a65c tyJx4a65c tyJx4a65c_ok nmJx4a65c rfl 0 (by decide) w_1078 w_1079 rfl (ty := .int) rfl rfl rfl (0) (rfl) (Nat.le_of_ble_eq_true rfl) (rfl) dJx4a65c_add_9ea2d_7 ?_
  refine g_run X KJx4a65c_add_9ea2d_10_2 KJx4a65c_add_9ea2d_10_2_d 13 [(0, .ref a), (1, .ref f)] [.ref a, .ref f, .ref a] rfl ?_
  refine g_get X srcW (v := .ref q) hinJx4a65c rfl 1 (by decide) w_1075 rfl (List.mem_of_getElem? (i := 0) rfl) rfl dJx4a65c_add_9ea2d_13 ?_
  refine g_run X KJx4a65c_add_9ea2d_16_3 KJx4a65c_add_9ea2d_16_3_d 17 [(0, .ref a), (1, .ref f)] [.ref a, .ref q, .ref f, .ref a] rfl ?_
  refine g_get X srcW (v := .int (nI k)) hinJx4a65c rfl 2 (by decide) w_1076 rfl (List.mem_of_getElem? (i := 0) rfl) rfl dJx4a65c_add_9ea2d_17 ?_
  refine g_callVt X hSB hJ hAf srcW (hrc1 := (rfl : CL[9]? = some _)) (List.mem_of_getElem? (i := 0) rfl) rfl (As := [.ref f, .ref q, .int (nI k)]) (wr := ([] : va_W)) (n := 3) (c_Jx4a65c_add_72be8_n l D g t a f q k fn (by omega)) rfl srcN hrdN w_1140 w_1137 w_1139 w_s9 w_9 (by decide +kernel) rfl ⟨Nat.le_of_ble_eq_true rfl, Nat.le_of_ble_eq_true rfl⟩ rfl rfl rfl (Nat.le_of_ble_eq_true rfl) ⟨Nat.le_of_ble_eq_true rfl, Nat.le_of_ble_eq_true rfl⟩ dJx4a65c_add_9ea2d_20 (fun hu1 _ => ?_)
  refine g_af (ws' := ([(a, Sum.inr (9, [.int (nI (k + 1)), .ref q, .int (nI (k + 1))])), (q, Sum.inl (g 4, 10, .inr (.inr (.inr (.inr (va_up fn k (some f))))))), (f, Sum.inr (7, [.int (-nI 1), .long 0, .int 0, .int 0]))] : va_W)) (st' := []) (cells' := 0) (slots' := 0) (pc' := 23) rfl rfl rfl rfl rfl ?_
  refine g_run X KJx4a65c_add_9ea2d_23_4 KJx4a65c_add_9ea2d_23_4_d 24 [(0, .ref a), (1, .ref f)] [.int (nI 1)] rfl ?_
  exact g_zret X hr (by decide +kernel) () (rfl) (trivial) (rfl) (Nat.le_of_ble_eq_true rfl) (Nat.le_of_ble_eq_true rfl) dJx4a65c_add_9ea2d_24

