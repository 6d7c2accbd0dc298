def KX0_init_0_0 : List (Nat × Instr × Nat) := [(0, .aload_n 0, 1)]
theorem KX0_init_0_0_d : ∀ z ∈ KX0_init_0_0, decode cX0_init z.1 = .ok z.2 := by decide +kernel
def KX0_init_4_1 : List (Nat × Instr × Nat) := [(4, .aload_n 0, 1), (5, .iconst 4, 1)]
theorem KX0_init_4_1_d : ∀ z ∈ KX0_init_4_1, decode cX0_init z.1 = .ok z.2 := by decide +kernel
def KX0_init_12_2 : List (Nat × Instr × Nat) := [(12, .aload_n 0, 1), (13, .iconst 0, 1)]
theorem KX0_init_12_2_d : ∀ z ∈ KX0_init_12_2, decode cX0_init z.1 = .ok z.2 := by decide +kernel
def KX0_init_17_3 : List (Nat × Instr × Nat) := [(17, .aload_n 0, 1), (18, .iconst 0, 1)]
theorem KX0_init_17_3_d : ∀ z ∈ KX0_init_17_3, decode cX0_init z.1 = .ok z.2 := by decide +kernel
def KX0_init_22_4 : List (Nat × Instr × Nat) := [(22, .aload_n 0, 1), (23, .iconst 0, 1)]
theorem KX0_init_22_4_d : ∀ z ∈ KX0_init_22_4, decode cX0_init z.1 = .ok z.2 := by decide +kernel
def KX0_init_27_5 : List (Nat × Instr × Nat) := [(27, .aload_n 0, 1), (28, .aload_n 1, 1)]
theorem KX0_init_27_5_d : ∀ z ∈ KX0_init_27_5, decode cX0_init z.1 = .ok z.2 := by decide +kernel
def KX0_init_32_6 : List (Nat × Instr × Nat) := [(32, .iconst 0, 1), (33, .istore_n 2, 1)]
theorem KX0_init_32_6_d : ∀ z ∈ KX0_init_32_6, decode cX0_init z.1 = .ok z.2 := by decide +kernel
def KX0_init_34_7 : List (Nat × Instr × Nat) := [(34, .iload_n 2, 1), (35, .iconst 4, 1)]
theorem KX0_init_34_7_d : ∀ z ∈ KX0_init_34_7, decode cX0_init z.1 = .ok z.2 := by decide +kernel
def KX0_init_39_8 : List (Nat × Instr × Nat) := [(39, .aload_n 0, 1)]
theorem KX0_init_39_8_d : ∀ z ∈ KX0_init_39_8, decode cX0_init z.1 = .ok z.2 := by decide +kernel
def KX0_init_43_9 : List (Nat × Instr × Nat) := [(43, .iload_n 2, 1)]
theorem KX0_init_43_9_d : ∀ z ∈ KX0_init_43_9, decode cX0_init z.1 = .ok z.2 := by decide +kernel
def KX0_init_47_10 : List (Nat × Instr × Nat) := [(47, .dup, 1), (48, .iload_n 2, 1)]
theorem KX0_init_47_10_d : ∀ z ∈ KX0_init_47_10, decode cX0_init z.1 = .ok z.2 := by decide +kernel
def KX0_init_53_11 : List (Nat × Instr × Nat) := [(53, .iinc 2 1, 3), (56, .goto (-22), 3)]
theorem KX0_init_53_11_d : ∀ z ∈ KX0_init_53_11, decode cX0_init z.1 = .ok z.2 := by decide +kernel
set_option maxHeartbeats 4000000 in
set_option maxRecDepth 100000 in
theorem c_X0_init (l : Launch) (D : va_G) (g : Nat → ClassId) (a : Nat) (mm : Nat) : CT l yX0_init cX0_init 3 ((Option.none : Option Jvm.ClassFile.FieldType)) ({ frames := 2, cells := 5, slots := 24, locals := 41 } : Room) [.ref a, .ref mm] D CL (TYS g) ([]) ([(a, Sum.inr (0, [.null, .int 0, .int 0, .int 0, .null]))]) (S := Nat × (Nat → Nat)) (fun _ => none) (fun u => [(a, Sum.inr (0, [.ref u.1, .int (nI 0), .int (nI 0), .int (nI 0), .ref mm])), (u.1, Sum.inl (g 2, 4, .inr (.inr (.inr (.inr (cA u.2 4))))))] ++ blk FF u.2 4) (fun _ => True) 5 24 := by
  refine ct_of (by decide +kernel) (Nat.le_of_ble_eq_true rfl) ?_
  intro p e s m below meth c A X hr hnm hSB hRO hAf
  refine g_cs (ws' := ([(a, Sum.inr (0, [.null, .int 0, .int 0, .int 0, .null]))] : va_W)) (lv' := [(0, .ref a), (1, .ref mm)]) (rfl) rfl ?_
  refine g_run X KX0_init_0_0 KX0_init_0_0_d 1 [(0, .ref a), (1, .ref mm)] [.ref a] rfl ?_
  refine g_objInit X w_130 w_39 w_40 (Nat.le_of_ble_eq_true rfl) (Nat.le_of_ble_eq_true rfl) (Nat.le_of_ble_eq_true rfl) dX0_init_1 ?_
  refine g_run X KX0_init_4_1 KX0_init_4_1_d 6 [(0, .ref a), (1, .ref mm)] [.int (nI 4), .ref a] rfl ?_
  refine g_newq X hAf 2 rfl w_131 (X.nw (nw_in n_132 rfl)) 4 rfl (by decide) (Nat.le_of_ble_eq_true rfl) (Nat.le_of_ble_eq_true rfl) dX0_init_6 (fun qr1 => ?_)
  refine g_af (ws' := (([(a, Sum.inr (0, [.null, .int 0, .int 0, .int 0, .null]))] : va_W)) ++ [(qr1, Sum.inl (g 2, 4, .inr (.inr (.inr (.inr (fun _ => none))))))]) (st' := [.ref qr1, .ref a]) (cells' := 1) (slots' := 4) (pc' := 9) rfl rfl rfl rfl rfl ?_
  refine g_perm (ws' := ([(qr1, Sum.inl (g 2, 4, .inr (.inr (.inr (.inr (fun _ => none)))))), (a, Sum.inr (0, [.null, .int 0, .int 0, .int 0, .null]))] : va_W)) (List.perm_append_comm (l₁ := ([(qr1, Sum.inl (g 2, 4, .inr (.inr (.inr (.inr (fun _ => none))))))] : va_W))) ?_
  refine g_putF X (ws' := ([(qr1, Sum.inl (g 2, 4, .inr (.inr (.inr (.inr (fun _ => none)))))), (a, Sum.inr (0, [.ref qr1, .int 0, .int 0, .int 0, .null]))] : va_W)) hinX0 tyX0 tyX0_ok nmX0 rfl 0 (by decide) w_164 rfl rfl hnm rfl (ty := tyX0 0) (tyX0_ok 0 (by decide)) rfl rfl (1) (rfl) (Nat.le_of_ble_eq_true rfl) (rfl) dX0_init_9 ?_
  refine g_run X KX0_init_12_2 KX0_init_12_2_d 14 [(0, .ref a), (1, .ref mm)] [.int (nI 0), .ref a] rfl ?_
  refine g_put X (ws' := ([(qr1, Sum.inl (g 2, 4, .inr (.inr (.inr (.inr (fun _ => none)))))), (a, Sum.inr (0, [.ref qr1, .int (nI 0), .int 0, .int 0, .null]))] : va_W)) hinX0 tyX0 tyX0_ok nmX0 rfl 1 (by decide) w_166 rfl rfl (ty := .int) rfl rfl rfl (1) (rfl) (Nat.le_of_ble_eq_true rfl) (rfl) dX0_init_14 ?_
  refine g_run X KX0_init_17_3 KX0_init_17_3_d 19 [(0, .ref a), (1, .ref mm)] [.int (nI 0), .ref a] rfl ?_
  refine g_put X (ws' := ([(qr1, Sum.inl (g 2, 4, .inr (.inr (.inr (.inr (fun _ => none)))))), (a, Sum.inr (0, [.ref qr1, .int (nI 0), .int (nI 0), .int 0, .null]))] : va_W)) hinX0 tyX0 tyX0_ok nmX0 rfl 2 (by decide) w_168 rfl rfl (ty := .int) rfl rfl rfl (1) (rfl) (Nat.le_of_ble_eq_true rfl) (rfl) dX0_init_19 ?_
  refine g_run X KX0_init_22_4 KX0_init_22_4_d 24 [(0, .ref a), (1, .ref mm)] [.int (nI 0), .ref a] rfl ?_
  refine g_put X (ws' := ([(qr1, Sum.inl (g 2, 4, .inr (.inr (.inr (.inr (fun _ => none)))))), (a, Sum.inr (0, [.ref qr1, .int (nI 0), .int (nI 0), .int (nI 0), .null]))] : va_W)) hinX0 tyX0 tyX0_ok nmX0 rfl 3 (by decide) w_170 rfl rfl (ty := .int) rfl rfl rfl (1) (rfl) (Nat.le_of_ble_eq_true rfl) (rfl) dX0_init_24 ?_
  refine g_run X KX0_init_27_5 KX0_init_27_5_d 29 [(0, .ref a), (1, .ref mm)] [.ref mm, .ref a] rfl ?_
  refine g_putF X (ws' := ([(qr1, Sum.inl (g 2, 4, .inr (.inr (.inr (.inr (fun _ => none)))))), (a, Sum.inr (0, [.ref qr1, .int (nI 0), .int (nI 0), .int (nI 0), .ref mm]))] : va_W)) hinX0 tyX0 tyX0_ok nmX0 rfl 4 (by decide) w_171 rfl rfl hnm rfl (ty := tyX0 4) (tyX0_ok 4 (by decide)) rfl rfl (1) (rfl) (Nat.le_of_ble_eq_true rfl) (rfl) dX0_init_29 ?_
  refine g_perm (ws' := ([(a, Sum.inr (0, [.ref qr1, .int (nI 0), .int (nI 0), .int (nI 0), .ref mm])), (qr1, Sum.inl (g 2, 4, .inr (.inr (.inr (.inr (fun _ => none))))))] : va_W)) (List.Perm.swap _ _ []) ?_
  refine g_ws (ws' := ([(a, Sum.inr (0, [.ref qr1, .int (nI 0), .int (nI 0), .int (nI 0), .ref mm])), (qr1, Sum.inl (g 2, 4, .inr (.inr (.inr (.inr (cA (fun _ => 0) 0))))))] : va_W) ++ blk FF (fun _ => 0) 0) (by rw [← cA_0, blk_0, List.append_nil]) ?_
  refine g_run X KX0_init_32_6 KX0_init_32_6_d 34 [(2, .int (nI 0)), (0, .ref a), (1, .ref mm)] [] rfl ?_
  refine g_lv (lv' := [(0, .ref a), (1, .ref mm), (2, .int (nI 0))]) (lsub_c 1 rfl (lsub_c 2 rfl (lsub_c 0 rfl (lsub_n)))) ?_
  refine g_forX (σ := Nat → Nat) 4 (fun uX34 i => ([(a, Sum.inr (0, [.ref qr1, .int (nI 0), .int (nI 0), .int (nI 0), .ref mm])), (qr1, Sum.inl (g 2, 4, .inr (.inr (.inr (.inr (cA uX34 i))))))] : va_W) ++ blk FF uX34 i) (fun i => [(0, .ref a), (1, .ref mm), (2, .int (nI i))]) (fun uX34 i => True) 1 5 (fun _ => 0) (trivial) (rfl) (rfl) ?_ ?_
  · intro uX34 hP34
    refine g_widen (k := 5) (n := 24) (Nat.le_of_ble_eq_true rfl) (Nat.le_of_ble_eq_true rfl) ?_
    refine g_run X KX0_init_34_7 KX0_init_34_7_d 36 [(0, .ref a), (1, .ref mm), (2, .int (nI 4))] [.int (nI 4), .int (nI 4)] rfl ?_
    refine g_icmp_ge X 59 dX0_init_36 (by decide) (fun hc2 => ?_) (fun hc2 => ?_)
    · exact g_vret X hr (qr1, uX34) rfl (trivial) (rfl) (Nat.le_of_ble_eq_true rfl) (Nat.le_of_ble_eq_true rfl) dX0_init_59
    · rw [nI_leI (by omega) (by omega)] at hc2; first | omega | (simp at hc2)
  · intro i hi uX34 hP34 k34
    refine g_run X KX0_init_34_7 KX0_init_34_7_d 36 [(0, .ref a), (1, .ref mm), (2, .int (nI i))] [.int (nI 4), .int (nI i)] rfl ?_
    refine g_icmp_ge X 59 dX0_init_36 (by decide) (fun hc3 => ?_) (fun hc3 => ?_)
    · rw [nI_leI (by omega) (by omega)] at hc3; first | omega | (simp at hc3)
    · refine g_run X KX0_init_39_8 KX0_init_39_8_d 40 [(0, .ref a), (1, .ref mm), (2, .int (nI i))] [.ref a] rfl ?_
      refine g_get X srcW (v := .ref qr1) hinX0 rfl 0 (by decide) w_164 rfl (List.mem_of_getElem? (i := 0) rfl) rfl dX0_init_40 ?_
      refine g_run X KX0_init_43_9 KX0_init_43_9_d 44 [(0, .ref a), (1, .ref mm), (2, .int (nI i))] [.int (nI i), .ref qr1] rfl ?_
      refine g_new X hAf (ci := 2) hinX3 tyX3 tyX3_ok w_131 w_133 w_5 rfl (fs := [.int 0, .int 0, .long 0, .int 0, .int 0]) (by decide) (by show (1 + i * 1) + 1 ≤ 5; omega) (by show (4 + i * 5) + 5 ≤ 24; omega) dX0_init_44 (fun qn4 => ?_)
      refine g_af (ws' := (([(a, Sum.inr (0, [.ref qr1, .int (nI 0), .int (nI 0), .int (nI 0), .ref mm])), (qr1, Sum.inl (g 2, 4, .inr (.inr (.inr (.inr (cA uX34 i))))))] : va_W) ++ blk FF uX34 i) ++ [(qn4, Sum.inr (2, [.int 0, .int 0, .long 0, .int 0, .int 0]))]) (st' := [.ref qn4, .int (nI i), .ref qr1]) (cells' := 1 + i * 1 + 1) (slots' := 4 + i * 5 + 5) (pc' := 47) rfl rfl rfl rfl rfl ?_
      refine g_perm (ws' := ([(qn4, Sum.inr (2, [.int 0, .int 0, .long 0, .int 0, .int 0])), (a, Sum.inr (0, [.ref qr1, .int (nI 0), .int (nI 0), .int (nI 0), .ref mm])), (qr1, Sum.inl (g 2, 4, .inr (.inr (.inr (.inr (cA uX34 i))))))] : va_W) ++ blk FF uX34 i) (List.perm_append_comm (l₁ := ([(qn4, Sum.inr (2, [.int 0, .int 0, .long 0, .int 0, .int 0]))] : va_W))) ?_
      refine g_run X KX0_init_47_10 KX0_init_47_10_d 49 [(0, .ref a), (1, .ref mm), (2, .int (nI i))] [.int (nI i), .ref qn4, .ref qn4, .int (nI i), .ref qr1] rfl ?_
      refine g_callI X hSB hAf (As := [.int (nI i)]) (wr := ([(a, Sum.inr (0, [.ref qr1, .int (nI 0), .int (nI 0), .int (nI 0), .ref mm])), (qr1, Sum.inl (g 2, 4, .inr (.inr (.inr (.inr (cA uX34 i))))))] : va_W) ++ blk FF uX34 i) (n := 1) (c_X3_init l D g qn4 i ) rfl srcN hrdN w_136 w_134 w_135 rfl w_5 (by decide +kernel) rfl ⟨Nat.le_of_ble_eq_true rfl, Nat.le_of_ble_eq_true rfl⟩ rfl rfl rfl (Nat.le_of_ble_eq_true rfl) ⟨by show (1 + i * 1 + 1) + 0 ≤ 5; omega, by show (4 + i * 5 + 5) + 0 ≤ 24; omega⟩ dX0_init_49 (fun hu5 _ => ?_)
      refine g_af (ws' := ([(qn4, Sum.inr (2, [.int (nI i), .int (-nI 1), .long (-1 : Int64), .int (nI 0), .int (nI 0)])), (a, Sum.inr (0, [.ref qr1, .int (nI 0), .int (nI 0), .int (nI 0), .ref mm])), (qr1, Sum.inl (g 2, 4, .inr (.inr (.inr (.inr (cA uX34 i))))))] : va_W) ++ blk FF uX34 i) (st' := [.ref qn4, .int (nI i), .ref qr1]) (cells' := 1 + i * 1 + 1 + 0) (slots' := 4 + i * 5 + 5 + 0) (pc' := 52) rfl rfl rfl rfl rfl ?_
      refine g_aast X (ws' := ([(qn4, Sum.inr (2, [.int (nI i), .int (-nI 1), .long (-1 : Int64), .int (nI 0), .int (nI 0)])), (a, Sum.inr (0, [.ref qr1, .int (nI 0), .int (nI 0), .int (nI 0), .ref mm])), (qr1, Sum.inl (g 2, 4, .inr (.inr (.inr (.inr (cA (u1 uX34 i qn4) (i + 1)))))))] : va_W) ++ blk FF uX34 i) (r := CL[2]) 2 rfl 2 rfl (List.mem_of_getElem? (i := 0) rfl) rfl i rfl (by omega) (by decide) (by rw [cA_s]; rfl) dX0_init_52 ?_
      refine g_run X KX0_init_53_11 KX0_init_53_11_d 34 [(2, .int ((nI i) + (nI 1))), (0, .ref a), (1, .ref mm)] [] rfl ?_
      refine g_nm (lv' := [(2, .int (nI (i + 1))), (0, .ref a), (1, .ref mm)]) (st' := []) (by simp only [nI_add]) (by simp only [nI_add]) ?_
      refine g_lv (lv' := [(0, .ref a), (1, .ref mm), (2, .int (nI (i + 1)))]) (lsub_c 1 rfl (lsub_c 2 rfl (lsub_c 0 rfl (lsub_n)))) ?_
      refine g_ws (ws' := ([(qn4, FF i), (a, Sum.inr (0, [.ref qr1, .int (nI 0), .int (nI 0), .int (nI 0), .ref mm])), (qr1, Sum.inl (g 2, 4, .inr (.inr (.inr (.inr (cA (u1 uX34 i qn4) (i + 1)))))))] : va_W) ++ blk FF uX34 i) (by rw [frF_a]) ?_
      refine g_perm (ws' := ([(a, Sum.inr (0, [.ref qr1, .int (nI 0), .int (nI 0), .int (nI 0), .ref mm])), (qr1, Sum.inl (g 2, 4, .inr (.inr (.inr (.inr (cA (u1 uX34 i qn4) (i + 1)))))))] : va_W) ++ (blk FF uX34 i ++ [(qn4, FF i)])) perm_last ?_
      refine g_ws (ws' := ([(a, Sum.inr (0, [.ref qr1, .int (nI 0), .int (nI 0), .int (nI 0), .ref mm])), (qr1, Sum.inl (g 2, 4, .inr (.inr (.inr (.inr (cA (u1 uX34 i qn4) (i + 1)))))))] : va_W) ++ blk FF (u1 uX34 i qn4) (i + 1)) (by rw [blk_s]) ?_
      refine g_widen (k := 1 + i * 1 + 1) (n := 4 + i * 5 + 5) (by omega) (by omega) ?_
      refine g_cs (ws' := ([(a, Sum.inr (0, [.ref qr1, .int (nI 0), .int (nI 0), .int (nI 0), .ref mm])), (qr1, Sum.inl (g 2, 4, .inr (.inr (.inr (.inr (cA (u1 uX34 i qn4) (i + 1)))))))] : va_W) ++ blk FF (u1 uX34 i qn4) (i + 1)) (lv' := [(0, .ref a), (1, .ref mm), (2, .int (nI (i + 1)))]) (rfl) (rfl) ?_
      exact k34 (u1 uX34 i qn4) (trivial)

