def KJ1_equals_b5fdf_0_0 : List (Nat × Instr × Nat) := [(0, .aload_n 0, 1)]
theorem KJ1_equals_b5fdf_0_0_d : ∀ z ∈ KJ1_equals_b5fdf_0_0, decode cJ1_equals_b5fdf z.1 = .ok z.2 := by decide +kernel
def KJ1_equals_b5fdf_2_1 : List (Nat × Instr × Nat) := [(2, .aload_n 1, 1)]
theorem KJ1_equals_b5fdf_2_1_d : ∀ z ∈ KJ1_equals_b5fdf_2_1, decode cJ1_equals_b5fdf z.1 = .ok z.2 := by decide +kernel
def KJ1_equals_b5fdf_7_2 : List (Nat × Instr × Nat) := [(7, .iconst 0, 1), (8, .istore_n 2, 1)]
theorem KJ1_equals_b5fdf_7_2_d : ∀ z ∈ KJ1_equals_b5fdf_7_2, decode cJ1_equals_b5fdf z.1 = .ok z.2 := by decide +kernel
def KJ1_equals_b5fdf_9_3 : List (Nat × Instr × Nat) := [(9, .iload_n 2, 1), (10, .aload_n 0, 1)]
theorem KJ1_equals_b5fdf_9_3_d : ∀ z ∈ KJ1_equals_b5fdf_9_3, decode cJ1_equals_b5fdf z.1 = .ok z.2 := by decide +kernel
def KJ1_equals_b5fdf_32_4 : List (Nat × Instr × Nat) := [(32, .iconst 1, 1)]
theorem KJ1_equals_b5fdf_32_4_d : ∀ z ∈ KJ1_equals_b5fdf_32_4, decode cJ1_equals_b5fdf z.1 = .ok z.2 := by decide +kernel
def KJ1_equals_b5fdf_15_5 : List (Nat × Instr × Nat) := [(15, .aload_n 0, 1), (16, .iload_n 2, 1)]
theorem KJ1_equals_b5fdf_15_5_d : ∀ z ∈ KJ1_equals_b5fdf_15_5, decode cJ1_equals_b5fdf z.1 = .ok z.2 := by decide +kernel
def KJ1_equals_b5fdf_18_6 : List (Nat × Instr × Nat) := [(18, .aload_n 1, 1), (19, .iload_n 2, 1)]
theorem KJ1_equals_b5fdf_18_6_d : ∀ z ∈ KJ1_equals_b5fdf_18_6, decode cJ1_equals_b5fdf z.1 = .ok z.2 := by decide +kernel
def KJ1_equals_b5fdf_26_7 : List (Nat × Instr × Nat) := [(26, .iinc 2 1, 3), (29, .goto (-20), 3)]
theorem KJ1_equals_b5fdf_26_7_d : ∀ z ∈ KJ1_equals_b5fdf_26_7, decode cJ1_equals_b5fdf z.1 = .ok z.2 := by decide +kernel
set_option maxHeartbeats 4000000 in
set_option maxRecDepth 100000 in
theorem c_J1_equals_b5fdf (l : Launch) (D : va_G) (g : Nat → ClassId) (a : Nat) (a2 : Nat) (f : Nat → Int32) : CT l yJ1_equals_b5fdf cJ1_equals_b5fdf 3 ((Option.some FieldType.boolean)) ({ frames := 0, cells := 0, slots := 0, locals := 0 } : Room) [.ref a, .ref a2] D CL (TYS g) ([]) ([(a, Sum.inl (g 6, 15, .inl f)), (a2, Sum.inl (g 6, 15, .inl f))]) (S := Unit) (fun _ => some (.int (nI 1))) (fun u => [(a, Sum.inl (g 6, 15, .inl f)), (a2, Sum.inl (g 6, 15, .inl f))]) (fun _ => True) 0 0 := by
  refine ct_of (by decide +kernel) (Nat.le_of_ble_eq_true rfl) ?_
  intro p e s m below meth c A X hr hnm hSB hRO hAf
  refine g_cs (ws' := ([(a, Sum.inl (g 6, 15, .inl f)), (a2, Sum.inl (g 6, 15, .inl f))] : va_W)) (lv' := [(0, .ref a), (1, .ref a2)]) (rfl) rfl ?_
  refine g_run X KJ1_equals_b5fdf_0_0 KJ1_equals_b5fdf_0_0_d 1 [(0, .ref a), (1, .ref a2)] [.ref a] rfl ?_
  refine g_alen X srcW (v := nI 15) 6 rfl (List.mem_of_getElem? (i := 0) rfl) rfl dJ1_equals_b5fdf_1 ?_
  refine g_run X KJ1_equals_b5fdf_2_1 KJ1_equals_b5fdf_2_1_d 3 [(0, .ref a), (1, .ref a2)] [.ref a2, .int (nI 15)] rfl ?_
  refine g_alen X srcW (v := nI 15) 6 rfl (List.mem_of_getElem? (i := 1) rfl) rfl dJ1_equals_b5fdf_3 ?_
  refine g_icmp_ne X 34 dJ1_equals_b5fdf_4 (by decide) (fun hc1 => ?_) (fun hc1 => ?_)
  · rw [nI_eq (by omega) (by omega)] at hc1; first | omega | (simp at hc1)
  · refine g_run X KJ1_equals_b5fdf_7_2 KJ1_equals_b5fdf_7_2_d 9 [(2, .int (nI 0)), (0, .ref a), (1, .ref a2)] [] rfl ?_
    refine g_lv (lv' := [(0, .ref a), (1, .ref a2), (2, .int (nI 0))]) (lsub_c 1 rfl (lsub_c 2 rfl (lsub_c 0 rfl (lsub_n)))) ?_
    refine g_for 15 (fun _ => ([(a, Sum.inl (g 6, 15, .inl f)), (a2, Sum.inl (g 6, 15, .inl f))] : va_W)) (fun i => [(0, .ref a), (1, .ref a2), (2, .int (nI i))]) (rfl) (rfl) ?_ ?_
    · refine g_run X KJ1_equals_b5fdf_9_3 KJ1_equals_b5fdf_9_3_d 11 [(0, .ref a), (1, .ref a2), (2, .int (nI 15))] [.ref a, .int (nI 15)] rfl ?_
      refine g_alen X srcW (v := nI 15) 6 rfl (List.mem_of_getElem? (i := 0) rfl) rfl dJ1_equals_b5fdf_11 ?_
      refine g_icmp_ge X 32 dJ1_equals_b5fdf_12 (by decide) (fun hc2 => ?_) (fun hc2 => ?_)
      · refine g_run X KJ1_equals_b5fdf_32_4 KJ1_equals_b5fdf_32_4_d 33 [(0, .ref a), (1, .ref a2), (2, .int (nI 15))] [.int (nI 1)] rfl ?_
        exact g_zret X hr (by decide +kernel) () (rfl) (trivial) (rfl) (Nat.le_of_ble_eq_true rfl) (Nat.le_of_ble_eq_true rfl) dJ1_equals_b5fdf_33
      · rw [nI_leI (by omega) (by omega)] at hc2; first | omega | (simp at hc2)
    · intro i hi k9
      refine g_run X KJ1_equals_b5fdf_9_3 KJ1_equals_b5fdf_9_3_d 11 [(0, .ref a), (1, .ref a2), (2, .int (nI i))] [.ref a, .int (nI i)] rfl ?_
      refine g_alen X srcW (v := nI 15) 6 rfl (List.mem_of_getElem? (i := 0) rfl) rfl dJ1_equals_b5fdf_11 ?_
      refine g_icmp_ge X 32 dJ1_equals_b5fdf_12 (by decide) (fun hc3 => ?_) (fun hc3 => ?_)
      · rw [nI_leI (by omega) (by omega)] at hc3; first | omega | (simp at hc3)
      · refine g_run X KJ1_equals_b5fdf_15_5 KJ1_equals_b5fdf_15_5_d 17 [(0, .ref a), (1, .ref a2), (2, .int (nI i))] [.int (nI i), .ref a] rfl ?_
        refine g_bald X srcW (v := f i) 6 rfl (List.mem_of_getElem? (i := 0) rfl) i rfl (by omega) (by decide) (rfl) dJ1_equals_b5fdf_17 ?_
        refine g_run X KJ1_equals_b5fdf_18_6 KJ1_equals_b5fdf_18_6_d 20 [(0, .ref a), (1, .ref a2), (2, .int (nI i))] [.int (nI i), .ref a2, .int (f i)] rfl ?_
        refine g_bald X srcW (v := f i) 6 rfl (List.mem_of_getElem? (i := 1) rfl) i rfl (by omega) (by decide) (rfl) dJ1_equals_b5fdf_20 ?_
        refine g_icmp_eq X 26 dJ1_equals_b5fdf_21 (by decide) (fun hc4 => ?_) (fun hc4 => ?_)
        · refine g_run X KJ1_equals_b5fdf_26_7 KJ1_equals_b5fdf_26_7_d 9 [(2, .int ((nI i) + (nI 1))), (0, .ref a), (1, .ref a2)] [] rfl ?_
          refine g_nm (lv' := [(2, .int (nI (i + 1))), (0, .ref a), (1, .ref a2)]) (st' := []) (by simp only [nI_add]) (by simp only [nI_add]) ?_
          refine g_lv (lv' := [(0, .ref a), (1, .ref a2), (2, .int (nI (i + 1)))]) (lsub_c 1 rfl (lsub_c 2 rfl (lsub_c 0 rfl (lsub_n)))) ?_
          refine g_cs (ws' := ([(a, Sum.inl (g 6, 15, .inl f)), (a2, Sum.inl (g 6, 15, .inl f))] : va_W)) (lv' := [(0, .ref a), (1, .ref a2), (2, .int (nI (i + 1)))]) (rfl) (rfl) ?_
          exact k9
        · exact absurd rfl hc4

def KJ0_equals_9ea2d_0_0 : List (Nat × Instr × Nat) := [(0, .aload_n 0, 1), (1, .aload_n 1, 1)]
theorem KJ0_equals_9ea2d_0_0_d : ∀ z ∈ KJ0_equals_9ea2d_0_0, decode cJ0_equals_9ea2d z.1 = .ok z.2 := by decide +kernel
def KJ0_equals_9ea2d_7_1 : List (Nat × Instr × Nat) := [(7, .aload_n 1, 1)]
theorem KJ0_equals_9ea2d_7_1_d : ∀ z ∈ KJ0_equals_9ea2d_7_1, decode cJ0_equals_9ea2d z.1 = .ok z.2 := by decide +kernel
def KJ0_equals_9ea2d_14_2 : List (Nat × Instr × Nat) := [(14, .aload_n 1, 1)]
theorem KJ0_equals_9ea2d_14_2_d : ∀ z ∈ KJ0_equals_9ea2d_14_2, decode cJ0_equals_9ea2d z.1 = .ok z.2 := by decide +kernel
def KJ0_equals_9ea2d_18_3 : List (Nat × Instr × Nat) := [(18, .astore_n 2, 1)]
theorem KJ0_equals_9ea2d_18_3_d : ∀ z ∈ KJ0_equals_9ea2d_18_3, decode cJ0_equals_9ea2d z.1 = .ok z.2 := by decide +kernel
def KJ0_equals_9ea2d_25_4 : List (Nat × Instr × Nat) := [(25, .aload_n 0, 1)]
theorem KJ0_equals_9ea2d_25_4_d : ∀ z ∈ KJ0_equals_9ea2d_25_4, decode cJ0_equals_9ea2d z.1 = .ok z.2 := by decide +kernel
def KJ0_equals_9ea2d_29_5 : List (Nat × Instr × Nat) := [(29, .aload_n 2, 1)]
theorem KJ0_equals_9ea2d_29_5_d : ∀ z ∈ KJ0_equals_9ea2d_29_5, decode cJ0_equals_9ea2d z.1 = .ok z.2 := by decide +kernel
def KJ0_equals_9ea2d_36_6 : List (Nat × Instr × Nat) := [(36, .aload_n 0, 1)]
theorem KJ0_equals_9ea2d_36_6_d : ∀ z ∈ KJ0_equals_9ea2d_36_6, decode cJ0_equals_9ea2d z.1 = .ok z.2 := by decide +kernel
def KJ0_equals_9ea2d_40_7 : List (Nat × Instr × Nat) := [(40, .aload_n 2, 1)]
theorem KJ0_equals_9ea2d_40_7_d : ∀ z ∈ KJ0_equals_9ea2d_40_7, decode cJ0_equals_9ea2d z.1 = .ok z.2 := by decide +kernel
def KJ0_equals_9ea2d_50_8 : List (Nat × Instr × Nat) := [(50, .iconst 1, 1), (51, .goto 4, 3)]
theorem KJ0_equals_9ea2d_50_8_d : ∀ z ∈ KJ0_equals_9ea2d_50_8, decode cJ0_equals_9ea2d z.1 = .ok z.2 := by decide +kernel
def KJ0_equals_9ea2d_5_9 : List (Nat × Instr × Nat) := [(5, .iconst 1, 1)]
theorem KJ0_equals_9ea2d_5_9_d : ∀ z ∈ KJ0_equals_9ea2d_5_9, decode cJ0_equals_9ea2d z.1 = .ok z.2 := by decide +kernel
set_option maxHeartbeats 4000000 in
set_option maxRecDepth 100000 in
theorem c_J0_equals_9ea2d (l : Launch) (D : va_G) (g : Nat → ClassId) (b : Nat) (a : Nat) (b2 : Nat) (a2 : Nat) (f : Nat → Int32) : CT l yJ0_equals_9ea2d cJ0_equals_9ea2d 3 ((Option.some FieldType.boolean)) ({ frames := 1, cells := 0, slots := 0, locals := 22 } : Room) [.ref b, .ref b2] D CL (TYS g) ([]) ([(b, Sum.inr (11, [.ref a, .int (nI 0), .int 0, .int 0])), (a, Sum.inl (g 6, 15, .inl f)), (b2, Sum.inr (11, [.ref a2, .int (nI 0), .int 0, .int 0])), (a2, Sum.inl (g 6, 15, .inl f))]) (S := Unit) (fun _ => some (.int (nI 1))) (fun u => []) (fun _ => True) 0 0 := by
  refine ct_of (by decide +kernel) (Nat.le_of_ble_eq_true rfl) ?_
  intro p e s m below meth c A X hr hnm hSB hRO hAf
  refine g_cs (ws' := ([(b, Sum.inr (11, [.ref a, .int (nI 0), .int 0, .int 0])), (a, Sum.inl (g 6, 15, .inl f)), (b2, Sum.inr (11, [.ref a2, .int (nI 0), .int 0, .int 0])), (a2, Sum.inl (g 6, 15, .inl f))] : va_W)) (lv' := [(0, .ref b), (1, .ref b2)]) (rfl) rfl ?_
  obtain ⟨t, hJ⟩ := hSB.2.2.2.2.1
  refine g_run X KJ0_equals_9ea2d_0_0 KJ0_equals_9ea2d_0_0_d 2 [(0, .ref b), (1, .ref b2)] [.ref b2, .ref b] rfl ?_
  refine g_acmpN X 7 dJ0_equals_9ea2d_2 (by decide) (fun he1 => ?_) (fun he1 => ?_)
  · refine g_run X KJ0_equals_9ea2d_7_1 KJ0_equals_9ea2d_7_1_d 8 [(0, .ref b), (1, .ref b2)] [.ref b2] rfl ?_
    refine g_inst X srcW (hc := (rfl : CL[11]? = some _)) (List.mem_of_getElem? (i := 2) rfl) w_1558 dJ0_equals_9ea2d_8 ?_
    refine g_st (st' := [.int (nI 1)]) rfl ?_
    refine g_if_eq X 54 dJ0_equals_9ea2d_11 (by decide) (fun hc2 => ?_) (fun hc2 => ?_)
    · rw [nz_eq (by omega)] at hc2; first | omega | (simp at hc2)
    · refine g_run X KJ0_equals_9ea2d_14_2 KJ0_equals_9ea2d_14_2_d 15 [(0, .ref b), (1, .ref b2)] [.ref b2] rfl ?_
      refine g_cast X srcW (hc := (rfl : CL[11]? = some _)) (List.mem_of_getElem? (i := 2) rfl) w_1558 dJ0_equals_9ea2d_15 ?_
      refine g_run X KJ0_equals_9ea2d_18_3 KJ0_equals_9ea2d_18_3_d 19 [(2, .ref b2), (0, .ref b), (1, .ref b2)] [] rfl ?_
      refine g_gets X hJ.1 w_991 dJ0_equals_9ea2d_19 ?_
      refine g_st (st' := [.int (nI 1)]) rfl ?_
      refine g_if_eq X 36 dJ0_equals_9ea2d_22 (by decide) (fun hc3 => ?_) (fun hc3 => ?_)
      · rw [nz_eq (by omega)] at hc3; first | omega | (simp at hc3)
      · refine g_run X KJ0_equals_9ea2d_25_4 KJ0_equals_9ea2d_25_4_d 26 [(2, .ref b2), (0, .ref b), (1, .ref b2)] [.ref b] rfl ?_
        refine g_get X srcW (v := .int (nI 0)) hinJ0 rfl 1 (by decide) w_1023 rfl (List.mem_of_getElem? (i := 0) rfl) rfl dJ0_equals_9ea2d_26 ?_
        refine g_run X KJ0_equals_9ea2d_29_5 KJ0_equals_9ea2d_29_5_d 30 [(2, .ref b2), (0, .ref b), (1, .ref b2)] [.ref b2, .int (nI 0)] rfl ?_
        refine g_get X srcW (v := .int (nI 0)) hinJ0 rfl 1 (by decide) w_1023 rfl (List.mem_of_getElem? (i := 2) rfl) rfl dJ0_equals_9ea2d_30 ?_
        refine g_icmp_ne X 54 dJ0_equals_9ea2d_33 (by decide) (fun hc4 => ?_) (fun hc4 => ?_)
        · exact absurd rfl hc4
        · refine g_run X KJ0_equals_9ea2d_36_6 KJ0_equals_9ea2d_36_6_d 37 [(2, .ref b2), (0, .ref b), (1, .ref b2)] [.ref b] rfl ?_
          refine g_get X srcW (v := .ref a) hinJ0 rfl 0 (by decide) w_1022 rfl (List.mem_of_getElem? (i := 0) rfl) rfl dJ0_equals_9ea2d_37 ?_
          refine g_run X KJ0_equals_9ea2d_40_7 KJ0_equals_9ea2d_40_7_d 41 [(2, .ref b2), (0, .ref b), (1, .ref b2)] [.ref b2, .ref a] rfl ?_
          refine g_get X srcW (v := .ref a2) hinJ0 rfl 0 (by decide) w_1022 rfl (List.mem_of_getElem? (i := 2) rfl) rfl dJ0_equals_9ea2d_41 ?_
          refine g_perm (ws' := ([(a, Sum.inl (g 6, 15, .inl f)), (a2, Sum.inl (g 6, 15, .inl f)), (b, Sum.inr (11, [.ref a, .int (nI 0), .int 0, .int 0])), (b2, Sum.inr (11, [.ref a2, .int (nI 0), .int 0, .int 0]))] : va_W)) (perm_of (l := ([(b, Sum.inr (11, [.ref a, .int (nI 0), .int 0, .int 0])), (a, Sum.inl (g 6, 15, .inl f)), (b2, Sum.inr (11, [.ref a2, .int (nI 0), .int 0, .int 0])), (a2, Sum.inl (g 6, 15, .inl f))] : va_W)) [1, 3, 0, 2] (by decide) rfl) ?_
          refine g_callS X hSB hAf (As := [.ref a, .ref a2]) (wr := ([(b, Sum.inr (11, [.ref a, .int (nI 0), .int 0, .int 0])), (b2, Sum.inr (11, [.ref a2, .int (nI 0), .int 0, .int 0]))] : va_W)) (n := 2) (c_J1_equals_b5fdf l D g a a2 f ) rfl srcN hrdN w_1561 w_1559 w_1560 w_32 (by decide +kernel) rfl ⟨Nat.le_of_ble_eq_true rfl, Nat.le_of_ble_eq_true rfl⟩ rfl rfl rfl (Nat.le_of_ble_eq_true rfl) ⟨Nat.le_of_ble_eq_true rfl, Nat.le_of_ble_eq_true rfl⟩ dJ0_equals_9ea2d_44 (fun hu5 _ => ?_)
          refine g_af (ws' := ([(a, Sum.inl (g 6, 15, .inl f)), (a2, Sum.inl (g 6, 15, .inl f)), (b, Sum.inr (11, [.ref a, .int (nI 0), .int 0, .int 0])), (b2, Sum.inr (11, [.ref a2, .int (nI 0), .int 0, .int 0]))] : va_W)) (st' := [.int (nI 1)]) (cells' := 0) (slots' := 0) (pc' := 47) rfl rfl rfl rfl rfl ?_
          refine g_if_eq X 54 dJ0_equals_9ea2d_47 (by decide) (fun hc6 => ?_) (fun hc6 => ?_)
          · rw [nz_eq (by omega)] at hc6; first | omega | (simp at hc6)
          · refine g_run X KJ0_equals_9ea2d_50_8 KJ0_equals_9ea2d_50_8_d 55 [(2, .ref b2), (0, .ref b), (1, .ref b2)] [.int (nI 1)] rfl ?_
            exact g_zret X hr (by decide +kernel) () (rfl) (trivial) (rfl) (Nat.le_of_ble_eq_true rfl) (Nat.le_of_ble_eq_true rfl) dJ0_equals_9ea2d_55
  · refine g_run X KJ0_equals_9ea2d_5_9 KJ0_equals_9ea2d_5_9_d 6 [(0, .ref b), (1, .ref b2)] [.int (nI 1)] rfl ?_
    exact g_zret X hr (by decide +kernel) () (rfl) (trivial) (rfl) (Nat.le_of_ble_eq_true rfl) (Nat.le_of_ble_eq_true rfl) dJ0_equals_9ea2d_6

