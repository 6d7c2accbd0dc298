def KX9_fooled_0_0 : List (Nat × Instr × Nat) := [(0, .aload_n 0, 1), (1, .iconst 0, 1)]
theorem KX9_fooled_0_0_d : ∀ z ∈ KX9_fooled_0_0, decode cX9_fooled z.1 = .ok z.2 := by decide +kernel
def KX9_fooled_5_1 : List (Nat × Instr × Nat) := [(5, .iload_n 1, 1)]
theorem KX9_fooled_5_1_d : ∀ z ∈ KX9_fooled_5_1, decode cX9_fooled z.1 = .ok z.2 := by decide +kernel
def KX9_fooled_12_2 : List (Nat × Instr × Nat) := [(12, .iload_n 2, 1)]
theorem KX9_fooled_12_2_d : ∀ z ∈ KX9_fooled_12_2, decode cX9_fooled z.1 = .ok z.2 := by decide +kernel
def KX9_fooled_19_3 : List (Nat × Instr × Nat) := [(19, .iload_n 3, 1)]
theorem KX9_fooled_19_3_d : ∀ z ∈ KX9_fooled_19_3, decode cX9_fooled z.1 = .ok z.2 := by decide +kernel
def KX9_fooled_32_4 : List (Nat × Instr × Nat) := [(32, .iload_n 1, 1), (33, .iload_n 2, 1)]
theorem KX9_fooled_32_4_d : ∀ z ∈ KX9_fooled_32_4, decode cX9_fooled z.1 = .ok z.2 := by decide +kernel
def KX9_fooled_37_5 : List (Nat × Instr × Nat) := [(37, .iload_n 1, 1), (38, .iload_n 3, 1)]
theorem KX9_fooled_37_5_d : ∀ z ∈ KX9_fooled_37_5, decode cX9_fooled z.1 = .ok z.2 := by decide +kernel
def KX9_fooled_42_6 : List (Nat × Instr × Nat) := [(42, .iload_n 2, 1), (43, .iload_n 3, 1)]
theorem KX9_fooled_42_6_d : ∀ z ∈ KX9_fooled_42_6, decode cX9_fooled z.1 = .ok z.2 := by decide +kernel
def KX9_fooled_47_7 : List (Nat × Instr × Nat) := [(47, .iload 4, 2), (49, .iconst 1, 1), (50, .bipush 15, 2)]
theorem KX9_fooled_47_7_d : ∀ z ∈ KX9_fooled_47_7, decode cX9_fooled z.1 = .ok z.2 := by decide +kernel
def KX9_fooled_58_8 : List (Nat × Instr × Nat) := [(58, .iload 5, 2), (60, .iconst 1, 1), (61, .bipush 15, 2)]
theorem KX9_fooled_58_8_d : ∀ z ∈ KX9_fooled_58_8, decode cX9_fooled z.1 = .ok z.2 := by decide +kernel
def KX9_fooled_75_9 : List (Nat × Instr × Nat) := [(75, .bipush 15, 2)]
theorem KX9_fooled_75_9_d : ∀ z ∈ KX9_fooled_75_9, decode cX9_fooled z.1 = .ok z.2 := by decide +kernel
def KX9_fooled_79_10 : List (Nat × Instr × Nat) := [(79, .astore 6, 2), (81, .aload 6, 2), (83, .iload_n 1, 1), (84, .iload 4, 2)]
theorem KX9_fooled_79_10_d : ∀ z ∈ KX9_fooled_79_10, decode cX9_fooled z.1 = .ok z.2 := by decide +kernel
def KX9_fooled_87_11 : List (Nat × Instr × Nat) := [(87, .aload 6, 2), (89, .iload_n 2, 1), (90, .iload 5, 2)]
theorem KX9_fooled_87_11_d : ∀ z ∈ KX9_fooled_87_11, decode cX9_fooled z.1 = .ok z.2 := by decide +kernel
def KX9_fooled_93_12 : List (Nat × Instr × Nat) := [(93, .iconst 0, 1), (94, .istore 7, 2)]
theorem KX9_fooled_93_12_d : ∀ z ∈ KX9_fooled_93_12, decode cX9_fooled z.1 = .ok z.2 := by decide +kernel
def KX9_fooled_96_13 : List (Nat × Instr × Nat) := [(96, .iconst 1, 1), (97, .istore 8, 2)]
theorem KX9_fooled_96_13_d : ∀ z ∈ KX9_fooled_96_13, decode cX9_fooled z.1 = .ok z.2 := by decide +kernel
def KX9_fooled_99_14 : List (Nat × Instr × Nat) := [(99, .iload 8, 2), (101, .bipush 16, 2)]
theorem KX9_fooled_99_14_d : ∀ z ∈ KX9_fooled_99_14, decode cX9_fooled z.1 = .ok z.2 := by decide +kernel
def KX9_fooled_138_15 : List (Nat × Instr × Nat) := [(138, .iload 7, 2)]
theorem KX9_fooled_138_15_d : ∀ z ∈ KX9_fooled_138_15, decode cX9_fooled z.1 = .ok z.2 := by decide +kernel
def KX9_fooled_106_16 : List (Nat × Instr × Nat) := [(106, .aload 6, 2), (108, .iload_n 3, 1), (109, .iload 8, 2)]
theorem KX9_fooled_106_16_d : ∀ z ∈ KX9_fooled_106_16, decode cX9_fooled z.1 = .ok z.2 := by decide +kernel
def KX9_fooled_112_17 : List (Nat × Instr × Nat) := [(112, .iload 7, 2), (114, .aload_n 0, 1), (115, .aload 6, 2), (117, .iconst 0, 1)]
theorem KX9_fooled_112_17_d : ∀ z ∈ KX9_fooled_112_17, decode cX9_fooled z.1 = .ok z.2 := by decide +kernel
def KX9_fooled_128_18 : List (Nat × Instr × Nat) := [(128, .iconst 0, 1), (129, .iadd, 1), (130, .istore 7, 2), (132, .iinc 8 1, 3), (135, .goto (-36), 3)]
theorem KX9_fooled_128_18_d : ∀ z ∈ KX9_fooled_128_18, decode cX9_fooled z.1 = .ok z.2 := by decide +kernel
def KX9_fooled_124_19 : List (Nat × Instr × Nat) := [(124, .iconst 1, 1), (125, .goto 4, 3), (129, .iadd, 1), (130, .istore 7, 2), (132, .iinc 8 1, 3), (135, .goto (-36), 3)]
theorem KX9_fooled_124_19_d : ∀ z ∈ KX9_fooled_124_19, decode cX9_fooled z.1 = .ok z.2 := by decide +kernel
set_option maxHeartbeats 4000000 in
set_option maxRecDepth 100000 in
theorem c_X9_fooled (l : Launch) (D : va_G) (g : Nat → ClassId) (ad : Nat → Nat) (I : Nat → Nat → Int32) (L : Nat → Nat → Int64) (S : Nat → Nat) (Z : Nat → Nat → Int32) (Y : Int64) (a : Nat) (b : Nat) (d : Nat) (x : Nat) (v : Nat) (R : Nat → Nat) (hR : R16 R) (hZ : Z 0 = fun j => nI (R j)) (ha : a < 15) (hb : b < 15) (hd : d < 15) (hab : a ≠ b) (had : a ≠ d) (hbdn : b ≠ d) (hx1 : 1 ≤ x) (hx : x < 16) (hz1 : 1 ≤ v) (hz : v < 16) : CT l yX9_fooled cX9_fooled 9 ((Option.some FieldType.int)) ({ frames := 4, cells := 1, slots := 15, locals := 101 } : Room) [.ref (ad 0), .int (nI a), .int (nI b), .int (nI d), .int (nI x), .int (nI v)] D CL (TYS g) ([]) (WM ad g I L S Z Y) (S := (Nat → Nat) × (Nat → Int32) × (Nat → Int32)) (fun _ => some (.int (nI (flV a b d x v 15)))) (fun u => WM ad g I L S (z4 (u2 Z 3 0 (nI 0)) u.1 u.2.1 u.2.2) Y) (fun u => R16 u.1) 1 15 := by
  refine ct_of (by decide +kernel) (Nat.le_of_ble_eq_true rfl) ?_
  intro p e s m below meth c A X hr hnm hSB hRO hAf
  refine g_cs (ws' := WM ad g I L S (z4 Z R (Z 1) (Z 2)) Y ++ []) (lv' := [(0, .ref (ad 0)), (1, .int (nI a)), (2, .int (nI b)), (3, .int (nI d)), (4, .int (nI x)), (5, .int (nI v))]) (by rw [z4_e hZ]; exact List.append_nil _) rfl ?_
  refine g_run X KX9_fooled_0_0 KX9_fooled_0_0_d 2 [(0, .ref (ad 0)), (1, .int (nI a)), (2, .int (nI b)), (3, .int (nI d)), (4, .int (nI x)), (5, .int (nI v))] [.int (nI 0), .ref (ad 0)] rfl ?_
  refine g_put X (ws' := WM ad g I L S (z4 (u2 Z 3 0 (nI 0)) R (Z 1) (Z 2)) Y ++ []) hinX9 tyX9 tyX9_ok nmX9 rfl 0 (by decide) w_1180 rfl rfl (ty := .int) rfl rfl rfl (0) (wm_get (k := 0) (by decide)) (Nat.le_of_ble_eq_true rfl) (wm_so0) dX9_fooled_2 ?_
  refine g_run X KX9_fooled_5_1 KX9_fooled_5_1_d 6 [(0, .ref (ad 0)), (1, .int (nI a)), (2, .int (nI b)), (3, .int (nI d)), (4, .int (nI x)), (5, .int (nI v))] [.int (nI a)] rfl ?_
  refine g_callS X hSB hAf (As := [.int (nI a)]) (wr := WM ad g I L S (z4 (u2 Z 3 0 (nI 0)) R (Z 1) (Z 2)) Y ++ []) (n := 1) (c_X9_isPlace_t l D g a (by omega)) rfl srcN hrdN w_1335 w_1333 w_1334 w_6 (by decide +kernel) rfl ⟨Nat.le_of_ble_eq_true rfl, Nat.le_of_ble_eq_true rfl⟩ rfl rfl rfl (Nat.le_of_ble_eq_true rfl) ⟨Nat.le_of_ble_eq_true rfl, Nat.le_of_ble_eq_true rfl⟩ dX9_fooled_6 (fun hu1 _ => ?_)
  refine g_af (ws' := WM ad g I L S (z4 (u2 Z 3 0 (nI 0)) R (Z 1) (Z 2)) Y ++ []) (st' := [.int (nI 1)]) (cells' := 0) (slots' := 0) (pc' := 9) rfl rfl rfl rfl rfl ?_
  refine g_if_eq X 26 dX9_fooled_9 (by decide) (fun hc2 => ?_) (fun hc2 => ?_)
  · rw [nz_eq (by omega)] at hc2; first | omega | (simp at hc2)
  · refine g_run X KX9_fooled_12_2 KX9_fooled_12_2_d 13 [(0, .ref (ad 0)), (1, .int (nI a)), (2, .int (nI b)), (3, .int (nI d)), (4, .int (nI x)), (5, .int (nI v))] [.int (nI b)] rfl ?_
    refine g_callS X hSB hAf (As := [.int (nI b)]) (wr := WM ad g I L S (z4 (u2 Z 3 0 (nI 0)) R (Z 1) (Z 2)) Y ++ []) (n := 1) (c_X9_isPlace_t l D g b (by omega)) rfl srcN hrdN w_1335 w_1333 w_1334 w_6 (by decide +kernel) rfl ⟨Nat.le_of_ble_eq_true rfl, Nat.le_of_ble_eq_true rfl⟩ rfl rfl rfl (Nat.le_of_ble_eq_true rfl) ⟨Nat.le_of_ble_eq_true rfl, Nat.le_of_ble_eq_true rfl⟩ dX9_fooled_13 (fun hu3 _ => ?_)
    refine g_af (ws' := WM ad g I L S (z4 (u2 Z 3 0 (nI 0)) R (Z 1) (Z 2)) Y ++ []) (st' := [.int (nI 1)]) (cells' := 0) (slots' := 0) (pc' := 16) rfl rfl rfl rfl rfl ?_
    refine g_if_eq X 26 dX9_fooled_16 (by decide) (fun hc4 => ?_) (fun hc4 => ?_)
    · rw [nz_eq (by omega)] at hc4; first | omega | (simp at hc4)
    · refine g_run X KX9_fooled_19_3 KX9_fooled_19_3_d 20 [(0, .ref (ad 0)), (1, .int (nI a)), (2, .int (nI b)), (3, .int (nI d)), (4, .int (nI x)), (5, .int (nI v))] [.int (nI d)] rfl ?_
      refine g_callS X hSB hAf (As := [.int (nI d)]) (wr := WM ad g I L S (z4 (u2 Z 3 0 (nI 0)) R (Z 1) (Z 2)) Y ++ []) (n := 1) (c_X9_isPlace_t l D g d (by omega)) rfl srcN hrdN w_1335 w_1333 w_1334 w_6 (by decide +kernel) rfl ⟨Nat.le_of_ble_eq_true rfl, Nat.le_of_ble_eq_true rfl⟩ rfl rfl rfl (Nat.le_of_ble_eq_true rfl) ⟨Nat.le_of_ble_eq_true rfl, Nat.le_of_ble_eq_true rfl⟩ dX9_fooled_20 (fun hu5 _ => ?_)
      refine g_af (ws' := WM ad g I L S (z4 (u2 Z 3 0 (nI 0)) R (Z 1) (Z 2)) Y ++ []) (st' := [.int (nI 1)]) (cells' := 0) (slots' := 0) (pc' := 23) rfl rfl rfl rfl rfl ?_
      refine g_if_ne X 32 dX9_fooled_23 (by decide) (fun hc6 => ?_) (fun hc6 => ?_)
      · refine g_run X KX9_fooled_32_4 KX9_fooled_32_4_d 34 [(0, .ref (ad 0)), (1, .int (nI a)), (2, .int (nI b)), (3, .int (nI d)), (4, .int (nI x)), (5, .int (nI v))] [.int (nI b), .int (nI a)] rfl ?_
        refine g_icmp_eq X 69 dX9_fooled_34 (by decide) (fun hc7 => ?_) (fun hc7 => ?_)
        · rw [nI_eq (by omega) (by omega)] at hc7; first | omega | (simp at hc7)
        · refine g_run X KX9_fooled_37_5 KX9_fooled_37_5_d 39 [(0, .ref (ad 0)), (1, .int (nI a)), (2, .int (nI b)), (3, .int (nI d)), (4, .int (nI x)), (5, .int (nI v))] [.int (nI d), .int (nI a)] rfl ?_
          refine g_icmp_eq X 69 dX9_fooled_39 (by decide) (fun hc8 => ?_) (fun hc8 => ?_)
          · rw [nI_eq (by omega) (by omega)] at hc8; first | omega | (simp at hc8)
          · refine g_run X KX9_fooled_42_6 KX9_fooled_42_6_d 44 [(0, .ref (ad 0)), (1, .int (nI a)), (2, .int (nI b)), (3, .int (nI d)), (4, .int (nI x)), (5, .int (nI v))] [.int (nI d), .int (nI b)] rfl ?_
            refine g_icmp_eq X 69 dX9_fooled_44 (by decide) (fun hc9 => ?_) (fun hc9 => ?_)
            · rw [nI_eq (by omega) (by omega)] at hc9; first | omega | (simp at hc9)
            · refine g_run X KX9_fooled_47_7 KX9_fooled_47_7_d 52 [(0, .ref (ad 0)), (1, .int (nI a)), (2, .int (nI b)), (3, .int (nI d)), (4, .int (nI x)), (5, .int (nI v))] [.int (nI 15), .int (nI 1), .int (nI x)] rfl ?_
              refine g_callS X hSB hAf (As := [.int (nI x), .int (nI 1), .int (nI 15)]) (wr := WM ad g I L S (z4 (u2 Z 3 0 (nI 0)) R (Z 1) (Z 2)) Y ++ []) (n := 3) (c_X9_is_t l D g x 1 15 (by omega) (by omega) (by omega)) rfl srcN hrdN w_1260 w_1258 w_1259 w_6 (by decide +kernel) rfl ⟨Nat.le_of_ble_eq_true rfl, Nat.le_of_ble_eq_true rfl⟩ rfl rfl rfl (Nat.le_of_ble_eq_true rfl) ⟨Nat.le_of_ble_eq_true rfl, Nat.le_of_ble_eq_true rfl⟩ dX9_fooled_52 (fun hu10 _ => ?_)
              refine g_af (ws' := WM ad g I L S (z4 (u2 Z 3 0 (nI 0)) R (Z 1) (Z 2)) Y ++ []) (st' := [.int (nI 1)]) (cells' := 0) (slots' := 0) (pc' := 55) rfl rfl rfl rfl rfl ?_
              refine g_if_eq X 69 dX9_fooled_55 (by decide) (fun hc11 => ?_) (fun hc11 => ?_)
              · rw [nz_eq (by omega)] at hc11; first | omega | (simp at hc11)
              · refine g_run X KX9_fooled_58_8 KX9_fooled_58_8_d 63 [(0, .ref (ad 0)), (1, .int (nI a)), (2, .int (nI b)), (3, .int (nI d)), (4, .int (nI x)), (5, .int (nI v))] [.int (nI 15), .int (nI 1), .int (nI v)] rfl ?_
                refine g_callS X hSB hAf (As := [.int (nI v), .int (nI 1), .int (nI 15)]) (wr := WM ad g I L S (z4 (u2 Z 3 0 (nI 0)) R (Z 1) (Z 2)) Y ++ []) (n := 3) (c_X9_is_t l D g v 1 15 (by omega) (by omega) (by omega)) rfl srcN hrdN w_1260 w_1258 w_1259 w_6 (by decide +kernel) rfl ⟨Nat.le_of_ble_eq_true rfl, Nat.le_of_ble_eq_true rfl⟩ rfl rfl rfl (Nat.le_of_ble_eq_true rfl) ⟨Nat.le_of_ble_eq_true rfl, Nat.le_of_ble_eq_true rfl⟩ dX9_fooled_63 (fun hu12 _ => ?_)
                refine g_af (ws' := WM ad g I L S (z4 (u2 Z 3 0 (nI 0)) R (Z 1) (Z 2)) Y ++ []) (st' := [.int (nI 1)]) (cells' := 0) (slots' := 0) (pc' := 66) rfl rfl rfl rfl rfl ?_
                refine g_if_ne X 75 dX9_fooled_66 (by decide) (fun hc13 => ?_) (fun hc13 => ?_)
                · refine g_run X KX9_fooled_75_9 KX9_fooled_75_9_d 77 [(0, .ref (ad 0)), (1, .int (nI a)), (2, .int (nI b)), (3, .int (nI d)), (4, .int (nI x)), (5, .int (nI v))] [.int (nI 15)] rfl ?_
                  refine g_newI X hAf 0 rfl w_1087 15 rfl (by decide) (Nat.le_of_ble_eq_true rfl) (Nat.le_of_ble_eq_true rfl) dX9_fooled_77 (fun qa14 => ?_)
                  refine g_af (ws' := WM ad g I L S (z4 (u2 Z 3 0 (nI 0)) R (Z 1) (Z 2)) Y ++ [(qa14, Sum.inl (g 0, 15, .inl (fun _ => 0)))]) (st' := [.ref qa14]) (cells' := 1) (slots' := 15) (pc' := 79) (by rw [List.append_nil]) rfl rfl rfl rfl ?_
                  refine g_ws (ws' := WM ad g I L S (z4 (u2 Z 3 0 (nI 0)) R (Z 1) (Z 2)) Y ++ [(qa14, Sum.inl (g 0, 15, .inl (wA (lN 0))))]) (by rw [wA_0]) ?_
                  refine g_run X KX9_fooled_79_10 KX9_fooled_79_10_d 86 [(6, .ref qa14), (0, .ref (ad 0)), (1, .int (nI a)), (2, .int (nI b)), (3, .int (nI d)), (4, .int (nI x)), (5, .int (nI v))] [.int (nI x), .int (nI a), .ref qa14] rfl ?_
                  refine g_iast X (ws' := WM ad g I L S (z4 (u2 Z 3 0 (nI 0)) R (Z 1) (Z 2)) Y ++ [(qa14, Sum.inl (g 0, 15, .inl (wA (wn (lN 0) a x))))]) 0 rfl 35 (wt_get0) a rfl (by omega) (by decide) (by rw [wA_up ha (by omega)]; exact wt_set0) dX9_fooled_86 ?_
                  refine g_run X KX9_fooled_87_11 KX9_fooled_87_11_d 92 [(6, .ref qa14), (0, .ref (ad 0)), (1, .int (nI a)), (2, .int (nI b)), (3, .int (nI d)), (4, .int (nI x)), (5, .int (nI v))] [.int (nI v), .int (nI b), .ref qa14] rfl ?_
                  refine g_iast X (ws' := WM ad g I L S (z4 (u2 Z 3 0 (nI 0)) R (Z 1) (Z 2)) Y ++ [(qa14, Sum.inl (g 0, 15, .inl (wA (wn (wn (lN 0) a x) b v))))]) 0 rfl 35 (wt_get0) b rfl (by omega) (by decide) (by rw [wA_up hb (by omega)]; exact wt_set0) dX9_fooled_92 ?_
                  refine g_run X KX9_fooled_93_12 KX9_fooled_93_12_d 96 [(7, .int (nI 0)), (6, .ref qa14), (0, .ref (ad 0)), (1, .int (nI a)), (2, .int (nI b)), (3, .int (nI d)), (4, .int (nI x)), (5, .int (nI v))] [] rfl ?_
                  refine g_run X KX9_fooled_96_13 KX9_fooled_96_13_d 99 [(8, .int (nI 1)), (7, .int (nI 0)), (6, .ref qa14), (0, .ref (ad 0)), (1, .int (nI a)), (2, .int (nI b)), (3, .int (nI d)), (4, .int (nI x)), (5, .int (nI v))] [] rfl ?_
                  refine g_lv (lv' := [(0, .ref (ad 0)), (1, .int (nI a)), (2, .int (nI b)), (3, .int (nI d)), (4, .int (nI x)), (5, .int (nI v)), (6, .ref qa14), (7, .int (nI 0)), (8, .int (nI 1))]) (lsub_c 3 rfl (lsub_c 4 rfl (lsub_c 5 rfl (lsub_c 6 rfl (lsub_c 7 rfl (lsub_c 8 rfl (lsub_c 2 rfl (lsub_c 1 rfl (lsub_c 0 rfl (lsub_n)))))))))) ?_
                  refine g_forX (σ := (Nat → Nat) × (Nat → Int32) × (Nat → Int32)) 15 (fun uX99 i => WM ad g I L S (z4 (u2 Z 3 0 (nI 0)) uX99.1 uX99.2.1 uX99.2.2) Y ++ [(qa14, Sum.inl (g 0, 15, .inl (wA (wn (wn (wn (lN 0) a x) b v) d i))))]) (fun i => [(0, .ref (ad 0)), (1, .int (nI a)), (2, .int (nI b)), (3, .int (nI d)), (4, .int (nI x)), (5, .int (nI v)), (6, .ref qa14), (7, .int (nI (flV a b d x v i))), (8, .int (nI (i + 1)))]) (fun uX99 i => R16 uX99.1) 0 0 (R, (Z 1), (Z 2)) (by assumption) (by rw [wn_z (by omega) (by rw [nib_wn (by omega) (by omega) (by omega), if_neg (by omega), nib_wn (by omega) (by omega) (by omega), if_neg (by omega), nib_0])]) (by rw [flV]) ?_ ?_
                  · intro uX99 hP99
                    refine g_widen (k := 1) (n := 15) (Nat.le_of_ble_eq_true rfl) (Nat.le_of_ble_eq_true rfl) ?_
                    refine g_run X KX9_fooled_99_14 KX9_fooled_99_14_d 103 [(0, .ref (ad 0)), (1, .int (nI a)), (2, .int (nI b)), (3, .int (nI d)), (4, .int (nI x)), (5, .int (nI v)), (6, .ref qa14), (7, .int (nI (flV a b d x v 15))), (8, .int (nI (15 + 1)))] [.int (nI 16), .int (nI (15 + 1))] rfl ?_
                    refine g_icmp_ge X 138 dX9_fooled_103 (by decide) (fun hc15 => ?_) (fun hc15 => ?_)
                    · refine g_run X KX9_fooled_138_15 KX9_fooled_138_15_d 140 [(0, .ref (ad 0)), (1, .int (nI a)), (2, .int (nI b)), (3, .int (nI d)), (4, .int (nI x)), (5, .int (nI v)), (6, .ref qa14), (7, .int (nI (flV a b d x v 15))), (8, .int (nI (15 + 1)))] [.int (nI (flV a b d x v 15))] rfl ?_
                      exact g_iret X hr (uX99.1, uX99.2.1, uX99.2.2) (rfl) (by assumption) (rfl) (Nat.le_of_ble_eq_true rfl) (Nat.le_of_ble_eq_true rfl) dX9_fooled_140
                    · rw [nI_leI (by omega) (by omega)] at hc15; first | omega | (simp at hc15)
                  · intro i hi uX99 hP99 k99
                    have hR99 : R16 uX99.1 := hP99
                    have hw15 : nib (wn (wn (wn (lN 0) a x) b v) d (i + 1)) 15 = 0 := wn_15 hd (by omega) (wn_15 hb (by omega) (wn_15 ha (by omega) (nib_0 15)))
                    refine g_run X KX9_fooled_99_14 KX9_fooled_99_14_d 103 [(0, .ref (ad 0)), (1, .int (nI a)), (2, .int (nI b)), (3, .int (nI d)), (4, .int (nI x)), (5, .int (nI v)), (6, .ref qa14), (7, .int (nI (flV a b d x v i))), (8, .int (nI (i + 1)))] [.int (nI 16), .int (nI (i + 1))] rfl ?_
                    refine g_icmp_ge X 138 dX9_fooled_103 (by decide) (fun hc16 => ?_) (fun hc16 => ?_)
                    · rw [nI_leI (by omega) (by omega)] at hc16; first | omega | (simp at hc16)
                    · refine g_run X KX9_fooled_106_16 KX9_fooled_106_16_d 111 [(0, .ref (ad 0)), (1, .int (nI a)), (2, .int (nI b)), (3, .int (nI d)), (4, .int (nI x)), (5, .int (nI v)), (6, .ref qa14), (7, .int (nI (flV a b d x v i))), (8, .int (nI (i + 1)))] [.int (nI (i + 1)), .int (nI d), .ref qa14] rfl ?_
                      refine g_iast X (ws' := WM ad g I L S (z4 (u2 Z 3 0 (nI 0)) uX99.1 uX99.2.1 uX99.2.2) Y ++ [(qa14, Sum.inl (g 0, 15, .inl (wA (wn (wn (wn (lN 0) a x) b v) d (i + 1)))))]) 0 rfl 35 (wt_get0) d rfl (by omega) (by decide) (by rw [wA_up hd (by omega), wn_wn (by omega) (by omega) (by omega)]; exact wt_set0) dX9_fooled_111 ?_
                      refine g_run X KX9_fooled_112_17 KX9_fooled_112_17_d 118 [(0, .ref (ad 0)), (1, .int (nI a)), (2, .int (nI b)), (3, .int (nI d)), (4, .int (nI x)), (5, .int (nI v)), (6, .ref qa14), (7, .int (nI (flV a b d x v i))), (8, .int (nI (i + 1)))] [.int (nI 0), .ref qa14, .ref (ad 0), .int (nI (flV a b d x v i))] rfl ?_
                      refine g_callV X hSB hAf (srcW) (hrc1 := (rfl : CL[8]? = some _)) (wm_mem (k := 0) (by decide)) rfl (As := [.ref qa14, .int (nI 0)]) (wr := [(qa14, Sum.inl (g 0, 15, .inl (wA (wn (wn (wn (lN 0) a x) b v) d (i + 1)))))]) (n := 2) (c_X9_mend l D g ad I L S (z4 (u2 Z 3 0 (nI 0)) uX99.1 uX99.2.1 uX99.2.2) Y qa14 (wn (wn (wn (lN 0) a x) b v) d (i + 1)) 0 uX99.1 (by assumption) (rfl) (by decide)) rfl (src_sub (wt_mem (by simp))) (hrdT rfl (by simp)) w_1352 w_1349 w_1351 w_s25 w_6 (by decide +kernel) rfl ⟨Nat.le_of_ble_eq_true rfl, Nat.le_of_ble_eq_true rfl⟩ rfl rfl rfl (Nat.le_of_ble_eq_true rfl) ⟨by show (1 + i * 0) + 0 ≤ 1; omega, by show (15 + i * 0) + 0 ≤ 15; omega⟩ dX9_fooled_118 (fun hu17 hp_hu17 => ?_)
                      refine g_af (ws' := WM ad g I L S (z4 (u2 Z 3 0 (nI 0)) hu17.1 hu17.2 (mdA uX99.2.2 (mw 0 (wn (wn (wn (lN 0) a x) b v) d (i + 1))))) Y ++ [(qa14, Sum.inl (g 0, 15, .inl (wA (wn (wn (wn (lN 0) a x) b v) d (i + 1)))))]) (st' := [.int (nI (sB (mw 0 (wn (wn (wn (lN 0) a x) b v) d (i + 1))))), .int (nI (flV a b d x v i))]) (cells' := 1 + i * 0) (slots' := 15 + i * 0) (pc' := 121) (congrArg (fun z => (WM ad g I L S z Y) ++ [(qa14, Sum.inl (g 0, 15, .inl (wA (wn (wn (wn (lN 0) a x) b v) d (i + 1)))))]) z4_z4.symm) rfl rfl rfl rfl ?_
                      refine g_if_eq X 128 dX9_fooled_121 (by decide) (fun hc18 => ?_) (fun hc18 => ?_)
                      · rw [sB_0] at hc18; have hbd : flW a b d x v i = -1 := by rw [flW, hc18]; rfl
                        refine g_run X KX9_fooled_128_18 KX9_fooled_128_18_d 99 [(8, .int ((nI (i + 1)) + (nI 1))), (7, .int ((nI (flV a b d x v i)) + (nI 0))), (0, .ref (ad 0)), (1, .int (nI a)), (2, .int (nI b)), (3, .int (nI d)), (4, .int (nI x)), (5, .int (nI v)), (6, .ref qa14)] [] rfl ?_
                        refine g_nm (lv' := [(8, .int (nI ((i + 1) + 1))), (7, .int (nI ((flV a b d x v i) + 0))), (0, .ref (ad 0)), (1, .int (nI a)), (2, .int (nI b)), (3, .int (nI d)), (4, .int (nI x)), (5, .int (nI v)), (6, .ref qa14)]) (st' := []) (by simp only [nI_add]) (by simp only [nI_add]) ?_
                        refine g_lv (lv' := [(0, .ref (ad 0)), (1, .int (nI a)), (2, .int (nI b)), (3, .int (nI d)), (4, .int (nI x)), (5, .int (nI v)), (6, .ref qa14), (7, .int (nI ((flV a b d x v i) + 0))), (8, .int (nI ((i + 1) + 1)))]) (lsub_c 2 rfl (lsub_c 3 rfl (lsub_c 4 rfl (lsub_c 5 rfl (lsub_c 6 rfl (lsub_c 7 rfl (lsub_c 8 rfl (lsub_c 1 rfl (lsub_c 0 rfl (lsub_n)))))))))) ?_
                        refine g_widen (k := 1 + i * 0 + 0) (n := 15 + i * 0 + 0) (by omega) (by omega) ?_
                        refine g_cs (ws' := WM ad g I L S (z4 (u2 Z 3 0 (nI 0)) ((hu17.1, hu17.2, mdA uX99.2.2 (mw 0 (wn (wn (wn (lN 0) a x) b v) d (i + 1)))).1) ((hu17.1, hu17.2, mdA uX99.2.2 (mw 0 (wn (wn (wn (lN 0) a x) b v) d (i + 1)))).2.1) ((hu17.1, hu17.2, mdA uX99.2.2 (mw 0 (wn (wn (wn (lN 0) a x) b v) d (i + 1)))).2.2)) Y ++ [(qa14, Sum.inl (g 0, 15, .inl (wA (wn (wn (wn (lN 0) a x) b v) d (i + 1)))))]) (lv' := [(0, .ref (ad 0)), (1, .int (nI a)), (2, .int (nI b)), (3, .int (nI d)), (4, .int (nI x)), (5, .int (nI v)), (6, .ref qa14), (7, .int (nI (flV a b d x v (i + 1)))), (8, .int (nI ((i + 1) + 1)))]) (rfl) (by first | (rw [flV, if_pos hbd]; done) | (rw [flV, if_neg hbd]; done) | (rw [flV, if_pos hbd]; rfl) | (rw [flV, if_neg hbd]; rfl)) ?_
                        exact k99 (hu17.1, hu17.2, mdA uX99.2.2 (mw 0 (wn (wn (wn (lN 0) a x) b v) d (i + 1)))) (by assumption)
                      · rw [sB_0] at hc18; obtain ⟨y, hy⟩ := sB_1 hc18; have hbd : ¬ flW a b d x v i = -1 := by rw [flW, hy]; exact ne_m1 (mw_15 hw15 hy)
                        refine g_run X KX9_fooled_124_19 KX9_fooled_124_19_d 99 [(8, .int ((nI (i + 1)) + (nI 1))), (7, .int ((nI (flV a b d x v i)) + (nI 1))), (0, .ref (ad 0)), (1, .int (nI a)), (2, .int (nI b)), (3, .int (nI d)), (4, .int (nI x)), (5, .int (nI v)), (6, .ref qa14)] [] rfl ?_
                        refine g_nm (lv' := [(8, .int (nI ((i + 1) + 1))), (7, .int (nI ((flV a b d x v i) + 1))), (0, .ref (ad 0)), (1, .int (nI a)), (2, .int (nI b)), (3, .int (nI d)), (4, .int (nI x)), (5, .int (nI v)), (6, .ref qa14)]) (st' := []) (by simp only [nI_add]) (by simp only [nI_add]) ?_
                        refine g_lv (lv' := [(0, .ref (ad 0)), (1, .int (nI a)), (2, .int (nI b)), (3, .int (nI d)), (4, .int (nI x)), (5, .int (nI v)), (6, .ref qa14), (7, .int (nI ((flV a b d x v i) + 1))), (8, .int (nI ((i + 1) + 1)))]) (lsub_c 2 rfl (lsub_c 3 rfl (lsub_c 4 rfl (lsub_c 5 rfl (lsub_c 6 rfl (lsub_c 7 rfl (lsub_c 8 rfl (lsub_c 1 rfl (lsub_c 0 rfl (lsub_n)))))))))) ?_
                        refine g_widen (k := 1 + i * 0 + 0) (n := 15 + i * 0 + 0) (by omega) (by omega) ?_
                        refine g_cs (ws' := WM ad g I L S (z4 (u2 Z 3 0 (nI 0)) ((hu17.1, hu17.2, mdA uX99.2.2 (mw 0 (wn (wn (wn (lN 0) a x) b v) d (i + 1)))).1) ((hu17.1, hu17.2, mdA uX99.2.2 (mw 0 (wn (wn (wn (lN 0) a x) b v) d (i + 1)))).2.1) ((hu17.1, hu17.2, mdA uX99.2.2 (mw 0 (wn (wn (wn (lN 0) a x) b v) d (i + 1)))).2.2)) Y ++ [(qa14, Sum.inl (g 0, 15, .inl (wA (wn (wn (wn (lN 0) a x) b v) d (i + 1)))))]) (lv' := [(0, .ref (ad 0)), (1, .int (nI a)), (2, .int (nI b)), (3, .int (nI d)), (4, .int (nI x)), (5, .int (nI v)), (6, .ref qa14), (7, .int (nI (flV a b d x v (i + 1)))), (8, .int (nI ((i + 1) + 1)))]) (rfl) (by first | (rw [flV, if_pos hbd]; done) | (rw [flV, if_neg hbd]; done) | (rw [flV, if_pos hbd]; rfl) | (rw [flV, if_neg hbd]; rfl)) ?_
                        exact k99 (hu17.1, hu17.2, mdA uX99.2.2 (mw 0 (wn (wn (wn (lN 0) a x) b v) d (i + 1)))) (by assumption)
                · rw [nz_eq (by omega)] at hc13; first | omega | (simp at hc13)
      · rw [nz_eq (by omega)] at hc6; first | omega | (simp at hc6)

def KX9_fooled_26_20 : List (Nat × Instr × Nat) := [(26, .aload_n 0, 1), (27, .iconst 1, 1)]
theorem KX9_fooled_26_20_d : ∀ z ∈ KX9_fooled_26_20, decode cX9_fooled z.1 = .ok z.2 := by decide +kernel
set_option maxHeartbeats 4000000 in
set_option maxRecDepth 100000 in
theorem c_X9_fooled_1 (l : Launch) (D : va_G) (g : Nat → ClassId) (ad : Nat → Nat) (I : Nat → Nat → Int32) (L : Nat → Nat → Int64) (S : Nat → Nat) (Z : Nat → Nat → Int32) (Y : Int64) (x : Int32) (y1 : Int32) (y2 : Int32) (y3 : Int32) (y4 : Int32) (hx : x < 0 ∨ ¬ x ≤ nI 14) : CT l yX9_fooled cX9_fooled 9 ((Option.some FieldType.int)) ({ frames := 2, cells := 0, slots := 0, locals := 42 } : Room) [.ref (ad 0), .int x, .int y1, .int y2, .int y3, .int y4] D CL (TYS g) ([]) (WM ad g I L S Z Y) (S := Unit) (fun _ => some (.int (nI 0))) (fun _ => WM ad g I L S (u2 (u2 Z 3 0 (nI 0)) 3 0 (nI 1)) Y) (fun _ => True) 0 0 := by
  refine ct_of (by decide +kernel) (Nat.le_of_ble_eq_true rfl) ?_
  intro p e s m below meth c A X hr hnm hSB hRO hAf
  refine g_cs (ws' := WM ad g I L S Z Y ++ []) (lv' := [(0, .ref (ad 0)), (1, .int x), (2, .int y1), (3, .int y2), (4, .int y3), (5, .int y4)]) (List.append_nil _) rfl ?_
  refine g_run X KX9_fooled_0_0 KX9_fooled_0_0_d 2 [(0, .ref (ad 0)), (1, .int x), (2, .int y1), (3, .int y2), (4, .int y3), (5, .int y4)] [.int (nI 0), .ref (ad 0)] rfl ?_
  refine g_put X (ws' := WM ad g I L S (u2 Z 3 0 (nI 0)) Y ++ []) hinX9 tyX9 tyX9_ok nmX9 rfl 0 (by decide) w_1180 rfl rfl (ty := .int) rfl rfl rfl (0) (wm_get (k := 0) (by decide)) (Nat.le_of_ble_eq_true rfl) (wm_mo0) dX9_fooled_2 ?_
  refine g_run X KX9_fooled_5_1 KX9_fooled_5_1_d 6 [(0, .ref (ad 0)), (1, .int x), (2, .int y1), (3, .int y2), (4, .int y3), (5, .int y4)] [.int x] rfl ?_
  refine g_callS X hSB hAf (As := [.int x]) (wr := WM ad g I L S (u2 Z 3 0 (nI 0)) Y ++ []) (n := 1) (c_X9_isPlace_f l D g x (hx)) rfl srcN hrdN w_1335 w_1333 w_1334 w_6 (by decide +kernel) rfl ⟨Nat.le_of_ble_eq_true rfl, Nat.le_of_ble_eq_true rfl⟩ rfl rfl rfl (Nat.le_of_ble_eq_true rfl) ⟨Nat.le_of_ble_eq_true rfl, Nat.le_of_ble_eq_true rfl⟩ dX9_fooled_6 (fun hu1 _ => ?_)
  refine g_af (ws' := WM ad g I L S (u2 Z 3 0 (nI 0)) Y ++ []) (st' := [.int (nI 0)]) (cells' := 0) (slots' := 0) (pc' := 9) rfl rfl rfl rfl rfl ?_
  refine g_if_eq X 26 dX9_fooled_9 (by decide) (fun hc2 => ?_) (fun hc2 => ?_)
  · refine g_run X KX9_fooled_26_20 KX9_fooled_26_20_d 28 [(0, .ref (ad 0)), (1, .int x), (2, .int y1), (3, .int y2), (4, .int y3), (5, .int y4)] [.int (nI 1), .ref (ad 0)] rfl ?_
    refine g_callV X hSB hAf (srcW) (hrc1 := (rfl : CL[8]? = some _)) (wm_mem (k := 0) (by decide)) rfl (As := [.int (nI 1)]) (wr := []) (n := 1) (c_X9_refuse l D g ad I L S (u2 Z 3 0 (nI 0)) Y 1 ) rfl srcN hrdN w_1264 w_1261 w_1263 w_s12 w_6 (by decide +kernel) rfl ⟨Nat.le_of_ble_eq_true rfl, Nat.le_of_ble_eq_true rfl⟩ rfl rfl rfl (Nat.le_of_ble_eq_true rfl) ⟨Nat.le_of_ble_eq_true rfl, Nat.le_of_ble_eq_true rfl⟩ dX9_fooled_28 (fun hu3 _ => ?_)
    refine g_af (ws' := WM ad g I L S (u2 (u2 Z 3 0 (nI 0)) 3 0 (nI 1)) Y ++ []) (st' := [.int (nI 0)]) (cells' := 0) (slots' := 0) (pc' := 31) rfl rfl rfl rfl rfl ?_
    exact g_iret X hr () (rfl) (trivial) (rfl) (Nat.le_of_ble_eq_true rfl) (Nat.le_of_ble_eq_true rfl) dX9_fooled_31
  · rw [nz_eq (by omega)] at hc2; first | omega | (simp at hc2)

set_option maxHeartbeats 4000000 in
set_option maxRecDepth 100000 in
theorem c_X9_fooled_2 (l : Launch) (D : va_G) (g : Nat → ClassId) (ad : Nat → Nat) (I : Nat → Nat → Int32) (L : Nat → Nat → Int64) (S : Nat → Nat) (Z : Nat → Nat → Int32) (Y : Int64) (a : Nat) (x : Int32) (y1 : Int32) (y2 : Int32) (y3 : Int32) (ha : a < 15) (hx : x < 0 ∨ ¬ x ≤ nI 14) : CT l yX9_fooled cX9_fooled 9 ((Option.some FieldType.int)) ({ frames := 2, cells := 0, slots := 0, locals := 42 } : Room) [.ref (ad 0), .int (nI a), .int x, .int y1, .int y2, .int y3] D CL (TYS g) ([]) (WM ad g I L S Z Y) (S := Unit) (fun _ => some (.int (nI 0))) (fun _ => WM ad g I L S (u2 (u2 Z 3 0 (nI 0)) 3 0 (nI 1)) Y) (fun _ => True) 0 0 := by
  refine ct_of (by decide +kernel) (Nat.le_of_ble_eq_true rfl) ?_
  intro p e s m below meth c A X hr hnm hSB hRO hAf
  refine g_cs (ws' := WM ad g I L S Z Y ++ []) (lv' := [(0, .ref (ad 0)), (1, .int (nI a)), (2, .int x), (3, .int y1), (4, .int y2), (5, .int y3)]) (List.append_nil _) rfl ?_
  refine g_run X KX9_fooled_0_0 KX9_fooled_0_0_d 2 [(0, .ref (ad 0)), (1, .int (nI a)), (2, .int x), (3, .int y1), (4, .int y2), (5, .int y3)] [.int (nI 0), .ref (ad 0)] rfl ?_
  refine g_put X (ws' := WM ad g I L S (u2 Z 3 0 (nI 0)) Y ++ []) hinX9 tyX9 tyX9_ok nmX9 rfl 0 (by decide) w_1180 rfl rfl (ty := .int) rfl rfl rfl (0) (wm_get (k := 0) (by decide)) (Nat.le_of_ble_eq_true rfl) (wm_mo0) dX9_fooled_2 ?_
  refine g_run X KX9_fooled_5_1 KX9_fooled_5_1_d 6 [(0, .ref (ad 0)), (1, .int (nI a)), (2, .int x), (3, .int y1), (4, .int y2), (5, .int y3)] [.int (nI a)] rfl ?_
  refine g_callS X hSB hAf (As := [.int (nI a)]) (wr := WM ad g I L S (u2 Z 3 0 (nI 0)) Y ++ []) (n := 1) (c_X9_isPlace_t l D g a (by omega)) rfl srcN hrdN w_1335 w_1333 w_1334 w_6 (by decide +kernel) rfl ⟨Nat.le_of_ble_eq_true rfl, Nat.le_of_ble_eq_true rfl⟩ rfl rfl rfl (Nat.le_of_ble_eq_true rfl) ⟨Nat.le_of_ble_eq_true rfl, Nat.le_of_ble_eq_true rfl⟩ dX9_fooled_6 (fun hu1 _ => ?_)
  refine g_af (ws' := WM ad g I L S (u2 Z 3 0 (nI 0)) Y ++ []) (st' := [.int (nI 1)]) (cells' := 0) (slots' := 0) (pc' := 9) rfl rfl rfl rfl rfl ?_
  refine g_if_eq X 26 dX9_fooled_9 (by decide) (fun hc2 => ?_) (fun hc2 => ?_)
  · rw [nz_eq (by omega)] at hc2; first | omega | (simp at hc2)
  · refine g_run X KX9_fooled_12_2 KX9_fooled_12_2_d 13 [(0, .ref (ad 0)), (1, .int (nI a)), (2, .int x), (3, .int y1), (4, .int y2), (5, .int y3)] [.int x] rfl ?_
    refine g_callS X hSB hAf (As := [.int x]) (wr := WM ad g I L S (u2 Z 3 0 (nI 0)) Y ++ []) (n := 1) (c_X9_isPlace_f l D g x (hx)) rfl srcN hrdN w_1335 w_1333 w_1334 w_6 (by decide +kernel) rfl ⟨Nat.le_of_ble_eq_true rfl, Nat.le_of_ble_eq_true rfl⟩ rfl rfl rfl (Nat.le_of_ble_eq_true rfl) ⟨Nat.le_of_ble_eq_true rfl, Nat.le_of_ble_eq_true rfl⟩ dX9_fooled_13 (fun hu3 _ => ?_)
    refine g_af (ws' := WM ad g I L S (u2 Z 3 0 (nI 0)) Y ++ []) (st' := [.int (nI 0)]) (cells' := 0) (slots' := 0) (pc' := 16) rfl rfl rfl rfl rfl ?_
    refine g_if_eq X 26 dX9_fooled_16 (by decide) (fun hc4 => ?_) (fun hc4 => ?_)
    · refine g_run X KX9_fooled_26_20 KX9_fooled_26_20_d 28 [(0, .ref (ad 0)), (1, .int (nI a)), (2, .int x), (3, .int y1), (4, .int y2), (5, .int y3)] [.int (nI 1), .ref (ad 0)] rfl ?_
      refine g_callV X hSB hAf (srcW) (hrc1 := (rfl : CL[8]? = some _)) (wm_mem (k := 0) (by decide)) rfl (As := [.int (nI 1)]) (wr := []) (n := 1) (c_X9_refuse l D g ad I L S (u2 Z 3 0 (nI 0)) Y 1 ) rfl srcN hrdN w_1264 w_1261 w_1263 w_s12 w_6 (by decide +kernel) rfl ⟨Nat.le_of_ble_eq_true rfl, Nat.le_of_ble_eq_true rfl⟩ rfl rfl rfl (Nat.le_of_ble_eq_true rfl) ⟨Nat.le_of_ble_eq_true rfl, Nat.le_of_ble_eq_true rfl⟩ dX9_fooled_28 (fun hu5 _ => ?_)
      refine g_af (ws' := WM ad g I L S (u2 (u2 Z 3 0 (nI 0)) 3 0 (nI 1)) Y ++ []) (st' := [.int (nI 0)]) (cells' := 0) (slots' := 0) (pc' := 31) rfl rfl rfl rfl rfl ?_
      exact g_iret X hr () (rfl) (trivial) (rfl) (Nat.le_of_ble_eq_true rfl) (Nat.le_of_ble_eq_true rfl) dX9_fooled_31
    · rw [nz_eq (by omega)] at hc4; first | omega | (simp at hc4)

set_option maxHeartbeats 4000000 in
set_option maxRecDepth 100000 in
theorem c_X9_fooled_3 (l : Launch) (D : va_G) (g : Nat → ClassId) (ad : Nat → Nat) (I : Nat → Nat → Int32) (L : Nat → Nat → Int64) (S : Nat → Nat) (Z : Nat → Nat → Int32) (Y : Int64) (a : Nat) (b : Nat) (x : Int32) (y1 : Int32) (y2 : Int32) (ha : a < 15) (hb : b < 15) (hx : x < 0 ∨ ¬ x ≤ nI 14) : CT l yX9_fooled cX9_fooled 9 ((Option.some FieldType.int)) ({ frames := 2, cells := 0, slots := 0, locals := 42 } : Room) [.ref (ad 0), .int (nI a), .int (nI b), .int x, .int y1, .int y2] D CL (TYS g) ([]) (WM ad g I L S Z Y) (S := Unit) (fun _ => some (.int (nI 0))) (fun _ => WM ad g I L S (u2 (u2 Z 3 0 (nI 0)) 3 0 (nI 1)) Y) (fun _ => True) 0 0 := by
  refine ct_of (by decide +kernel) (Nat.le_of_ble_eq_true rfl) ?_
  intro p e s m below meth c A X hr hnm hSB hRO hAf
  refine g_cs (ws' := WM ad g I L S Z Y ++ []) (lv' := [(0, .ref (ad 0)), (1, .int (nI a)), (2, .int (nI b)), (3, .int x), (4, .int y1), (5, .int y2)]) (List.append_nil _) rfl ?_
  refine g_run X KX9_fooled_0_0 KX9_fooled_0_0_d 2 [(0, .ref (ad 0)), (1, .int (nI a)), (2, .int (nI b)), (3, .int x), (4, .int y1), (5, .int y2)] [.int (nI 0), .ref (ad 0)] rfl ?_
  refine g_put X (ws' := WM ad g I L S (u2 Z 3 0 (nI 0)) Y ++ []) hinX9 tyX9 tyX9_ok nmX9 rfl 0 (by decide) w_1180 rfl rfl (ty := .int) rfl rfl rfl (0) (wm_get (k := 0) (by decide)) (Nat.le_of_ble_eq_true rfl) (wm_mo0) dX9_fooled_2 ?_
  refine g_run X KX9_fooled_5_1 KX9_fooled_5_1_d 6 [(0, .ref (ad 0)), (1, .int (nI a)), (2, .int (nI b)), (3, .int x), (4, .int y1), (5, .int y2)] [.int (nI a)] rfl ?_
  refine g_callS X hSB hAf (As := [.int (nI a)]) (wr := WM ad g I L S (u2 Z 3 0 (nI 0)) Y ++ []) (n := 1) (c_X9_isPlace_t l D g a (by omega)) rfl srcN hrdN w_1335 w_1333 w_1334 w_6 (by decide +kernel) rfl ⟨Nat.le_of_ble_eq_true rfl, Nat.le_of_ble_eq_true rfl⟩ rfl rfl rfl (Nat.le_of_ble_eq_true rfl) ⟨Nat.le_of_ble_eq_true rfl, Nat.le_of_ble_eq_true rfl⟩ dX9_fooled_6 (fun hu1 _ => ?_)
  refine g_af (ws' := WM ad g I L S (u2 Z 3 0 (nI 0)) Y ++ []) (st' := [.int (nI 1)]) (cells' := 0) (slots' := 0) (pc' := 9) rfl rfl rfl rfl rfl ?_
  refine g_if_eq X 26 dX9_fooled_9 (by decide) (fun hc2 => ?_) (fun hc2 => ?_)
  · rw [nz_eq (by omega)] at hc2; first | omega | (simp at hc2)
  · refine g_run X KX9_fooled_12_2 KX9_fooled_12_2_d 13 [(0, .ref (ad 0)), (1, .int (nI a)), (2, .int (nI b)), (3, .int x), (4, .int y1), (5, .int y2)] [.int (nI b)] rfl ?_
    refine g_callS X hSB hAf (As := [.int (nI b)]) (wr := WM ad g I L S (u2 Z 3 0 (nI 0)) Y ++ []) (n := 1) (c_X9_isPlace_t l D g b (by omega)) rfl srcN hrdN w_1335 w_1333 w_1334 w_6 (by decide +kernel) rfl ⟨Nat.le_of_ble_eq_true rfl, Nat.le_of_ble_eq_true rfl⟩ rfl rfl rfl (Nat.le_of_ble_eq_true rfl) ⟨Nat.le_of_ble_eq_true rfl, Nat.le_of_ble_eq_true rfl⟩ dX9_fooled_13 (fun hu3 _ => ?_)
    refine g_af (ws' := WM ad g I L S (u2 Z 3 0 (nI 0)) Y ++ []) (st' := [.int (nI 1)]) (cells' := 0) (slots' := 0) (pc' := 16) rfl rfl rfl rfl rfl ?_
    refine g_if_eq X 26 dX9_fooled_16 (by decide) (fun hc4 => ?_) (fun hc4 => ?_)
    · rw [nz_eq (by omega)] at hc4; first | omega | (simp at hc4)
    · refine g_run X KX9_fooled_19_3 KX9_fooled_19_3_d 20 [(0, .ref (ad 0)), (1, .int (nI a)), (2, .int (nI b)), (3, .int x), (4, .int y1), (5, .int y2)] [.int x] rfl ?_
      refine g_callS X hSB hAf (As := [.int x]) (wr := WM ad g I L S (u2 Z 3 0 (nI 0)) Y ++ []) (n := 1) (c_X9_isPlace_f l D g x (hx)) rfl srcN hrdN w_1335 w_1333 w_1334 w_6 (by decide +kernel) rfl ⟨Nat.le_of_ble_eq_true rfl, Nat.le_of_ble_eq_true rfl⟩ rfl rfl rfl (Nat.le_of_ble_eq_true rfl) ⟨Nat.le_of_ble_eq_true rfl, Nat.le_of_ble_eq_true rfl⟩ dX9_fooled_20 (fun hu5 _ => ?_)
      refine g_af (ws' := WM ad g I L S (u2 Z 3 0 (nI 0)) Y ++ []) (st' := [.int (nI 0)]) (cells' := 0) (slots' := 0) (pc' := 23) rfl rfl rfl rfl rfl ?_
      refine g_if_ne X 32 dX9_fooled_23 (by decide) (fun hc6 => ?_) (fun hc6 => ?_)
      · rw [nz_eq (by omega)] at hc6; first | omega | (simp at hc6)
      · refine g_run X KX9_fooled_26_20 KX9_fooled_26_20_d 28 [(0, .ref (ad 0)), (1, .int (nI a)), (2, .int (nI b)), (3, .int x), (4, .int y1), (5, .int y2)] [.int (nI 1), .ref (ad 0)] rfl ?_
        refine g_callV X hSB hAf (srcW) (hrc1 := (rfl : CL[8]? = some _)) (wm_mem (k := 0) (by decide)) rfl (As := [.int (nI 1)]) (wr := []) (n := 1) (c_X9_refuse l D g ad I L S (u2 Z 3 0 (nI 0)) Y 1 ) rfl srcN hrdN w_1264 w_1261 w_1263 w_s12 w_6 (by decide +kernel) rfl ⟨Nat.le_of_ble_eq_true rfl, Nat.le_of_ble_eq_true rfl⟩ rfl rfl rfl (Nat.le_of_ble_eq_true rfl) ⟨Nat.le_of_ble_eq_true rfl, Nat.le_of_ble_eq_true rfl⟩ dX9_fooled_28 (fun hu7 _ => ?_)
        refine g_af (ws' := WM ad g I L S (u2 (u2 Z 3 0 (nI 0)) 3 0 (nI 1)) Y ++ []) (st' := [.int (nI 0)]) (cells' := 0) (slots' := 0) (pc' := 31) rfl rfl rfl rfl rfl ?_
        exact g_iret X hr () (rfl) (trivial) (rfl) (Nat.le_of_ble_eq_true rfl) (Nat.le_of_ble_eq_true rfl) dX9_fooled_31

def KX9_fooled_69_21 : List (Nat × Instr × Nat) := [(69, .aload_n 0, 1), (70, .iconst 2, 1)]
theorem KX9_fooled_69_21_d : ∀ z ∈ KX9_fooled_69_21, decode cX9_fooled z.1 = .ok z.2 := by decide +kernel
set_option maxHeartbeats 4000000 in
set_option maxRecDepth 100000 in
theorem c_X9_fooled_4 (l : Launch) (D : va_G) (g : Nat → ClassId) (ad : Nat → Nat) (I : Nat → Nat → Int32) (L : Nat → Nat → Int64) (S : Nat → Nat) (Z : Nat → Nat → Int32) (Y : Int64) (a : Nat) (b : Nat) (d : Nat) (y1 : Int32) (y2 : Int32) (ha : a < 15) (hb : b < 15) (hd : d < 15) (hx : a = b ∨ a = d ∨ b = d) : CT l yX9_fooled cX9_fooled 9 ((Option.some FieldType.int)) ({ frames := 2, cells := 0, slots := 0, locals := 42 } : Room) [.ref (ad 0), .int (nI a), .int (nI b), .int (nI d), .int y1, .int y2] D CL (TYS g) ([]) (WM ad g I L S Z Y) (S := Unit) (fun _ => some (.int (nI 0))) (fun _ => WM ad g I L S (u2 (u2 Z 3 0 (nI 0)) 3 0 (nI 2)) Y) (fun _ => True) 0 0 := by
  refine ct_of (by decide +kernel) (Nat.le_of_ble_eq_true rfl) ?_
  intro p e s m below meth c A X hr hnm hSB hRO hAf
  refine g_cs (ws' := WM ad g I L S Z Y ++ []) (lv' := [(0, .ref (ad 0)), (1, .int (nI a)), (2, .int (nI b)), (3, .int (nI d)), (4, .int y1), (5, .int y2)]) (List.append_nil _) rfl ?_
  refine g_run X KX9_fooled_0_0 KX9_fooled_0_0_d 2 [(0, .ref (ad 0)), (1, .int (nI a)), (2, .int (nI b)), (3, .int (nI d)), (4, .int y1), (5, .int y2)] [.int (nI 0), .ref (ad 0)] rfl ?_
  refine g_put X (ws' := WM ad g I L S (u2 Z 3 0 (nI 0)) Y ++ []) hinX9 tyX9 tyX9_ok nmX9 rfl 0 (by decide) w_1180 rfl rfl (ty := .int) rfl rfl rfl (0) (wm_get (k := 0) (by decide)) (Nat.le_of_ble_eq_true rfl) (wm_mo0) dX9_fooled_2 ?_
  refine g_run X KX9_fooled_5_1 KX9_fooled_5_1_d 6 [(0, .ref (ad 0)), (1, .int (nI a)), (2, .int (nI b)), (3, .int (nI d)), (4, .int y1), (5, .int y2)] [.int (nI a)] rfl ?_
  refine g_callS X hSB hAf (As := [.int (nI a)]) (wr := WM ad g I L S (u2 Z 3 0 (nI 0)) Y ++ []) (n := 1) (c_X9_isPlace_t l D g a (by omega)) rfl srcN hrdN w_1335 w_1333 w_1334 w_6 (by decide +kernel) rfl ⟨Nat.le_of_ble_eq_true rfl, Nat.le_of_ble_eq_true rfl⟩ rfl rfl rfl (Nat.le_of_ble_eq_true rfl) ⟨Nat.le_of_ble_eq_true rfl, Nat.le_of_ble_eq_true rfl⟩ dX9_fooled_6 (fun hu1 _ => ?_)
  refine g_af (ws' := WM ad g I L S (u2 Z 3 0 (nI 0)) Y ++ []) (st' := [.int (nI 1)]) (cells' := 0) (slots' := 0) (pc' := 9) rfl rfl rfl rfl rfl ?_
  refine g_if_eq X 26 dX9_fooled_9 (by decide) (fun hc2 => ?_) (fun hc2 => ?_)
  · rw [nz_eq (by omega)] at hc2; first | omega | (simp at hc2)
  · refine g_run X KX9_fooled_12_2 KX9_fooled_12_2_d 13 [(0, .ref (ad 0)), (1, .int (nI a)), (2, .int (nI b)), (3, .int (nI d)), (4, .int y1), (5, .int y2)] [.int (nI b)] rfl ?_
    refine g_callS X hSB hAf (As := [.int (nI b)]) (wr := WM ad g I L S (u2 Z 3 0 (nI 0)) Y ++ []) (n := 1) (c_X9_isPlace_t l D g b (by omega)) rfl srcN hrdN w_1335 w_1333 w_1334 w_6 (by decide +kernel) rfl ⟨Nat.le_of_ble_eq_true rfl, Nat.le_of_ble_eq_true rfl⟩ rfl rfl rfl (Nat.le_of_ble_eq_true rfl) ⟨Nat.le_of_ble_eq_true rfl, Nat.le_of_ble_eq_true rfl⟩ dX9_fooled_13 (fun hu3 _ => ?_)
    refine g_af (ws' := WM ad g I L S (u2 Z 3 0 (nI 0)) Y ++ []) (st' := [.int (nI 1)]) (cells' := 0) (slots' := 0) (pc' := 16) rfl rfl rfl rfl rfl ?_
    refine g_if_eq X 26 dX9_fooled_16 (by decide) (fun hc4 => ?_) (fun hc4 => ?_)
    · rw [nz_eq (by omega)] at hc4; first | omega | (simp at hc4)
    · refine g_run X KX9_fooled_19_3 KX9_fooled_19_3_d 20 [(0, .ref (ad 0)), (1, .int (nI a)), (2, .int (nI b)), (3, .int (nI d)), (4, .int y1), (5, .int y2)] [.int (nI d)] rfl ?_
      refine g_callS X hSB hAf (As := [.int (nI d)]) (wr := WM ad g I L S (u2 Z 3 0 (nI 0)) Y ++ []) (n := 1) (c_X9_isPlace_t l D g d (by omega)) rfl srcN hrdN w_1335 w_1333 w_1334 w_6 (by decide +kernel) rfl ⟨Nat.le_of_ble_eq_true rfl, Nat.le_of_ble_eq_true rfl⟩ rfl rfl rfl (Nat.le_of_ble_eq_true rfl) ⟨Nat.le_of_ble_eq_true rfl, Nat.le_of_ble_eq_true rfl⟩ dX9_fooled_20 (fun hu5 _ => ?_)
      refine g_af (ws' := WM ad g I L S (u2 Z 3 0 (nI 0)) Y ++ []) (st' := [.int (nI 1)]) (cells' := 0) (slots' := 0) (pc' := 23) rfl rfl rfl rfl rfl ?_
      refine g_if_ne X 32 dX9_fooled_23 (by decide) (fun hc6 => ?_) (fun hc6 => ?_)
      · refine g_run X KX9_fooled_32_4 KX9_fooled_32_4_d 34 [(0, .ref (ad 0)), (1, .int (nI a)), (2, .int (nI b)), (3, .int (nI d)), (4, .int y1), (5, .int y2)] [.int (nI b), .int (nI a)] rfl ?_
        refine g_icmp_eq X 69 dX9_fooled_34 (by decide) (fun hc7 => ?_) (fun hc7 => ?_)
        · rw [nI_eq (by omega) (by omega)] at hc7
          refine g_run X KX9_fooled_69_21 KX9_fooled_69_21_d 71 [(0, .ref (ad 0)), (1, .int (nI a)), (2, .int (nI b)), (3, .int (nI d)), (4, .int y1), (5, .int y2)] [.int (nI 2), .ref (ad 0)] rfl ?_
          refine g_callV X hSB hAf (srcW) (hrc1 := (rfl : CL[8]? = some _)) (wm_mem (k := 0) (by decide)) rfl (As := [.int (nI 2)]) (wr := []) (n := 1) (c_X9_refuse l D g ad I L S (u2 Z 3 0 (nI 0)) Y 2 ) rfl srcN hrdN w_1264 w_1261 w_1263 w_s12 w_6 (by decide +kernel) rfl ⟨Nat.le_of_ble_eq_true rfl, Nat.le_of_ble_eq_true rfl⟩ rfl rfl rfl (Nat.le_of_ble_eq_true rfl) ⟨Nat.le_of_ble_eq_true rfl, Nat.le_of_ble_eq_true rfl⟩ dX9_fooled_71 (fun hu8 _ => ?_)
          refine g_af (ws' := WM ad g I L S (u2 (u2 Z 3 0 (nI 0)) 3 0 (nI 2)) Y ++ []) (st' := [.int (nI 0)]) (cells' := 0) (slots' := 0) (pc' := 74) rfl rfl rfl rfl rfl ?_
          exact g_iret X hr () (rfl) (trivial) (rfl) (Nat.le_of_ble_eq_true rfl) (Nat.le_of_ble_eq_true rfl) dX9_fooled_74
        · rw [nI_eq (by omega) (by omega)] at hc7
          refine g_run X KX9_fooled_37_5 KX9_fooled_37_5_d 39 [(0, .ref (ad 0)), (1, .int (nI a)), (2, .int (nI b)), (3, .int (nI d)), (4, .int y1), (5, .int y2)] [.int (nI d), .int (nI a)] rfl ?_
          refine g_icmp_eq X 69 dX9_fooled_39 (by decide) (fun hc9 => ?_) (fun hc9 => ?_)
          · rw [nI_eq (by omega) (by omega)] at hc9
            refine g_run X KX9_fooled_69_21 KX9_fooled_69_21_d 71 [(0, .ref (ad 0)), (1, .int (nI a)), (2, .int (nI b)), (3, .int (nI d)), (4, .int y1), (5, .int y2)] [.int (nI 2), .ref (ad 0)] rfl ?_
            refine g_callV X hSB hAf (srcW) (hrc1 := (rfl : CL[8]? = some _)) (wm_mem (k := 0) (by decide)) rfl (As := [.int (nI 2)]) (wr := []) (n := 1) (c_X9_refuse l D g ad I L S (u2 Z 3 0 (nI 0)) Y 2 ) rfl srcN hrdN w_1264 w_1261 w_1263 w_s12 w_6 (by decide +kernel) rfl ⟨Nat.le_of_ble_eq_true rfl, Nat.le_of_ble_eq_true rfl⟩ rfl rfl rfl (Nat.le_of_ble_eq_true rfl) ⟨Nat.le_of_ble_eq_true rfl, Nat.le_of_ble_eq_true rfl⟩ dX9_fooled_71 (fun hu10 _ => ?_)
            refine g_af (ws' := WM ad g I L S (u2 (u2 Z 3 0 (nI 0)) 3 0 (nI 2)) Y ++ []) (st' := [.int (nI 0)]) (cells' := 0) (slots' := 0) (pc' := 74) rfl rfl rfl rfl rfl ?_
            exact g_iret X hr () (rfl) (trivial) (rfl) (Nat.le_of_ble_eq_true rfl) (Nat.le_of_ble_eq_true rfl) dX9_fooled_74
          · rw [nI_eq (by omega) (by omega)] at hc9
            refine g_run X KX9_fooled_42_6 KX9_fooled_42_6_d 44 [(0, .ref (ad 0)), (1, .int (nI a)), (2, .int (nI b)), (3, .int (nI d)), (4, .int y1), (5, .int y2)] [.int (nI d), .int (nI b)] rfl ?_
            refine g_icmp_eq X 69 dX9_fooled_44 (by decide) (fun hc11 => ?_) (fun hc11 => ?_)
            · refine g_run X KX9_fooled_69_21 KX9_fooled_69_21_d 71 [(0, .ref (ad 0)), (1, .int (nI a)), (2, .int (nI b)), (3, .int (nI d)), (4, .int y1), (5, .int y2)] [.int (nI 2), .ref (ad 0)] rfl ?_
              refine g_callV X hSB hAf (srcW) (hrc1 := (rfl : CL[8]? = some _)) (wm_mem (k := 0) (by decide)) rfl (As := [.int (nI 2)]) (wr := []) (n := 1) (c_X9_refuse l D g ad I L S (u2 Z 3 0 (nI 0)) Y 2 ) rfl srcN hrdN w_1264 w_1261 w_1263 w_s12 w_6 (by decide +kernel) rfl ⟨Nat.le_of_ble_eq_true rfl, Nat.le_of_ble_eq_true rfl⟩ rfl rfl rfl (Nat.le_of_ble_eq_true rfl) ⟨Nat.le_of_ble_eq_true rfl, Nat.le_of_ble_eq_true rfl⟩ dX9_fooled_71 (fun hu12 _ => ?_)
              refine g_af (ws' := WM ad g I L S (u2 (u2 Z 3 0 (nI 0)) 3 0 (nI 2)) Y ++ []) (st' := [.int (nI 0)]) (cells' := 0) (slots' := 0) (pc' := 74) rfl rfl rfl rfl rfl ?_
              exact g_iret X hr () (rfl) (trivial) (rfl) (Nat.le_of_ble_eq_true rfl) (Nat.le_of_ble_eq_true rfl) dX9_fooled_74
            · rw [nI_eq (by omega) (by omega)] at hc11; first | omega | (simp at hc11)
      · rw [nz_eq (by omega)] at hc6; first | omega | (simp at hc6)

set_option maxHeartbeats 4000000 in
set_option maxRecDepth 100000 in
theorem c_X9_fooled_5 (l : Launch) (D : va_G) (g : Nat → ClassId) (ad : Nat → Nat) (I : Nat → Nat → Int32) (L : Nat → Nat → Int64) (S : Nat → Nat) (Z : Nat → Nat → Int32) (Y : Int64) (a : Nat) (b : Nat) (d : Nat) (x : Int32) (y1 : Int32) (ha : a < 15) (hb : b < 15) (hd : d < 15) (hab : a ≠ b) (had : a ≠ d) (hbdn : b ≠ d) (hx : x < nI 1 ∨ ¬ x ≤ nI 15) : CT l yX9_fooled cX9_fooled 9 ((Option.some FieldType.int)) ({ frames := 2, cells := 0, slots := 0, locals := 42 } : Room) [.ref (ad 0), .int (nI a), .int (nI b), .int (nI d), .int x, .int y1] D CL (TYS g) ([]) (WM ad g I L S Z Y) (S := Unit) (fun _ => some (.int (nI 0))) (fun _ => WM ad g I L S (u2 (u2 Z 3 0 (nI 0)) 3 0 (nI 2)) Y) (fun _ => True) 0 0 := by
  refine ct_of (by decide +kernel) (Nat.le_of_ble_eq_true rfl) ?_
  intro p e s m below meth c A X hr hnm hSB hRO hAf
  refine g_cs (ws' := WM ad g I L S Z Y ++ []) (lv' := [(0, .ref (ad 0)), (1, .int (nI a)), (2, .int (nI b)), (3, .int (nI d)), (4, .int x), (5, .int y1)]) (List.append_nil _) rfl ?_
  refine g_run X KX9_fooled_0_0 KX9_fooled_0_0_d 2 [(0, .ref (ad 0)), (1, .int (nI a)), (2, .int (nI b)), (3, .int (nI d)), (4, .int x), (5, .int y1)] [.int (nI 0), .ref (ad 0)] rfl ?_
  refine g_put X (ws' := WM ad g I L S (u2 Z 3 0 (nI 0)) Y ++ []) hinX9 tyX9 tyX9_ok nmX9 rfl 0 (by decide) w_1180 rfl rfl (ty := .int) rfl rfl rfl (0) (wm_get (k := 0) (by decide)) (Nat.le_of_ble_eq_true rfl) (wm_mo0) dX9_fooled_2 ?_
  refine g_run X KX9_fooled_5_1 KX9_fooled_5_1_d 6 [(0, .ref (ad 0)), (1, .int (nI a)), (2, .int (nI b)), (3, .int (nI d)), (4, .int x), (5, .int y1)] [.int (nI a)] rfl ?_
  refine g_callS X hSB hAf (As := [.int (nI a)]) (wr := WM ad g I L S (u2 Z 3 0 (nI 0)) Y ++ []) (n := 1) (c_X9_isPlace_t l D g a (by omega)) rfl srcN hrdN w_1335 w_1333 w_1334 w_6 (by decide +kernel) rfl ⟨Nat.le_of_ble_eq_true rfl, Nat.le_of_ble_eq_true rfl⟩ rfl rfl rfl (Nat.le_of_ble_eq_true rfl) ⟨Nat.le_of_ble_eq_true rfl, Nat.le_of_ble_eq_true rfl⟩ dX9_fooled_6 (fun hu1 _ => ?_)
  refine g_af (ws' := WM ad g I L S (u2 Z 3 0 (nI 0)) Y ++ []) (st' := [.int (nI 1)]) (cells' := 0) (slots' := 0) (pc' := 9) rfl rfl rfl rfl rfl ?_
  refine g_if_eq X 26 dX9_fooled_9 (by decide) (fun hc2 => ?_) (fun hc2 => ?_)
  · rw [nz_eq (by omega)] at hc2; first | omega | (simp at hc2)
  · refine g_run X KX9_fooled_12_2 KX9_fooled_12_2_d 13 [(0, .ref (ad 0)), (1, .int (nI a)), (2, .int (nI b)), (3, .int (nI d)), (4, .int x), (5, .int y1)] [.int (nI b)] rfl ?_
    refine g_callS X hSB hAf (As := [.int (nI b)]) (wr := WM ad g I L S (u2 Z 3 0 (nI 0)) Y ++ []) (n := 1) (c_X9_isPlace_t l D g b (by omega)) rfl srcN hrdN w_1335 w_1333 w_1334 w_6 (by decide +kernel) rfl ⟨Nat.le_of_ble_eq_true rfl, Nat.le_of_ble_eq_true rfl⟩ rfl rfl rfl (Nat.le_of_ble_eq_true rfl) ⟨Nat.le_of_ble_eq_true rfl, Nat.le_of_ble_eq_true rfl⟩ dX9_fooled_13 (fun hu3 _ => ?_)
    refine g_af (ws' := WM ad g I L S (u2 Z 3 0 (nI 0)) Y ++ []) (st' := [.int (nI 1)]) (cells' := 0) (slots' := 0) (pc' := 16) rfl rfl rfl rfl rfl ?_
    refine g_if_eq X 26 dX9_fooled_16 (by decide) (fun hc4 => ?_) (fun hc4 => ?_)
    · rw [nz_eq (by omega)] at hc4; first | omega | (simp at hc4)
    · refine g_run X KX9_fooled_19_3 KX9_fooled_19_3_d 20 [(0, .ref (ad 0)), (1, .int (nI a)), (2, .int (nI b)), (3, .int (nI d)), (4, .int x), (5, .int y1)] [.int (nI d)] rfl ?_
      refine g_callS X hSB hAf (As := [.int (nI d)]) (wr := WM ad g I L S (u2 Z 3 0 (nI 0)) Y ++ []) (n := 1) (c_X9_isPlace_t l D g d (by omega)) rfl srcN hrdN w_1335 w_1333 w_1334 w_6 (by decide +kernel) rfl ⟨Nat.le_of_ble_eq_true rfl, Nat.le_of_ble_eq_true rfl⟩ rfl rfl rfl (Nat.le_of_ble_eq_true rfl) ⟨Nat.le_of_ble_eq_true rfl, Nat.le_of_ble_eq_true rfl⟩ dX9_fooled_20 (fun hu5 _ => ?_)
      refine g_af (ws' := WM ad g I L S (u2 Z 3 0 (nI 0)) Y ++ []) (st' := [.int (nI 1)]) (cells' := 0) (slots' := 0) (pc' := 23) rfl rfl rfl rfl rfl ?_
      refine g_if_ne X 32 dX9_fooled_23 (by decide) (fun hc6 => ?_) (fun hc6 => ?_)
      · refine g_run X KX9_fooled_32_4 KX9_fooled_32_4_d 34 [(0, .ref (ad 0)), (1, .int (nI a)), (2, .int (nI b)), (3, .int (nI d)), (4, .int x), (5, .int y1)] [.int (nI b), .int (nI a)] rfl ?_
        refine g_icmp_eq X 69 dX9_fooled_34 (by decide) (fun hc7 => ?_) (fun hc7 => ?_)
        · rw [nI_eq (by omega) (by omega)] at hc7; first | omega | (simp at hc7)
        · refine g_run X KX9_fooled_37_5 KX9_fooled_37_5_d 39 [(0, .ref (ad 0)), (1, .int (nI a)), (2, .int (nI b)), (3, .int (nI d)), (4, .int x), (5, .int y1)] [.int (nI d), .int (nI a)] rfl ?_
          refine g_icmp_eq X 69 dX9_fooled_39 (by decide) (fun hc8 => ?_) (fun hc8 => ?_)
          · rw [nI_eq (by omega) (by omega)] at hc8; first | omega | (simp at hc8)
          · refine g_run X KX9_fooled_42_6 KX9_fooled_42_6_d 44 [(0, .ref (ad 0)), (1, .int (nI a)), (2, .int (nI b)), (3, .int (nI d)), (4, .int x), (5, .int y1)] [.int (nI d), .int (nI b)] rfl ?_
            refine g_icmp_eq X 69 dX9_fooled_44 (by decide) (fun hc9 => ?_) (fun hc9 => ?_)
            · rw [nI_eq (by omega) (by omega)] at hc9; first | omega | (simp at hc9)
            · refine g_run X KX9_fooled_47_7 KX9_fooled_47_7_d 52 [(0, .ref (ad 0)), (1, .int (nI a)), (2, .int (nI b)), (3, .int (nI d)), (4, .int x), (5, .int y1)] [.int (nI 15), .int (nI 1), .int x] rfl ?_
              refine g_callS X hSB hAf (As := [.int x, .int (nI 1), .int (nI 15)]) (wr := WM ad g I L S (u2 Z 3 0 (nI 0)) Y ++ []) (n := 3) (c_X9_is_f l D g x (nI 1) (nI 15) (hx)) rfl srcN hrdN w_1260 w_1258 w_1259 w_6 (by decide +kernel) rfl ⟨Nat.le_of_ble_eq_true rfl, Nat.le_of_ble_eq_true rfl⟩ rfl rfl rfl (Nat.le_of_ble_eq_true rfl) ⟨Nat.le_of_ble_eq_true rfl, Nat.le_of_ble_eq_true rfl⟩ dX9_fooled_52 (fun hu10 _ => ?_)
              refine g_af (ws' := WM ad g I L S (u2 Z 3 0 (nI 0)) Y ++ []) (st' := [.int (nI 0)]) (cells' := 0) (slots' := 0) (pc' := 55) rfl rfl rfl rfl rfl ?_
              refine g_if_eq X 69 dX9_fooled_55 (by decide) (fun hc11 => ?_) (fun hc11 => ?_)
              · refine g_run X KX9_fooled_69_21 KX9_fooled_69_21_d 71 [(0, .ref (ad 0)), (1, .int (nI a)), (2, .int (nI b)), (3, .int (nI d)), (4, .int x), (5, .int y1)] [.int (nI 2), .ref (ad 0)] rfl ?_
                refine g_callV X hSB hAf (srcW) (hrc1 := (rfl : CL[8]? = some _)) (wm_mem (k := 0) (by decide)) rfl (As := [.int (nI 2)]) (wr := []) (n := 1) (c_X9_refuse l D g ad I L S (u2 Z 3 0 (nI 0)) Y 2 ) rfl srcN hrdN w_1264 w_1261 w_1263 w_s12 w_6 (by decide +kernel) rfl ⟨Nat.le_of_ble_eq_true rfl, Nat.le_of_ble_eq_true rfl⟩ rfl rfl rfl (Nat.le_of_ble_eq_true rfl) ⟨Nat.le_of_ble_eq_true rfl, Nat.le_of_ble_eq_true rfl⟩ dX9_fooled_71 (fun hu12 _ => ?_)
                refine g_af (ws' := WM ad g I L S (u2 (u2 Z 3 0 (nI 0)) 3 0 (nI 2)) Y ++ []) (st' := [.int (nI 0)]) (cells' := 0) (slots' := 0) (pc' := 74) rfl rfl rfl rfl rfl ?_
                exact g_iret X hr () (rfl) (trivial) (rfl) (Nat.le_of_ble_eq_true rfl) (Nat.le_of_ble_eq_true rfl) dX9_fooled_74
              · rw [nz_eq (by omega)] at hc11; first | omega | (simp at hc11)
      · rw [nz_eq (by omega)] at hc6; first | omega | (simp at hc6)

set_option maxHeartbeats 4000000 in
set_option maxRecDepth 100000 in
theorem c_X9_fooled_6 (l : Launch) (D : va_G) (g : Nat → ClassId) (ad : Nat → Nat) (I : Nat → Nat → Int32) (L : Nat → Nat → Int64) (S : Nat → Nat) (Z : Nat → Nat → Int32) (Y : Int64) (a : Nat) (b : Nat) (d : Nat) (v : Nat) (x : Int32) (ha : a < 15) (hb : b < 15) (hd : d < 15) (hab : a ≠ b) (had : a ≠ d) (hbdn : b ≠ d) (hv1 : 1 ≤ v) (hv : v < 16) (hx : x < nI 1 ∨ ¬ x ≤ nI 15) : CT l yX9_fooled cX9_fooled 9 ((Option.some FieldType.int)) ({ frames := 2, cells := 0, slots := 0, locals := 42 } : Room) [.ref (ad 0), .int (nI a), .int (nI b), .int (nI d), .int (nI v), .int x] D CL (TYS g) ([]) (WM ad g I L S Z Y) (S := Unit) (fun _ => some (.int (nI 0))) (fun _ => WM ad g I L S (u2 (u2 Z 3 0 (nI 0)) 3 0 (nI 2)) Y) (fun _ => True) 0 0 := by
  refine ct_of (by decide +kernel) (Nat.le_of_ble_eq_true rfl) ?_
  intro p e s m below meth c A X hr hnm hSB hRO hAf
  refine g_cs (ws' := WM ad g I L S Z Y ++ []) (lv' := [(0, .ref (ad 0)), (1, .int (nI a)), (2, .int (nI b)), (3, .int (nI d)), (4, .int (nI v)), (5, .int x)]) (List.append_nil _) rfl ?_
  refine g_run X KX9_fooled_0_0 KX9_fooled_0_0_d 2 [(0, .ref (ad 0)), (1, .int (nI a)), (2, .int (nI b)), (3, .int (nI d)), (4, .int (nI v)), (5, .int x)] [.int (nI 0), .ref (ad 0)] rfl ?_
  refine g_put X (ws' := WM ad g I L S (u2 Z 3 0 (nI 0)) Y ++ []) hinX9 tyX9 tyX9_ok nmX9 rfl 0 (by decide) w_1180 rfl rfl (ty := .int) rfl rfl rfl (0) (wm_get (k := 0) (by decide)) (Nat.le_of_ble_eq_true rfl) (wm_mo0) dX9_fooled_2 ?_
  refine g_run X KX9_fooled_5_1 KX9_fooled_5_1_d 6 [(0, .ref (ad 0)), (1, .int (nI a)), (2, .int (nI b)), (3, .int (nI d)), (4, .int (nI v)), (5, .int x)] [.int (nI a)] rfl ?_
  refine g_callS X hSB hAf (As := [.int (nI a)]) (wr := WM ad g I L S (u2 Z 3 0 (nI 0)) Y ++ []) (n := 1) (c_X9_isPlace_t l D g a (by omega)) rfl srcN hrdN w_1335 w_1333 w_1334 w_6 (by decide +kernel) rfl ⟨Nat.le_of_ble_eq_true rfl, Nat.le_of_ble_eq_true rfl⟩ rfl rfl rfl (Nat.le_of_ble_eq_true rfl) ⟨Nat.le_of_ble_eq_true rfl, Nat.le_of_ble_eq_true rfl⟩ dX9_fooled_6 (fun hu1 _ => ?_)
  refine g_af (ws' := WM ad g I L S (u2 Z 3 0 (nI 0)) Y ++ []) (st' := [.int (nI 1)]) (cells' := 0) (slots' := 0) (pc' := 9) rfl rfl rfl rfl rfl ?_
  refine g_if_eq X 26 dX9_fooled_9 (by decide) (fun hc2 => ?_) (fun hc2 => ?_)
  · rw [nz_eq (by omega)] at hc2; first | omega | (simp at hc2)
  · refine g_run X KX9_fooled_12_2 KX9_fooled_12_2_d 13 [(0, .ref (ad 0)), (1, .int (nI a)), (2, .int (nI b)), (3, .int (nI d)), (4, .int (nI v)), (5, .int x)] [.int (nI b)] rfl ?_
    refine g_callS X hSB hAf (As := [.int (nI b)]) (wr := WM ad g I L S (u2 Z 3 0 (nI 0)) Y ++ []) (n := 1) (c_X9_isPlace_t l D g b (by omega)) rfl srcN hrdN w_1335 w_1333 w_1334 w_6 (by decide +kernel) rfl ⟨Nat.le_of_ble_eq_true rfl, Nat.le_of_ble_eq_true rfl⟩ rfl rfl rfl (Nat.le_of_ble_eq_true rfl) ⟨Nat.le_of_ble_eq_true rfl, Nat.le_of_ble_eq_true rfl⟩ dX9_fooled_13 (fun hu3 _ => ?_)
    refine g_af (ws' := WM ad g I L S (u2 Z 3 0 (nI 0)) Y ++ []) (st' := [.int (nI 1)]) (cells' := 0) (slots' := 0) (pc' := 16) rfl rfl rfl rfl rfl ?_
    refine g_if_eq X 26 dX9_fooled_16 (by decide) (fun hc4 => ?_) (fun hc4 => ?_)
    · rw [nz_eq (by omega)] at hc4; first | omega | (simp at hc4)
    · refine g_run X KX9_fooled_19_3 KX9_fooled_19_3_d 20 [(0, .ref (ad 0)), (1, .int (nI a)), (2, .int (nI b)), (3, .int (nI d)), (4, .int (nI v)), (5, .int x)] [.int (nI d)] rfl ?_
      refine g_callS X hSB hAf (As := [.int (nI d)]) (wr := WM ad g I L S (u2 Z 3 0 (nI 0)) Y ++ []) (n := 1) (c_X9_isPlace_t l D g d (by omega)) rfl srcN hrdN w_1335 w_1333 w_1334 w_6 (by decide +kernel) rfl ⟨Nat.le_of_ble_eq_true rfl, Nat.le_of_ble_eq_true rfl⟩ rfl rfl rfl (Nat.le_of_ble_eq_true rfl) ⟨Nat.le_of_ble_eq_true rfl, Nat.le_of_ble_eq_true rfl⟩ dX9_fooled_20 (fun hu5 _ => ?_)
      refine g_af (ws' := WM ad g I L S (u2 Z 3 0 (nI 0)) Y ++ []) (st' := [.int (nI 1)]) (cells' := 0) (slots' := 0) (pc' := 23) rfl rfl rfl rfl rfl ?_
      refine g_if_ne X 32 dX9_fooled_23 (by decide) (fun hc6 => ?_) (fun hc6 => ?_)
      · refine g_run X KX9_fooled_32_4 KX9_fooled_32_4_d 34 [(0, .ref (ad 0)), (1, .int (nI a)), (2, .int (nI b)), (3, .int (nI d)), (4, .int (nI v)), (5, .int x)] [.int (nI b), .int (nI a)] rfl ?_
        refine g_icmp_eq X 69 dX9_fooled_34 (by decide) (fun hc7 => ?_) (fun hc7 => ?_)
        · rw [nI_eq (by omega) (by omega)] at hc7; first | omega | (simp at hc7)
        · refine g_run X KX9_fooled_37_5 KX9_fooled_37_5_d 39 [(0, .ref (ad 0)), (1, .int (nI a)), (2, .int (nI b)), (3, .int (nI d)), (4, .int (nI v)), (5, .int x)] [.int (nI d), .int (nI a)] rfl ?_
          refine g_icmp_eq X 69 dX9_fooled_39 (by decide) (fun hc8 => ?_) (fun hc8 => ?_)
          · rw [nI_eq (by omega) (by omega)] at hc8; first | omega | (simp at hc8)
          · refine g_run X KX9_fooled_42_6 KX9_fooled_42_6_d 44 [(0, .ref (ad 0)), (1, .int (nI a)), (2, .int (nI b)), (3, .int (nI d)), (4, .int (nI v)), (5, .int x)] [.int (nI d), .int (nI b)] rfl ?_
            refine g_icmp_eq X 69 dX9_fooled_44 (by decide) (fun hc9 => ?_) (fun hc9 => ?_)
            · rw [nI_eq (by omega) (by omega)] at hc9; first | omega | (simp at hc9)
            · refine g_run X KX9_fooled_47_7 KX9_fooled_47_7_d 52 [(0, .ref (ad 0)), (1, .int (nI a)), (2, .int (nI b)), (3, .int (nI d)), (4, .int (nI v)), (5, .int x)] [.int (nI 15), .int (nI 1), .int (nI v)] rfl ?_
              refine g_callS X hSB hAf (As := [.int (nI v), .int (nI 1), .int (nI 15)]) (wr := WM ad g I L S (u2 Z 3 0 (nI 0)) Y ++ []) (n := 3) (c_X9_is_t l D g v 1 15 (by omega) (by omega) (by omega)) rfl srcN hrdN w_1260 w_1258 w_1259 w_6 (by decide +kernel) rfl ⟨Nat.le_of_ble_eq_true rfl, Nat.le_of_ble_eq_true rfl⟩ rfl rfl rfl (Nat.le_of_ble_eq_true rfl) ⟨Nat.le_of_ble_eq_true rfl, Nat.le_of_ble_eq_true rfl⟩ dX9_fooled_52 (fun hu10 _ => ?_)
              refine g_af (ws' := WM ad g I L S (u2 Z 3 0 (nI 0)) Y ++ []) (st' := [.int (nI 1)]) (cells' := 0) (slots' := 0) (pc' := 55) rfl rfl rfl rfl rfl ?_
              refine g_if_eq X 69 dX9_fooled_55 (by decide) (fun hc11 => ?_) (fun hc11 => ?_)
              · rw [nz_eq (by omega)] at hc11; first | omega | (simp at hc11)
              · refine g_run X KX9_fooled_58_8 KX9_fooled_58_8_d 63 [(0, .ref (ad 0)), (1, .int (nI a)), (2, .int (nI b)), (3, .int (nI d)), (4, .int (nI v)), (5, .int x)] [.int (nI 15), .int (nI 1), .int x] rfl ?_
                refine g_callS X hSB hAf (As := [.int x, .int (nI 1), .int (nI 15)]) (wr := WM ad g I L S (u2 Z 3 0 (nI 0)) Y ++ []) (n := 3) (c_X9_is_f l D g x (nI 1) (nI 15) (hx)) rfl srcN hrdN w_1260 w_1258 w_1259 w_6 (by decide +kernel) rfl ⟨Nat.le_of_ble_eq_true rfl, Nat.le_of_ble_eq_true rfl⟩ rfl rfl rfl (Nat.le_of_ble_eq_true rfl) ⟨Nat.le_of_ble_eq_true rfl, Nat.le_of_ble_eq_true rfl⟩ dX9_fooled_63 (fun hu12 _ => ?_)
                refine g_af (ws' := WM ad g I L S (u2 Z 3 0 (nI 0)) Y ++ []) (st' := [.int (nI 0)]) (cells' := 0) (slots' := 0) (pc' := 66) rfl rfl rfl rfl rfl ?_
                refine g_if_ne X 75 dX9_fooled_66 (by decide) (fun hc13 => ?_) (fun hc13 => ?_)
                · rw [nz_eq (by omega)] at hc13; first | omega | (simp at hc13)
                · refine g_run X KX9_fooled_69_21 KX9_fooled_69_21_d 71 [(0, .ref (ad 0)), (1, .int (nI a)), (2, .int (nI b)), (3, .int (nI d)), (4, .int (nI v)), (5, .int x)] [.int (nI 2), .ref (ad 0)] rfl ?_
                  refine g_callV X hSB hAf (srcW) (hrc1 := (rfl : CL[8]? = some _)) (wm_mem (k := 0) (by decide)) rfl (As := [.int (nI 2)]) (wr := []) (n := 1) (c_X9_refuse l D g ad I L S (u2 Z 3 0 (nI 0)) Y 2 ) rfl srcN hrdN w_1264 w_1261 w_1263 w_s12 w_6 (by decide +kernel) rfl ⟨Nat.le_of_ble_eq_true rfl, Nat.le_of_ble_eq_true rfl⟩ rfl rfl rfl (Nat.le_of_ble_eq_true rfl) ⟨Nat.le_of_ble_eq_true rfl, Nat.le_of_ble_eq_true rfl⟩ dX9_fooled_71 (fun hu14 _ => ?_)
                  refine g_af (ws' := WM ad g I L S (u2 (u2 Z 3 0 (nI 0)) 3 0 (nI 2)) Y ++ []) (st' := [.int (nI 0)]) (cells' := 0) (slots' := 0) (pc' := 74) rfl rfl rfl rfl rfl ?_
                  exact g_iret X hr () (rfl) (trivial) (rfl) (Nat.le_of_ble_eq_true rfl) (Nat.le_of_ble_eq_true rfl) dX9_fooled_74
      · rw [nz_eq (by omega)] at hc6; first | omega | (simp at hc6)

