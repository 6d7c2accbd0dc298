def KX4_writeWord_0_0 : List (Nat × Instr × Nat) := [(0, .iconst 0, 1), (1, .istore 4, 2)]
theorem KX4_writeWord_0_0_d : ∀ z ∈ KX4_writeWord_0_0, decode cX4_writeWord z.1 = .ok z.2 := by decide +kernel
def KX4_writeWord_3_1 : List (Nat × Instr × Nat) := [(3, .iload 4, 2), (5, .bipush 15, 2)]
theorem KX4_writeWord_3_1_d : ∀ z ∈ KX4_writeWord_3_1, decode cX4_writeWord z.1 = .ok z.2 := by decide +kernel
def KX4_writeWord_10_2 : List (Nat × Instr × Nat) := [(10, .aload_n 0, 1)]
theorem KX4_writeWord_10_2_d : ∀ z ∈ KX4_writeWord_10_2, decode cX4_writeWord z.1 = .ok z.2 := by decide +kernel
def KX4_writeWord_14_3 : List (Nat × Instr × Nat) := [(14, .iload 4, 2)]
theorem KX4_writeWord_14_3_d : ∀ z ∈ KX4_writeWord_14_3, decode cX4_writeWord z.1 = .ok z.2 := by decide +kernel
def KX4_writeWord_17_4 : List (Nat × Instr × Nat) := [(17, .iload_n 1, 1), (18, .lload_n 2, 1), (19, .iload 4, 2)]
theorem KX4_writeWord_17_4_d : ∀ z ∈ KX4_writeWord_17_4, decode cX4_writeWord z.1 = .ok z.2 := by decide +kernel
def KX4_writeWord_27_5 : List (Nat × Instr × Nat) := [(27, .iinc 4 1, 3), (30, .goto (-27), 3)]
theorem KX4_writeWord_27_5_d : ∀ z ∈ KX4_writeWord_27_5, decode cX4_writeWord z.1 = .ok z.2 := by decide +kernel
set_option maxHeartbeats 4000000 in
set_option maxRecDepth 100000 in
theorem c_X4_writeWord (l : Launch) (D : va_G) (g : Nat → ClassId) (ad : Nat → Nat) (I : Nat → Nat → Int32) (L : Nat → Nat → Int64) (S : Nat → Nat) (q : Nat) (x : Int64) (hS18 : ∀ p, p < 15 → S p < 18) (hq : q < 16) : CT l yX4_writeWord cX4_writeWord 5 ((Option.none : Option Jvm.ClassFile.FieldType)) ({ frames := 2, cells := 0, slots := 0, locals := 46 } : Room) [.ref (ad 1), .int (nI q), .long x] D CL (TYS g) ([]) (WC ad g I L S) (S := Unit) (fun _ => none) (fun _ => WC ad g I (wrw S L q x 15) S) (fun _ => True) 0 0 := by
  refine ct_of (by decide +kernel) (Nat.le_of_ble_eq_true rfl) ?_
  intro p e s m below meth c A X hr hnm hSB hRO hAf
  refine g_cs (ws' := WC ad g I L S) (lv' := [(0, .ref (ad 1)), (1, .int (nI q)), (2, .long x)]) rfl rfl ?_
  refine g_run X KX4_writeWord_0_0 KX4_writeWord_0_0_d 3 [(4, .int (nI 0)), (0, .ref (ad 1)), (1, .int (nI q)), (2, .long x)] [] rfl ?_
  refine g_lv (lv' := [(0, .ref (ad 1)), (1, .int (nI q)), (2, .long x), (4, .int (nI 0))]) (lsub_c 1 rfl (lsub_c 2 rfl (lsub_c 3 rfl (lsub_c 0 rfl (lsub_n))))) ?_
  refine g_for 15 (fun i => WC ad g I (wrw S L q x i) S) (fun i => [(0, .ref (ad 1)), (1, .int (nI q)), (2, .long x), (4, .int (nI i))]) (rfl) (rfl) ?_ ?_
  · refine g_run X KX4_writeWord_3_1 KX4_writeWord_3_1_d 7 [(0, .ref (ad 1)), (1, .int (nI q)), (2, .long x), (4, .int (nI 15))] [.int (nI 15), .int (nI 15)] rfl ?_
    refine g_icmp_ge X 33 dX4_writeWord_7 (by decide) (fun hc1 => ?_) (fun hc1 => ?_)
    · exact g_vret X hr () rfl (trivial) ((List.append_nil _).symm) (Nat.le_of_ble_eq_true rfl) (Nat.le_of_ble_eq_true rfl) dX4_writeWord_33
    · rw [nI_leI (by omega) (by omega)] at hc1; first | omega | (simp at hc1)
  · intro i hi k3
    refine g_run X KX4_writeWord_3_1 KX4_writeWord_3_1_d 7 [(0, .ref (ad 1)), (1, .int (nI q)), (2, .long x), (4, .int (nI i))] [.int (nI 15), .int (nI i)] rfl ?_
    refine g_icmp_ge X 33 dX4_writeWord_7 (by decide) (fun hc2 => ?_) (fun hc2 => ?_)
    · rw [nI_leI (by omega) (by omega)] at hc2; first | omega | (simp at hc2)
    · refine g_run X KX4_writeWord_10_2 KX4_writeWord_10_2_d 11 [(0, .ref (ad 1)), (1, .int (nI q)), (2, .long x), (4, .int (nI i))] [.ref (ad 1)] rfl ?_
      refine g_get X srcW (v := .ref (ad 3)) hinX4 rfl 1 (by decide) w_95 rfl (wc_mem (k := 1) (by decide)) rfl dX4_writeWord_11 ?_
      refine g_run X KX4_writeWord_14_3 KX4_writeWord_14_3_d 16 [(0, .ref (ad 1)), (1, .int (nI q)), (2, .long x), (4, .int (nI i))] [.int (nI i), .ref (ad 3)] rfl ?_
      refine g_aald X srcW (b := ad ((S i) + 10)) 1 rfl (wc_mem (k := 3) (by decide)) i rfl (by omega) (by decide) (rfl) dX4_writeWord_16 ?_
      refine g_run X KX4_writeWord_17_4 KX4_writeWord_17_4_d 21 [(0, .ref (ad 1)), (1, .int (nI q)), (2, .long x), (4, .int (nI i))] [.int (nI i), .long x, .int (nI q), .ref (ad ((S i) + 10))] rfl ?_
      refine g_callSN X hSB hAf (host := "Chipfield") (As := [.long x, .int (nI i)]) (wr := WC ad g I (wrw S L q x i) S) (n := 2) (c_X5_numberAt l D g x i (by omega)) rfl srcN hrdN w_215 (nw_in n_213 rfl) w_214 w_1 (by decide +kernel) rfl ⟨Nat.le_of_ble_eq_true rfl, Nat.le_of_ble_eq_true rfl⟩ rfl rfl rfl (Nat.le_of_ble_eq_true rfl) ⟨Nat.le_of_ble_eq_true rfl, Nat.le_of_ble_eq_true rfl⟩ dX4_writeWord_21 (fun hu3 _ => ?_)
      refine g_af (ws' := WC ad g I (wrw S L q x i) S) (st' := [.int (nI (nib x i)), .int (nI q), .ref (ad ((S i) + 10))]) (cells' := 0) (slots' := 0) (pc' := 24) rfl rfl rfl rfl rfl ?_
      refine g_callV X hSB hAf (srcW) (hrc1 := (rfl : CL[1]? = some _)) (wc_chip (hS18 _ (by omega))) rfl (As := [.int (nI q), .int (nI (nib x i))]) (wr := []) (n := 2) (c_X1_putAt l D g ad I (wrw S L q x i) S (S i) q (nib x i) (hS18 _ (by omega)) (by omega)) (List.append_nil _).symm srcN hrdN w_219 w_216 w_217 w_218 w_3 (by decide +kernel) rfl ⟨Nat.le_of_ble_eq_true rfl, Nat.le_of_ble_eq_true rfl⟩ rfl rfl rfl (Nat.le_of_ble_eq_true rfl) ⟨Nat.le_of_ble_eq_true rfl, Nat.le_of_ble_eq_true rfl⟩ dX4_writeWord_24 (fun hu4 _ => ?_)
      refine g_af (ws' := WC ad g I (u2 (wrw S L q x i) 0 (S i) (wn ((wrw S L q x i) 0 (S i)) q (nib x i))) S) (st' := []) (cells' := 0) (slots' := 0) (pc' := 27) (List.append_nil _).symm rfl rfl rfl rfl ?_
      refine g_run X KX4_writeWord_27_5 KX4_writeWord_27_5_d 3 [(4, .int ((nI i) + (nI 1))), (0, .ref (ad 1)), (1, .int (nI q)), (2, .long x)] [] rfl ?_
      refine g_nm (lv' := [(4, .int (nI (i + 1))), (0, .ref (ad 1)), (1, .int (nI q)), (2, .long x)]) (st' := []) (by simp only [nI_add]) (by simp only [nI_add]) ?_
      refine g_lv (lv' := [(0, .ref (ad 1)), (1, .int (nI q)), (2, .long x), (4, .int (nI (i + 1)))]) (lsub_c 1 rfl (lsub_c 2 rfl (lsub_c 3 rfl (lsub_c 0 rfl (lsub_n))))) ?_
      refine g_cs (ws' := WC ad g I (wrw S L q x (i + 1)) S) (lv' := [(0, .ref (ad 1)), (1, .int (nI q)), (2, .long x), (4, .int (nI (i + 1)))]) (rfl) (rfl) ?_
      exact k3

def KX4_countMended_0_0 : List (Nat × Instr × Nat) := [(0, .aload_n 0, 1), (1, .dup, 1)]
theorem KX4_countMended_0_0_d : ∀ z ∈ KX4_countMended_0_0, decode cX4_countMended z.1 = .ok z.2 := by decide +kernel
def KX4_countMended_5_1 : List (Nat × Instr × Nat) := [(5, .iload_n 1, 1)]
theorem KX4_countMended_5_1_d : ∀ z ∈ KX4_countMended_5_1, decode cX4_countMended z.1 = .ok z.2 := by decide +kernel
def KX4_countMended_9_2 : List (Nat × Instr × Nat) := [(9, .iadd, 1)]
theorem KX4_countMended_9_2_d : ∀ z ∈ KX4_countMended_9_2, decode cX4_countMended z.1 = .ok z.2 := by decide +kernel
def KX4_countMended_13_3 : List (Nat × Instr × Nat) := [(13, .iconst 0, 1), (14, .istore_n 2, 1)]
theorem KX4_countMended_13_3_d : ∀ z ∈ KX4_countMended_13_3, decode cX4_countMended z.1 = .ok z.2 := by decide +kernel
def KX4_countMended_15_4 : List (Nat × Instr × Nat) := [(15, .iload_n 2, 1), (16, .bipush 15, 2)]
theorem KX4_countMended_15_4_d : ∀ z ∈ KX4_countMended_15_4, decode cX4_countMended z.1 = .ok z.2 := by decide +kernel
def KX4_countMended_21_5 : List (Nat × Instr × Nat) := [(21, .iload_n 1, 1), (22, .iload_n 2, 1)]
theorem KX4_countMended_21_5_d : ∀ z ∈ KX4_countMended_21_5, decode cX4_countMended z.1 = .ok z.2 := by decide +kernel
def KX4_countMended_56_6 : List (Nat × Instr × Nat) := [(56, .iinc 2 1, 3), (59, .goto (-44), 3)]
theorem KX4_countMended_56_6_d : ∀ z ∈ KX4_countMended_56_6, decode cX4_countMended z.1 = .ok z.2 := by decide +kernel
def KX4_countMended_29_7 : List (Nat × Instr × Nat) := [(29, .aload_n 0, 1)]
theorem KX4_countMended_29_7_d : ∀ z ∈ KX4_countMended_29_7, decode cX4_countMended z.1 = .ok z.2 := by decide +kernel
def KX4_countMended_33_8 : List (Nat × Instr × Nat) := [(33, .iload_n 2, 1)]
theorem KX4_countMended_33_8_d : ∀ z ∈ KX4_countMended_33_8, decode cX4_countMended z.1 = .ok z.2 := by decide +kernel
def KX4_countMended_41_9 : List (Nat × Instr × Nat) := [(41, .aload_n 0, 1)]
theorem KX4_countMended_41_9_d : ∀ z ∈ KX4_countMended_41_9, decode cX4_countMended z.1 = .ok z.2 := by decide +kernel
def KX4_countMended_45_10 : List (Nat × Instr × Nat) := [(45, .iload_n 2, 1)]
theorem KX4_countMended_45_10_d : ∀ z ∈ KX4_countMended_45_10, decode cX4_countMended z.1 = .ok z.2 := by decide +kernel
def KX4_countMended_47_11 : List (Nat × Instr × Nat) := [(47, .dup, 1)]
theorem KX4_countMended_47_11_d : ∀ z ∈ KX4_countMended_47_11, decode cX4_countMended z.1 = .ok z.2 := by decide +kernel
def KX4_countMended_51_12 : List (Nat × Instr × Nat) := [(51, .iconst 1, 1), (52, .iadd, 1)]
theorem KX4_countMended_51_12_d : ∀ z ∈ KX4_countMended_51_12, decode cX4_countMended z.1 = .ok z.2 := by decide +kernel
set_option maxHeartbeats 4000000 in
set_option maxRecDepth 100000 in
theorem c_X4_countMended (l : Launch) (D : va_G) (g : Nat → ClassId) (ad : Nat → Nat) (I : Nat → Nat → Int32) (L : Nat → Nat → Int64) (S : Nat → Nat) (b : Nat) (hS18 : ∀ p, p < 15 → S p < 18) (hb : b < 2 ^ 15) : CT l yX4_countMended cX4_countMended 3 ((Option.none : Option Jvm.ClassFile.FieldType)) ({ frames := 1, cells := 0, slots := 0, locals := 21 } : Room) [.ref (ad 1), .int (nI b)] D CL (TYS g) ([]) (WC ad g I L S) (S := Unit) (fun _ => none) (fun _ => WC ad g (cmA I S b) L S) (fun _ => True) 0 0 := by
  refine ct_of (by decide +kernel) (Nat.le_of_ble_eq_true rfl) ?_
  intro p e s m below meth c A X hr hnm hSB hRO hAf
  refine g_cs (ws' := WC ad g I L S) (lv' := [(0, .ref (ad 1)), (1, .int (nI b))]) rfl rfl ?_
  refine g_run X KX4_countMended_0_0 KX4_countMended_0_0_d 2 [(0, .ref (ad 1)), (1, .int (nI b))] [.ref (ad 1), .ref (ad 1)] rfl ?_
  refine g_get X srcW (v := .int (I 8 4)) hinX4 rfl 6 (by decide) w_105 rfl (wc_mem (k := 1) (by decide)) rfl dX4_countMended_2 ?_
  refine g_run X KX4_countMended_5_1 KX4_countMended_5_1_d 6 [(0, .ref (ad 1)), (1, .int (nI b))] [.int (nI b), .int (I 8 4), .ref (ad 1)] rfl ?_
  refine g_callS X hSB hAf (As := [.int (nI b)]) (wr := WC ad g I L S) (n := 1) (c_J6_bitCount_0f7a4 l D g b (by omega)) rfl srcN hrdN w_259 w_593 w_258 w_24 (by decide +kernel) rfl ⟨Nat.le_of_ble_eq_true rfl, Nat.le_of_ble_eq_true rfl⟩ rfl rfl rfl (Nat.le_of_ble_eq_true rfl) ⟨Nat.le_of_ble_eq_true rfl, Nat.le_of_ble_eq_true rfl⟩ dX4_countMended_6 (fun hu1 _ => ?_)
  refine g_af (ws' := WC ad g I L S) (st' := [.int (nI (pcn b 15)), .int (I 8 4), .ref (ad 1)]) (cells' := 0) (slots' := 0) (pc' := 9) rfl rfl rfl rfl rfl ?_
  refine g_run X KX4_countMended_9_2 KX4_countMended_9_2_d 10 [(0, .ref (ad 1)), (1, .int (nI b))] [.int ((I 8 4) + (nI (pcn b 15))), .ref (ad 1)] rfl ?_
  refine g_put X (ws' := WC ad g (u2 I 8 4 ((I 8 4) + (nI (pcn b 15)))) L S) hinX4 tyX4 tyX4_ok nmX4 rfl 6 (by decide) w_105 rfl rfl (ty := .int) rfl rfl rfl (1) (wc_get (k := 1) (by decide)) (Nat.le_of_ble_eq_true rfl) (ws_me6) dX4_countMended_10 ?_
  refine g_run X KX4_countMended_13_3 KX4_countMended_13_3_d 15 [(2, .int (nI 0)), (0, .ref (ad 1)), (1, .int (nI b))] [] rfl ?_
  refine g_lv (lv' := [(0, .ref (ad 1)), (1, .int (nI b)), (2, .int (nI 0))]) (lsub_c 1 rfl (lsub_c 2 rfl (lsub_c 0 rfl (lsub_n)))) ?_
  refine g_for 15 (fun i => WC ad g (cm (u2 I 8 4 (I 8 4 + nI (pcn b 15))) S b i) L S) (fun i => [(0, .ref (ad 1)), (1, .int (nI b)), (2, .int (nI i))]) (rfl) (rfl) ?_ ?_
  · refine g_run X KX4_countMended_15_4 KX4_countMended_15_4_d 18 [(0, .ref (ad 1)), (1, .int (nI b)), (2, .int (nI 15))] [.int (nI 15), .int (nI 15)] rfl ?_
    refine g_icmp_ge X 62 dX4_countMended_18 (by decide) (fun hc2 => ?_) (fun hc2 => ?_)
    · exact g_vret X hr () rfl (trivial) ((List.append_nil _).symm) (Nat.le_of_ble_eq_true rfl) (Nat.le_of_ble_eq_true rfl) dX4_countMended_62
    · rw [nI_leI (by omega) (by omega)] at hc2; first | omega | (simp at hc2)
  · intro i hi k15
    refine g_run X KX4_countMended_15_4 KX4_countMended_15_4_d 18 [(0, .ref (ad 1)), (1, .int (nI b)), (2, .int (nI i))] [.int (nI 15), .int (nI i)] rfl ?_
    refine g_icmp_ge X 62 dX4_countMended_18 (by decide) (fun hc3 => ?_) (fun hc3 => ?_)
    · rw [nI_leI (by omega) (by omega)] at hc3; first | omega | (simp at hc3)
    · refine g_run X KX4_countMended_21_5 KX4_countMended_21_5_d 23 [(0, .ref (ad 1)), (1, .int (nI b)), (2, .int (nI i))] [.int (nI i), .int (nI b)] rfl ?_
      refine g_callSN X hSB hAf (host := "Chipfield") (As := [.int (nI b), .int (nI i)]) (wr := WC ad g (cm (u2 I 8 4 (I 8 4 + nI (pcn b 15))) S b i) L S) (n := 2) (c_X5_isIn l D g b i (by omega) (by omega)) rfl srcN hrdN w_281 (nw_in n_307 rfl) w_280 w_1 (by decide +kernel) rfl ⟨Nat.le_of_ble_eq_true rfl, Nat.le_of_ble_eq_true rfl⟩ rfl rfl rfl (Nat.le_of_ble_eq_true rfl) ⟨Nat.le_of_ble_eq_true rfl, Nat.le_of_ble_eq_true rfl⟩ dX4_countMended_23 (fun hu4 _ => ?_)
      refine g_af (ws' := WC ad g (cm (u2 I 8 4 (I 8 4 + nI (pcn b 15))) S b i) L S) (st' := [.int (nI (bN (b.testBit i)))]) (cells' := 0) (slots' := 0) (pc' := 26) rfl rfl rfl rfl rfl ?_
      refine g_if_eq X 56 dX4_countMended_26 (by decide) (fun hc5 => ?_) (fun hc5 => ?_)
      · rw [bN_eq0] at hc5
        refine g_run X KX4_countMended_56_6 KX4_countMended_56_6_d 15 [(2, .int ((nI i) + (nI 1))), (0, .ref (ad 1)), (1, .int (nI b))] [] rfl ?_
        refine g_nm (lv' := [(2, .int (nI (i + 1))), (0, .ref (ad 1)), (1, .int (nI b))]) (st' := []) (by simp only [nI_add]) (by simp only [nI_add]) ?_
        refine g_lv (lv' := [(0, .ref (ad 1)), (1, .int (nI b)), (2, .int (nI (i + 1)))]) (lsub_c 1 rfl (lsub_c 2 rfl (lsub_c 0 rfl (lsub_n)))) ?_
        refine g_cs (ws' := WC ad g (cm (u2 I 8 4 (I 8 4 + nI (pcn b 15))) S b (i + 1)) L S) (lv' := [(0, .ref (ad 1)), (1, .int (nI b)), (2, .int (nI (i + 1)))]) (by simp [cm, *]) (rfl) ?_
        exact k15
      · rw [bN_eq0] at hc5; have hbT := nf_t hc5
        refine g_run X KX4_countMended_29_7 KX4_countMended_29_7_d 30 [(0, .ref (ad 1)), (1, .int (nI b)), (2, .int (nI i))] [.ref (ad 1)] rfl ?_
        refine g_get X srcW (v := .ref (ad 3)) hinX4 rfl 1 (by decide) w_95 rfl (wc_mem (k := 1) (by decide)) rfl dX4_countMended_30 ?_
        refine g_run X KX4_countMended_33_8 KX4_countMended_33_8_d 34 [(0, .ref (ad 1)), (1, .int (nI b)), (2, .int (nI i))] [.int (nI i), .ref (ad 3)] rfl ?_
        refine g_aald X srcW (b := ad ((S i) + 10)) 1 rfl (wc_mem (k := 3) (by decide)) i rfl (by omega) (by decide) (rfl) dX4_countMended_34 ?_
        refine g_get X srcW (v := .int ((cm (u2 I 8 4 (I 8 4 + nI (pcn b 15))) S b i) 3 (S i))) hinX1 rfl 4 (by decide) w_66 rfl (wc_chip (hS18 _ (by omega))) rfl dX4_countMended_35 ?_
        refine g_if_ne X 56 dX4_countMended_38 (by decide) (fun hc6 => ?_) (fun hc6 => ?_)
        · refine g_run X KX4_countMended_56_6 KX4_countMended_56_6_d 15 [(2, .int ((nI i) + (nI 1))), (0, .ref (ad 1)), (1, .int (nI b))] [] rfl ?_
          refine g_nm (lv' := [(2, .int (nI (i + 1))), (0, .ref (ad 1)), (1, .int (nI b))]) (st' := []) (by simp only [nI_add]) (by simp only [nI_add]) ?_
          refine g_lv (lv' := [(0, .ref (ad 1)), (1, .int (nI b)), (2, .int (nI (i + 1)))]) (lsub_c 1 rfl (lsub_c 2 rfl (lsub_c 0 rfl (lsub_n)))) ?_
          refine g_cs (ws' := WC ad g (cm (u2 I 8 4 (I 8 4 + nI (pcn b 15))) S b (i + 1)) L S) (lv' := [(0, .ref (ad 1)), (1, .int (nI b)), (2, .int (nI (i + 1)))]) (by simp [cm, *]) (rfl) ?_
          exact k15
        · refine g_run X KX4_countMended_41_9 KX4_countMended_41_9_d 42 [(0, .ref (ad 1)), (1, .int (nI b)), (2, .int (nI i))] [.ref (ad 1)] rfl ?_
          refine g_get X srcW (v := .ref (ad 3)) hinX4 rfl 1 (by decide) w_95 rfl (wc_mem (k := 1) (by decide)) rfl dX4_countMended_42 ?_
          refine g_run X KX4_countMended_45_10 KX4_countMended_45_10_d 46 [(0, .ref (ad 1)), (1, .int (nI b)), (2, .int (nI i))] [.int (nI i), .ref (ad 3)] rfl ?_
          refine g_aald X srcW (b := ad ((S i) + 10)) 1 rfl (wc_mem (k := 3) (by decide)) i rfl (by omega) (by decide) (rfl) dX4_countMended_46 ?_
          refine g_run X KX4_countMended_47_11 KX4_countMended_47_11_d 48 [(0, .ref (ad 1)), (1, .int (nI b)), (2, .int (nI i))] [.ref (ad ((S i) + 10)), .ref (ad ((S i) + 10))] rfl ?_
          refine g_get X srcW (v := .int ((cm (u2 I 8 4 (I 8 4 + nI (pcn b 15))) S b i) 2 (S i))) hinX1 rfl 3 (by decide) w_63 rfl (wc_chip (hS18 _ (by omega))) rfl dX4_countMended_48 ?_
          refine g_run X KX4_countMended_51_12 KX4_countMended_51_12_d 53 [(0, .ref (ad 1)), (1, .int (nI b)), (2, .int (nI i))] [.int (((cm (u2 I 8 4 (I 8 4 + nI (pcn b 15))) S b i) 2 (S i)) + (nI 1)), .ref (ad ((S i) + 10))] rfl ?_
          refine g_put X (ws' := WC ad g (u2 (cm (u2 I 8 4 (I 8 4 + nI (pcn b 15))) S b i) 2 (S i) (((cm (u2 I 8 4 (I 8 4 + nI (pcn b 15))) S b i) 2 (S i)) + (nI 1))) L S) hinX1 tyX1 tyX1_ok nmX1 rfl 3 (by decide) w_63 rfl rfl (ty := .int) rfl rfl rfl ((S i) + 10) (wc_get (k := (S i) + 10) (Nat.add_lt_add_right (hS18 _ (by omega)) 10)) (Nat.le_of_ble_eq_true rfl) (ws_ch3) dX4_countMended_53 ?_
          refine g_run X KX4_countMended_56_6 KX4_countMended_56_6_d 15 [(2, .int ((nI i) + (nI 1))), (0, .ref (ad 1)), (1, .int (nI b))] [] rfl ?_
          refine g_nm (lv' := [(2, .int (nI (i + 1))), (0, .ref (ad 1)), (1, .int (nI b))]) (st' := []) (by simp only [nI_add]) (by simp only [nI_add]) ?_
          refine g_lv (lv' := [(0, .ref (ad 1)), (1, .int (nI b)), (2, .int (nI (i + 1)))]) (lsub_c 1 rfl (lsub_c 2 rfl (lsub_c 0 rfl (lsub_n)))) ?_
          refine g_cs (ws' := WC ad g (cm (u2 I 8 4 (I 8 4 + nI (pcn b 15))) S b (i + 1)) L S) (lv' := [(0, .ref (ad 1)), (1, .int (nI b)), (2, .int (nI (i + 1)))]) (by simp [cm, *]) (rfl) ?_
          exact k15

def KX4_eraseBlamed_0_0 : List (Nat × Instr × Nat) := [(0, .aload_n 0, 1)]
theorem KX4_eraseBlamed_0_0_d : ∀ z ∈ KX4_eraseBlamed_0_0, decode cX4_eraseBlamed z.1 = .ok z.2 := by decide +kernel
def KX4_eraseBlamed_7_1 : List (Nat × Instr × Nat) := [(7, .istore_n 1, 1), (8, .iconst 0, 1), (9, .istore_n 2, 1)]
theorem KX4_eraseBlamed_7_1_d : ∀ z ∈ KX4_eraseBlamed_7_1, decode cX4_eraseBlamed z.1 = .ok z.2 := by decide +kernel
def KX4_eraseBlamed_10_2 : List (Nat × Instr × Nat) := [(10, .iload_n 2, 1), (11, .bipush 15, 2)]
theorem KX4_eraseBlamed_10_2_d : ∀ z ∈ KX4_eraseBlamed_10_2, decode cX4_eraseBlamed z.1 = .ok z.2 := by decide +kernel
def KX4_eraseBlamed_16_3 : List (Nat × Instr × Nat) := [(16, .iload_n 1, 1), (17, .iconst 4, 1)]
theorem KX4_eraseBlamed_16_3_d : ∀ z ∈ KX4_eraseBlamed_16_3, decode cX4_eraseBlamed z.1 = .ok z.2 := by decide +kernel
def KX4_eraseBlamed_21_4 : List (Nat × Instr × Nat) := [(21, .aload_n 0, 1)]
theorem KX4_eraseBlamed_21_4_d : ∀ z ∈ KX4_eraseBlamed_21_4, decode cX4_eraseBlamed z.1 = .ok z.2 := by decide +kernel
def KX4_eraseBlamed_25_5 : List (Nat × Instr × Nat) := [(25, .iload_n 2, 1)]
theorem KX4_eraseBlamed_25_5_d : ∀ z ∈ KX4_eraseBlamed_25_5, decode cX4_eraseBlamed z.1 = .ok z.2 := by decide +kernel
def KX4_eraseBlamed_27_6 : List (Nat × Instr × Nat) := [(27, .astore_n 3, 1), (28, .aload_n 3, 1)]
theorem KX4_eraseBlamed_27_6_d : ∀ z ∈ KX4_eraseBlamed_27_6, decode cX4_eraseBlamed z.1 = .ok z.2 := by decide +kernel
def KX4_eraseBlamed_32_7 : List (Nat × Instr × Nat) := [(32, .aload_n 0, 1)]
theorem KX4_eraseBlamed_32_7_d : ∀ z ∈ KX4_eraseBlamed_32_7, decode cX4_eraseBlamed z.1 = .ok z.2 := by decide +kernel
def KX4_eraseBlamed_54_8 : List (Nat × Instr × Nat) := [(54, .iinc 2 1, 3), (57, .goto (-47), 3)]
theorem KX4_eraseBlamed_54_8_d : ∀ z ∈ KX4_eraseBlamed_54_8, decode cX4_eraseBlamed z.1 = .ok z.2 := by decide +kernel
def KX4_eraseBlamed_39_9 : List (Nat × Instr × Nat) := [(39, .aload_n 3, 1)]
theorem KX4_eraseBlamed_39_9_d : ∀ z ∈ KX4_eraseBlamed_39_9, decode cX4_eraseBlamed z.1 = .ok z.2 := by decide +kernel
def KX4_eraseBlamed_46_10 : List (Nat × Instr × Nat) := [(46, .aload_n 3, 1), (47, .iconst 1, 1)]
theorem KX4_eraseBlamed_46_10_d : ∀ z ∈ KX4_eraseBlamed_46_10, decode cX4_eraseBlamed z.1 = .ok z.2 := by decide +kernel
def KX4_eraseBlamed_51_11 : List (Nat × Instr × Nat) := [(51, .iinc 1 1, 3), (54, .iinc 2 1, 3), (57, .goto (-47), 3)]
theorem KX4_eraseBlamed_51_11_d : ∀ z ∈ KX4_eraseBlamed_51_11, decode cX4_eraseBlamed z.1 = .ok z.2 := by decide +kernel
set_option maxHeartbeats 4000000 in
set_option maxRecDepth 100000 in
theorem c_X4_eraseBlamed (l : Launch) (D : va_G) (g : Nat → ClassId) (ad : Nat → Nat) (I : Nat → Nat → Int32) (L : Nat → Nat → Int64) (S : Nat → Nat) (hS18 : ∀ p, p < 15 → S p < 18) : CT l yX4_eraseBlamed cX4_eraseBlamed 4 ((Option.none : Option Jvm.ClassFile.FieldType)) ({ frames := 1, cells := 0, slots := 0, locals := 22 } : Room) [.ref (ad 1)] D CL (TYS g) ([]) (WC ad g I L S) (S := Unit) (fun _ => none) (fun _ => WC ad g (erA I S) L S) (fun _ => True) 0 0 := by
  refine ct_of (by decide +kernel) (Nat.le_of_ble_eq_true rfl) ?_
  intro p e s m below meth c A X hr hnm hSB hRO hAf
  refine g_cs (ws' := WC ad g I L S) (lv' := [(0, .ref (ad 1))]) rfl rfl ?_
  refine g_run X KX4_eraseBlamed_0_0 KX4_eraseBlamed_0_0_d 1 [(0, .ref (ad 1))] [.ref (ad 1)] rfl ?_
  refine g_callV X hSB hAf (srcW) (hrc1 := (rfl : CL[3]? = some _)) (wc_mem (k := 1) (by decide)) rfl (As := []) (wr := WC ad g I L S) (n := 0) (c_X4_erasedPlaces l D g ad I L S (hS18)) rfl srcW hrdC w_240 w_237 w_238 w_239 w_2 (by decide +kernel) rfl ⟨Nat.le_of_ble_eq_true rfl, Nat.le_of_ble_eq_true rfl⟩ rfl rfl rfl (Nat.le_of_ble_eq_true rfl) ⟨Nat.le_of_ble_eq_true rfl, Nat.le_of_ble_eq_true rfl⟩ dX4_eraseBlamed_1 (fun hu1 _ => ?_)
  refine g_af (ws' := WC ad g I L S) (st' := [.int (nI (ers I S 15))]) (cells' := 0) (slots' := 0) (pc' := 4) rfl rfl rfl rfl rfl ?_
  refine g_callS X hSB hAf (As := [.int (nI (ers I S 15))]) (wr := WC ad g I L S) (n := 1) (c_J6_bitCount_0f7a4 l D g (ers I S 15) (ers_lt _ _ _)) rfl srcN hrdN w_259 w_593 w_258 w_24 (by decide +kernel) rfl ⟨Nat.le_of_ble_eq_true rfl, Nat.le_of_ble_eq_true rfl⟩ rfl rfl rfl (Nat.le_of_ble_eq_true rfl) ⟨Nat.le_of_ble_eq_true rfl, Nat.le_of_ble_eq_true rfl⟩ dX4_eraseBlamed_4 (fun hu2 _ => ?_)
  refine g_af (ws' := WC ad g I L S) (st' := [.int (nI (pcn (ers I S 15) 15))]) (cells' := 0) (slots' := 0) (pc' := 7) rfl rfl rfl rfl rfl ?_
  refine g_run X KX4_eraseBlamed_7_1 KX4_eraseBlamed_7_1_d 10 [(2, .int (nI 0)), (1, .int (nI (pcn (ers I S 15) 15))), (0, .ref (ad 1))] [] rfl ?_
  refine g_lv (lv' := [(0, .ref (ad 1)), (1, .int (nI (pcn (ers I S 15) 15))), (2, .int (nI 0))]) (lsub_c 2 rfl (lsub_c 1 rfl (lsub_c 0 rfl (lsub_n)))) ?_
  refine g_for 15 (fun i => WC ad g ((erb I S i).1) L S) (fun i => [(0, .ref (ad 1)), (1, .int (nI ((erb I S i).2))), (2, .int (nI i))]) (rfl) (rfl) ?_ ?_
  · refine g_run X KX4_eraseBlamed_10_2 KX4_eraseBlamed_10_2_d 13 [(0, .ref (ad 1)), (1, .int (nI ((erb I S 15).2))), (2, .int (nI 15))] [.int (nI 15), .int (nI 15)] rfl ?_
    refine g_icmp_ge X 60 dX4_eraseBlamed_13 (by decide) (fun hc3 => ?_) (fun hc3 => ?_)
    · exact g_vret X hr () rfl (trivial) ((List.append_nil _).symm) (Nat.le_of_ble_eq_true rfl) (Nat.le_of_ble_eq_true rfl) dX4_eraseBlamed_60
    · rw [nI_leI (by omega) (by omega)] at hc3; first | omega | (simp at hc3)
  · intro i hi k10
    have hcl := erb_lt I S i
    refine g_run X KX4_eraseBlamed_10_2 KX4_eraseBlamed_10_2_d 13 [(0, .ref (ad 1)), (1, .int (nI ((erb I S i).2))), (2, .int (nI i))] [.int (nI 15), .int (nI i)] rfl ?_
    refine g_icmp_ge X 60 dX4_eraseBlamed_13 (by decide) (fun hc4 => ?_) (fun hc4 => ?_)
    · rw [nI_leI (by omega) (by omega)] at hc4; first | omega | (simp at hc4)
    · refine g_run X KX4_eraseBlamed_16_3 KX4_eraseBlamed_16_3_d 18 [(0, .ref (ad 1)), (1, .int (nI ((erb I S i).2))), (2, .int (nI i))] [.int (nI 4), .int (nI ((erb I S i).2))] rfl ?_
      refine g_icmp_ge X 60 dX4_eraseBlamed_18 (by decide) (fun hc5 => ?_) (fun hc5 => ?_)
      · rw [nI_leI (by omega) (by omega)] at hc5; have hst := erb_stop hc5 (show i ≤ 15 by omega); refine g_ws (ws' := WC ad g (erb I S 15).1 L S) (by rw [hst]) ?_
        exact g_vret X hr () rfl (trivial) ((List.append_nil _).symm) (Nat.le_of_ble_eq_true rfl) (Nat.le_of_ble_eq_true rfl) dX4_eraseBlamed_60
      · rw [nI_leI (by omega) (by omega)] at hc5
        refine g_run X KX4_eraseBlamed_21_4 KX4_eraseBlamed_21_4_d 22 [(0, .ref (ad 1)), (1, .int (nI ((erb I S i).2))), (2, .int (nI i))] [.ref (ad 1)] rfl ?_
        refine g_get X srcW (v := .ref (ad 3)) hinX4 rfl 1 (by decide) w_95 rfl (wc_mem (k := 1) (by decide)) rfl dX4_eraseBlamed_22 ?_
        refine g_run X KX4_eraseBlamed_25_5 KX4_eraseBlamed_25_5_d 26 [(0, .ref (ad 1)), (1, .int (nI ((erb I S i).2))), (2, .int (nI i))] [.int (nI i), .ref (ad 3)] rfl ?_
        refine g_aald X srcW (b := ad ((S i) + 10)) 1 rfl (wc_mem (k := 3) (by decide)) i rfl (by omega) (by decide) (rfl) dX4_eraseBlamed_26 ?_
        refine g_run X KX4_eraseBlamed_27_6 KX4_eraseBlamed_27_6_d 29 [(3, .ref (ad ((S i) + 10))), (0, .ref (ad 1)), (1, .int (nI ((erb I S i).2))), (2, .int (nI i))] [.ref (ad ((S i) + 10))] rfl ?_
        refine g_get X srcW (v := .int (((erb I S i).1) 2 (S i))) hinX1 rfl 3 (by decide) w_63 rfl (wc_chip (hS18 _ (by omega))) rfl dX4_eraseBlamed_29 ?_
        refine g_run X KX4_eraseBlamed_32_7 KX4_eraseBlamed_32_7_d 33 [(3, .ref (ad ((S i) + 10))), (0, .ref (ad 1)), (1, .int (nI ((erb I S i).2))), (2, .int (nI i))] [.ref (ad 1), .int (((erb I S i).1) 2 (S i))] rfl ?_
        refine g_get X srcW (v := .int (((erb I S i).1) 8 0)) hinX4 rfl 2 (by decide) w_97 rfl (wc_mem (k := 1) (by decide)) rfl dX4_eraseBlamed_33 ?_
        refine g_icmp_lt X 54 dX4_eraseBlamed_36 (by decide) (fun hc6 => ?_) (fun hc6 => ?_)
        · refine g_run X KX4_eraseBlamed_54_8 KX4_eraseBlamed_54_8_d 10 [(2, .int ((nI i) + (nI 1))), (3, .ref (ad ((S i) + 10))), (0, .ref (ad 1)), (1, .int (nI ((erb I S i).2)))] [] rfl ?_
          refine g_nm (lv' := [(2, .int (nI (i + 1))), (3, .ref (ad ((S i) + 10))), (0, .ref (ad 1)), (1, .int (nI ((erb I S i).2)))]) (st' := []) (by simp only [nI_add]) (by simp only [nI_add]) ?_
          refine g_lv (lv' := [(0, .ref (ad 1)), (1, .int (nI ((erb I S i).2))), (2, .int (nI (i + 1)))]) (lsub_c 2 rfl (lsub_c 3 rfl (lsub_c 0 rfl (lsub_n)))) ?_
          refine g_cs (ws' := WC ad g ((erb I S (i + 1)).1) L S) (lv' := [(0, .ref (ad 1)), (1, .int (nI ((erb I S (i + 1)).2))), (2, .int (nI (i + 1)))]) (by simp [erb, *]) (by simp [erb, *]) ?_
          exact k10
        · refine g_run X KX4_eraseBlamed_39_9 KX4_eraseBlamed_39_9_d 40 [(3, .ref (ad ((S i) + 10))), (0, .ref (ad 1)), (1, .int (nI ((erb I S i).2))), (2, .int (nI i))] [.ref (ad ((S i) + 10))] rfl ?_
          refine g_get X srcW (v := .int (((erb I S i).1) 3 (S i))) hinX1 rfl 4 (by decide) w_66 rfl (wc_chip (hS18 _ (by omega))) rfl dX4_eraseBlamed_40 ?_
          refine g_if_ne X 54 dX4_eraseBlamed_43 (by decide) (fun hc7 => ?_) (fun hc7 => ?_)
          · refine g_run X KX4_eraseBlamed_54_8 KX4_eraseBlamed_54_8_d 10 [(2, .int ((nI i) + (nI 1))), (3, .ref (ad ((S i) + 10))), (0, .ref (ad 1)), (1, .int (nI ((erb I S i).2)))] [] rfl ?_
            refine g_nm (lv' := [(2, .int (nI (i + 1))), (3, .ref (ad ((S i) + 10))), (0, .ref (ad 1)), (1, .int (nI ((erb I S i).2)))]) (st' := []) (by simp only [nI_add]) (by simp only [nI_add]) ?_
            refine g_lv (lv' := [(0, .ref (ad 1)), (1, .int (nI ((erb I S i).2))), (2, .int (nI (i + 1)))]) (lsub_c 2 rfl (lsub_c 3 rfl (lsub_c 0 rfl (lsub_n)))) ?_
            refine g_cs (ws' := WC ad g ((erb I S (i + 1)).1) L S) (lv' := [(0, .ref (ad 1)), (1, .int (nI ((erb I S (i + 1)).2))), (2, .int (nI (i + 1)))]) (by simp [erb, *]) (by simp [erb, *]) ?_
            exact k10
          · refine g_run X KX4_eraseBlamed_46_10 KX4_eraseBlamed_46_10_d 48 [(3, .ref (ad ((S i) + 10))), (0, .ref (ad 1)), (1, .int (nI ((erb I S i).2))), (2, .int (nI i))] [.int (nI 1), .ref (ad ((S i) + 10))] rfl ?_
            refine g_put X (ws' := WC ad g (u2 ((erb I S i).1) 3 (S i) (nI 1)) L S) hinX1 tyX1 tyX1_ok nmX1 rfl 4 (by decide) w_66 rfl rfl (ty := .boolean) rfl (by decide +kernel) rfl ((S i) + 10) (wc_get (k := (S i) + 10) (Nat.add_lt_add_right (hS18 _ (by omega)) 10)) (Nat.le_of_ble_eq_true rfl) (ws_ch4) dX4_eraseBlamed_48 ?_
            refine g_run X KX4_eraseBlamed_51_11 KX4_eraseBlamed_51_11_d 10 [(2, .int ((nI i) + (nI 1))), (1, .int ((nI ((erb I S i).2)) + (nI 1))), (3, .ref (ad ((S i) + 10))), (0, .ref (ad 1))] [] rfl ?_
            refine g_nm (lv' := [(2, .int (nI (i + 1))), (1, .int (nI (((erb I S i).2) + 1))), (3, .ref (ad ((S i) + 10))), (0, .ref (ad 1))]) (st' := []) (by simp only [nI_add]) (by simp only [nI_add]) ?_
            refine g_lv (lv' := [(0, .ref (ad 1)), (1, .int (nI (((erb I S i).2) + 1))), (2, .int (nI (i + 1)))]) (lsub_c 3 rfl (lsub_c 1 rfl (lsub_c 0 rfl (lsub_n)))) ?_
            refine g_cs (ws' := WC ad g ((erb I S (i + 1)).1) L S) (lv' := [(0, .ref (ad 1)), (1, .int (nI ((erb I S (i + 1)).2))), (2, .int (nI (i + 1)))]) (by simp [erb, *]) (by simp [erb, *]) ?_
            exact k10

def KX4_fetchLine_0_0 : List (Nat × Instr × Nat) := [(0, .aload_n 0, 1), (1, .iload_n 1, 1)]
theorem KX4_fetchLine_0_0_d : ∀ z ∈ KX4_fetchLine_0_0, decode cX4_fetchLine z.1 = .ok z.2 := by decide +kernel
def KX4_fetchLine_5_1 : List (Nat × Instr × Nat) := [(5, .lstore_n 2, 1), (6, .lload_n 2, 1), (7, .aload_n 0, 1)]
theorem KX4_fetchLine_5_1_d : ∀ z ∈ KX4_fetchLine_5_1, decode cX4_fetchLine z.1 = .ok z.2 := by decide +kernel
def KX4_fetchLine_14_2 : List (Nat × Instr × Nat) := [(14, .lstore 4, 2), (16, .aload_n 0, 1), (17, .dup, 1)]
theorem KX4_fetchLine_14_2_d : ∀ z ∈ KX4_fetchLine_14_2, decode cX4_fetchLine z.1 = .ok z.2 := by decide +kernel
def KX4_fetchLine_21_3 : List (Nat × Instr × Nat) := [(21, .iconst 1, 1), (22, .iadd, 1)]
theorem KX4_fetchLine_21_3_d : ∀ z ∈ KX4_fetchLine_21_3, decode cX4_fetchLine z.1 = .ok z.2 := by decide +kernel
def KX4_fetchLine_26_4 : List (Nat × Instr × Nat) := [(26, .lload 4, 2)]
theorem KX4_fetchLine_26_4_d : ∀ z ∈ KX4_fetchLine_26_4, decode cX4_fetchLine z.1 = .ok z.2 := by decide +kernel
def KX4_fetchLine_31_5 : List (Nat × Instr × Nat) := [(31, .lcmp, 1)]
theorem KX4_fetchLine_31_5_d : ∀ z ∈ KX4_fetchLine_31_5, decode cX4_fetchLine z.1 = .ok z.2 := by decide +kernel
def KX4_fetchLine_48_6 : List (Nat × Instr × Nat) := [(48, .lload 4, 2), (50, .lload_n 2, 1), (51, .lcmp, 1)]
theorem KX4_fetchLine_48_6_d : ∀ z ∈ KX4_fetchLine_48_6, decode cX4_fetchLine z.1 = .ok z.2 := by decide +kernel
def KX4_fetchLine_73_7 : List (Nat × Instr × Nat) := [(73, .aload_n 0, 1)]
theorem KX4_fetchLine_73_7_d : ∀ z ∈ KX4_fetchLine_73_7, decode cX4_fetchLine z.1 = .ok z.2 := by decide +kernel
def KX4_fetchLine_77_8 : List (Nat × Instr × Nat) := [(77, .lload 4, 2)]
theorem KX4_fetchLine_77_8_d : ∀ z ∈ KX4_fetchLine_77_8, decode cX4_fetchLine z.1 = .ok z.2 := by decide +kernel
def KX4_fetchLine_55_9 : List (Nat × Instr × Nat) := [(55, .aload_n 0, 1), (56, .lload_n 2, 1), (57, .lload 4, 2), (59, .lxor, 1)]
theorem KX4_fetchLine_55_9_d : ∀ z ∈ KX4_fetchLine_55_9, decode cX4_fetchLine z.1 = .ok z.2 := by decide +kernel
def KX4_fetchLine_66_10 : List (Nat × Instr × Nat) := [(66, .aload_n 0, 1), (67, .iload_n 1, 1), (68, .lload 4, 2)]
theorem KX4_fetchLine_66_10_d : ∀ z ∈ KX4_fetchLine_66_10, decode cX4_fetchLine z.1 = .ok z.2 := by decide +kernel
def KX4_fetchLine_35_11 : List (Nat × Instr × Nat) := [(35, .aload_n 0, 1), (36, .dup, 1)]
theorem KX4_fetchLine_35_11_d : ∀ z ∈ KX4_fetchLine_35_11, decode cX4_fetchLine z.1 = .ok z.2 := by decide +kernel
def KX4_fetchLine_40_12 : List (Nat × Instr × Nat) := [(40, .iconst 1, 1), (41, .iadd, 1)]
theorem KX4_fetchLine_40_12_d : ∀ z ∈ KX4_fetchLine_40_12, decode cX4_fetchLine z.1 = .ok z.2 := by decide +kernel
def KX4_fetchLine_45_13 : List (Nat × Instr × Nat) := [(45, .goto 28, 3), (73, .aload_n 0, 1)]
theorem KX4_fetchLine_45_13_d : ∀ z ∈ KX4_fetchLine_45_13, decode cX4_fetchLine z.1 = .ok z.2 := by decide +kernel
set_option maxHeartbeats 4000000 in
set_option maxRecDepth 100000 in
theorem c_X4_fetchLine (l : Launch) (D : va_G) (g : Nat → ClassId) (ad : Nat → Nat) (I : Nat → Nat → Int32) (L : Nat → Nat → Int64) (S : Nat → Nat) (q : Nat) (hS18 : ∀ p, p < 15 → S p < 18) (hq : q < 16) : CT l yX4_fetchLine cX4_fetchLine 6 ((Option.some FieldType.long)) ({ frames := 4, cells := 0, slots := 0, locals := 108 } : Room) [.ref (ad 1), .int (nI q)] D CL (TYS g) ([]) (WC ad g I L S) (S := Unit) (fun _ => some (.long (oL (mwd I L S q)))) (fun _ => WC ad g (ftA I L S q) (ftL I L S q) S) (fun _ => True) 0 0 := by
  refine ct_of (by decide +kernel) (Nat.le_of_ble_eq_true rfl) ?_
  intro p e s m below meth c A X hr hnm hSB hRO hAf
  refine g_cs (ws' := WC ad g I L S) (lv' := [(0, .ref (ad 1)), (1, .int (nI q))]) rfl rfl ?_
  refine g_run X KX4_fetchLine_0_0 KX4_fetchLine_0_0_d 2 [(0, .ref (ad 1)), (1, .int (nI q))] [.int (nI q), .ref (ad 1)] rfl ?_
  refine g_callV X hSB hAf (srcW) (hrc1 := (rfl : CL[3]? = some _)) (wc_mem (k := 1) (by decide)) rfl (As := [.int (nI q)]) (wr := WC ad g I L S) (n := 1) (c_X4_readWord l D g ad I L S q (hS18) (by omega)) rfl srcW hrdC w_244 w_241 w_242 w_243 w_2 (by decide +kernel) rfl ⟨Nat.le_of_ble_eq_true rfl, Nat.le_of_ble_eq_true rfl⟩ rfl rfl rfl (Nat.le_of_ble_eq_true rfl) ⟨Nat.le_of_ble_eq_true rfl, Nat.le_of_ble_eq_true rfl⟩ dX4_fetchLine_2 (fun hu1 _ => ?_)
  refine g_af (ws' := WC ad g I L S) (st' := [.long (rwd I L S q 15)]) (cells' := 0) (slots' := 0) (pc' := 5) rfl rfl rfl rfl rfl ?_
  refine g_run X KX4_fetchLine_5_1 KX4_fetchLine_5_1_d 8 [(2, .long (rwd I L S q 15)), (0, .ref (ad 1)), (1, .int (nI q))] [.ref (ad 1), .long (rwd I L S q 15)] rfl ?_
  refine g_callV X hSB hAf (srcW) (hrc1 := (rfl : CL[3]? = some _)) (wc_mem (k := 1) (by decide)) rfl (As := []) (wr := WC ad g I L S) (n := 0) (c_X4_erasedPlaces l D g ad I L S (hS18)) rfl srcW hrdC w_240 w_237 w_238 w_239 w_2 (by decide +kernel) rfl ⟨Nat.le_of_ble_eq_true rfl, Nat.le_of_ble_eq_true rfl⟩ rfl rfl rfl (Nat.le_of_ble_eq_true rfl) ⟨Nat.le_of_ble_eq_true rfl, Nat.le_of_ble_eq_true rfl⟩ dX4_fetchLine_8 (fun hu2 _ => ?_)
  refine g_af (ws' := WC ad g I L S) (st' := [.int (nI (ers I S 15)), .long (rwd I L S q 15)]) (cells' := 0) (slots' := 0) (pc' := 11) rfl rfl rfl rfl rfl ?_
  refine g_callS X hSB hAf (As := [.long (rwd I L S q 15), .int (nI (ers I S 15))]) (wr := WC ad g I L S) (n := 2) (c_X2_mendedWord l D g (rwd I L S q 15) (ers I S 15) (ers_lt _ _ _)) rfl srcN hrdN w_256 w_254 w_255 w_22 (by decide +kernel) rfl ⟨Nat.le_of_ble_eq_true rfl, Nat.le_of_ble_eq_true rfl⟩ rfl rfl rfl (Nat.le_of_ble_eq_true rfl) ⟨Nat.le_of_ble_eq_true rfl, Nat.le_of_ble_eq_true rfl⟩ dX4_fetchLine_11 (fun hu3 _ => ?_)
  refine g_af (ws' := WC ad g I L S) (st' := [.long (oL (mw (ers I S 15) (rwd I L S q 15)))]) (cells' := 0) (slots' := 0) (pc' := 14) rfl rfl rfl rfl rfl ?_
  refine g_run X KX4_fetchLine_14_2 KX4_fetchLine_14_2_d 18 [(4, .long (oL (mw (ers I S 15) (rwd I L S q 15)))), (2, .long (rwd I L S q 15)), (0, .ref (ad 1)), (1, .int (nI q))] [.ref (ad 1), .ref (ad 1)] rfl ?_
  refine g_get X srcW (v := .int (I 8 2)) hinX4 rfl 4 (by decide) w_101 rfl (wc_mem (k := 1) (by decide)) rfl dX4_fetchLine_18 ?_
  refine g_run X KX4_fetchLine_21_3 KX4_fetchLine_21_3_d 23 [(4, .long (oL (mw (ers I S 15) (rwd I L S q 15)))), (2, .long (rwd I L S q 15)), (0, .ref (ad 1)), (1, .int (nI q))] [.int ((I 8 2) + (nI 1)), .ref (ad 1)] rfl ?_
  refine g_put X (ws' := WC ad g (u2 I 8 2 ((I 8 2) + (nI 1))) L S) hinX4 tyX4 tyX4_ok nmX4 rfl 4 (by decide) w_101 rfl rfl (ty := .int) rfl rfl rfl (1) (wc_get (k := 1) (by decide)) (Nat.le_of_ble_eq_true rfl) (ws_me4) dX4_fetchLine_23 ?_
  refine g_run X KX4_fetchLine_26_4 KX4_fetchLine_26_4_d 28 [(4, .long (oL (mw (ers I S 15) (rwd I L S q 15)))), (2, .long (rwd I L S q 15)), (0, .ref (ad 1)), (1, .int (nI q))] [.long (oL (mw (ers I S 15) (rwd I L S q 15)))] rfl ?_
  refine g_ldc2 X (v := (-1 : Int64)) w_297 dX4_fetchLine_28 ?_
  refine g_run X KX4_fetchLine_31_5 KX4_fetchLine_31_5_d 32 [(4, .long (oL (mw (ers I S 15) (rwd I L S q 15)))), (2, .long (rwd I L S q 15)), (0, .ref (ad 1)), (1, .int (nI q))] [.int (lg_cmp (oL (mw (ers I S 15) (rwd I L S q 15))) (-1 : Int64))] rfl ?_
  refine g_if_ne X 48 dX4_fetchLine_32 (by decide) (fun hc4 => ?_) (fun hc4 => ?_)
  · rw [lc0] at hc4; have h1 := hc4
    refine g_run X KX4_fetchLine_48_6 KX4_fetchLine_48_6_d 52 [(4, .long (oL (mw (ers I S 15) (rwd I L S q 15)))), (2, .long (rwd I L S q 15)), (0, .ref (ad 1)), (1, .int (nI q))] [.int (lg_cmp (oL (mw (ers I S 15) (rwd I L S q 15))) (rwd I L S q 15))] rfl ?_
    refine g_if_eq X 73 dX4_fetchLine_52 (by decide) (fun hc5 => ?_) (fun hc5 => ?_)
    · rw [lc0] at hc5; have hft := ft_b h1 hc5
      refine g_run X KX4_fetchLine_73_7 KX4_fetchLine_73_7_d 74 [(4, .long (oL (mw (ers I S 15) (rwd I L S q 15)))), (2, .long (rwd I L S q 15)), (0, .ref (ad 1)), (1, .int (nI q))] [.ref (ad 1)] rfl ?_
      refine g_callV X hSB hAf (srcW) (hrc1 := (rfl : CL[3]? = some _)) (wc_mem (k := 1) (by decide)) rfl (As := []) (wr := []) (n := 0) (c_X4_eraseBlamed l D g ad (u2 I 8 2 ((I 8 2) + (nI 1))) L S (hS18)) (List.append_nil _).symm srcN hrdN w_622 w_619 w_621 w_s4 w_2 (by decide +kernel) rfl ⟨Nat.le_of_ble_eq_true rfl, Nat.le_of_ble_eq_true rfl⟩ rfl rfl rfl (Nat.le_of_ble_eq_true rfl) ⟨Nat.le_of_ble_eq_true rfl, Nat.le_of_ble_eq_true rfl⟩ dX4_fetchLine_74 (fun hu6 _ => ?_)
      refine g_af (ws' := WC ad g (erA (u2 I 8 2 ((I 8 2) + (nI 1))) S) L S) (st' := []) (cells' := 0) (slots' := 0) (pc' := 77) (List.append_nil _).symm rfl rfl rfl rfl ?_
      refine g_run X KX4_fetchLine_77_8 KX4_fetchLine_77_8_d 79 [(4, .long (oL (mw (ers I S 15) (rwd I L S q 15)))), (2, .long (rwd I L S q 15)), (0, .ref (ad 1)), (1, .int (nI q))] [.long (oL (mw (ers I S 15) (rwd I L S q 15)))] rfl ?_
      exact g_lret X hr () (rfl) (trivial) (by show _ = WC ad g (erA (ftI I L S q) S) (ftL I L S q) S ++ []; rw [hft.1, hft.2]; exact (List.append_nil _).symm) (Nat.le_of_ble_eq_true rfl) (Nat.le_of_ble_eq_true rfl) dX4_fetchLine_79
    · rw [lc0] at hc5; have hft := ft_c h1 hc5
      refine g_run X KX4_fetchLine_55_9 KX4_fetchLine_55_9_d 60 [(4, .long (oL (mw (ers I S 15) (rwd I L S q 15)))), (2, .long (rwd I L S q 15)), (0, .ref (ad 1)), (1, .int (nI q))] [.long ((rwd I L S q 15) ^^^ (oL (mw (ers I S 15) (rwd I L S q 15)))), .ref (ad 1)] rfl ?_
      refine g_callS X hSB hAf (As := [.long ((rwd I L S q 15) ^^^ (oL (mw (ers I S 15) (rwd I L S q 15))))]) (wr := WC ad g (u2 I 8 2 ((I 8 2) + (nI 1))) L S) (n := 1) (c_X2_placesIn l D g ((rwd I L S q 15) ^^^ (oL (mw (ers I S 15) (rwd I L S q 15)))) ) rfl srcN hrdN w_444 w_613 w_443 w_22 (by decide +kernel) rfl ⟨Nat.le_of_ble_eq_true rfl, Nat.le_of_ble_eq_true rfl⟩ rfl rfl rfl (Nat.le_of_ble_eq_true rfl) ⟨Nat.le_of_ble_eq_true rfl, Nat.le_of_ble_eq_true rfl⟩ dX4_fetchLine_60 (fun hu7 _ => ?_)
      refine g_af (ws' := WC ad g (u2 I 8 2 ((I 8 2) + (nI 1))) L S) (st' := [.int (nI (pl ((rwd I L S q 15) ^^^ (oL (mw (ers I S 15) (rwd I L S q 15)))) 15)), .ref (ad 1)]) (cells' := 0) (slots' := 0) (pc' := 63) rfl rfl rfl rfl rfl ?_
      refine g_callV X hSB hAf (srcW) (hrc1 := (rfl : CL[3]? = some _)) (wc_mem (k := 1) (by decide)) rfl (As := [.int (nI (pl ((rwd I L S q 15) ^^^ (oL (mw (ers I S 15) (rwd I L S q 15)))) 15))]) (wr := []) (n := 1) (c_X4_countMended l D g ad (u2 I 8 2 ((I 8 2) + (nI 1))) L S (pl ((rwd I L S q 15) ^^^ (oL (mw (ers I S 15) (rwd I L S q 15)))) 15) (hS18) (pl_lt _ _)) (List.append_nil _).symm srcN hrdN w_617 w_614 w_616 w_s3 w_2 (by decide +kernel) rfl ⟨Nat.le_of_ble_eq_true rfl, Nat.le_of_ble_eq_true rfl⟩ rfl rfl rfl (Nat.le_of_ble_eq_true rfl) ⟨Nat.le_of_ble_eq_true rfl, Nat.le_of_ble_eq_true rfl⟩ dX4_fetchLine_63 (fun hu8 _ => ?_)
      refine g_af (ws' := WC ad g (cmA (u2 I 8 2 ((I 8 2) + (nI 1))) S (pl ((rwd I L S q 15) ^^^ (oL (mw (ers I S 15) (rwd I L S q 15)))) 15)) L S) (st' := []) (cells' := 0) (slots' := 0) (pc' := 66) (List.append_nil _).symm rfl rfl rfl rfl ?_
      refine g_run X KX4_fetchLine_66_10 KX4_fetchLine_66_10_d 70 [(4, .long (oL (mw (ers I S 15) (rwd I L S q 15)))), (2, .long (rwd I L S q 15)), (0, .ref (ad 1)), (1, .int (nI q))] [.long (oL (mw (ers I S 15) (rwd I L S q 15))), .int (nI q), .ref (ad 1)] rfl ?_
      refine g_callV X hSB hAf (srcW) (hrc1 := (rfl : CL[3]? = some _)) (wc_mem (k := 1) (by decide)) rfl (As := [.int (nI q), .long (oL (mw (ers I S 15) (rwd I L S q 15)))]) (wr := []) (n := 2) (c_X4_writeWord l D g ad (cmA (u2 I 8 2 ((I 8 2) + (nI 1))) S (pl ((rwd I L S q 15) ^^^ (oL (mw (ers I S 15) (rwd I L S q 15)))) 15)) L S q (oL (mw (ers I S 15) (rwd I L S q 15))) (hS18) (by omega)) (List.append_nil _).symm srcN hrdN w_212 w_618 w_210 w_211 w_2 (by decide +kernel) rfl ⟨Nat.le_of_ble_eq_true rfl, Nat.le_of_ble_eq_true rfl⟩ rfl rfl rfl (Nat.le_of_ble_eq_true rfl) ⟨Nat.le_of_ble_eq_true rfl, Nat.le_of_ble_eq_true rfl⟩ dX4_fetchLine_70 (fun hu9 _ => ?_)
      refine g_af (ws' := WC ad g (cmA (u2 I 8 2 ((I 8 2) + (nI 1))) S (pl ((rwd I L S q 15) ^^^ (oL (mw (ers I S 15) (rwd I L S q 15)))) 15)) (wrw S L q (oL (mw (ers I S 15) (rwd I L S q 15))) 15) S) (st' := []) (cells' := 0) (slots' := 0) (pc' := 73) (List.append_nil _).symm rfl rfl rfl rfl ?_
      refine g_run X KX4_fetchLine_73_7 KX4_fetchLine_73_7_d 74 [(4, .long (oL (mw (ers I S 15) (rwd I L S q 15)))), (2, .long (rwd I L S q 15)), (0, .ref (ad 1)), (1, .int (nI q))] [.ref (ad 1)] rfl ?_
      refine g_callV X hSB hAf (srcW) (hrc1 := (rfl : CL[3]? = some _)) (wc_mem (k := 1) (by decide)) rfl (As := []) (wr := []) (n := 0) (c_X4_eraseBlamed l D g ad (cmA (u2 I 8 2 ((I 8 2) + (nI 1))) S (pl ((rwd I L S q 15) ^^^ (oL (mw (ers I S 15) (rwd I L S q 15)))) 15)) (wrw S L q (oL (mw (ers I S 15) (rwd I L S q 15))) 15) S (hS18)) (List.append_nil _).symm srcN hrdN w_622 w_619 w_621 w_s4 w_2 (by decide +kernel) rfl ⟨Nat.le_of_ble_eq_true rfl, Nat.le_of_ble_eq_true rfl⟩ rfl rfl rfl (Nat.le_of_ble_eq_true rfl) ⟨Nat.le_of_ble_eq_true rfl, Nat.le_of_ble_eq_true rfl⟩ dX4_fetchLine_74 (fun hu10 _ => ?_)
      refine g_af (ws' := WC ad g (erA (cmA (u2 I 8 2 ((I 8 2) + (nI 1))) S (pl ((rwd I L S q 15) ^^^ (oL (mw (ers I S 15) (rwd I L S q 15)))) 15)) S) (wrw S L q (oL (mw (ers I S 15) (rwd I L S q 15))) 15) S) (st' := []) (cells' := 0) (slots' := 0) (pc' := 77) (List.append_nil _).symm rfl rfl rfl rfl ?_
      refine g_run X KX4_fetchLine_77_8 KX4_fetchLine_77_8_d 79 [(4, .long (oL (mw (ers I S 15) (rwd I L S q 15)))), (2, .long (rwd I L S q 15)), (0, .ref (ad 1)), (1, .int (nI q))] [.long (oL (mw (ers I S 15) (rwd I L S q 15)))] rfl ?_
      exact g_lret X hr () (rfl) (trivial) (by show _ = WC ad g (erA (ftI I L S q) S) (ftL I L S q) S ++ []; rw [hft.1, hft.2]; exact (List.append_nil _).symm) (Nat.le_of_ble_eq_true rfl) (Nat.le_of_ble_eq_true rfl) dX4_fetchLine_79
  · rw [lc0] at hc4; have hft := ft_a hc4
    refine g_run X KX4_fetchLine_35_11 KX4_fetchLine_35_11_d 37 [(4, .long (oL (mw (ers I S 15) (rwd I L S q 15)))), (2, .long (rwd I L S q 15)), (0, .ref (ad 1)), (1, .int (nI q))] [.ref (ad 1), .ref (ad 1)] rfl ?_
    refine g_get X srcW (v := .int ((u2 I 8 2 ((I 8 2) + (nI 1))) 8 3)) hinX4 rfl 5 (by decide) w_103 rfl (wc_mem (k := 1) (by decide)) rfl dX4_fetchLine_37 ?_
    refine g_run X KX4_fetchLine_40_12 KX4_fetchLine_40_12_d 42 [(4, .long (oL (mw (ers I S 15) (rwd I L S q 15)))), (2, .long (rwd I L S q 15)), (0, .ref (ad 1)), (1, .int (nI q))] [.int (((u2 I 8 2 ((I 8 2) + (nI 1))) 8 3) + (nI 1)), .ref (ad 1)] rfl ?_
    refine g_put X (ws' := WC ad g (u2 (u2 I 8 2 ((I 8 2) + (nI 1))) 8 3 (((u2 I 8 2 ((I 8 2) + (nI 1))) 8 3) + (nI 1))) L S) hinX4 tyX4 tyX4_ok nmX4 rfl 5 (by decide) w_103 rfl rfl (ty := .int) rfl rfl rfl (1) (wc_get (k := 1) (by decide)) (Nat.le_of_ble_eq_true rfl) (ws_me5) dX4_fetchLine_42 ?_
    refine g_run X KX4_fetchLine_45_13 KX4_fetchLine_45_13_d 74 [(4, .long (oL (mw (ers I S 15) (rwd I L S q 15)))), (2, .long (rwd I L S q 15)), (0, .ref (ad 1)), (1, .int (nI q))] [.ref (ad 1)] rfl ?_
    refine g_callV X hSB hAf (srcW) (hrc1 := (rfl : CL[3]? = some _)) (wc_mem (k := 1) (by decide)) rfl (As := []) (wr := []) (n := 0) (c_X4_eraseBlamed l D g ad (u2 (u2 I 8 2 ((I 8 2) + (nI 1))) 8 3 (((u2 I 8 2 ((I 8 2) + (nI 1))) 8 3) + (nI 1))) L S (hS18)) (List.append_nil _).symm srcN hrdN w_622 w_619 w_621 w_s4 w_2 (by decide +kernel) rfl ⟨Nat.le_of_ble_eq_true rfl, Nat.le_of_ble_eq_true rfl⟩ rfl rfl rfl (Nat.le_of_ble_eq_true rfl) ⟨Nat.le_of_ble_eq_true rfl, Nat.le_of_ble_eq_true rfl⟩ dX4_fetchLine_74 (fun hu11 _ => ?_)
    refine g_af (ws' := WC ad g (erA (u2 (u2 I 8 2 ((I 8 2) + (nI 1))) 8 3 (((u2 I 8 2 ((I 8 2) + (nI 1))) 8 3) + (nI 1))) S) L S) (st' := []) (cells' := 0) (slots' := 0) (pc' := 77) (List.append_nil _).symm rfl rfl rfl rfl ?_
    refine g_run X KX4_fetchLine_77_8 KX4_fetchLine_77_8_d 79 [(4, .long (oL (mw (ers I S 15) (rwd I L S q 15)))), (2, .long (rwd I L S q 15)), (0, .ref (ad 1)), (1, .int (nI q))] [.long (oL (mw (ers I S 15) (rwd I L S q 15)))] rfl ?_
    exact g_lret X hr () (rfl) (trivial) (by show _ = WC ad g (erA (ftI I L S q) S) (ftL I L S q) S ++ []; rw [hft.1, hft.2]; exact (List.append_nil _).symm) (Nat.le_of_ble_eq_true rfl) (Nat.le_of_ble_eq_true rfl) dX4_fetchLine_79

def KX4_stepPatrol_0_0 : List (Nat × Instr × Nat) := [(0, .aload_n 0, 1)]
theorem KX4_stepPatrol_0_0_d : ∀ z ∈ KX4_stepPatrol_0_0, decode cX4_stepPatrol z.1 = .ok z.2 := by decide +kernel
def KX4_stepPatrol_4_1 : List (Nat × Instr × Nat) := [(4, .istore_n 1, 1)]
theorem KX4_stepPatrol_4_1_d : ∀ z ∈ KX4_stepPatrol_4_1, decode cX4_stepPatrol z.1 = .ok z.2 := by decide +kernel
def KX4_stepPatrol_5_2 : List (Nat × Instr × Nat) := [(5, .aload_n 0, 1), (6, .iload_n 1, 1), (7, .iconst 1, 1), (8, .iadd, 1), (9, .bipush 16, 2)]
theorem KX4_stepPatrol_5_2_d : ∀ z ∈ KX4_stepPatrol_5_2, decode cX4_stepPatrol z.1 = .ok z.2 := by decide +kernel
def KX4_stepPatrol_15_3 : List (Nat × Instr × Nat) := [(15, .aload_n 0, 1), (16, .iload_n 1, 1)]
theorem KX4_stepPatrol_15_3_d : ∀ z ∈ KX4_stepPatrol_15_3, decode cX4_stepPatrol z.1 = .ok z.2 := by decide +kernel
set_option maxHeartbeats 4000000 in
set_option maxRecDepth 100000 in
theorem c_X4_stepPatrol (l : Launch) (D : va_G) (g : Nat → ClassId) (ad : Nat → Nat) (I : Nat → Nat → Int32) (L : Nat → Nat → Int64) (S : Nat → Nat) (n : Nat) (hS18 : ∀ p, p < 15 → S p < 18) (hpt : I 8 1 = nI n) (hn : n < 16) : CT l yX4_stepPatrol cX4_stepPatrol 2 ((Option.some FieldType.long)) ({ frames := 5, cells := 0, slots := 0, locals := 133 } : Room) [.ref (ad 1)] D CL (TYS g) ([]) (WC ad g I L S) (S := Unit) (fun _ => some (.long (oL (mwd (u2 I 8 1 (nI ((n + 1) % 16))) L S n)))) (fun _ => WC ad g (ftA (u2 I 8 1 (nI ((n + 1) % 16))) L S n) (ftL (u2 I 8 1 (nI ((n + 1) % 16))) L S n) S) (fun _ => True) 0 0 := by
  refine ct_of (by decide +kernel) (Nat.le_of_ble_eq_true rfl) ?_
  intro p e s m below meth c A X hr hnm hSB hRO hAf
  refine g_cs (ws' := WC ad g I L S) (lv' := [(0, .ref (ad 1))]) rfl rfl ?_
  refine g_run X KX4_stepPatrol_0_0 KX4_stepPatrol_0_0_d 1 [(0, .ref (ad 1))] [.ref (ad 1)] rfl ?_
  refine g_get X srcW (v := .int (I 8 1)) hinX4 rfl 3 (by decide) w_99 rfl (wc_mem (k := 1) (by decide)) rfl dX4_stepPatrol_1 ?_
  refine g_run X KX4_stepPatrol_4_1 KX4_stepPatrol_4_1_d 5 [(1, .int (I 8 1)), (0, .ref (ad 1))] [] rfl ?_
  refine g_nm (lv' := [(1, .int (nI n)), (0, .ref (ad 1))]) (st' := []) (by rw [hpt]) rfl ?_
  refine g_run X KX4_stepPatrol_5_2 KX4_stepPatrol_5_2_d 11 [(1, .int (nI n)), (0, .ref (ad 1))] [.int (nI 16), .int ((nI n) + (nI 1)), .ref (ad 1)] rfl ?_
  refine g_nm (lv' := [(1, .int (nI n)), (0, .ref (ad 1))]) (st' := [.int (nI 16), .int (nI (n + 1)), .ref (ad 1)]) (by simp only [nI_add]) (by simp only [nI_add]) ?_
  refine g_irem X (v := nI ((n + 1) % 16)) (nI_ne0 (by decide) (by decide)) (pk_rem (by omega) (by omega) (by decide)) dX4_stepPatrol_11 ?_
  refine g_put X (ws' := WC ad g (u2 I 8 1 (nI ((n + 1) % 16))) L S) hinX4 tyX4 tyX4_ok nmX4 rfl 3 (by decide) w_99 rfl rfl (ty := .int) rfl rfl rfl (1) (wc_get (k := 1) (by decide)) (Nat.le_of_ble_eq_true rfl) (ws_me3) dX4_stepPatrol_12 ?_
  refine g_run X KX4_stepPatrol_15_3 KX4_stepPatrol_15_3_d 17 [(1, .int (nI n)), (0, .ref (ad 1))] [.int (nI n), .ref (ad 1)] rfl ?_
  refine g_callV X hSB hAf (srcW) (hrc1 := (rfl : CL[3]? = some _)) (wc_mem (k := 1) (by decide)) rfl (As := [.int (nI n)]) (wr := []) (n := 1) (c_X4_fetchLine l D g ad (u2 I 8 1 (nI ((n + 1) % 16))) L S n (hS18) (by omega)) (List.append_nil _).symm srcN hrdN w_612 w_638 w_610 w_611 w_2 (by decide +kernel) rfl ⟨Nat.le_of_ble_eq_true rfl, Nat.le_of_ble_eq_true rfl⟩ rfl rfl rfl (Nat.le_of_ble_eq_true rfl) ⟨Nat.le_of_ble_eq_true rfl, Nat.le_of_ble_eq_true rfl⟩ dX4_stepPatrol_17 (fun hu1 _ => ?_)
  refine g_af (ws' := WC ad g (ftA (u2 I 8 1 (nI ((n + 1) % 16))) L S n) (ftL (u2 I 8 1 (nI ((n + 1) % 16))) L S n) S) (st' := [.long (oL (mwd (u2 I 8 1 (nI ((n + 1) % 16))) L S n))]) (cells' := 0) (slots' := 0) (pc' := 20) (List.append_nil _).symm rfl rfl rfl rfl ?_
  exact g_lret X hr () (rfl) (trivial) ((List.append_nil _).symm) (Nat.le_of_ble_eq_true rfl) (Nat.le_of_ble_eq_true rfl) dX4_stepPatrol_20

def KX4_fillFor_0_0 : List (Nat × Instr × Nat) := [(0, .aload_n 0, 1)]
theorem KX4_fillFor_0_0_d : ∀ z ∈ KX4_fillFor_0_0, decode cX4_fillFor z.1 = .ok z.2 := by decide +kernel
def KX4_fillFor_4_1 : List (Nat × Instr × Nat) := [(4, .istore_n 3, 1), (5, .iload_n 3, 1), (6, .iconst 1, 1), (7, .iload_n 1, 1), (8, .ishl, 1), (9, .ior, 1)]
theorem KX4_fillFor_4_1_d : ∀ z ∈ KX4_fillFor_4_1, decode cX4_fillFor z.1 = .ok z.2 := by decide +kernel
def KX4_fillFor_13_2 : List (Nat × Instr × Nat) := [(13, .iconst 4, 1)]
theorem KX4_fillFor_13_2_d : ∀ z ∈ KX4_fillFor_13_2, decode cX4_fillFor z.1 = .ok z.2 := by decide +kernel
def KX4_fillFor_23_3 : List (Nat × Instr × Nat) := [(23, .iconst 0, 1), (24, .istore 4, 2)]
theorem KX4_fillFor_23_3_d : ∀ z ∈ KX4_fillFor_23_3, decode cX4_fillFor z.1 = .ok z.2 := by decide +kernel
def KX4_fillFor_26_4 : List (Nat × Instr × Nat) := [(26, .iload 4, 2), (28, .bipush 16, 2)]
theorem KX4_fillFor_26_4_d : ∀ z ∈ KX4_fillFor_26_4, decode cX4_fillFor z.1 = .ok z.2 := by decide +kernel
def KX4_fillFor_33_5 : List (Nat × Instr × Nat) := [(33, .aload_n 0, 1), (34, .iload 4, 2)]
theorem KX4_fillFor_33_5_d : ∀ z ∈ KX4_fillFor_33_5, decode cX4_fillFor z.1 = .ok z.2 := by decide +kernel
def KX4_fillFor_39_6 : List (Nat × Instr × Nat) := [(39, .lstore 5, 2), (41, .lload 5, 2), (43, .iload_n 3, 1)]
theorem KX4_fillFor_39_6_d : ∀ z ∈ KX4_fillFor_39_6, decode cX4_fillFor z.1 = .ok z.2 := by decide +kernel
def KX4_fillFor_47_7 : List (Nat × Instr × Nat) := [(47, .lstore 7, 2), (49, .aload_n 2, 1), (50, .iload 4, 2), (52, .lload 7, 2)]
theorem KX4_fillFor_47_7_d : ∀ z ∈ KX4_fillFor_47_7, decode cX4_fillFor z.1 = .ok z.2 := by decide +kernel
def KX4_fillFor_57_8 : List (Nat × Instr × Nat) := [(57, .lcmp, 1)]
theorem KX4_fillFor_57_8_d : ∀ z ∈ KX4_fillFor_57_8, decode cX4_fillFor z.1 = .ok z.2 := by decide +kernel
def KX4_fillFor_66_9 : List (Nat × Instr × Nat) := [(66, .lload 7, 2), (68, .iload_n 1, 1)]
theorem KX4_fillFor_66_9_d : ∀ z ∈ KX4_fillFor_66_9, decode cX4_fillFor z.1 = .ok z.2 := by decide +kernel
def KX4_fillFor_75_10 : List (Nat × Instr × Nat) := [(75, .iinc 4 1, 3), (78, .goto (-52), 3)]
theorem KX4_fillFor_75_10_d : ∀ z ∈ KX4_fillFor_75_10, decode cX4_fillFor z.1 = .ok z.2 := by decide +kernel
def KX4_fillFor_61_11 : List (Nat × Instr × Nat) := [(61, .lload 5, 2), (63, .goto 5, 3), (68, .iload_n 1, 1)]
theorem KX4_fillFor_61_11_d : ∀ z ∈ KX4_fillFor_61_11, decode cX4_fillFor z.1 = .ok z.2 := by decide +kernel
def KX4_fillFor_17_12 : List (Nat × Instr × Nat) := [(17, .iload_n 3, 1), (18, .iconst 1, 1), (19, .iload_n 1, 1), (20, .ishl, 1), (21, .ior, 1), (22, .istore_n 3, 1)]
theorem KX4_fillFor_17_12_d : ∀ z ∈ KX4_fillFor_17_12, decode cX4_fillFor z.1 = .ok z.2 := by decide +kernel
set_option maxHeartbeats 4000000 in
set_option maxRecDepth 100000 in
theorem c_X4_fillFor (l : Launch) (D : va_G) (g : Nat → ClassId) (ad : Nat → Nat) (I : Nat → Nat → Int32) (L : Nat → Nat → Int64) (S : Nat → Nat) (q : Nat) (ch : Nat) (hS18 : ∀ p, p < 15 → S p < 18) (hq : q < 15) (hch : ch < 18) : CT l yX4_fillFor cX4_fillFor 9 ((Option.none : Option Jvm.ClassFile.FieldType)) ({ frames := 4, cells := 0, slots := 0, locals := 108 } : Room) [.ref (ad 1), .int (nI q), .ref (ad (ch + 10))] D CL (TYS g) ([]) (WC ad g I L S) (S := Unit) (fun _ => none) (fun _ => WC ad g I (ffl I L S q ch (ffb I S q) 16) S) (fun _ => True) 0 0 := by
  refine ct_of (by decide +kernel) (Nat.le_of_ble_eq_true rfl) ?_
  intro p e s m below meth c A X hr hnm hSB hRO hAf
  refine g_cs (ws' := WC ad g I L S) (lv' := [(0, .ref (ad 1)), (1, .int (nI q)), (2, .ref (ad (ch + 10)))]) rfl rfl ?_
  refine g_run X KX4_fillFor_0_0 KX4_fillFor_0_0_d 1 [(0, .ref (ad 1)), (1, .int (nI q)), (2, .ref (ad (ch + 10)))] [.ref (ad 1)] rfl ?_
  refine g_callV X hSB hAf (srcW) (hrc1 := (rfl : CL[3]? = some _)) (wc_mem (k := 1) (by decide)) rfl (As := []) (wr := WC ad g I L S) (n := 0) (c_X4_erasedPlaces l D g ad I L S (hS18)) rfl srcW hrdC w_240 w_237 w_238 w_239 w_2 (by decide +kernel) rfl ⟨Nat.le_of_ble_eq_true rfl, Nat.le_of_ble_eq_true rfl⟩ rfl rfl rfl (Nat.le_of_ble_eq_true rfl) ⟨Nat.le_of_ble_eq_true rfl, Nat.le_of_ble_eq_true rfl⟩ dX4_fillFor_1 (fun hu1 _ => ?_)
  refine g_af (ws' := WC ad g I L S) (st' := [.int (nI (ers I S 15))]) (cells' := 0) (slots' := 0) (pc' := 4) rfl rfl rfl rfl rfl ?_
  refine g_run X KX4_fillFor_4_1 KX4_fillFor_4_1_d 10 [(3, .int (nI (ers I S 15))), (0, .ref (ad 1)), (1, .int (nI q)), (2, .ref (ad (ch + 10)))] [.int ((nI (ers I S 15)) ||| ((nI 1) <<< ((nI q) &&& 31)))] rfl ?_
  refine g_nm (lv' := [(3, .int (nI (ers I S 15))), (0, .ref (ad 1)), (1, .int (nI q)), (2, .ref (ad (ch + 10)))]) (st' := [.int (nI ((ers I S 15) ||| (2 ^ q)))]) (by simp only [nx_or, sh1 (show q < 31 by omega)]) (by simp only [nx_or, sh1 (show q < 31 by omega)]) ?_
  refine g_callS X hSB hAf (As := [.int (nI ((ers I S 15) ||| (2 ^ q)))]) (wr := WC ad g I L S) (n := 1) (c_J6_bitCount_0f7a4 l D g ((ers I S 15) ||| (2 ^ q)) (or_lt (ers_lt _ _ _) (two_lt hq))) rfl srcN hrdN w_259 w_593 w_258 w_24 (by decide +kernel) rfl ⟨Nat.le_of_ble_eq_true rfl, Nat.le_of_ble_eq_true rfl⟩ rfl rfl rfl (Nat.le_of_ble_eq_true rfl) ⟨Nat.le_of_ble_eq_true rfl, Nat.le_of_ble_eq_true rfl⟩ dX4_fillFor_10 (fun hu2 _ => ?_)
  refine g_af (ws' := WC ad g I L S) (st' := [.int (nI (pcn ((ers I S 15) ||| (2 ^ q)) 15))]) (cells' := 0) (slots' := 0) (pc' := 13) rfl rfl rfl rfl rfl ?_
  have hp15 := pcn_15 (ers I S 15 ||| 2 ^ q)
  refine g_run X KX4_fillFor_13_2 KX4_fillFor_13_2_d 14 [(3, .int (nI (ers I S 15))), (0, .ref (ad 1)), (1, .int (nI q)), (2, .ref (ad (ch + 10)))] [.int (nI 4), .int (nI (pcn ((ers I S 15) ||| (2 ^ q)) 15))] rfl ?_
  refine g_icmp_gt X 23 dX4_fillFor_14 (by decide) (fun hc3 => ?_) (fun hc3 => ?_)
  · rw [nI_ltI (by omega) (by omega)] at hc3; have hfb : ffb I S q = ers I S 15 := if_neg (by omega)
    refine g_nm (lv' := [(3, .int (nI (ffb I S q))), (0, .ref (ad 1)), (1, .int (nI q)), (2, .ref (ad (ch + 10)))]) (st' := []) (by rw [hfb]) rfl ?_
    have hfbl : ffb I S q < 2 ^ 15 := ffb_lt hq
    refine g_run X KX4_fillFor_23_3 KX4_fillFor_23_3_d 26 [(4, .int (nI 0)), (3, .int (nI (ffb I S q))), (0, .ref (ad 1)), (1, .int (nI q)), (2, .ref (ad (ch + 10)))] [] rfl ?_
    refine g_lv (lv' := [(0, .ref (ad 1)), (1, .int (nI q)), (2, .ref (ad (ch + 10))), (3, .int (nI (ffb I S q))), (4, .int (nI 0))]) (lsub_c 2 rfl (lsub_c 3 rfl (lsub_c 4 rfl (lsub_c 1 rfl (lsub_c 0 rfl (lsub_n)))))) ?_
    refine g_for 16 (fun i => WC ad g I (ffl I L S q ch (ffb I S q) i) S) (fun i => [(0, .ref (ad 1)), (1, .int (nI q)), (2, .ref (ad (ch + 10))), (3, .int (nI (ffb I S q))), (4, .int (nI i))]) (rfl) (rfl) ?_ ?_
    · refine g_run X KX4_fillFor_26_4 KX4_fillFor_26_4_d 30 [(0, .ref (ad 1)), (1, .int (nI q)), (2, .ref (ad (ch + 10))), (3, .int (nI (ffb I S q))), (4, .int (nI 16))] [.int (nI 16), .int (nI 16)] rfl ?_
      refine g_icmp_ge X 81 dX4_fillFor_30 (by decide) (fun hc4 => ?_) (fun hc4 => ?_)
      · exact g_vret X hr () rfl (trivial) ((List.append_nil _).symm) (Nat.le_of_ble_eq_true rfl) (Nat.le_of_ble_eq_true rfl) dX4_fillFor_81
      · rw [nI_leI (by omega) (by omega)] at hc4; first | omega | (simp at hc4)
    · intro i hi k26
      refine g_run X KX4_fillFor_26_4 KX4_fillFor_26_4_d 30 [(0, .ref (ad 1)), (1, .int (nI q)), (2, .ref (ad (ch + 10))), (3, .int (nI (ffb I S q))), (4, .int (nI i))] [.int (nI 16), .int (nI i)] rfl ?_
      refine g_icmp_ge X 81 dX4_fillFor_30 (by decide) (fun hc5 => ?_) (fun hc5 => ?_)
      · rw [nI_leI (by omega) (by omega)] at hc5; first | omega | (simp at hc5)
      · refine g_run X KX4_fillFor_33_5 KX4_fillFor_33_5_d 36 [(0, .ref (ad 1)), (1, .int (nI q)), (2, .ref (ad (ch + 10))), (3, .int (nI (ffb I S q))), (4, .int (nI i))] [.int (nI i), .ref (ad 1)] rfl ?_
        refine g_callV X hSB hAf (srcW) (hrc1 := (rfl : CL[3]? = some _)) (wc_mem (k := 1) (by decide)) rfl (As := [.int (nI i)]) (wr := WC ad g I (ffl I L S q ch (ffb I S q) i) S) (n := 1) (c_X4_readWord l D g ad I (ffl I L S q ch (ffb I S q) i) S i (hS18) (by omega)) rfl srcW hrdC w_244 w_241 w_242 w_243 w_2 (by decide +kernel) rfl ⟨Nat.le_of_ble_eq_true rfl, Nat.le_of_ble_eq_true rfl⟩ rfl rfl rfl (Nat.le_of_ble_eq_true rfl) ⟨Nat.le_of_ble_eq_true rfl, Nat.le_of_ble_eq_true rfl⟩ dX4_fillFor_36 (fun hu6 _ => ?_)
        refine g_af (ws' := WC ad g I (ffl I L S q ch (ffb I S q) i) S) (st' := [.long (rwd I (ffl I L S q ch (ffb I S q) i) S i 15)]) (cells' := 0) (slots' := 0) (pc' := 39) rfl rfl rfl rfl rfl ?_
        refine g_run X KX4_fillFor_39_6 KX4_fillFor_39_6_d 44 [(5, .long (rwd I (ffl I L S q ch (ffb I S q) i) S i 15)), (0, .ref (ad 1)), (1, .int (nI q)), (2, .ref (ad (ch + 10))), (3, .int (nI (ffb I S q))), (4, .int (nI i))] [.int (nI (ffb I S q)), .long (rwd I (ffl I L S q ch (ffb I S q) i) S i 15)] rfl ?_
        refine g_callS X hSB hAf (As := [.long (rwd I (ffl I L S q ch (ffb I S q) i) S i 15), .int (nI (ffb I S q))]) (wr := WC ad g I (ffl I L S q ch (ffb I S q) i) S) (n := 2) (c_X2_mendedWord l D g (rwd I (ffl I L S q ch (ffb I S q) i) S i 15) (ffb I S q) (hfbl)) rfl srcN hrdN w_256 w_254 w_255 w_22 (by decide +kernel) rfl ⟨Nat.le_of_ble_eq_true rfl, Nat.le_of_ble_eq_true rfl⟩ rfl rfl rfl (Nat.le_of_ble_eq_true rfl) ⟨Nat.le_of_ble_eq_true rfl, Nat.le_of_ble_eq_true rfl⟩ dX4_fillFor_44 (fun hu7 _ => ?_)
        refine g_af (ws' := WC ad g I (ffl I L S q ch (ffb I S q) i) S) (st' := [.long (oL (mw (ffb I S q) (rwd I (ffl I L S q ch (ffb I S q) i) S i 15)))]) (cells' := 0) (slots' := 0) (pc' := 47) rfl rfl rfl rfl rfl ?_
        refine g_run X KX4_fillFor_47_7 KX4_fillFor_47_7_d 54 [(7, .long (oL (mw (ffb I S q) (rwd I (ffl I L S q ch (ffb I S q) i) S i 15)))), (5, .long (rwd I (ffl I L S q ch (ffb I S q) i) S i 15)), (0, .ref (ad 1)), (1, .int (nI q)), (2, .ref (ad (ch + 10))), (3, .int (nI (ffb I S q))), (4, .int (nI i))] [.long (oL (mw (ffb I S q) (rwd I (ffl I L S q ch (ffb I S q) i) S i 15))), .int (nI i), .ref (ad (ch + 10))] rfl ?_
        refine g_ldc2 X (v := (-1 : Int64)) w_297 dX4_fillFor_54 ?_
        refine g_run X KX4_fillFor_57_8 KX4_fillFor_57_8_d 58 [(7, .long (oL (mw (ffb I S q) (rwd I (ffl I L S q ch (ffb I S q) i) S i 15)))), (5, .long (rwd I (ffl I L S q ch (ffb I S q) i) S i 15)), (0, .ref (ad 1)), (1, .int (nI q)), (2, .ref (ad (ch + 10))), (3, .int (nI (ffb I S q))), (4, .int (nI i))] [.int (lg_cmp (oL (mw (ffb I S q) (rwd I (ffl I L S q ch (ffb I S q) i) S i 15))) (-1 : Int64)), .int (nI i), .ref (ad (ch + 10))] rfl ?_
        refine g_if_ne X 66 dX4_fillFor_58 (by decide) (fun hc8 => ?_) (fun hc8 => ?_)
        · rw [lc0] at hc8; have hfw : ffw I (ffl I L S q ch (ffb I S q) i) S (ffb I S q) i = oL (mw (ffb I S q) (rwd I (ffl I L S q ch (ffb I S q) i) S i 15)) := if_neg hc8
          refine g_run X KX4_fillFor_66_9 KX4_fillFor_66_9_d 69 [(7, .long (oL (mw (ffb I S q) (rwd I (ffl I L S q ch (ffb I S q) i) S i 15)))), (5, .long (rwd I (ffl I L S q ch (ffb I S q) i) S i 15)), (0, .ref (ad 1)), (1, .int (nI q)), (2, .ref (ad (ch + 10))), (3, .int (nI (ffb I S q))), (4, .int (nI i))] [.int (nI q), .long (oL (mw (ffb I S q) (rwd I (ffl I L S q ch (ffb I S q) i) S i 15))), .int (nI i), .ref (ad (ch + 10))] rfl ?_
          refine g_callSN X hSB hAf (host := "Chipfield") (As := [.long (oL (mw (ffb I S q) (rwd I (ffl I L S q ch (ffb I S q) i) S i 15))), .int (nI q)]) (wr := WC ad g I (ffl I L S q ch (ffb I S q) i) S) (n := 2) (c_X5_numberAt l D g (oL (mw (ffb I S q) (rwd I (ffl I L S q ch (ffb I S q) i) S i 15))) q (by omega)) rfl srcN hrdN w_215 (nw_in n_213 rfl) w_214 w_1 (by decide +kernel) rfl ⟨Nat.le_of_ble_eq_true rfl, Nat.le_of_ble_eq_true rfl⟩ rfl rfl rfl (Nat.le_of_ble_eq_true rfl) ⟨Nat.le_of_ble_eq_true rfl, Nat.le_of_ble_eq_true rfl⟩ dX4_fillFor_69 (fun hu9 _ => ?_)
          refine g_af (ws' := WC ad g I (ffl I L S q ch (ffb I S q) i) S) (st' := [.int (nI (nib (oL (mw (ffb I S q) (rwd I (ffl I L S q ch (ffb I S q) i) S i 15))) q)), .int (nI i), .ref (ad (ch + 10))]) (cells' := 0) (slots' := 0) (pc' := 72) rfl rfl rfl rfl rfl ?_
          refine g_callV X hSB hAf (srcW) (hrc1 := (rfl : CL[1]? = some _)) (wc_chip (by omega)) rfl (As := [.int (nI i), .int (nI (nib (oL (mw (ffb I S q) (rwd I (ffl I L S q ch (ffb I S q) i) S i 15))) q))]) (wr := []) (n := 2) (c_X1_putAt l D g ad I (ffl I L S q ch (ffb I S q) i) S ch i (nib (oL (mw (ffb I S q) (rwd I (ffl I L S q ch (ffb I S q) i) S i 15))) q) (by omega) (by omega)) (List.append_nil _).symm srcN hrdN w_219 w_216 w_217 w_218 w_3 (by decide +kernel) rfl ⟨Nat.le_of_ble_eq_true rfl, Nat.le_of_ble_eq_true rfl⟩ rfl rfl rfl (Nat.le_of_ble_eq_true rfl) ⟨Nat.le_of_ble_eq_true rfl, Nat.le_of_ble_eq_true rfl⟩ dX4_fillFor_72 (fun hu10 _ => ?_)
          refine g_af (ws' := WC ad g I (u2 (ffl I L S q ch (ffb I S q) i) 0 ch (wn ((ffl I L S q ch (ffb I S q) i) 0 ch) i (nib (oL (mw (ffb I S q) (rwd I (ffl I L S q ch (ffb I S q) i) S i 15))) q))) S) (st' := []) (cells' := 0) (slots' := 0) (pc' := 75) (List.append_nil _).symm rfl rfl rfl rfl ?_
          refine g_run X KX4_fillFor_75_10 KX4_fillFor_75_10_d 26 [(4, .int ((nI i) + (nI 1))), (7, .long (oL (mw (ffb I S q) (rwd I (ffl I L S q ch (ffb I S q) i) S i 15)))), (5, .long (rwd I (ffl I L S q ch (ffb I S q) i) S i 15)), (0, .ref (ad 1)), (1, .int (nI q)), (2, .ref (ad (ch + 10))), (3, .int (nI (ffb I S q)))] [] rfl ?_
          refine g_nm (lv' := [(4, .int (nI (i + 1))), (7, .long (oL (mw (ffb I S q) (rwd I (ffl I L S q ch (ffb I S q) i) S i 15)))), (5, .long (rwd I (ffl I L S q ch (ffb I S q) i) S i 15)), (0, .ref (ad 1)), (1, .int (nI q)), (2, .ref (ad (ch + 10))), (3, .int (nI (ffb I S q)))]) (st' := []) (by simp only [nI_add]) (by simp only [nI_add]) ?_
          refine g_lv (lv' := [(0, .ref (ad 1)), (1, .int (nI q)), (2, .ref (ad (ch + 10))), (3, .int (nI (ffb I S q))), (4, .int (nI (i + 1)))]) (lsub_c 3 rfl (lsub_c 4 rfl (lsub_c 5 rfl (lsub_c 6 rfl (lsub_c 0 rfl (lsub_n)))))) ?_
          refine g_cs (ws' := WC ad g I (ffl I L S q ch (ffb I S q) (i + 1)) S) (lv' := [(0, .ref (ad 1)), (1, .int (nI q)), (2, .ref (ad (ch + 10))), (3, .int (nI (ffb I S q))), (4, .int (nI (i + 1)))]) (by rw [ffl, hfw]) (rfl) ?_
          exact k26
        · rw [lc0] at hc8; have hfw : ffw I (ffl I L S q ch (ffb I S q) i) S (ffb I S q) i = rwd I (ffl I L S q ch (ffb I S q) i) S i 15 := if_pos hc8
          refine g_run X KX4_fillFor_61_11 KX4_fillFor_61_11_d 69 [(7, .long (oL (mw (ffb I S q) (rwd I (ffl I L S q ch (ffb I S q) i) S i 15)))), (5, .long (rwd I (ffl I L S q ch (ffb I S q) i) S i 15)), (0, .ref (ad 1)), (1, .int (nI q)), (2, .ref (ad (ch + 10))), (3, .int (nI (ffb I S q))), (4, .int (nI i))] [.int (nI q), .long (rwd I (ffl I L S q ch (ffb I S q) i) S i 15), .int (nI i), .ref (ad (ch + 10))] rfl ?_
          refine g_callSN X hSB hAf (host := "Chipfield") (As := [.long (rwd I (ffl I L S q ch (ffb I S q) i) S i 15), .int (nI q)]) (wr := WC ad g I (ffl I L S q ch (ffb I S q) i) S) (n := 2) (c_X5_numberAt l D g (rwd I (ffl I L S q ch (ffb I S q) i) S i 15) q (by omega)) rfl srcN hrdN w_215 (nw_in n_213 rfl) w_214 w_1 (by decide +kernel) rfl ⟨Nat.le_of_ble_eq_true rfl, Nat.le_of_ble_eq_true rfl⟩ rfl rfl rfl (Nat.le_of_ble_eq_true rfl) ⟨Nat.le_of_ble_eq_true rfl, Nat.le_of_ble_eq_true rfl⟩ dX4_fillFor_69 (fun hu11 _ => ?_)
          refine g_af (ws' := WC ad g I (ffl I L S q ch (ffb I S q) i) S) (st' := [.int (nI (nib (rwd I (ffl I L S q ch (ffb I S q) i) S i 15) q)), .int (nI i), .ref (ad (ch + 10))]) (cells' := 0) (slots' := 0) (pc' := 72) rfl rfl rfl rfl rfl ?_
          refine g_callV X hSB hAf (srcW) (hrc1 := (rfl : CL[1]? = some _)) (wc_chip (by omega)) rfl (As := [.int (nI i), .int (nI (nib (rwd I (ffl I L S q ch (ffb I S q) i) S i 15) q))]) (wr := []) (n := 2) (c_X1_putAt l D g ad I (ffl I L S q ch (ffb I S q) i) S ch i (nib (rwd I (ffl I L S q ch (ffb I S q) i) S i 15) q) (by omega) (by omega)) (List.append_nil _).symm srcN hrdN w_219 w_216 w_217 w_218 w_3 (by decide +kernel) rfl ⟨Nat.le_of_ble_eq_true rfl, Nat.le_of_ble_eq_true rfl⟩ rfl rfl rfl (Nat.le_of_ble_eq_true rfl) ⟨Nat.le_of_ble_eq_true rfl, Nat.le_of_ble_eq_true rfl⟩ dX4_fillFor_72 (fun hu12 _ => ?_)
          refine g_af (ws' := WC ad g I (u2 (ffl I L S q ch (ffb I S q) i) 0 ch (wn ((ffl I L S q ch (ffb I S q) i) 0 ch) i (nib (rwd I (ffl I L S q ch (ffb I S q) i) S i 15) q))) S) (st' := []) (cells' := 0) (slots' := 0) (pc' := 75) (List.append_nil _).symm rfl rfl rfl rfl ?_
          refine g_run X KX4_fillFor_75_10 KX4_fillFor_75_10_d 26 [(4, .int ((nI i) + (nI 1))), (7, .long (oL (mw (ffb I S q) (rwd I (ffl I L S q ch (ffb I S q) i) S i 15)))), (5, .long (rwd I (ffl I L S q ch (ffb I S q) i) S i 15)), (0, .ref (ad 1)), (1, .int (nI q)), (2, .ref (ad (ch + 10))), (3, .int (nI (ffb I S q)))] [] rfl ?_
          refine g_nm (lv' := [(4, .int (nI (i + 1))), (7, .long (oL (mw (ffb I S q) (rwd I (ffl I L S q ch (ffb I S q) i) S i 15)))), (5, .long (rwd I (ffl I L S q ch (ffb I S q) i) S i 15)), (0, .ref (ad 1)), (1, .int (nI q)), (2, .ref (ad (ch + 10))), (3, .int (nI (ffb I S q)))]) (st' := []) (by simp only [nI_add]) (by simp only [nI_add]) ?_
          refine g_lv (lv' := [(0, .ref (ad 1)), (1, .int (nI q)), (2, .ref (ad (ch + 10))), (3, .int (nI (ffb I S q))), (4, .int (nI (i + 1)))]) (lsub_c 3 rfl (lsub_c 4 rfl (lsub_c 5 rfl (lsub_c 6 rfl (lsub_c 0 rfl (lsub_n)))))) ?_
          refine g_cs (ws' := WC ad g I (ffl I L S q ch (ffb I S q) (i + 1)) S) (lv' := [(0, .ref (ad 1)), (1, .int (nI q)), (2, .ref (ad (ch + 10))), (3, .int (nI (ffb I S q))), (4, .int (nI (i + 1)))]) (by rw [ffl, hfw]) (rfl) ?_
          exact k26
  · rw [nI_ltI (by omega) (by omega)] at hc3; have hfb : ffb I S q = ers I S 15 ||| 2 ^ q := if_pos (by omega)
    refine g_run X KX4_fillFor_17_12 KX4_fillFor_17_12_d 23 [(3, .int ((nI (ers I S 15)) ||| ((nI 1) <<< ((nI q) &&& 31)))), (0, .ref (ad 1)), (1, .int (nI q)), (2, .ref (ad (ch + 10)))] [] rfl ?_
    refine g_nm (lv' := [(3, .int (nI ((ers I S 15) ||| (2 ^ q)))), (0, .ref (ad 1)), (1, .int (nI q)), (2, .ref (ad (ch + 10)))]) (st' := []) (by simp only [nx_or, sh1 (show q < 31 by omega)]) (by simp only [nx_or, sh1 (show q < 31 by omega)]) ?_
    refine g_nm (lv' := [(3, .int (nI (ffb I S q))), (0, .ref (ad 1)), (1, .int (nI q)), (2, .ref (ad (ch + 10)))]) (st' := []) (by rw [hfb]) rfl ?_
    have hfbl : ffb I S q < 2 ^ 15 := ffb_lt hq
    refine g_run X KX4_fillFor_23_3 KX4_fillFor_23_3_d 26 [(4, .int (nI 0)), (3, .int (nI (ffb I S q))), (0, .ref (ad 1)), (1, .int (nI q)), (2, .ref (ad (ch + 10)))] [] rfl ?_
    refine g_lv (lv' := [(0, .ref (ad 1)), (1, .int (nI q)), (2, .ref (ad (ch + 10))), (3, .int (nI (ffb I S q))), (4, .int (nI 0))]) (lsub_c 2 rfl (lsub_c 3 rfl (lsub_c 4 rfl (lsub_c 1 rfl (lsub_c 0 rfl (lsub_n)))))) ?_
    refine g_for 16 (fun i => WC ad g I (ffl I L S q ch (ffb I S q) i) S) (fun i => [(0, .ref (ad 1)), (1, .int (nI q)), (2, .ref (ad (ch + 10))), (3, .int (nI (ffb I S q))), (4, .int (nI i))]) (rfl) (rfl) ?_ ?_
    · refine g_run X KX4_fillFor_26_4 KX4_fillFor_26_4_d 30 [(0, .ref (ad 1)), (1, .int (nI q)), (2, .ref (ad (ch + 10))), (3, .int (nI (ffb I S q))), (4, .int (nI 16))] [.int (nI 16), .int (nI 16)] rfl ?_
      refine g_icmp_ge X 81 dX4_fillFor_30 (by decide) (fun hc13 => ?_) (fun hc13 => ?_)
      · exact g_vret X hr () rfl (trivial) ((List.append_nil _).symm) (Nat.le_of_ble_eq_true rfl) (Nat.le_of_ble_eq_true rfl) dX4_fillFor_81
      · rw [nI_leI (by omega) (by omega)] at hc13; first | omega | (simp at hc13)
    · intro i hi k26
      refine g_run X KX4_fillFor_26_4 KX4_fillFor_26_4_d 30 [(0, .ref (ad 1)), (1, .int (nI q)), (2, .ref (ad (ch + 10))), (3, .int (nI (ffb I S q))), (4, .int (nI i))] [.int (nI 16), .int (nI i)] rfl ?_
      refine g_icmp_ge X 81 dX4_fillFor_30 (by decide) (fun hc14 => ?_) (fun hc14 => ?_)
      · rw [nI_leI (by omega) (by omega)] at hc14; first | omega | (simp at hc14)
      · refine g_run X KX4_fillFor_33_5 KX4_fillFor_33_5_d 36 [(0, .ref (ad 1)), (1, .int (nI q)), (2, .ref (ad (ch + 10))), (3, .int (nI (ffb I S q))), (4, .int (nI i))] [.int (nI i), .ref (ad 1)] rfl ?_
        refine g_callV X hSB hAf (srcW) (hrc1 := (rfl : CL[3]? = some _)) (wc_mem (k := 1) (by decide)) rfl (As := [.int (nI i)]) (wr := WC ad g I (ffl I L S q ch (ffb I S q) i) S) (n := 1) (c_X4_readWord l D g ad I (ffl I L S q ch (ffb I S q) i) S i (hS18) (by omega)) rfl srcW hrdC w_244 w_241 w_242 w_243 w_2 (by decide +kernel) rfl ⟨Nat.le_of_ble_eq_true rfl, Nat.le_of_ble_eq_true rfl⟩ rfl rfl rfl (Nat.le_of_ble_eq_true rfl) ⟨Nat.le_of_ble_eq_true rfl, Nat.le_of_ble_eq_true rfl⟩ dX4_fillFor_36 (fun hu15 _ => ?_)
        refine g_af (ws' := WC ad g I (ffl I L S q ch (ffb I S q) i) S) (st' := [.long (rwd I (ffl I L S q ch (ffb I S q) i) S i 15)]) (cells' := 0) (slots' := 0) (pc' := 39) rfl rfl rfl rfl rfl ?_
        refine g_run X KX4_fillFor_39_6 KX4_fillFor_39_6_d 44 [(5, .long (rwd I (ffl I L S q ch (ffb I S q) i) S i 15)), (0, .ref (ad 1)), (1, .int (nI q)), (2, .ref (ad (ch + 10))), (3, .int (nI (ffb I S q))), (4, .int (nI i))] [.int (nI (ffb I S q)), .long (rwd I (ffl I L S q ch (ffb I S q) i) S i 15)] rfl ?_
        refine g_callS X hSB hAf (As := [.long (rwd I (ffl I L S q ch (ffb I S q) i) S i 15), .int (nI (ffb I S q))]) (wr := WC ad g I (ffl I L S q ch (ffb I S q) i) S) (n := 2) (c_X2_mendedWord l D g (rwd I (ffl I L S q ch (ffb I S q) i) S i 15) (ffb I S q) (hfbl)) rfl srcN hrdN w_256 w_254 w_255 w_22 (by decide +kernel) rfl ⟨Nat.le_of_ble_eq_true rfl, Nat.le_of_ble_eq_true rfl⟩ rfl rfl rfl (Nat.le_of_ble_eq_true rfl) ⟨Nat.le_of_ble_eq_true rfl, Nat.le_of_ble_eq_true rfl⟩ dX4_fillFor_44 (fun hu16 _ => ?_)
        refine g_af (ws' := WC ad g I (ffl I L S q ch (ffb I S q) i) S) (st' := [.long (oL (mw (ffb I S q) (rwd I (ffl I L S q ch (ffb I S q) i) S i 15)))]) (cells' := 0) (slots' := 0) (pc' := 47) rfl rfl rfl rfl rfl ?_
        refine g_run X KX4_fillFor_47_7 KX4_fillFor_47_7_d 54 [(7, .long (oL (mw (ffb I S q) (rwd I (ffl I L S q ch (ffb I S q) i) S i 15)))), (5, .long (rwd I (ffl I L S q ch (ffb I S q) i) S i 15)), (0, .ref (ad 1)), (1, .int (nI q)), (2, .ref (ad (ch + 10))), (3, .int (nI (ffb I S q))), (4, .int (nI i))] [.long (oL (mw (ffb I S q) (rwd I (ffl I L S q ch (ffb I S q) i) S i 15))), .int (nI i), .ref (ad (ch + 10))] rfl ?_
        refine g_ldc2 X (v := (-1 : Int64)) w_297 dX4_fillFor_54 ?_
        refine g_run X KX4_fillFor_57_8 KX4_fillFor_57_8_d 58 [(7, .long (oL (mw (ffb I S q) (rwd I (ffl I L S q ch (ffb I S q) i) S i 15)))), (5, .long (rwd I (ffl I L S q ch (ffb I S q) i) S i 15)), (0, .ref (ad 1)), (1, .int (nI q)), (2, .ref (ad (ch + 10))), (3, .int (nI (ffb I S q))), (4, .int (nI i))] [.int (lg_cmp (oL (mw (ffb I S q) (rwd I (ffl I L S q ch (ffb I S q) i) S i 15))) (-1 : Int64)), .int (nI i), .ref (ad (ch + 10))] rfl ?_
        refine g_if_ne X 66 dX4_fillFor_58 (by decide) (fun hc17 => ?_) (fun hc17 => ?_)
        · rw [lc0] at hc17; have hfw : ffw I (ffl I L S q ch (ffb I S q) i) S (ffb I S q) i = oL (mw (ffb I S q) (rwd I (ffl I L S q ch (ffb I S q) i) S i 15)) := if_neg hc17
          refine g_run X KX4_fillFor_66_9 KX4_fillFor_66_9_d 69 [(7, .long (oL (mw (ffb I S q) (rwd I (ffl I L S q ch (ffb I S q) i) S i 15)))), (5, .long (rwd I (ffl I L S q ch (ffb I S q) i) S i 15)), (0, .ref (ad 1)), (1, .int (nI q)), (2, .ref (ad (ch + 10))), (3, .int (nI (ffb I S q))), (4, .int (nI i))] [.int (nI q), .long (oL (mw (ffb I S q) (rwd I (ffl I L S q ch (ffb I S q) i) S i 15))), .int (nI i), .ref (ad (ch + 10))] rfl ?_
          refine g_callSN X hSB hAf (host := "Chipfield") (As := [.long (oL (mw (ffb I S q) (rwd I (ffl I L S q ch (ffb I S q) i) S i 15))), .int (nI q)]) (wr := WC ad g I (ffl I L S q ch (ffb I S q) i) S) (n := 2) (c_X5_numberAt l D g (oL (mw (ffb I S q) (rwd I (ffl I L S q ch (ffb I S q) i) S i 15))) q (by omega)) rfl srcN hrdN w_215 (nw_in n_213 rfl) w_214 w_1 (by decide +kernel) rfl ⟨Nat.le_of_ble_eq_true rfl, Nat.le_of_ble_eq_true rfl⟩ rfl rfl rfl (Nat.le_of_ble_eq_true rfl) ⟨Nat.le_of_ble_eq_true rfl, Nat.le_of_ble_eq_true rfl⟩ dX4_fillFor_69 (fun hu18 _ => ?_)
          refine g_af (ws' := WC ad g I (ffl I L S q ch (ffb I S q) i) S) (st' := [.int (nI (nib (oL (mw (ffb I S q) (rwd I (ffl I L S q ch (ffb I S q) i) S i 15))) q)), .int (nI i), .ref (ad (ch + 10))]) (cells' := 0) (slots' := 0) (pc' := 72) rfl rfl rfl rfl rfl ?_
          refine g_callV X hSB hAf (srcW) (hrc1 := (rfl : CL[1]? = some _)) (wc_chip (by omega)) rfl (As := [.int (nI i), .int (nI (nib (oL (mw (ffb I S q) (rwd I (ffl I L S q ch (ffb I S q) i) S i 15))) q))]) (wr := []) (n := 2) (c_X1_putAt l D g ad I (ffl I L S q ch (ffb I S q) i) S ch i (nib (oL (mw (ffb I S q) (rwd I (ffl I L S q ch (ffb I S q) i) S i 15))) q) (by omega) (by omega)) (List.append_nil _).symm srcN hrdN w_219 w_216 w_217 w_218 w_3 (by decide +kernel) rfl ⟨Nat.le_of_ble_eq_true rfl, Nat.le_of_ble_eq_true rfl⟩ rfl rfl rfl (Nat.le_of_ble_eq_true rfl) ⟨Nat.le_of_ble_eq_true rfl, Nat.le_of_ble_eq_true rfl⟩ dX4_fillFor_72 (fun hu19 _ => ?_)
          refine g_af (ws' := WC ad g I (u2 (ffl I L S q ch (ffb I S q) i) 0 ch (wn ((ffl I L S q ch (ffb I S q) i) 0 ch) i (nib (oL (mw (ffb I S q) (rwd I (ffl I L S q ch (ffb I S q) i) S i 15))) q))) S) (st' := []) (cells' := 0) (slots' := 0) (pc' := 75) (List.append_nil _).symm rfl rfl rfl rfl ?_
          refine g_run X KX4_fillFor_75_10 KX4_fillFor_75_10_d 26 [(4, .int ((nI i) + (nI 1))), (7, .long (oL (mw (ffb I S q) (rwd I (ffl I L S q ch (ffb I S q) i) S i 15)))), (5, .long (rwd I (ffl I L S q ch (ffb I S q) i) S i 15)), (0, .ref (ad 1)), (1, .int (nI q)), (2, .ref (ad (ch + 10))), (3, .int (nI (ffb I S q)))] [] rfl ?_
          refine g_nm (lv' := [(4, .int (nI (i + 1))), (7, .long (oL (mw (ffb I S q) (rwd I (ffl I L S q ch (ffb I S q) i) S i 15)))), (5, .long (rwd I (ffl I L S q ch (ffb I S q) i) S i 15)), (0, .ref (ad 1)), (1, .int (nI q)), (2, .ref (ad (ch + 10))), (3, .int (nI (ffb I S q)))]) (st' := []) (by simp only [nI_add]) (by simp only [nI_add]) ?_
          refine g_lv (lv' := [(0, .ref (ad 1)), (1, .int (nI q)), (2, .ref (ad (ch + 10))), (3, .int (nI (ffb I S q))), (4, .int (nI (i + 1)))]) (lsub_c 3 rfl (lsub_c 4 rfl (lsub_c 5 rfl (lsub_c 6 rfl (lsub_c 0 rfl (lsub_n)))))) ?_
          refine g_cs (ws' := WC ad g I (ffl I L S q ch (ffb I S q) (i + 1)) S) (lv' := [(0, .ref (ad 1)), (1, .int (nI q)), (2, .ref (ad (ch + 10))), (3, .int (nI (ffb I S q))), (4, .int (nI (i + 1)))]) (by rw [ffl, hfw]) (rfl) ?_
          exact k26
        · rw [lc0] at hc17; have hfw : ffw I (ffl I L S q ch (ffb I S q) i) S (ffb I S q) i = rwd I (ffl I L S q ch (ffb I S q) i) S i 15 := if_pos hc17
          refine g_run X KX4_fillFor_61_11 KX4_fillFor_61_11_d 69 [(7, .long (oL (mw (ffb I S q) (rwd I (ffl I L S q ch (ffb I S q) i) S i 15)))), (5, .long (rwd I (ffl I L S q ch (ffb I S q) i) S i 15)), (0, .ref (ad 1)), (1, .int (nI q)), (2, .ref (ad (ch + 10))), (3, .int (nI (ffb I S q))), (4, .int (nI i))] [.int (nI q), .long (rwd I (ffl I L S q ch (ffb I S q) i) S i 15), .int (nI i), .ref (ad (ch + 10))] rfl ?_
          refine g_callSN X hSB hAf (host := "Chipfield") (As := [.long (rwd I (ffl I L S q ch (ffb I S q) i) S i 15), .int (nI q)]) (wr := WC ad g I (ffl I L S q ch (ffb I S q) i) S) (n := 2) (c_X5_numberAt l D g (rwd I (ffl I L S q ch (ffb I S q) i) S i 15) q (by omega)) rfl srcN hrdN w_215 (nw_in n_213 rfl) w_214 w_1 (by decide +kernel) rfl ⟨Nat.le_of_ble_eq_true rfl, Nat.le_of_ble_eq_true rfl⟩ rfl rfl rfl (Nat.le_of_ble_eq_true rfl) ⟨Nat.le_of_ble_eq_true rfl, Nat.le_of_ble_eq_true rfl⟩ dX4_fillFor_69 (fun hu20 _ => ?_)
          refine g_af (ws' := WC ad g I (ffl I L S q ch (ffb I S q) i) S) (st' := [.int (nI (nib (rwd I (ffl I L S q ch (ffb I S q) i) S i 15) q)), .int (nI i), .ref (ad (ch + 10))]) (cells' := 0) (slots' := 0) (pc' := 72) rfl rfl rfl rfl rfl ?_
          refine g_callV X hSB hAf (srcW) (hrc1 := (rfl : CL[1]? = some _)) (wc_chip (by omega)) rfl (As := [.int (nI i), .int (nI (nib (rwd I (ffl I L S q ch (ffb I S q) i) S i 15) q))]) (wr := []) (n := 2) (c_X1_putAt l D g ad I (ffl I L S q ch (ffb I S q) i) S ch i (nib (rwd I (ffl I L S q ch (ffb I S q) i) S i 15) q) (by omega) (by omega)) (List.append_nil _).symm srcN hrdN w_219 w_216 w_217 w_218 w_3 (by decide +kernel) rfl ⟨Nat.le_of_ble_eq_true rfl, Nat.le_of_ble_eq_true rfl⟩ rfl rfl rfl (Nat.le_of_ble_eq_true rfl) ⟨Nat.le_of_ble_eq_true rfl, Nat.le_of_ble_eq_true rfl⟩ dX4_fillFor_72 (fun hu21 _ => ?_)
          refine g_af (ws' := WC ad g I (u2 (ffl I L S q ch (ffb I S q) i) 0 ch (wn ((ffl I L S q ch (ffb I S q) i) 0 ch) i (nib (rwd I (ffl I L S q ch (ffb I S q) i) S i 15) q))) S) (st' := []) (cells' := 0) (slots' := 0) (pc' := 75) (List.append_nil _).symm rfl rfl rfl rfl ?_
          refine g_run X KX4_fillFor_75_10 KX4_fillFor_75_10_d 26 [(4, .int ((nI i) + (nI 1))), (7, .long (oL (mw (ffb I S q) (rwd I (ffl I L S q ch (ffb I S q) i) S i 15)))), (5, .long (rwd I (ffl I L S q ch (ffb I S q) i) S i 15)), (0, .ref (ad 1)), (1, .int (nI q)), (2, .ref (ad (ch + 10))), (3, .int (nI (ffb I S q)))] [] rfl ?_
          refine g_nm (lv' := [(4, .int (nI (i + 1))), (7, .long (oL (mw (ffb I S q) (rwd I (ffl I L S q ch (ffb I S q) i) S i 15)))), (5, .long (rwd I (ffl I L S q ch (ffb I S q) i) S i 15)), (0, .ref (ad 1)), (1, .int (nI q)), (2, .ref (ad (ch + 10))), (3, .int (nI (ffb I S q)))]) (st' := []) (by simp only [nI_add]) (by simp only [nI_add]) ?_
          refine g_lv (lv' := [(0, .ref (ad 1)), (1, .int (nI q)), (2, .ref (ad (ch + 10))), (3, .int (nI (ffb I S q))), (4, .int (nI (i + 1)))]) (lsub_c 3 rfl (lsub_c 4 rfl (lsub_c 5 rfl (lsub_c 6 rfl (lsub_c 0 rfl (lsub_n)))))) ?_
          refine g_cs (ws' := WC ad g I (ffl I L S q ch (ffb I S q) (i + 1)) S) (lv' := [(0, .ref (ad 1)), (1, .int (nI q)), (2, .ref (ad (ch + 10))), (3, .int (nI (ffb I S q))), (4, .int (nI (i + 1)))]) (by rw [ffl, hfw]) (rfl) ?_
          exact k26

