def KX1_storedAt_0_0 : List (Nat × Instr × Nat) := [(0, .aload_n 0, 1)]
theorem KX1_storedAt_0_0_d : ∀ z ∈ KX1_storedAt_0_0, decode cX1_storedAt z.1 = .ok z.2 := by decide +kernel
def KX1_storedAt_4_1 : List (Nat × Instr × Nat) := [(4, .iload_n 1, 1)]
theorem KX1_storedAt_4_1_d : ∀ z ∈ KX1_storedAt_4_1, decode cX1_storedAt z.1 = .ok z.2 := by decide +kernel
set_option maxHeartbeats 4000000 in
set_option maxRecDepth 100000 in
theorem c_X1_storedAt (l : Launch) (D : va_G) (g : Nat → ClassId) (ad : Nat → Nat) (I : Nat → Nat → Int32) (L : Nat → Nat → Int64) (S : Nat → Nat) (ch : Nat) (q : Nat) (hch : ch < 18) (hq : q < 16) : CT l yX1_storedAt cX1_storedAt 2 ((Option.some FieldType.int)) ({ frames := 1, cells := 0, slots := 0, locals := 22 } : Room) [.ref (ad (ch + 10)), .int (nI q)] D CL (TYS g) (WC ad g I L S) ([]) (S := Unit) (fun _ => some (.int (nI (nib (L 0 ch) q)))) (fun _ => []) (fun _ => True) 0 0 := by
  refine ct_of (by decide +kernel) (Nat.le_of_ble_eq_true rfl) ?_
  intro p e s m below meth c A X hr hnm hSB hRO hAf
  refine g_cs (ws' := []) (lv' := [(0, .ref (ad (ch + 10))), (1, .int (nI q))]) rfl rfl ?_
  refine g_run X KX1_storedAt_0_0 KX1_storedAt_0_0_d 1 [(0, .ref (ad (ch + 10))), (1, .int (nI q))] [.ref (ad (ch + 10))] rfl ?_
  refine g_get X (srcR hRO) (v := .long (L 0 ch)) hinX1 rfl 6 (by decide) w_71 rfl (wc_chip (by omega)) rfl dX1_storedAt_1 ?_
  refine g_run X KX1_storedAt_4_1 KX1_storedAt_4_1_d 5 [(0, .ref (ad (ch + 10))), (1, .int (nI q))] [.int (nI q), .long (L 0 ch)] rfl ?_
  refine g_callSN X hSB hAf (host := "Chipfield") (As := [.long (L 0 ch), .int (nI q)]) (wr := []) (n := 2) (c_X5_numberAt l D g (L 0 ch) q (by omega)) rfl srcN hrdN w_215 (nw_in n_252 rfl) w_214 w_1 (by decide +kernel) rfl ⟨Nat.le_of_ble_eq_true rfl, Nat.le_of_ble_eq_true rfl⟩ rfl rfl rfl (Nat.le_of_ble_eq_true rfl) ⟨Nat.le_of_ble_eq_true rfl, Nat.le_of_ble_eq_true rfl⟩ dX1_storedAt_5 (fun hu1 _ => ?_)
  refine g_af (ws' := []) (st' := [.int (nI (nib (L 0 ch) q))]) (cells' := 0) (slots' := 0) (pc' := 8) rfl rfl rfl rfl rfl ?_
  exact g_iret X hr () (rfl) (trivial) ((List.append_nil _).symm) (Nat.le_of_ble_eq_true rfl) (Nat.le_of_ble_eq_true rfl) dX1_storedAt_8

def KX1_putAt_0_0 : List (Nat × Instr × Nat) := [(0, .aload_n 0, 1), (1, .aload_n 0, 1)]
theorem KX1_putAt_0_0_d : ∀ z ∈ KX1_putAt_0_0, decode cX1_putAt z.1 = .ok z.2 := by decide +kernel
def KX1_putAt_5_1 : List (Nat × Instr × Nat) := [(5, .iload_n 1, 1), (6, .iload_n 2, 1)]
theorem KX1_putAt_5_1_d : ∀ z ∈ KX1_putAt_5_1, decode cX1_putAt z.1 = .ok z.2 := by decide +kernel
set_option maxHeartbeats 4000000 in
set_option maxRecDepth 100000 in
theorem c_X1_putAt (l : Launch) (D : va_G) (g : Nat → ClassId) (ad : Nat → Nat) (I : Nat → Nat → Int32) (L : Nat → Nat → Int64) (S : Nat → Nat) (ch : Nat) (q : Nat) (v : Nat) (hch : ch < 18) (hq : q < 16) : CT l yX1_putAt cX1_putAt 3 ((Option.none : Option Jvm.ClassFile.FieldType)) ({ frames := 1, cells := 0, slots := 0, locals := 24 } : Room) [.ref (ad (ch + 10)), .int (nI q), .int (nI v)] D CL (TYS g) ([]) (WC ad g I L S) (S := Unit) (fun _ => none) (fun _ => WC ad g I (u2 L 0 ch (wn (L 0 ch) q v)) S) (fun _ => True) 0 0 := by
  refine ct_of (by decide +kernel) (Nat.le_of_ble_eq_true rfl) ?_
  intro p e s m below meth c A X hr hnm hSB hRO hAf
  refine g_cs (ws' := WC ad g I L S) (lv' := [(0, .ref (ad (ch + 10))), (1, .int (nI q)), (2, .int (nI v))]) rfl rfl ?_
  refine g_run X KX1_putAt_0_0 KX1_putAt_0_0_d 2 [(0, .ref (ad (ch + 10))), (1, .int (nI q)), (2, .int (nI v))] [.ref (ad (ch + 10)), .ref (ad (ch + 10))] rfl ?_
  refine g_get X srcW (v := .long (L 0 ch)) hinX1 rfl 6 (by decide) w_71 rfl (wc_chip (by omega)) rfl dX1_putAt_2 ?_
  refine g_run X KX1_putAt_5_1 KX1_putAt_5_1_d 7 [(0, .ref (ad (ch + 10))), (1, .int (nI q)), (2, .int (nI v))] [.int (nI v), .int (nI q), .long (L 0 ch), .ref (ad (ch + 10))] rfl ?_
  refine g_callSN X hSB hAf (host := "Chipfield") (As := [.long (L 0 ch), .int (nI q), .int (nI v)]) (wr := WC ad g I L S) (n := 3) (c_X5_withNumber l D g (L 0 ch) q v (by omega)) rfl srcN hrdN w_222 (nw_in n_220 rfl) w_221 w_1 (by decide +kernel) rfl ⟨Nat.le_of_ble_eq_true rfl, Nat.le_of_ble_eq_true rfl⟩ rfl rfl rfl (Nat.le_of_ble_eq_true rfl) ⟨Nat.le_of_ble_eq_true rfl, Nat.le_of_ble_eq_true rfl⟩ dX1_putAt_7 (fun hu1 _ => ?_)
  refine g_af (ws' := WC ad g I L S) (st' := [.long (wn (L 0 ch) q v), .ref (ad (ch + 10))]) (cells' := 0) (slots' := 0) (pc' := 10) rfl rfl rfl rfl rfl ?_
  refine g_put X (ws' := WC ad g I (u2 L 0 ch (wn (L 0 ch) q v)) S) hinX1 tyX1 tyX1_ok nmX1 rfl 6 (by decide) w_71 rfl rfl (ty := .long) rfl rfl rfl (ch + 10) (wc_get (k := ch + 10) (Nat.add_lt_add_right (by omega) 10)) (Nat.le_of_ble_eq_true rfl) (ws_ch6) dX1_putAt_10 ?_
  exact g_vret X hr () rfl (trivial) ((List.append_nil _).symm) (Nat.le_of_ble_eq_true rfl) (Nat.le_of_ble_eq_true rfl) dX1_putAt_13

def KX1_readAt_0_0 : List (Nat × Instr × Nat) := [(0, .aload_n 0, 1)]
theorem KX1_readAt_0_0_d : ∀ z ∈ KX1_readAt_0_0, decode cX1_readAt z.1 = .ok z.2 := by decide +kernel
def KX1_readAt_4_1 : List (Nat × Instr × Nat) := [(4, .iconst (-1), 1)]
theorem KX1_readAt_4_1_d : ∀ z ∈ KX1_readAt_4_1, decode cX1_readAt z.1 = .ok z.2 := by decide +kernel
def KX1_readAt_17_2 : List (Nat × Instr × Nat) := [(17, .aload_n 0, 1)]
theorem KX1_readAt_17_2_d : ∀ z ∈ KX1_readAt_17_2, decode cX1_readAt z.1 = .ok z.2 := by decide +kernel
def KX1_readAt_21_3 : List (Nat × Instr × Nat) := [(21, .iload_n 1, 1)]
theorem KX1_readAt_21_3_d : ∀ z ∈ KX1_readAt_21_3, decode cX1_readAt z.1 = .ok z.2 := by decide +kernel
def KX1_readAt_25_4 : List (Nat × Instr × Nat) := [(25, .istore_n 2, 1), (26, .aload_n 0, 1)]
theorem KX1_readAt_25_4_d : ∀ z ∈ KX1_readAt_25_4, decode cX1_readAt z.1 = .ok z.2 := by decide +kernel
def KX1_readAt_30_5 : List (Nat × Instr × Nat) := [(30, .iload_n 1, 1)]
theorem KX1_readAt_30_5_d : ∀ z ∈ KX1_readAt_30_5, decode cX1_readAt z.1 = .ok z.2 := by decide +kernel
def KX1_readAt_34_6 : List (Nat × Instr × Nat) := [(34, .iload_n 2, 1), (35, .iconst (-1), 1), (36, .ixor, 1), (37, .iand, 1), (38, .aload_n 0, 1)]
theorem KX1_readAt_34_6_d : ∀ z ∈ KX1_readAt_34_6, decode cX1_readAt z.1 = .ok z.2 := by decide +kernel
def KX1_readAt_42_7 : List (Nat × Instr × Nat) := [(42, .iload_n 1, 1)]
theorem KX1_readAt_42_7_d : ∀ z ∈ KX1_readAt_42_7, decode cX1_readAt z.1 = .ok z.2 := by decide +kernel
def KX1_readAt_46_8 : List (Nat × Instr × Nat) := [(46, .iload_n 2, 1), (47, .iand, 1), (48, .ior, 1)]
theorem KX1_readAt_46_8_d : ∀ z ∈ KX1_readAt_46_8, decode cX1_readAt z.1 = .ok z.2 := by decide +kernel
def KX1_readAt_8_9 : List (Nat × Instr × Nat) := [(8, .aload_n 0, 1)]
theorem KX1_readAt_8_9_d : ∀ z ∈ KX1_readAt_8_9, decode cX1_readAt z.1 = .ok z.2 := by decide +kernel
def KX1_readAt_12_10 : List (Nat × Instr × Nat) := [(12, .iload_n 1, 1)]
theorem KX1_readAt_12_10_d : ∀ z ∈ KX1_readAt_12_10, decode cX1_readAt z.1 = .ok z.2 := by decide +kernel
set_option maxHeartbeats 4000000 in
set_option maxRecDepth 100000 in
theorem c_X1_readAt (l : Launch) (D : va_G) (g : Nat → ClassId) (ad : Nat → Nat) (I : Nat → Nat → Int32) (L : Nat → Nat → Int64) (S : Nat → Nat) (ch : Nat) (q : Nat) (hch : ch < 18) (hq : q < 16) : CT l yX1_readAt cX1_readAt 3 ((Option.some FieldType.int)) ({ frames := 1, cells := 0, slots := 0, locals := 22 } : Room) [.ref (ad (ch + 10)), .int (nI q)] D CL (TYS g) (WC ad g I L S) ([]) (S := Unit) (fun _ => some (.int (nI (rd I L ch q)))) (fun _ => []) (fun _ => True) 0 0 := by
  refine ct_of (by decide +kernel) (Nat.le_of_ble_eq_true rfl) ?_
  intro p e s m below meth c A X hr hnm hSB hRO hAf
  refine g_cs (ws' := []) (lv' := [(0, .ref (ad (ch + 10))), (1, .int (nI q))]) rfl rfl ?_
  refine g_run X KX1_readAt_0_0 KX1_readAt_0_0_d 1 [(0, .ref (ad (ch + 10))), (1, .int (nI q))] [.ref (ad (ch + 10))] rfl ?_
  refine g_get X (srcR hRO) (v := .int (I 1 ch)) hinX1 rfl 2 (by decide) w_60 rfl (wc_chip (by omega)) rfl dX1_readAt_1 ?_
  refine g_run X KX1_readAt_4_1 KX1_readAt_4_1_d 5 [(0, .ref (ad (ch + 10))), (1, .int (nI q))] [.int (-nI 1), .int (I 1 ch)] rfl ?_
  refine g_icmp_eq X 17 dX1_readAt_5 (by decide) (fun hc1 => ?_) (fun hc1 => ?_)
  · refine g_run X KX1_readAt_17_2 KX1_readAt_17_2_d 18 [(0, .ref (ad (ch + 10))), (1, .int (nI q))] [.ref (ad (ch + 10))] rfl ?_
    refine g_get X (srcR hRO) (v := .long (L 1 ch)) hinX1 rfl 7 (by decide) w_72 rfl (wc_chip (by omega)) rfl dX1_readAt_18 ?_
    refine g_run X KX1_readAt_21_3 KX1_readAt_21_3_d 22 [(0, .ref (ad (ch + 10))), (1, .int (nI q))] [.int (nI q), .long (L 1 ch)] rfl ?_
    refine g_callSN X hSB hAf (host := "Chipfield") (As := [.long (L 1 ch), .int (nI q)]) (wr := []) (n := 2) (c_X5_numberAt l D g (L 1 ch) q (by omega)) rfl srcN hrdN w_215 (nw_in n_252 rfl) w_214 w_1 (by decide +kernel) rfl ⟨Nat.le_of_ble_eq_true rfl, Nat.le_of_ble_eq_true rfl⟩ rfl rfl rfl (Nat.le_of_ble_eq_true rfl) ⟨Nat.le_of_ble_eq_true rfl, Nat.le_of_ble_eq_true rfl⟩ dX1_readAt_22 (fun hu2 _ => ?_)
    refine g_af (ws' := []) (st' := [.int (nI (nib (L 1 ch) q))]) (cells' := 0) (slots' := 0) (pc' := 25) rfl rfl rfl rfl rfl ?_
    refine g_run X KX1_readAt_25_4 KX1_readAt_25_4_d 27 [(2, .int (nI (nib (L 1 ch) q))), (0, .ref (ad (ch + 10))), (1, .int (nI q))] [.ref (ad (ch + 10))] rfl ?_
    refine g_get X (srcR hRO) (v := .long (L 0 ch)) hinX1 rfl 6 (by decide) w_71 rfl (wc_chip (by omega)) rfl dX1_readAt_27 ?_
    refine g_run X KX1_readAt_30_5 KX1_readAt_30_5_d 31 [(2, .int (nI (nib (L 1 ch) q))), (0, .ref (ad (ch + 10))), (1, .int (nI q))] [.int (nI q), .long (L 0 ch)] rfl ?_
    refine g_callSN X hSB hAf (host := "Chipfield") (As := [.long (L 0 ch), .int (nI q)]) (wr := []) (n := 2) (c_X5_numberAt l D g (L 0 ch) q (by omega)) rfl srcN hrdN w_215 (nw_in n_252 rfl) w_214 w_1 (by decide +kernel) rfl ⟨Nat.le_of_ble_eq_true rfl, Nat.le_of_ble_eq_true rfl⟩ rfl rfl rfl (Nat.le_of_ble_eq_true rfl) ⟨Nat.le_of_ble_eq_true rfl, Nat.le_of_ble_eq_true rfl⟩ dX1_readAt_31 (fun hu3 _ => ?_)
    refine g_af (ws' := []) (st' := [.int (nI (nib (L 0 ch) q))]) (cells' := 0) (slots' := 0) (pc' := 34) rfl rfl rfl rfl rfl ?_
    refine g_run X KX1_readAt_34_6 KX1_readAt_34_6_d 39 [(2, .int (nI (nib (L 1 ch) q))), (0, .ref (ad (ch + 10))), (1, .int (nI q))] [.ref (ad (ch + 10)), .int ((nI (nib (L 0 ch) q)) &&& ((nI (nib (L 1 ch) q)) ^^^ (-nI 1)))] rfl ?_
    refine g_get X (srcR hRO) (v := .long (L 2 ch)) hinX1 rfl 8 (by decide) w_73 rfl (wc_chip (by omega)) rfl dX1_readAt_39 ?_
    refine g_run X KX1_readAt_42_7 KX1_readAt_42_7_d 43 [(2, .int (nI (nib (L 1 ch) q))), (0, .ref (ad (ch + 10))), (1, .int (nI q))] [.int (nI q), .long (L 2 ch), .int ((nI (nib (L 0 ch) q)) &&& ((nI (nib (L 1 ch) q)) ^^^ (-nI 1)))] rfl ?_
    refine g_callSN X hSB hAf (host := "Chipfield") (As := [.long (L 2 ch), .int (nI q)]) (wr := []) (n := 2) (c_X5_numberAt l D g (L 2 ch) q (by omega)) rfl srcN hrdN w_215 (nw_in n_252 rfl) w_214 w_1 (by decide +kernel) rfl ⟨Nat.le_of_ble_eq_true rfl, Nat.le_of_ble_eq_true rfl⟩ rfl rfl rfl (Nat.le_of_ble_eq_true rfl) ⟨Nat.le_of_ble_eq_true rfl, Nat.le_of_ble_eq_true rfl⟩ dX1_readAt_43 (fun hu4 _ => ?_)
    refine g_af (ws' := []) (st' := [.int (nI (nib (L 2 ch) q)), .int ((nI (nib (L 0 ch) q)) &&& ((nI (nib (L 1 ch) q)) ^^^ (-nI 1)))]) (cells' := 0) (slots' := 0) (pc' := 46) rfl rfl rfl rfl rfl ?_
    refine g_run X KX1_readAt_46_8 KX1_readAt_46_8_d 49 [(2, .int (nI (nib (L 1 ch) q))), (0, .ref (ad (ch + 10))), (1, .int (nI q))] [.int (((nI (nib (L 0 ch) q)) &&& ((nI (nib (L 1 ch) q)) ^^^ (-nI 1))) ||| ((nI (nib (L 2 ch) q)) &&& (nI (nib (L 1 ch) q))))] rfl ?_
    exact g_iret X hr () (by show some (Value.int _) = some (Value.int _); first | (rw [rd, if_neg (by assumption), ← rd_mad]) | (rw [rd, if_pos (by assumption), rd_not (nib_lt _ _) (nib_lt _ _), nx_and, nx_or])) (trivial) ((List.append_nil _).symm) (Nat.le_of_ble_eq_true rfl) (Nat.le_of_ble_eq_true rfl) dX1_readAt_49
  · refine g_run X KX1_readAt_8_9 KX1_readAt_8_9_d 9 [(0, .ref (ad (ch + 10))), (1, .int (nI q))] [.ref (ad (ch + 10))] rfl ?_
    refine g_get X (srcR hRO) (v := .int (I 1 ch)) hinX1 rfl 2 (by decide) w_60 rfl (wc_chip (by omega)) rfl dX1_readAt_9 ?_
    refine g_run X KX1_readAt_12_10 KX1_readAt_12_10_d 13 [(0, .ref (ad (ch + 10))), (1, .int (nI q))] [.int (nI q), .int (I 1 ch)] rfl ?_
    refine g_callS X hSB hAf (As := [.int (I 1 ch), .int (nI q)]) (wr := []) (n := 2) (c_X1_madSymbol l D g (I 1 ch) q ) rfl srcN hrdN w_251 w_249 w_250 w_3 (by decide +kernel) rfl ⟨Nat.le_of_ble_eq_true rfl, Nat.le_of_ble_eq_true rfl⟩ rfl rfl rfl (Nat.le_of_ble_eq_true rfl) ⟨Nat.le_of_ble_eq_true rfl, Nat.le_of_ble_eq_true rfl⟩ dX1_readAt_13 (fun hu5 _ => ?_)
    refine g_af (ws' := []) (st' := [.int (((I 1 ch) + nI q) &&& nI 15)]) (cells' := 0) (slots' := 0) (pc' := 16) rfl rfl rfl rfl rfl ?_
    exact g_iret X hr () (by show some (Value.int _) = some (Value.int _); first | (rw [rd, if_neg (by assumption), ← rd_mad]) | (rw [rd, if_pos (by assumption), rd_not (nib_lt _ _) (nib_lt _ _), nx_and, nx_or])) (trivial) ((List.append_nil _).symm) (Nat.le_of_ble_eq_true rfl) (Nat.le_of_ble_eq_true rfl) dX1_readAt_16

def KX1_stickCell_0_0 : List (Nat × Instr × Nat) := [(0, .aload_n 0, 1), (1, .aload_n 0, 1)]
theorem KX1_stickCell_0_0_d : ∀ z ∈ KX1_stickCell_0_0, decode cX1_stickCell z.1 = .ok z.2 := by decide +kernel
def KX1_stickCell_5_1 : List (Nat × Instr × Nat) := [(5, .iload_n 1, 1), (6, .iload_n 2, 1)]
theorem KX1_stickCell_5_1_d : ∀ z ∈ KX1_stickCell_5_1, decode cX1_stickCell z.1 = .ok z.2 := by decide +kernel
def KX1_stickCell_13_2 : List (Nat × Instr × Nat) := [(13, .aload_n 0, 1), (14, .aload_n 0, 1)]
theorem KX1_stickCell_13_2_d : ∀ z ∈ KX1_stickCell_13_2, decode cX1_stickCell z.1 = .ok z.2 := by decide +kernel
def KX1_stickCell_18_3 : List (Nat × Instr × Nat) := [(18, .iload_n 1, 1), (19, .iload_n 3, 1)]
theorem KX1_stickCell_18_3_d : ∀ z ∈ KX1_stickCell_18_3, decode cX1_stickCell z.1 = .ok z.2 := by decide +kernel
set_option maxHeartbeats 4000000 in
set_option maxRecDepth 100000 in
theorem c_X1_stickCell (l : Launch) (D : va_G) (g : Nat → ClassId) (ad : Nat → Nat) (I : Nat → Nat → Int32) (L : Nat → Nat → Int64) (S : Nat → Nat) (ch : Nat) (q : Nat) (v : Nat) (z : Nat) (hch : ch < 18) (hq : q < 16) : CT l yX1_stickCell cX1_stickCell 4 ((Option.none : Option Jvm.ClassFile.FieldType)) ({ frames := 1, cells := 0, slots := 0, locals := 24 } : Room) [.ref (ad (ch + 10)), .int (nI q), .int (nI v), .int (nI z)] D CL (TYS g) ([]) (WC ad g I L S) (S := Unit) (fun _ => none) (fun _ => WC ad g I (u2 (u2 L 1 ch (wn (L 1 ch) q v)) 2 ch (wn (L 2 ch) q z)) S) (fun _ => True) 0 0 := by
  refine ct_of (by decide +kernel) (Nat.le_of_ble_eq_true rfl) ?_
  intro p e s m below meth c A X hr hnm hSB hRO hAf
  refine g_cs (ws' := WC ad g I L S) (lv' := [(0, .ref (ad (ch + 10))), (1, .int (nI q)), (2, .int (nI v)), (3, .int (nI z))]) rfl rfl ?_
  refine g_run X KX1_stickCell_0_0 KX1_stickCell_0_0_d 2 [(0, .ref (ad (ch + 10))), (1, .int (nI q)), (2, .int (nI v)), (3, .int (nI z))] [.ref (ad (ch + 10)), .ref (ad (ch + 10))] rfl ?_
  refine g_get X srcW (v := .long (L 1 ch)) hinX1 rfl 7 (by decide) w_72 rfl (wc_chip (by omega)) rfl dX1_stickCell_2 ?_
  refine g_run X KX1_stickCell_5_1 KX1_stickCell_5_1_d 7 [(0, .ref (ad (ch + 10))), (1, .int (nI q)), (2, .int (nI v)), (3, .int (nI z))] [.int (nI v), .int (nI q), .long (L 1 ch), .ref (ad (ch + 10))] rfl ?_
  refine g_callSN X hSB hAf (host := "Chipfield") (As := [.long (L 1 ch), .int (nI q), .int (nI v)]) (wr := WC ad g I L S) (n := 3) (c_X5_withNumber l D g (L 1 ch) q v (by omega)) rfl srcN hrdN w_222 (nw_in n_220 rfl) w_221 w_1 (by decide +kernel) rfl ⟨Nat.le_of_ble_eq_true rfl, Nat.le_of_ble_eq_true rfl⟩ rfl rfl rfl (Nat.le_of_ble_eq_true rfl) ⟨Nat.le_of_ble_eq_true rfl, Nat.le_of_ble_eq_true rfl⟩ dX1_stickCell_7 (fun hu1 _ => ?_)
  refine g_af (ws' := WC ad g I L S) (st' := [.long (wn (L 1 ch) q v), .ref (ad (ch + 10))]) (cells' := 0) (slots' := 0) (pc' := 10) rfl rfl rfl rfl rfl ?_
  refine g_put X (ws' := WC ad g I (u2 L 1 ch (wn (L 1 ch) q v)) S) hinX1 tyX1 tyX1_ok nmX1 rfl 7 (by decide) w_72 rfl rfl (ty := .long) rfl rfl rfl (ch + 10) (wc_get (k := ch + 10) (Nat.add_lt_add_right (by omega) 10)) (Nat.le_of_ble_eq_true rfl) (ws_ch7) dX1_stickCell_10 ?_
  refine g_run X KX1_stickCell_13_2 KX1_stickCell_13_2_d 15 [(0, .ref (ad (ch + 10))), (1, .int (nI q)), (2, .int (nI v)), (3, .int (nI z))] [.ref (ad (ch + 10)), .ref (ad (ch + 10))] rfl ?_
  refine g_get X srcW (v := .long (L 2 ch)) hinX1 rfl 8 (by decide) w_73 rfl (wc_chip (by omega)) rfl dX1_stickCell_15 ?_
  refine g_run X KX1_stickCell_18_3 KX1_stickCell_18_3_d 20 [(0, .ref (ad (ch + 10))), (1, .int (nI q)), (2, .int (nI v)), (3, .int (nI z))] [.int (nI z), .int (nI q), .long (L 2 ch), .ref (ad (ch + 10))] rfl ?_
  refine g_callSN X hSB hAf (host := "Chipfield") (As := [.long (L 2 ch), .int (nI q), .int (nI z)]) (wr := WC ad g I (u2 L 1 ch (wn (L 1 ch) q v)) S) (n := 3) (c_X5_withNumber l D g (L 2 ch) q z (by omega)) rfl srcN hrdN w_222 (nw_in n_220 rfl) w_221 w_1 (by decide +kernel) rfl ⟨Nat.le_of_ble_eq_true rfl, Nat.le_of_ble_eq_true rfl⟩ rfl rfl rfl (Nat.le_of_ble_eq_true rfl) ⟨Nat.le_of_ble_eq_true rfl, Nat.le_of_ble_eq_true rfl⟩ dX1_stickCell_20 (fun hu2 _ => ?_)
  refine g_af (ws' := WC ad g I (u2 L 1 ch (wn (L 1 ch) q v)) S) (st' := [.long (wn (L 2 ch) q z), .ref (ad (ch + 10))]) (cells' := 0) (slots' := 0) (pc' := 23) rfl rfl rfl rfl rfl ?_
  refine g_put X (ws' := WC ad g I (u2 (u2 L 1 ch (wn (L 1 ch) q v)) 2 ch (wn (L 2 ch) q z)) S) hinX1 tyX1 tyX1_ok nmX1 rfl 8 (by decide) w_73 rfl rfl (ty := .long) rfl rfl rfl (ch + 10) (wc_get (k := ch + 10) (Nat.add_lt_add_right (by omega) 10)) (Nat.le_of_ble_eq_true rfl) (ws_ch8) dX1_stickCell_23 ?_
  exact g_vret X hr () rfl (trivial) ((List.append_nil _).symm) (Nat.le_of_ble_eq_true rfl) (Nat.le_of_ble_eq_true rfl) dX1_stickCell_26

def KX1_stuckCells_0_0 : List (Nat × Instr × Nat) := [(0, .iconst 0, 1), (1, .istore_n 1, 1), (2, .iconst 0, 1), (3, .istore_n 2, 1)]
theorem KX1_stuckCells_0_0_d : ∀ z ∈ KX1_stuckCells_0_0, decode cX1_stuckCells z.1 = .ok z.2 := by decide +kernel
def KX1_stuckCells_4_1 : List (Nat × Instr × Nat) := [(4, .iload_n 2, 1), (5, .bipush 16, 2)]
theorem KX1_stuckCells_4_1_d : ∀ z ∈ KX1_stuckCells_4_1, decode cX1_stuckCells z.1 = .ok z.2 := by decide +kernel
def KX1_stuckCells_30_2 : List (Nat × Instr × Nat) := [(30, .iload_n 1, 1)]
theorem KX1_stuckCells_30_2_d : ∀ z ∈ KX1_stuckCells_30_2, decode cX1_stuckCells z.1 = .ok z.2 := by decide +kernel
def KX1_stuckCells_10_3 : List (Nat × Instr × Nat) := [(10, .aload_n 0, 1)]
theorem KX1_stuckCells_10_3_d : ∀ z ∈ KX1_stuckCells_10_3, decode cX1_stuckCells z.1 = .ok z.2 := by decide +kernel
def KX1_stuckCells_14_4 : List (Nat × Instr × Nat) := [(14, .iload_n 2, 1)]
theorem KX1_stuckCells_14_4_d : ∀ z ∈ KX1_stuckCells_14_4, decode cX1_stuckCells z.1 = .ok z.2 := by decide +kernel
def KX1_stuckCells_24_5 : List (Nat × Instr × Nat) := [(24, .iinc 2 1, 3), (27, .goto (-23), 3)]
theorem KX1_stuckCells_24_5_d : ∀ z ∈ KX1_stuckCells_24_5, decode cX1_stuckCells z.1 = .ok z.2 := by decide +kernel
def KX1_stuckCells_21_6 : List (Nat × Instr × Nat) := [(21, .iinc 1 1, 3), (24, .iinc 2 1, 3), (27, .goto (-23), 3)]
theorem KX1_stuckCells_21_6_d : ∀ z ∈ KX1_stuckCells_21_6, decode cX1_stuckCells z.1 = .ok z.2 := by decide +kernel
set_option maxHeartbeats 4000000 in
set_option maxRecDepth 100000 in
theorem c_X1_stuckCells (l : Launch) (D : va_G) (g : Nat → ClassId) (ad : Nat → Nat) (I : Nat → Nat → Int32) (L : Nat → Nat → Int64) (S : Nat → Nat) (ch : Nat) (hch : ch < 18) : CT l yX1_stuckCells cX1_stuckCells 3 ((Option.some FieldType.int)) ({ frames := 1, cells := 0, slots := 0, locals := 22 } : Room) [.ref (ad (ch + 10))] D CL (TYS g) (WC ad g I L S) ([]) (S := Unit) (fun _ => some (.int (nI (stk L ch 16)))) (fun _ => []) (fun _ => True) 0 0 := by
  refine ct_of (by decide +kernel) (Nat.le_of_ble_eq_true rfl) ?_
  intro p e s m below meth c A X hr hnm hSB hRO hAf
  refine g_cs (ws' := []) (lv' := [(0, .ref (ad (ch + 10)))]) rfl rfl ?_
  refine g_run X KX1_stuckCells_0_0 KX1_stuckCells_0_0_d 4 [(2, .int (nI 0)), (1, .int (nI 0)), (0, .ref (ad (ch + 10)))] [] rfl ?_
  refine g_lv (lv' := [(0, .ref (ad (ch + 10))), (1, .int (nI 0)), (2, .int (nI 0))]) (lsub_c 2 rfl (lsub_c 1 rfl (lsub_c 0 rfl (lsub_n)))) ?_
  refine g_for 16 (fun _ => []) (fun i => [(0, .ref (ad (ch + 10))), (1, .int (nI (stk L ch i))), (2, .int (nI i))]) (rfl) (rfl) ?_ ?_
  · refine g_run X KX1_stuckCells_4_1 KX1_stuckCells_4_1_d 7 [(0, .ref (ad (ch + 10))), (1, .int (nI (stk L ch 16))), (2, .int (nI 16))] [.int (nI 16), .int (nI 16)] rfl ?_
    refine g_icmp_ge X 30 dX1_stuckCells_7 (by decide) (fun hc1 => ?_) (fun hc1 => ?_)
    · refine g_run X KX1_stuckCells_30_2 KX1_stuckCells_30_2_d 31 [(0, .ref (ad (ch + 10))), (1, .int (nI (stk L ch 16))), (2, .int (nI 16))] [.int (nI (stk L ch 16))] rfl ?_
      exact g_iret X hr () (rfl) (trivial) ((List.append_nil _).symm) (Nat.le_of_ble_eq_true rfl) (Nat.le_of_ble_eq_true rfl) dX1_stuckCells_31
    · rw [nI_leI (by omega) (by omega)] at hc1; first | omega | (simp at hc1)
  · intro i hi k4
    refine g_run X KX1_stuckCells_4_1 KX1_stuckCells_4_1_d 7 [(0, .ref (ad (ch + 10))), (1, .int (nI (stk L ch i))), (2, .int (nI i))] [.int (nI 16), .int (nI i)] rfl ?_
    refine g_icmp_ge X 30 dX1_stuckCells_7 (by decide) (fun hc2 => ?_) (fun hc2 => ?_)
    · rw [nI_leI (by omega) (by omega)] at hc2; first | omega | (simp at hc2)
    · refine g_run X KX1_stuckCells_10_3 KX1_stuckCells_10_3_d 11 [(0, .ref (ad (ch + 10))), (1, .int (nI (stk L ch i))), (2, .int (nI i))] [.ref (ad (ch + 10))] rfl ?_
      refine g_get X (srcR hRO) (v := .long (L 1 ch)) hinX1 rfl 7 (by decide) w_72 rfl (wc_chip (by omega)) rfl dX1_stuckCells_11 ?_
      refine g_run X KX1_stuckCells_14_4 KX1_stuckCells_14_4_d 15 [(0, .ref (ad (ch + 10))), (1, .int (nI (stk L ch i))), (2, .int (nI i))] [.int (nI i), .long (L 1 ch)] rfl ?_
      refine g_callSN X hSB hAf (host := "Chipfield") (As := [.long (L 1 ch), .int (nI i)]) (wr := []) (n := 2) (c_X5_numberAt l D g (L 1 ch) i (by omega)) rfl srcN hrdN w_215 (nw_in n_252 rfl) w_214 w_1 (by decide +kernel) rfl ⟨Nat.le_of_ble_eq_true rfl, Nat.le_of_ble_eq_true rfl⟩ rfl rfl rfl (Nat.le_of_ble_eq_true rfl) ⟨Nat.le_of_ble_eq_true rfl, Nat.le_of_ble_eq_true rfl⟩ dX1_stuckCells_15 (fun hu3 _ => ?_)
      refine g_af (ws' := []) (st' := [.int (nI (nib (L 1 ch) i))]) (cells' := 0) (slots' := 0) (pc' := 18) rfl rfl rfl rfl rfl ?_
      refine g_if_eq X 24 dX1_stuckCells_18 (by decide) (fun hc4 => ?_) (fun hc4 => ?_)
      · rw [nz_eq (by have := nib_lt (L 1 ch) i; omega)] at hc4
        refine g_run X KX1_stuckCells_24_5 KX1_stuckCells_24_5_d 4 [(2, .int ((nI i) + (nI 1))), (0, .ref (ad (ch + 10))), (1, .int (nI (stk L ch i)))] [] rfl ?_
        refine g_nm (lv' := [(2, .int (nI (i + 1))), (0, .ref (ad (ch + 10))), (1, .int (nI (stk L ch i)))]) (st' := []) (by simp only [nI_add]) (by simp only [nI_add]) ?_
        refine g_lv (lv' := [(0, .ref (ad (ch + 10))), (1, .int (nI (stk L ch i))), (2, .int (nI (i + 1)))]) (lsub_c 1 rfl (lsub_c 2 rfl (lsub_c 0 rfl (lsub_n)))) ?_
        refine g_cs (ws' := []) (lv' := [(0, .ref (ad (ch + 10))), (1, .int (nI (stk L ch (i + 1)))), (2, .int (nI (i + 1)))]) (rfl) (by simp [stk, *]) ?_
        exact k4
      · rw [nz_eq (by have := nib_lt (L 1 ch) i; omega)] at hc4
        refine g_run X KX1_stuckCells_21_6 KX1_stuckCells_21_6_d 4 [(2, .int ((nI i) + (nI 1))), (1, .int ((nI (stk L ch i)) + (nI 1))), (0, .ref (ad (ch + 10)))] [] rfl ?_
        refine g_nm (lv' := [(2, .int (nI (i + 1))), (1, .int (nI ((stk L ch i) + 1))), (0, .ref (ad (ch + 10)))]) (st' := []) (by simp only [nI_add]) (by simp only [nI_add]) ?_
        refine g_lv (lv' := [(0, .ref (ad (ch + 10))), (1, .int (nI ((stk L ch i) + 1))), (2, .int (nI (i + 1)))]) (lsub_c 2 rfl (lsub_c 1 rfl (lsub_c 0 rfl (lsub_n)))) ?_
        refine g_cs (ws' := []) (lv' := [(0, .ref (ad (ch + 10))), (1, .int (nI (stk L ch (i + 1)))), (2, .int (nI (i + 1)))]) (rfl) (by simp [stk, *]) ?_
        exact k4

def KX4_readWord_0_0 : List (Nat × Instr × Nat) := [(0, .lconst 0, 1), (1, .lstore_n 2, 1), (2, .iconst 0, 1), (3, .istore 4, 2)]
theorem KX4_readWord_0_0_d : ∀ z ∈ KX4_readWord_0_0, decode cX4_readWord z.1 = .ok z.2 := by decide +kernel
def KX4_readWord_5_1 : List (Nat × Instr × Nat) := [(5, .iload 4, 2), (7, .bipush 15, 2)]
theorem KX4_readWord_5_1_d : ∀ z ∈ KX4_readWord_5_1, decode cX4_readWord z.1 = .ok z.2 := by decide +kernel
def KX4_readWord_36_2 : List (Nat × Instr × Nat) := [(36, .lload_n 2, 1)]
theorem KX4_readWord_36_2_d : ∀ z ∈ KX4_readWord_36_2, decode cX4_readWord z.1 = .ok z.2 := by decide +kernel
def KX4_readWord_12_3 : List (Nat × Instr × Nat) := [(12, .lload_n 2, 1), (13, .iload 4, 2), (15, .aload_n 0, 1)]
theorem KX4_readWord_12_3_d : ∀ z ∈ KX4_readWord_12_3, decode cX4_readWord z.1 = .ok z.2 := by decide +kernel
def KX4_readWord_19_4 : List (Nat × Instr × Nat) := [(19, .iload 4, 2)]
theorem KX4_readWord_19_4_d : ∀ z ∈ KX4_readWord_19_4, decode cX4_readWord z.1 = .ok z.2 := by decide +kernel
def KX4_readWord_22_5 : List (Nat × Instr × Nat) := [(22, .iload_n 1, 1)]
theorem KX4_readWord_22_5_d : ∀ z ∈ KX4_readWord_22_5, decode cX4_readWord z.1 = .ok z.2 := by decide +kernel
def KX4_readWord_29_6 : List (Nat × Instr × Nat) := [(29, .lstore_n 2, 1), (30, .iinc 4 1, 3), (33, .goto (-28), 3)]
theorem KX4_readWord_29_6_d : ∀ z ∈ KX4_readWord_29_6, decode cX4_readWord z.1 = .ok z.2 := by decide +kernel
set_option maxHeartbeats 4000000 in
set_option maxRecDepth 100000 in
theorem c_X4_readWord (l : Launch) (D : va_G) (g : Nat → ClassId) (ad : Nat → Nat) (I : Nat → Nat → Int32) (L : Nat → Nat → Int64) (S : Nat → Nat) (q : Nat) (hS18 : ∀ p, p < 15 → S p < 18) (hq : q < 16) : CT l yX4_readWord cX4_readWord 5 ((Option.some FieldType.long)) ({ frames := 2, cells := 0, slots := 0, locals := 44 } : Room) [.ref (ad 1), .int (nI q)] D CL (TYS g) (WC ad g I L S) ([]) (S := Unit) (fun _ => some (.long (rwd I L S q 15))) (fun _ => []) (fun _ => True) 0 0 := by
  refine ct_of (by decide +kernel) (Nat.le_of_ble_eq_true rfl) ?_
  intro p e s m below meth c A X hr hnm hSB hRO hAf
  refine g_cs (ws' := []) (lv' := [(0, .ref (ad 1)), (1, .int (nI q))]) rfl rfl ?_
  refine g_run X KX4_readWord_0_0 KX4_readWord_0_0_d 5 [(4, .int (nI 0)), (2, .long (lN 0)), (0, .ref (ad 1)), (1, .int (nI q))] [] rfl ?_
  refine g_lv (lv' := [(0, .ref (ad 1)), (1, .int (nI q)), (2, .long (lN 0)), (4, .int (nI 0))]) (lsub_c 2 rfl (lsub_c 3 rfl (lsub_c 1 rfl (lsub_c 0 rfl (lsub_n))))) ?_
  refine g_for 15 (fun _ => []) (fun i => [(0, .ref (ad 1)), (1, .int (nI q)), (2, .long (rwd I L S q i)), (4, .int (nI i))]) (rfl) (rfl) ?_ ?_
  · refine g_run X KX4_readWord_5_1 KX4_readWord_5_1_d 9 [(0, .ref (ad 1)), (1, .int (nI q)), (2, .long (rwd I L S q 15)), (4, .int (nI 15))] [.int (nI 15), .int (nI 15)] rfl ?_
    refine g_icmp_ge X 36 dX4_readWord_9 (by decide) (fun hc1 => ?_) (fun hc1 => ?_)
    · refine g_run X KX4_readWord_36_2 KX4_readWord_36_2_d 37 [(0, .ref (ad 1)), (1, .int (nI q)), (2, .long (rwd I L S q 15)), (4, .int (nI 15))] [.long (rwd I L S q 15)] rfl ?_
      exact g_lret X hr () (rfl) (trivial) ((List.append_nil _).symm) (Nat.le_of_ble_eq_true rfl) (Nat.le_of_ble_eq_true rfl) dX4_readWord_37
    · rw [nI_leI (by omega) (by omega)] at hc1; first | omega | (simp at hc1)
  · intro i hi k5
    refine g_run X KX4_readWord_5_1 KX4_readWord_5_1_d 9 [(0, .ref (ad 1)), (1, .int (nI q)), (2, .long (rwd I L S q i)), (4, .int (nI i))] [.int (nI 15), .int (nI i)] rfl ?_
    refine g_icmp_ge X 36 dX4_readWord_9 (by decide) (fun hc2 => ?_) (fun hc2 => ?_)
    · rw [nI_leI (by omega) (by omega)] at hc2; first | omega | (simp at hc2)
    · refine g_run X KX4_readWord_12_3 KX4_readWord_12_3_d 16 [(0, .ref (ad 1)), (1, .int (nI q)), (2, .long (rwd I L S q i)), (4, .int (nI i))] [.ref (ad 1), .int (nI i), .long (rwd I L S q i)] rfl ?_
      refine g_get X (srcR hRO) (v := .ref (ad 3)) hinX4 rfl 1 (by decide) w_95 rfl (wc_mem (k := 1) (by decide)) rfl dX4_readWord_16 ?_
      refine g_run X KX4_readWord_19_4 KX4_readWord_19_4_d 21 [(0, .ref (ad 1)), (1, .int (nI q)), (2, .long (rwd I L S q i)), (4, .int (nI i))] [.int (nI i), .ref (ad 3), .int (nI i), .long (rwd I L S q i)] rfl ?_
      refine g_aald X (srcR hRO) (b := ad ((S i) + 10)) 1 rfl (wc_mem (k := 3) (by decide)) i rfl (by omega) (by decide) (rfl) dX4_readWord_21 ?_
      refine g_run X KX4_readWord_22_5 KX4_readWord_22_5_d 23 [(0, .ref (ad 1)), (1, .int (nI q)), (2, .long (rwd I L S q i)), (4, .int (nI i))] [.int (nI q), .ref (ad ((S i) + 10)), .int (nI i), .long (rwd I L S q i)] rfl ?_
      refine g_callV X hSB hAf ((srcR hRO)) (hrc1 := (rfl : CL[1]? = some _)) (wc_chip (hS18 _ (by omega))) rfl (As := [.int (nI q)]) (wr := []) (n := 1) (c_X1_readAt l D g ad I L S (S i) q (hS18 _ (by omega)) (by omega)) rfl (srcR hRO) hrdC w_248 w_245 w_246 w_247 w_3 (by decide +kernel) rfl ⟨Nat.le_of_ble_eq_true rfl, Nat.le_of_ble_eq_true rfl⟩ rfl rfl rfl (Nat.le_of_ble_eq_true rfl) ⟨Nat.le_of_ble_eq_true rfl, Nat.le_of_ble_eq_true rfl⟩ dX4_readWord_23 (fun hu3 _ => ?_)
      refine g_af (ws' := []) (st' := [.int (nI (rd I L (S i) q)), .int (nI i), .long (rwd I L S q i)]) (cells' := 0) (slots' := 0) (pc' := 26) rfl rfl rfl rfl rfl ?_
      refine g_callSN X hSB hAf (host := "Chipfield") (As := [.long (rwd I L S q i), .int (nI i), .int (nI (rd I L (S i) q))]) (wr := []) (n := 3) (c_X5_withNumber l D g (rwd I L S q i) i (rd I L (S i) q) (by omega)) rfl srcN hrdN w_222 (nw_in n_253 rfl) w_221 w_1 (by decide +kernel) rfl ⟨Nat.le_of_ble_eq_true rfl, Nat.le_of_ble_eq_true rfl⟩ rfl rfl rfl (Nat.le_of_ble_eq_true rfl) ⟨Nat.le_of_ble_eq_true rfl, Nat.le_of_ble_eq_true rfl⟩ dX4_readWord_26 (fun hu4 _ => ?_)
      refine g_af (ws' := []) (st' := [.long (wn (rwd I L S q i) i (rd I L (S i) q))]) (cells' := 0) (slots' := 0) (pc' := 29) rfl rfl rfl rfl rfl ?_
      refine g_run X KX4_readWord_29_6 KX4_readWord_29_6_d 5 [(4, .int ((nI i) + (nI 1))), (2, .long (wn (rwd I L S q i) i (rd I L (S i) q))), (0, .ref (ad 1)), (1, .int (nI q))] [] rfl ?_
      refine g_nm (lv' := [(4, .int (nI (i + 1))), (2, .long (wn (rwd I L S q i) i (rd I L (S i) q))), (0, .ref (ad 1)), (1, .int (nI q))]) (st' := []) (by simp only [nI_add]) (by simp only [nI_add]) ?_
      refine g_lv (lv' := [(0, .ref (ad 1)), (1, .int (nI q)), (2, .long (wn (rwd I L S q i) i (rd I L (S i) q))), (4, .int (nI (i + 1)))]) (lsub_c 2 rfl (lsub_c 3 rfl (lsub_c 1 rfl (lsub_c 0 rfl (lsub_n))))) ?_
      refine g_cs (ws' := []) (lv' := [(0, .ref (ad 1)), (1, .int (nI q)), (2, .long (rwd I L S q (i + 1))), (4, .int (nI (i + 1)))]) (rfl) (rfl) ?_
      exact k5

def KX4_erasedPlaces_0_0 : List (Nat × Instr × Nat) := [(0, .iconst 0, 1), (1, .istore_n 1, 1), (2, .iconst 0, 1), (3, .istore_n 2, 1)]
theorem KX4_erasedPlaces_0_0_d : ∀ z ∈ KX4_erasedPlaces_0_0, decode cX4_erasedPlaces z.1 = .ok z.2 := by decide +kernel
def KX4_erasedPlaces_4_1 : List (Nat × Instr × Nat) := [(4, .iload_n 2, 1), (5, .bipush 15, 2)]
theorem KX4_erasedPlaces_4_1_d : ∀ z ∈ KX4_erasedPlaces_4_1, decode cX4_erasedPlaces z.1 = .ok z.2 := by decide +kernel
def KX4_erasedPlaces_34_2 : List (Nat × Instr × Nat) := [(34, .iload_n 1, 1)]
theorem KX4_erasedPlaces_34_2_d : ∀ z ∈ KX4_erasedPlaces_34_2, decode cX4_erasedPlaces z.1 = .ok z.2 := by decide +kernel
def KX4_erasedPlaces_10_3 : List (Nat × Instr × Nat) := [(10, .aload_n 0, 1)]
theorem KX4_erasedPlaces_10_3_d : ∀ z ∈ KX4_erasedPlaces_10_3, decode cX4_erasedPlaces z.1 = .ok z.2 := by decide +kernel
def KX4_erasedPlaces_14_4 : List (Nat × Instr × Nat) := [(14, .iload_n 2, 1)]
theorem KX4_erasedPlaces_14_4_d : ∀ z ∈ KX4_erasedPlaces_14_4, decode cX4_erasedPlaces z.1 = .ok z.2 := by decide +kernel
def KX4_erasedPlaces_28_5 : List (Nat × Instr × Nat) := [(28, .iinc 2 1, 3), (31, .goto (-27), 3)]
theorem KX4_erasedPlaces_28_5_d : ∀ z ∈ KX4_erasedPlaces_28_5, decode cX4_erasedPlaces z.1 = .ok z.2 := by decide +kernel
def KX4_erasedPlaces_22_6 : List (Nat × Instr × Nat) := [(22, .iload_n 1, 1), (23, .iconst 1, 1), (24, .iload_n 2, 1), (25, .ishl, 1), (26, .ior, 1), (27, .istore_n 1, 1), (28, .iinc 2 1, 3), (31, .goto (-27), 3)]
theorem KX4_erasedPlaces_22_6_d : ∀ z ∈ KX4_erasedPlaces_22_6, decode cX4_erasedPlaces z.1 = .ok z.2 := by decide +kernel
set_option maxHeartbeats 4000000 in
set_option maxRecDepth 100000 in
theorem c_X4_erasedPlaces (l : Launch) (D : va_G) (g : Nat → ClassId) (ad : Nat → Nat) (I : Nat → Nat → Int32) (L : Nat → Nat → Int64) (S : Nat → Nat) (hS18 : ∀ p, p < 15 → S p < 18) : CT l yX4_erasedPlaces cX4_erasedPlaces 3 ((Option.some FieldType.int)) ({ frames := 0, cells := 0, slots := 0, locals := 0 } : Room) [.ref (ad 1)] D CL (TYS g) (WC ad g I L S) ([]) (S := Unit) (fun _ => some (.int (nI (ers I S 15)))) (fun _ => []) (fun _ => True) 0 0 := by
  refine ct_of (by decide +kernel) (Nat.le_of_ble_eq_true rfl) ?_
  intro p e s m below meth c A X hr hnm hSB hRO hAf
  refine g_cs (ws' := []) (lv' := [(0, .ref (ad 1))]) rfl rfl ?_
  refine g_run X KX4_erasedPlaces_0_0 KX4_erasedPlaces_0_0_d 4 [(2, .int (nI 0)), (1, .int (nI 0)), (0, .ref (ad 1))] [] rfl ?_
  refine g_lv (lv' := [(0, .ref (ad 1)), (1, .int (nI 0)), (2, .int (nI 0))]) (lsub_c 2 rfl (lsub_c 1 rfl (lsub_c 0 rfl (lsub_n)))) ?_
  refine g_for 15 (fun _ => []) (fun i => [(0, .ref (ad 1)), (1, .int (nI (ers I S i))), (2, .int (nI i))]) (rfl) (rfl) ?_ ?_
  · refine g_run X KX4_erasedPlaces_4_1 KX4_erasedPlaces_4_1_d 7 [(0, .ref (ad 1)), (1, .int (nI (ers I S 15))), (2, .int (nI 15))] [.int (nI 15), .int (nI 15)] rfl ?_
    refine g_icmp_ge X 34 dX4_erasedPlaces_7 (by decide) (fun hc1 => ?_) (fun hc1 => ?_)
    · refine g_run X KX4_erasedPlaces_34_2 KX4_erasedPlaces_34_2_d 35 [(0, .ref (ad 1)), (1, .int (nI (ers I S 15))), (2, .int (nI 15))] [.int (nI (ers I S 15))] rfl ?_
      exact g_iret X hr () (rfl) (trivial) ((List.append_nil _).symm) (Nat.le_of_ble_eq_true rfl) (Nat.le_of_ble_eq_true rfl) dX4_erasedPlaces_35
    · rw [nI_leI (by omega) (by omega)] at hc1; first | omega | (simp at hc1)
  · intro i hi k4
    refine g_run X KX4_erasedPlaces_4_1 KX4_erasedPlaces_4_1_d 7 [(0, .ref (ad 1)), (1, .int (nI (ers I S i))), (2, .int (nI i))] [.int (nI 15), .int (nI i)] rfl ?_
    refine g_icmp_ge X 34 dX4_erasedPlaces_7 (by decide) (fun hc2 => ?_) (fun hc2 => ?_)
    · rw [nI_leI (by omega) (by omega)] at hc2; first | omega | (simp at hc2)
    · refine g_run X KX4_erasedPlaces_10_3 KX4_erasedPlaces_10_3_d 11 [(0, .ref (ad 1)), (1, .int (nI (ers I S i))), (2, .int (nI i))] [.ref (ad 1)] rfl ?_
      refine g_get X (srcR hRO) (v := .ref (ad 3)) hinX4 rfl 1 (by decide) w_95 rfl (wc_mem (k := 1) (by decide)) rfl dX4_erasedPlaces_11 ?_
      refine g_run X KX4_erasedPlaces_14_4 KX4_erasedPlaces_14_4_d 15 [(0, .ref (ad 1)), (1, .int (nI (ers I S i))), (2, .int (nI i))] [.int (nI i), .ref (ad 3)] rfl ?_
      refine g_aald X (srcR hRO) (b := ad ((S i) + 10)) 1 rfl (wc_mem (k := 3) (by decide)) i rfl (by omega) (by decide) (rfl) dX4_erasedPlaces_15 ?_
      refine g_get X (srcR hRO) (v := .int (I 3 (S i))) hinX1 rfl 4 (by decide) w_66 rfl (wc_chip (hS18 _ (by omega))) rfl dX4_erasedPlaces_16 ?_
      refine g_if_eq X 28 dX4_erasedPlaces_19 (by decide) (fun hc3 => ?_) (fun hc3 => ?_)
      · refine g_run X KX4_erasedPlaces_28_5 KX4_erasedPlaces_28_5_d 4 [(2, .int ((nI i) + (nI 1))), (0, .ref (ad 1)), (1, .int (nI (ers I S i)))] [] rfl ?_
        refine g_nm (lv' := [(2, .int (nI (i + 1))), (0, .ref (ad 1)), (1, .int (nI (ers I S i)))]) (st' := []) (by simp only [nI_add]) (by simp only [nI_add]) ?_
        refine g_lv (lv' := [(0, .ref (ad 1)), (1, .int (nI (ers I S i))), (2, .int (nI (i + 1)))]) (lsub_c 1 rfl (lsub_c 2 rfl (lsub_c 0 rfl (lsub_n)))) ?_
        refine g_cs (ws' := []) (lv' := [(0, .ref (ad 1)), (1, .int (nI (ers I S (i + 1)))), (2, .int (nI (i + 1)))]) (rfl) (by simp [ers, *]) ?_
        exact k4
      · refine g_run X KX4_erasedPlaces_22_6 KX4_erasedPlaces_22_6_d 4 [(2, .int ((nI i) + (nI 1))), (1, .int ((nI (ers I S i)) ||| ((nI 1) <<< ((nI i) &&& 31)))), (0, .ref (ad 1))] [] rfl ?_
        refine g_nm (lv' := [(2, .int (nI (i + 1))), (1, .int (nI ((ers I S i) ||| (2 ^ i)))), (0, .ref (ad 1))]) (st' := []) (by simp only [nI_add, nx_or, sh1 (show i < 31 by omega)]) (by simp only [nI_add, nx_or, sh1 (show i < 31 by omega)]) ?_
        refine g_lv (lv' := [(0, .ref (ad 1)), (1, .int (nI ((ers I S i) ||| (2 ^ i)))), (2, .int (nI (i + 1)))]) (lsub_c 2 rfl (lsub_c 1 rfl (lsub_c 0 rfl (lsub_n)))) ?_
        refine g_cs (ws' := []) (lv' := [(0, .ref (ad 1)), (1, .int (nI (ers I S (i + 1)))), (2, .int (nI (i + 1)))]) (rfl) (by simp [ers, *]) ?_
        exact k4

def KX4_wordMendedTo_0_0 : List (Nat × Instr × Nat) := [(0, .aload_n 0, 1), (1, .iload_n 1, 1)]
theorem KX4_wordMendedTo_0_0_d : ∀ z ∈ KX4_wordMendedTo_0_0, decode cX4_wordMendedTo z.1 = .ok z.2 := by decide +kernel
def KX4_wordMendedTo_5_1 : List (Nat × Instr × Nat) := [(5, .aload_n 0, 1)]
theorem KX4_wordMendedTo_5_1_d : ∀ z ∈ KX4_wordMendedTo_5_1, decode cX4_wordMendedTo z.1 = .ok z.2 := by decide +kernel
set_option maxHeartbeats 4000000 in
set_option maxRecDepth 100000 in
theorem c_X4_wordMendedTo (l : Launch) (D : va_G) (g : Nat → ClassId) (ad : Nat → Nat) (I : Nat → Nat → Int32) (L : Nat → Nat → Int64) (S : Nat → Nat) (q : Nat) (hS18 : ∀ p, p < 15 → S p < 18) (hq : q < 16) : CT l yX4_wordMendedTo cX4_wordMendedTo 2 ((Option.some FieldType.long)) ({ frames := 4, cells := 0, slots := 0, locals := 108 } : Room) [.ref (ad 1), .int (nI q)] D CL (TYS g) (WC ad g I L S) ([]) (S := Unit) (fun _ => some (.long (oL (mwd I L S q)))) (fun _ => []) (fun _ => True) 0 0 := by
  refine ct_of (by decide +kernel) (Nat.le_of_ble_eq_true rfl) ?_
  intro p e s m below meth c A X hr hnm hSB hRO hAf
  refine g_cs (ws' := []) (lv' := [(0, .ref (ad 1)), (1, .int (nI q))]) rfl rfl ?_
  refine g_run X KX4_wordMendedTo_0_0 KX4_wordMendedTo_0_0_d 2 [(0, .ref (ad 1)), (1, .int (nI q))] [.int (nI q), .ref (ad 1)] rfl ?_
  refine g_callV X hSB hAf ((srcR hRO)) (hrc1 := (rfl : CL[3]? = some _)) (wc_mem (k := 1) (by decide)) rfl (As := [.int (nI q)]) (wr := []) (n := 1) (c_X4_readWord l D g ad I L S q (hS18) (by omega)) rfl (srcR hRO) hrdC w_244 w_241 w_242 w_243 w_2 (by decide +kernel) rfl ⟨Nat.le_of_ble_eq_true rfl, Nat.le_of_ble_eq_true rfl⟩ rfl rfl rfl (Nat.le_of_ble_eq_true rfl) ⟨Nat.le_of_ble_eq_true rfl, Nat.le_of_ble_eq_true rfl⟩ dX4_wordMendedTo_2 (fun hu1 _ => ?_)
  refine g_af (ws' := []) (st' := [.long (rwd I L S q 15)]) (cells' := 0) (slots' := 0) (pc' := 5) rfl rfl rfl rfl rfl ?_
  refine g_run X KX4_wordMendedTo_5_1 KX4_wordMendedTo_5_1_d 6 [(0, .ref (ad 1)), (1, .int (nI q))] [.ref (ad 1), .long (rwd I L S q 15)] rfl ?_
  refine g_callV X hSB hAf ((srcR hRO)) (hrc1 := (rfl : CL[3]? = some _)) (wc_mem (k := 1) (by decide)) rfl (As := []) (wr := []) (n := 0) (c_X4_erasedPlaces l D g ad I L S (hS18)) rfl (srcR hRO) hrdC w_240 w_237 w_238 w_239 w_2 (by decide +kernel) rfl ⟨Nat.le_of_ble_eq_true rfl, Nat.le_of_ble_eq_true rfl⟩ rfl rfl rfl (Nat.le_of_ble_eq_true rfl) ⟨Nat.le_of_ble_eq_true rfl, Nat.le_of_ble_eq_true rfl⟩ dX4_wordMendedTo_6 (fun hu2 _ => ?_)
  refine g_af (ws' := []) (st' := [.int (nI (ers I S 15)), .long (rwd I L S q 15)]) (cells' := 0) (slots' := 0) (pc' := 9) rfl rfl rfl rfl rfl ?_
  refine g_callS X hSB hAf (As := [.long (rwd I L S q 15), .int (nI (ers I S 15))]) (wr := []) (n := 2) (c_X2_mendedWord l D g (rwd I L S q 15) (ers I S 15) (ers_lt _ _ _)) rfl srcN hrdN w_256 w_254 w_255 w_22 (by decide +kernel) rfl ⟨Nat.le_of_ble_eq_true rfl, Nat.le_of_ble_eq_true rfl⟩ rfl rfl rfl (Nat.le_of_ble_eq_true rfl) ⟨Nat.le_of_ble_eq_true rfl, Nat.le_of_ble_eq_true rfl⟩ dX4_wordMendedTo_9 (fun hu3 _ => ?_)
  refine g_af (ws' := []) (st' := [.long (oL (mw (ers I S 15) (rwd I L S q 15)))]) (cells' := 0) (slots' := 0) (pc' := 12) rfl rfl rfl rfl rfl ?_
  exact g_lret X hr () (rfl) (trivial) ((List.append_nil _).symm) (Nat.le_of_ble_eq_true rfl) (Nat.le_of_ble_eq_true rfl) dX4_wordMendedTo_12

def KX4_badLines_0_0 : List (Nat × Instr × Nat) := [(0, .aload_n 0, 1)]
theorem KX4_badLines_0_0_d : ∀ z ∈ KX4_badLines_0_0, decode cX4_badLines z.1 = .ok z.2 := by decide +kernel
def KX4_badLines_4_1 : List (Nat × Instr × Nat) := [(4, .istore_n 1, 1), (5, .iconst 0, 1), (6, .istore_n 2, 1), (7, .iconst 0, 1), (8, .istore_n 3, 1)]
theorem KX4_badLines_4_1_d : ∀ z ∈ KX4_badLines_4_1, decode cX4_badLines z.1 = .ok z.2 := by decide +kernel
def KX4_badLines_9_2 : List (Nat × Instr × Nat) := [(9, .iload_n 3, 1), (10, .bipush 16, 2)]
theorem KX4_badLines_9_2_d : ∀ z ∈ KX4_badLines_9_2, decode cX4_badLines z.1 = .ok z.2 := by decide +kernel
def KX4_badLines_40_3 : List (Nat × Instr × Nat) := [(40, .iload_n 2, 1)]
theorem KX4_badLines_40_3_d : ∀ z ∈ KX4_badLines_40_3, decode cX4_badLines z.1 = .ok z.2 := by decide +kernel
def KX4_badLines_15_4 : List (Nat × Instr × Nat) := [(15, .aload_n 0, 1), (16, .iload_n 3, 1)]
theorem KX4_badLines_15_4_d : ∀ z ∈ KX4_badLines_15_4, decode cX4_badLines z.1 = .ok z.2 := by decide +kernel
def KX4_badLines_20_5 : List (Nat × Instr × Nat) := [(20, .iload_n 1, 1)]
theorem KX4_badLines_20_5_d : ∀ z ∈ KX4_badLines_20_5, decode cX4_badLines z.1 = .ok z.2 := by decide +kernel
def KX4_badLines_27_6 : List (Nat × Instr × Nat) := [(27, .lcmp, 1)]
theorem KX4_badLines_27_6_d : ∀ z ∈ KX4_badLines_27_6, decode cX4_badLines z.1 = .ok z.2 := by decide +kernel
def KX4_badLines_34_7 : List (Nat × Instr × Nat) := [(34, .iinc 3 1, 3), (37, .goto (-28), 3)]
theorem KX4_badLines_34_7_d : ∀ z ∈ KX4_badLines_34_7, decode cX4_badLines z.1 = .ok z.2 := by decide +kernel
def KX4_badLines_31_8 : List (Nat × Instr × Nat) := [(31, .iinc 2 1, 3), (34, .iinc 3 1, 3), (37, .goto (-28), 3)]
theorem KX4_badLines_31_8_d : ∀ z ∈ KX4_badLines_31_8, decode cX4_badLines z.1 = .ok z.2 := by decide +kernel
set_option maxHeartbeats 4000000 in
set_option maxRecDepth 100000 in
theorem c_X4_badLines (l : Launch) (D : va_G) (g : Nat → ClassId) (ad : Nat → Nat) (I : Nat → Nat → Int32) (L : Nat → Nat → Int64) (S : Nat → Nat) (hS18 : ∀ p, p < 15 → S p < 18) : CT l yX4_badLines cX4_badLines 4 ((Option.some FieldType.int)) ({ frames := 4, cells := 0, slots := 0, locals := 108 } : Room) [.ref (ad 1)] D CL (TYS g) (WC ad g I L S) ([]) (S := Unit) (fun _ => some (.int (nI (bdl I L S 16)))) (fun _ => []) (fun _ => True) 0 0 := by
  refine ct_of (by decide +kernel) (Nat.le_of_ble_eq_true rfl) ?_
  intro p e s m below meth c A X hr hnm hSB hRO hAf
  refine g_cs (ws' := []) (lv' := [(0, .ref (ad 1))]) rfl rfl ?_
  refine g_run X KX4_badLines_0_0 KX4_badLines_0_0_d 1 [(0, .ref (ad 1))] [.ref (ad 1)] rfl ?_
  refine g_callV X hSB hAf ((srcR hRO)) (hrc1 := (rfl : CL[3]? = some _)) (wc_mem (k := 1) (by decide)) rfl (As := []) (wr := []) (n := 0) (c_X4_erasedPlaces l D g ad I L S (hS18)) rfl (srcR hRO) hrdC w_240 w_237 w_238 w_239 w_2 (by decide +kernel) rfl ⟨Nat.le_of_ble_eq_true rfl, Nat.le_of_ble_eq_true rfl⟩ rfl rfl rfl (Nat.le_of_ble_eq_true rfl) ⟨Nat.le_of_ble_eq_true rfl, Nat.le_of_ble_eq_true rfl⟩ dX4_badLines_1 (fun hu1 _ => ?_)
  refine g_af (ws' := []) (st' := [.int (nI (ers I S 15))]) (cells' := 0) (slots' := 0) (pc' := 4) rfl rfl rfl rfl rfl ?_
  refine g_run X KX4_badLines_4_1 KX4_badLines_4_1_d 9 [(3, .int (nI 0)), (2, .int (nI 0)), (1, .int (nI (ers I S 15))), (0, .ref (ad 1))] [] rfl ?_
  refine g_lv (lv' := [(0, .ref (ad 1)), (1, .int (nI (ers I S 15))), (2, .int (nI 0)), (3, .int (nI 0))]) (lsub_c 3 rfl (lsub_c 2 rfl (lsub_c 1 rfl (lsub_c 0 rfl (lsub_n))))) ?_
  refine g_for 16 (fun _ => []) (fun i => [(0, .ref (ad 1)), (1, .int (nI (ers I S 15))), (2, .int (nI (bdl I L S i))), (3, .int (nI i))]) (rfl) (rfl) ?_ ?_
  · refine g_run X KX4_badLines_9_2 KX4_badLines_9_2_d 12 [(0, .ref (ad 1)), (1, .int (nI (ers I S 15))), (2, .int (nI (bdl I L S 16))), (3, .int (nI 16))] [.int (nI 16), .int (nI 16)] rfl ?_
    refine g_icmp_ge X 40 dX4_badLines_12 (by decide) (fun hc2 => ?_) (fun hc2 => ?_)
    · refine g_run X KX4_badLines_40_3 KX4_badLines_40_3_d 41 [(0, .ref (ad 1)), (1, .int (nI (ers I S 15))), (2, .int (nI (bdl I L S 16))), (3, .int (nI 16))] [.int (nI (bdl I L S 16))] rfl ?_
      exact g_iret X hr () (rfl) (trivial) ((List.append_nil _).symm) (Nat.le_of_ble_eq_true rfl) (Nat.le_of_ble_eq_true rfl) dX4_badLines_41
    · rw [nI_leI (by omega) (by omega)] at hc2; first | omega | (simp at hc2)
  · intro i hi k9
    refine g_run X KX4_badLines_9_2 KX4_badLines_9_2_d 12 [(0, .ref (ad 1)), (1, .int (nI (ers I S 15))), (2, .int (nI (bdl I L S i))), (3, .int (nI i))] [.int (nI 16), .int (nI i)] rfl ?_
    refine g_icmp_ge X 40 dX4_badLines_12 (by decide) (fun hc3 => ?_) (fun hc3 => ?_)
    · rw [nI_leI (by omega) (by omega)] at hc3; first | omega | (simp at hc3)
    · refine g_run X KX4_badLines_15_4 KX4_badLines_15_4_d 17 [(0, .ref (ad 1)), (1, .int (nI (ers I S 15))), (2, .int (nI (bdl I L S i))), (3, .int (nI i))] [.int (nI i), .ref (ad 1)] rfl ?_
      refine g_callV X hSB hAf ((srcR hRO)) (hrc1 := (rfl : CL[3]? = some _)) (wc_mem (k := 1) (by decide)) rfl (As := [.int (nI i)]) (wr := []) (n := 1) (c_X4_readWord l D g ad I L S i (hS18) (by omega)) rfl (srcR hRO) hrdC w_244 w_241 w_242 w_243 w_2 (by decide +kernel) rfl ⟨Nat.le_of_ble_eq_true rfl, Nat.le_of_ble_eq_true rfl⟩ rfl rfl rfl (Nat.le_of_ble_eq_true rfl) ⟨Nat.le_of_ble_eq_true rfl, Nat.le_of_ble_eq_true rfl⟩ dX4_badLines_17 (fun hu4 _ => ?_)
      refine g_af (ws' := []) (st' := [.long (rwd I L S i 15)]) (cells' := 0) (slots' := 0) (pc' := 20) rfl rfl rfl rfl rfl ?_
      refine g_run X KX4_badLines_20_5 KX4_badLines_20_5_d 21 [(0, .ref (ad 1)), (1, .int (nI (ers I S 15))), (2, .int (nI (bdl I L S i))), (3, .int (nI i))] [.int (nI (ers I S 15)), .long (rwd I L S i 15)] rfl ?_
      refine g_callS X hSB hAf (As := [.long (rwd I L S i 15), .int (nI (ers I S 15))]) (wr := []) (n := 2) (c_X2_mendedWord l D g (rwd I L S i 15) (ers I S 15) (ers_lt _ _ _)) rfl srcN hrdN w_256 w_254 w_255 w_22 (by decide +kernel) rfl ⟨Nat.le_of_ble_eq_true rfl, Nat.le_of_ble_eq_true rfl⟩ rfl rfl rfl (Nat.le_of_ble_eq_true rfl) ⟨Nat.le_of_ble_eq_true rfl, Nat.le_of_ble_eq_true rfl⟩ dX4_badLines_21 (fun hu5 _ => ?_)
      refine g_af (ws' := []) (st' := [.long (oL (mw (ers I S 15) (rwd I L S i 15)))]) (cells' := 0) (slots' := 0) (pc' := 24) rfl rfl rfl rfl rfl ?_
      refine g_ldc2 X (v := (-1 : Int64)) w_297 dX4_badLines_24 ?_
      refine g_run X KX4_badLines_27_6 KX4_badLines_27_6_d 28 [(0, .ref (ad 1)), (1, .int (nI (ers I S 15))), (2, .int (nI (bdl I L S i))), (3, .int (nI i))] [.int (lg_cmp (oL (mw (ers I S 15) (rwd I L S i 15))) (-1 : Int64))] rfl ?_
      refine g_if_ne X 34 dX4_badLines_28 (by decide) (fun hc6 => ?_) (fun hc6 => ?_)
      · rw [lc0] at hc6; have hmw : ¬ oL (mwd I L S i) = -1 := hc6
        refine g_run X KX4_badLines_34_7 KX4_badLines_34_7_d 9 [(3, .int ((nI i) + (nI 1))), (0, .ref (ad 1)), (1, .int (nI (ers I S 15))), (2, .int (nI (bdl I L S i)))] [] rfl ?_
        refine g_nm (lv' := [(3, .int (nI (i + 1))), (0, .ref (ad 1)), (1, .int (nI (ers I S 15))), (2, .int (nI (bdl I L S i)))]) (st' := []) (by simp only [nI_add]) (by simp only [nI_add]) ?_
        refine g_lv (lv' := [(0, .ref (ad 1)), (1, .int (nI (ers I S 15))), (2, .int (nI (bdl I L S i))), (3, .int (nI (i + 1)))]) (lsub_c 1 rfl (lsub_c 2 rfl (lsub_c 3 rfl (lsub_c 0 rfl (lsub_n))))) ?_
        refine g_cs (ws' := []) (lv' := [(0, .ref (ad 1)), (1, .int (nI (ers I S 15))), (2, .int (nI (bdl I L S (i + 1)))), (3, .int (nI (i + 1)))]) (rfl) (by simp [bdl, *]) ?_
        exact k9
      · rw [lc0] at hc6; have hmw : oL (mwd I L S i) = -1 := hc6
        refine g_run X KX4_badLines_31_8 KX4_badLines_31_8_d 9 [(3, .int ((nI i) + (nI 1))), (2, .int ((nI (bdl I L S i)) + (nI 1))), (0, .ref (ad 1)), (1, .int (nI (ers I S 15)))] [] rfl ?_
        refine g_nm (lv' := [(3, .int (nI (i + 1))), (2, .int (nI ((bdl I L S i) + 1))), (0, .ref (ad 1)), (1, .int (nI (ers I S 15)))]) (st' := []) (by simp only [nI_add]) (by simp only [nI_add]) ?_
        refine g_lv (lv' := [(0, .ref (ad 1)), (1, .int (nI (ers I S 15))), (2, .int (nI ((bdl I L S i) + 1))), (3, .int (nI (i + 1)))]) (lsub_c 2 rfl (lsub_c 3 rfl (lsub_c 1 rfl (lsub_c 0 rfl (lsub_n))))) ?_
        refine g_cs (ws' := []) (lv' := [(0, .ref (ad 1)), (1, .int (nI (ers I S 15))), (2, .int (nI (bdl I L S (i + 1)))), (3, .int (nI (i + 1)))]) (rfl) (by simp [bdl, *]) ?_
        exact k9

def KX4_sparesLeft_0_0 : List (Nat × Instr × Nat) := [(0, .bipush 18, 2), (2, .aload_n 0, 1)]
theorem KX4_sparesLeft_0_0_d : ∀ z ∈ KX4_sparesLeft_0_0, decode cX4_sparesLeft z.1 = .ok z.2 := by decide +kernel
def KX4_sparesLeft_6_1 : List (Nat × Instr × Nat) := [(6, .isub, 1)]
theorem KX4_sparesLeft_6_1_d : ∀ z ∈ KX4_sparesLeft_6_1, decode cX4_sparesLeft z.1 = .ok z.2 := by decide +kernel
set_option maxHeartbeats 4000000 in
set_option maxRecDepth 100000 in
theorem c_X4_sparesLeft (l : Launch) (D : va_G) (g : Nat → ClassId) (ad : Nat → Nat) (I : Nat → Nat → Int32) (L : Nat → Nat → Int64) (S : Nat → Nat) : CT l yX4_sparesLeft cX4_sparesLeft 1 ((Option.some FieldType.int)) ({ frames := 0, cells := 0, slots := 0, locals := 0 } : Room) [.ref (ad 1)] D CL (TYS g) (WC ad g I L S) ([]) (S := Unit) (fun _ => some (.int (nI 18 - I 8 5))) (fun _ => []) (fun _ => True) 0 0 := by
  refine ct_of (by decide +kernel) (Nat.le_of_ble_eq_true rfl) ?_
  intro p e s m below meth c A X hr hnm hSB hRO hAf
  refine g_cs (ws' := []) (lv' := [(0, .ref (ad 1))]) rfl rfl ?_
  refine g_run X KX4_sparesLeft_0_0 KX4_sparesLeft_0_0_d 3 [(0, .ref (ad 1))] [.ref (ad 1), .int (nI 18)] rfl ?_
  refine g_get X (srcR hRO) (v := .int (I 8 5)) hinX4 rfl 7 (by decide) w_107 rfl (wc_mem (k := 1) (by decide)) rfl dX4_sparesLeft_3 ?_
  refine g_run X KX4_sparesLeft_6_1 KX4_sparesLeft_6_1_d 7 [(0, .ref (ad 1))] [.int ((nI 18) - (I 8 5))] rfl ?_
  exact g_iret X hr () (rfl) (trivial) ((List.append_nil _).symm) (Nat.le_of_ble_eq_true rfl) (Nat.le_of_ble_eq_true rfl) dX4_sparesLeft_7

def KX4_chipsOut_0_0 : List (Nat × Instr × Nat) := [(0, .iconst 0, 1), (1, .istore_n 1, 1), (2, .iconst 0, 1), (3, .istore_n 2, 1)]
theorem KX4_chipsOut_0_0_d : ∀ z ∈ KX4_chipsOut_0_0, decode cX4_chipsOut z.1 = .ok z.2 := by decide +kernel
def KX4_chipsOut_4_1 : List (Nat × Instr × Nat) := [(4, .iload_n 2, 1), (5, .bipush 18, 2)]
theorem KX4_chipsOut_4_1_d : ∀ z ∈ KX4_chipsOut_4_1, decode cX4_chipsOut z.1 = .ok z.2 := by decide +kernel
def KX4_chipsOut_31_2 : List (Nat × Instr × Nat) := [(31, .iload_n 1, 1)]
theorem KX4_chipsOut_31_2_d : ∀ z ∈ KX4_chipsOut_31_2, decode cX4_chipsOut z.1 = .ok z.2 := by decide +kernel
def KX4_chipsOut_10_3 : List (Nat × Instr × Nat) := [(10, .aload_n 0, 1)]
theorem KX4_chipsOut_10_3_d : ∀ z ∈ KX4_chipsOut_10_3, decode cX4_chipsOut z.1 = .ok z.2 := by decide +kernel
def KX4_chipsOut_14_4 : List (Nat × Instr × Nat) := [(14, .iload_n 2, 1)]
theorem KX4_chipsOut_14_4_d : ∀ z ∈ KX4_chipsOut_14_4, decode cX4_chipsOut z.1 = .ok z.2 := by decide +kernel
def KX4_chipsOut_25_5 : List (Nat × Instr × Nat) := [(25, .iinc 2 1, 3), (28, .goto (-24), 3)]
theorem KX4_chipsOut_25_5_d : ∀ z ∈ KX4_chipsOut_25_5, decode cX4_chipsOut z.1 = .ok z.2 := by decide +kernel
def KX4_chipsOut_22_6 : List (Nat × Instr × Nat) := [(22, .iinc 1 1, 3), (25, .iinc 2 1, 3), (28, .goto (-24), 3)]
theorem KX4_chipsOut_22_6_d : ∀ z ∈ KX4_chipsOut_22_6, decode cX4_chipsOut z.1 = .ok z.2 := by decide +kernel
set_option maxHeartbeats 4000000 in
set_option maxRecDepth 100000 in
theorem c_X4_chipsOut (l : Launch) (D : va_G) (g : Nat → ClassId) (ad : Nat → Nat) (I : Nat → Nat → Int32) (L : Nat → Nat → Int64) (S : Nat → Nat) : CT l yX4_chipsOut cX4_chipsOut 3 ((Option.some FieldType.int)) ({ frames := 0, cells := 0, slots := 0, locals := 0 } : Room) [.ref (ad 1)] D CL (TYS g) (WC ad g I L S) ([]) (S := Unit) (fun _ => some (.int (nI (outs I 18)))) (fun _ => []) (fun _ => True) 0 0 := by
  refine ct_of (by decide +kernel) (Nat.le_of_ble_eq_true rfl) ?_
  intro p e s m below meth c A X hr hnm hSB hRO hAf
  refine g_cs (ws' := []) (lv' := [(0, .ref (ad 1))]) rfl rfl ?_
  refine g_run X KX4_chipsOut_0_0 KX4_chipsOut_0_0_d 4 [(2, .int (nI 0)), (1, .int (nI 0)), (0, .ref (ad 1))] [] rfl ?_
  refine g_lv (lv' := [(0, .ref (ad 1)), (1, .int (nI 0)), (2, .int (nI 0))]) (lsub_c 2 rfl (lsub_c 1 rfl (lsub_c 0 rfl (lsub_n)))) ?_
  refine g_for 18 (fun _ => []) (fun i => [(0, .ref (ad 1)), (1, .int (nI (outs I i))), (2, .int (nI i))]) (rfl) (rfl) ?_ ?_
  · refine g_run X KX4_chipsOut_4_1 KX4_chipsOut_4_1_d 7 [(0, .ref (ad 1)), (1, .int (nI (outs I 18))), (2, .int (nI 18))] [.int (nI 18), .int (nI 18)] rfl ?_
    refine g_icmp_ge X 31 dX4_chipsOut_7 (by decide) (fun hc1 => ?_) (fun hc1 => ?_)
    · refine g_run X KX4_chipsOut_31_2 KX4_chipsOut_31_2_d 32 [(0, .ref (ad 1)), (1, .int (nI (outs I 18))), (2, .int (nI 18))] [.int (nI (outs I 18))] rfl ?_
      exact g_iret X hr () (rfl) (trivial) ((List.append_nil _).symm) (Nat.le_of_ble_eq_true rfl) (Nat.le_of_ble_eq_true rfl) dX4_chipsOut_32
    · rw [nI_leI (by omega) (by omega)] at hc1; first | omega | (simp at hc1)
  · intro i hi k4
    refine g_run X KX4_chipsOut_4_1 KX4_chipsOut_4_1_d 7 [(0, .ref (ad 1)), (1, .int (nI (outs I i))), (2, .int (nI i))] [.int (nI 18), .int (nI i)] rfl ?_
    refine g_icmp_ge X 31 dX4_chipsOut_7 (by decide) (fun hc2 => ?_) (fun hc2 => ?_)
    · rw [nI_leI (by omega) (by omega)] at hc2; first | omega | (simp at hc2)
    · refine g_run X KX4_chipsOut_10_3 KX4_chipsOut_10_3_d 11 [(0, .ref (ad 1)), (1, .int (nI (outs I i))), (2, .int (nI i))] [.ref (ad 1)] rfl ?_
      refine g_get X (srcR hRO) (v := .ref (ad 2)) hinX4 rfl 0 (by decide) w_93 rfl (wc_mem (k := 1) (by decide)) rfl dX4_chipsOut_11 ?_
      refine g_run X KX4_chipsOut_14_4 KX4_chipsOut_14_4_d 15 [(0, .ref (ad 1)), (1, .int (nI (outs I i))), (2, .int (nI i))] [.int (nI i), .ref (ad 2)] rfl ?_
      refine g_aald X (srcR hRO) (b := ad (i + 10)) 1 rfl (wc_mem (k := 2) (by decide)) i rfl (by omega) (by decide) (rfl) dX4_chipsOut_15 ?_
      refine g_get X (srcR hRO) (v := .int (I 4 i)) hinX1 rfl 5 (by decide) w_69 rfl (wc_chip (by omega)) rfl dX4_chipsOut_16 ?_
      refine g_if_eq X 25 dX4_chipsOut_19 (by decide) (fun hc3 => ?_) (fun hc3 => ?_)
      · refine g_run X KX4_chipsOut_25_5 KX4_chipsOut_25_5_d 4 [(2, .int ((nI i) + (nI 1))), (0, .ref (ad 1)), (1, .int (nI (outs I i)))] [] rfl ?_
        refine g_nm (lv' := [(2, .int (nI (i + 1))), (0, .ref (ad 1)), (1, .int (nI (outs I i)))]) (st' := []) (by simp only [nI_add]) (by simp only [nI_add]) ?_
        refine g_lv (lv' := [(0, .ref (ad 1)), (1, .int (nI (outs I i))), (2, .int (nI (i + 1)))]) (lsub_c 1 rfl (lsub_c 2 rfl (lsub_c 0 rfl (lsub_n)))) ?_
        refine g_cs (ws' := []) (lv' := [(0, .ref (ad 1)), (1, .int (nI (outs I (i + 1)))), (2, .int (nI (i + 1)))]) (rfl) (by simp [outs, *]) ?_
        exact k4
      · refine g_run X KX4_chipsOut_22_6 KX4_chipsOut_22_6_d 4 [(2, .int ((nI i) + (nI 1))), (1, .int ((nI (outs I i)) + (nI 1))), (0, .ref (ad 1))] [] rfl ?_
        refine g_nm (lv' := [(2, .int (nI (i + 1))), (1, .int (nI ((outs I i) + 1))), (0, .ref (ad 1))]) (st' := []) (by simp only [nI_add]) (by simp only [nI_add]) ?_
        refine g_lv (lv' := [(0, .ref (ad 1)), (1, .int (nI ((outs I i) + 1))), (2, .int (nI (i + 1)))]) (lsub_c 2 rfl (lsub_c 1 rfl (lsub_c 0 rfl (lsub_n)))) ?_
        refine g_cs (ws' := []) (lv' := [(0, .ref (ad 1)), (1, .int (nI (outs I (i + 1)))), (2, .int (nI (i + 1)))]) (rfl) (by simp [outs, *]) ?_
        exact k4

def KX0_dirtyFrames_0_0 : List (Nat × Instr × Nat) := [(0, .iconst 0, 1), (1, .istore_n 1, 1), (2, .iconst 0, 1), (3, .istore_n 2, 1)]
theorem KX0_dirtyFrames_0_0_d : ∀ z ∈ KX0_dirtyFrames_0_0, decode cX0_dirtyFrames z.1 = .ok z.2 := by decide +kernel
def KX0_dirtyFrames_4_1 : List (Nat × Instr × Nat) := [(4, .iload_n 2, 1), (5, .iconst 4, 1)]
theorem KX0_dirtyFrames_4_1_d : ∀ z ∈ KX0_dirtyFrames_4_1, decode cX0_dirtyFrames z.1 = .ok z.2 := by decide +kernel
def KX0_dirtyFrames_30_2 : List (Nat × Instr × Nat) := [(30, .iload_n 1, 1)]
theorem KX0_dirtyFrames_30_2_d : ∀ z ∈ KX0_dirtyFrames_30_2, decode cX0_dirtyFrames z.1 = .ok z.2 := by decide +kernel
def KX0_dirtyFrames_9_3 : List (Nat × Instr × Nat) := [(9, .aload_n 0, 1)]
theorem KX0_dirtyFrames_9_3_d : ∀ z ∈ KX0_dirtyFrames_9_3, decode cX0_dirtyFrames z.1 = .ok z.2 := by decide +kernel
def KX0_dirtyFrames_13_4 : List (Nat × Instr × Nat) := [(13, .iload_n 2, 1)]
theorem KX0_dirtyFrames_13_4_d : ∀ z ∈ KX0_dirtyFrames_13_4, decode cX0_dirtyFrames z.1 = .ok z.2 := by decide +kernel
def KX0_dirtyFrames_24_5 : List (Nat × Instr × Nat) := [(24, .iinc 2 1, 3), (27, .goto (-23), 3)]
theorem KX0_dirtyFrames_24_5_d : ∀ z ∈ KX0_dirtyFrames_24_5, decode cX0_dirtyFrames z.1 = .ok z.2 := by decide +kernel
def KX0_dirtyFrames_21_6 : List (Nat × Instr × Nat) := [(21, .iinc 1 1, 3), (24, .iinc 2 1, 3), (27, .goto (-23), 3)]
theorem KX0_dirtyFrames_21_6_d : ∀ z ∈ KX0_dirtyFrames_21_6, decode cX0_dirtyFrames z.1 = .ok z.2 := by decide +kernel
set_option maxHeartbeats 4000000 in
set_option maxRecDepth 100000 in
theorem c_X0_dirtyFrames (l : Launch) (D : va_G) (g : Nat → ClassId) (ad : Nat → Nat) (I : Nat → Nat → Int32) (L : Nat → Nat → Int64) (S : Nat → Nat) : CT l yX0_dirtyFrames cX0_dirtyFrames 3 ((Option.some FieldType.int)) ({ frames := 0, cells := 0, slots := 0, locals := 0 } : Room) [.ref (ad 4)] D CL (TYS g) (WC ad g I L S) ([]) (S := Unit) (fun _ => some (.int (nI (dirt I 4)))) (fun _ => []) (fun _ => True) 0 0 := by
  refine ct_of (by decide +kernel) (Nat.le_of_ble_eq_true rfl) ?_
  intro p e s m below meth c A X hr hnm hSB hRO hAf
  refine g_cs (ws' := []) (lv' := [(0, .ref (ad 4))]) rfl rfl ?_
  refine g_run X KX0_dirtyFrames_0_0 KX0_dirtyFrames_0_0_d 4 [(2, .int (nI 0)), (1, .int (nI 0)), (0, .ref (ad 4))] [] rfl ?_
  refine g_lv (lv' := [(0, .ref (ad 4)), (1, .int (nI 0)), (2, .int (nI 0))]) (lsub_c 2 rfl (lsub_c 1 rfl (lsub_c 0 rfl (lsub_n)))) ?_
  refine g_for 4 (fun _ => []) (fun i => [(0, .ref (ad 4)), (1, .int (nI (dirt I i))), (2, .int (nI i))]) (rfl) (rfl) ?_ ?_
  · refine g_run X KX0_dirtyFrames_4_1 KX0_dirtyFrames_4_1_d 6 [(0, .ref (ad 4)), (1, .int (nI (dirt I 4))), (2, .int (nI 4))] [.int (nI 4), .int (nI 4)] rfl ?_
    refine g_icmp_ge X 30 dX0_dirtyFrames_6 (by decide) (fun hc1 => ?_) (fun hc1 => ?_)
    · refine g_run X KX0_dirtyFrames_30_2 KX0_dirtyFrames_30_2_d 31 [(0, .ref (ad 4)), (1, .int (nI (dirt I 4))), (2, .int (nI 4))] [.int (nI (dirt I 4))] rfl ?_
      exact g_iret X hr () (rfl) (trivial) ((List.append_nil _).symm) (Nat.le_of_ble_eq_true rfl) (Nat.le_of_ble_eq_true rfl) dX0_dirtyFrames_31
    · rw [nI_leI (by omega) (by omega)] at hc1; first | omega | (simp at hc1)
  · intro i hi k4
    refine g_run X KX0_dirtyFrames_4_1 KX0_dirtyFrames_4_1_d 6 [(0, .ref (ad 4)), (1, .int (nI (dirt I i))), (2, .int (nI i))] [.int (nI 4), .int (nI i)] rfl ?_
    refine g_icmp_ge X 30 dX0_dirtyFrames_6 (by decide) (fun hc2 => ?_) (fun hc2 => ?_)
    · rw [nI_leI (by omega) (by omega)] at hc2; first | omega | (simp at hc2)
    · refine g_run X KX0_dirtyFrames_9_3 KX0_dirtyFrames_9_3_d 10 [(0, .ref (ad 4)), (1, .int (nI (dirt I i))), (2, .int (nI i))] [.ref (ad 4)] rfl ?_
      refine g_get X (srcR hRO) (v := .ref (ad 5)) hinX0 rfl 0 (by decide) w_164 rfl (wc_mem (k := 4) (by decide)) rfl dX0_dirtyFrames_10 ?_
      refine g_run X KX0_dirtyFrames_13_4 KX0_dirtyFrames_13_4_d 14 [(0, .ref (ad 4)), (1, .int (nI (dirt I i))), (2, .int (nI i))] [.int (nI i), .ref (ad 5)] rfl ?_
      refine g_aald X (srcR hRO) (b := ad (i + 6)) 2 rfl (wc_mem (k := 5) (by decide)) i rfl (by omega) (by decide) (rfl) dX0_dirtyFrames_14 ?_
      refine g_get X (srcR hRO) (v := .int (I 6 i)) hinX3 rfl 3 (by decide) w_148 rfl (wc_fr (by omega)) rfl dX0_dirtyFrames_15 ?_
      refine g_if_eq X 24 dX0_dirtyFrames_18 (by decide) (fun hc3 => ?_) (fun hc3 => ?_)
      · refine g_run X KX0_dirtyFrames_24_5 KX0_dirtyFrames_24_5_d 4 [(2, .int ((nI i) + (nI 1))), (0, .ref (ad 4)), (1, .int (nI (dirt I i)))] [] rfl ?_
        refine g_nm (lv' := [(2, .int (nI (i + 1))), (0, .ref (ad 4)), (1, .int (nI (dirt I i)))]) (st' := []) (by simp only [nI_add]) (by simp only [nI_add]) ?_
        refine g_lv (lv' := [(0, .ref (ad 4)), (1, .int (nI (dirt I i))), (2, .int (nI (i + 1)))]) (lsub_c 1 rfl (lsub_c 2 rfl (lsub_c 0 rfl (lsub_n)))) ?_
        refine g_cs (ws' := []) (lv' := [(0, .ref (ad 4)), (1, .int (nI (dirt I (i + 1)))), (2, .int (nI (i + 1)))]) (rfl) (by simp [dirt, *]) ?_
        exact k4
      · refine g_run X KX0_dirtyFrames_21_6 KX0_dirtyFrames_21_6_d 4 [(2, .int ((nI i) + (nI 1))), (1, .int ((nI (dirt I i)) + (nI 1))), (0, .ref (ad 4))] [] rfl ?_
        refine g_nm (lv' := [(2, .int (nI (i + 1))), (1, .int (nI ((dirt I i) + 1))), (0, .ref (ad 4))]) (st' := []) (by simp only [nI_add]) (by simp only [nI_add]) ?_
        refine g_lv (lv' := [(0, .ref (ad 4)), (1, .int (nI ((dirt I i) + 1))), (2, .int (nI (i + 1)))]) (lsub_c 2 rfl (lsub_c 1 rfl (lsub_c 0 rfl (lsub_n)))) ?_
        refine g_cs (ws' := []) (lv' := [(0, .ref (ad 4)), (1, .int (nI (dirt I (i + 1)))), (2, .int (nI (i + 1)))]) (rfl) (by simp [dirt, *]) ?_
        exact k4

