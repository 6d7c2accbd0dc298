def KX5_write_0_0 : List (Nat × Instr × Nat) := [(0, .iload_n 1, 1)]
theorem KX5_write_0_0_d : ∀ z ∈ KX5_write_0_0, decode cX5_write z.1 = .ok z.2 := by decide +kernel
def KX5_write_4_1 : List (Nat × Instr × Nat) := [(4, .lload_n 2, 1)]
theorem KX5_write_4_1_d : ∀ z ∈ KX5_write_4_1, decode cX5_write z.1 = .ok z.2 := by decide +kernel
def KX5_write_8_2 : List (Nat × Instr × Nat) := [(8, .aload_n 0, 1)]
theorem KX5_write_8_2_d : ∀ z ∈ KX5_write_8_2, decode cX5_write z.1 = .ok z.2 := by decide +kernel
def KX5_write_12_3 : List (Nat × Instr × Nat) := [(12, .iload_n 1, 1)]
theorem KX5_write_12_3_d : ∀ z ∈ KX5_write_12_3, decode cX5_write z.1 = .ok z.2 := by decide +kernel
def KX5_write_16_4 : List (Nat × Instr × Nat) := [(16, .lstore 4, 2), (18, .aload_n 0, 1)]
theorem KX5_write_16_4_d : ∀ z ∈ KX5_write_16_4, decode cX5_write z.1 = .ok z.2 := by decide +kernel
def KX5_write_22_5 : List (Nat × Instr × Nat) := [(22, .iload_n 1, 1), (23, .lload_n 2, 1)]
theorem KX5_write_22_5_d : ∀ z ∈ KX5_write_22_5, decode cX5_write z.1 = .ok z.2 := by decide +kernel
def KX5_write_30_6 : List (Nat × Instr × Nat) := [(30, .lload 4, 2), (32, .aload_n 0, 1)]
theorem KX5_write_30_6_d : ∀ z ∈ KX5_write_30_6, decode cX5_write z.1 = .ok z.2 := by decide +kernel
def KX5_write_36_7 : List (Nat × Instr × Nat) := [(36, .iload_n 1, 1)]
theorem KX5_write_36_7_d : ∀ z ∈ KX5_write_36_7, decode cX5_write z.1 = .ok z.2 := by decide +kernel
def KX5_write_40_8 : List (Nat × Instr × Nat) := [(40, .lxor, 1)]
theorem KX5_write_40_8_d : ∀ z ∈ KX5_write_40_8, decode cX5_write z.1 = .ok z.2 := by decide +kernel
set_option maxHeartbeats 4000000 in
set_option maxRecDepth 100000 in
theorem c_X5_write (l : Launch) (D : va_G) (g : Nat → ClassId) (ad : Nat → Nat) (I : Nat → Nat → Int32) (L : Nat → Nat → Int64) (S : Nat → Nat) (q : Nat) (x : Int64) (hS18 : ∀ p, p < 15 → S p < 18) (hq : q < 16) (hx : dOK x) : CT l yX5_write cX5_write 6 ((Option.some FieldType.int)) ({ frames := 5, cells := 0, slots := 0, locals := 129 } : Room) [.ref (ad 0), .int (nI q), .long x] D CL (TYS g) ([]) (WC ad g I L S) (S := Unit) (fun _ => some (.int (nI (pcn (pl (rwd I L S q 15 ^^^ rwd I (wrw S L q (wdO x) 15) S q 15) 15) 15)))) (fun _ => WC ad g I (wrw S L q (wdO x) 15) S) (fun _ => True) 0 0 := by
  refine ct_of (by decide +kernel) (Nat.le_of_ble_eq_true rfl) ?_
  intro p e s m below meth c A X hr hnm hSB hRO hAf
  refine g_cs (ws' := WC ad g I L S) (lv' := [(0, .ref (ad 0)), (1, .int (nI q)), (2, .long x)]) rfl rfl ?_
  refine g_run X KX5_write_0_0 KX5_write_0_0_d 1 [(0, .ref (ad 0)), (1, .int (nI q)), (2, .long x)] [.int (nI q)] rfl ?_
  refine g_callS X hSB hAf (As := [.int (nI q)]) (wr := WC ad g I L S) (n := 1) (c_X5_checkLine l D g q (by omega)) rfl srcN hrdN w_435 w_433 w_434 w_1 (by decide +kernel) rfl ⟨Nat.le_of_ble_eq_true rfl, Nat.le_of_ble_eq_true rfl⟩ rfl rfl rfl (Nat.le_of_ble_eq_true rfl) ⟨Nat.le_of_ble_eq_true rfl, Nat.le_of_ble_eq_true rfl⟩ dX5_write_1 (fun hu1 _ => ?_)
  refine g_af (ws' := WC ad g I L S) (st' := []) (cells' := 0) (slots' := 0) (pc' := 4) rfl rfl rfl rfl rfl ?_
  refine g_run X KX5_write_4_1 KX5_write_4_1_d 5 [(0, .ref (ad 0)), (1, .int (nI q)), (2, .long x)] [.long x] rfl ?_
  refine g_callS X hSB hAf (As := [.long x]) (wr := WC ad g I L S) (n := 1) (c_X5_checkData l D g x (hx)) rfl srcN hrdN w_507 w_505 w_506 w_1 (by decide +kernel) rfl ⟨Nat.le_of_ble_eq_true rfl, Nat.le_of_ble_eq_true rfl⟩ rfl rfl rfl (Nat.le_of_ble_eq_true rfl) ⟨Nat.le_of_ble_eq_true rfl, Nat.le_of_ble_eq_true rfl⟩ dX5_write_5 (fun hu2 _ => ?_)
  refine g_af (ws' := WC ad g I L S) (st' := []) (cells' := 0) (slots' := 0) (pc' := 8) rfl rfl rfl rfl rfl ?_
  refine g_run X KX5_write_8_2 KX5_write_8_2_d 9 [(0, .ref (ad 0)), (1, .int (nI q)), (2, .long x)] [.ref (ad 0)] rfl ?_
  refine g_get X srcW (v := .ref (ad 1)) hinX5 rfl 0 (by decide) w_183 rfl (wc_mem (k := 0) (by decide)) rfl dX5_write_9 ?_
  refine g_run X KX5_write_12_3 KX5_write_12_3_d 13 [(0, .ref (ad 0)), (1, .int (nI q)), (2, .long x)] [.int (nI q), .ref (ad 1)] rfl ?_
  refine g_callV X hSB hAf (srcW) (hrc1 := (rfl : CL[3]? = some _)) (wc_mem (k := 1) (by decide)) rfl (As := [.int (nI q)]) (wr := WC ad g I L S) (n := 1) (c_X4_readWord l D g ad I L S q (hS18) (by omega)) rfl srcW hrdC w_244 w_441 w_242 w_243 w_2 (by decide +kernel) rfl ⟨Nat.le_of_ble_eq_true rfl, Nat.le_of_ble_eq_true rfl⟩ rfl rfl rfl (Nat.le_of_ble_eq_true rfl) ⟨Nat.le_of_ble_eq_true rfl, Nat.le_of_ble_eq_true rfl⟩ dX5_write_13 (fun hu3 _ => ?_)
  refine g_af (ws' := WC ad g I L S) (st' := [.long (rwd I L S q 15)]) (cells' := 0) (slots' := 0) (pc' := 16) rfl rfl rfl rfl rfl ?_
  refine g_run X KX5_write_16_4 KX5_write_16_4_d 19 [(4, .long (rwd I L S q 15)), (0, .ref (ad 0)), (1, .int (nI q)), (2, .long x)] [.ref (ad 0)] rfl ?_
  refine g_get X srcW (v := .ref (ad 1)) hinX5 rfl 0 (by decide) w_183 rfl (wc_mem (k := 0) (by decide)) rfl dX5_write_19 ?_
  refine g_run X KX5_write_22_5 KX5_write_22_5_d 24 [(4, .long (rwd I L S q 15)), (0, .ref (ad 0)), (1, .int (nI q)), (2, .long x)] [.long x, .int (nI q), .ref (ad 1)] rfl ?_
  refine g_callS X hSB hAf (As := [.long x]) (wr := WC ad g I L S) (n := 1) (c_X2_wordOf l D g x ) rfl srcN hrdN w_512 w_510 w_511 w_22 (by decide +kernel) rfl ⟨Nat.le_of_ble_eq_true rfl, Nat.le_of_ble_eq_true rfl⟩ rfl rfl rfl (Nat.le_of_ble_eq_true rfl) ⟨Nat.le_of_ble_eq_true rfl, Nat.le_of_ble_eq_true rfl⟩ dX5_write_24 (fun hu4 _ => ?_)
  refine g_af (ws' := WC ad g I L S) (st' := [.long (oL (mw 15 (x <<< ((nI 16).toInt64 &&& 63)))), .int (nI q), .ref (ad 1)]) (cells' := 0) (slots' := 0) (pc' := 27) rfl rfl rfl rfl rfl ?_
  refine g_callV X hSB hAf (srcW) (hrc1 := (rfl : CL[3]? = some _)) (wc_mem (k := 1) (by decide)) rfl (As := [.int (nI q), .long (oL (mw 15 (x <<< ((nI 16).toInt64 &&& 63))))]) (wr := []) (n := 2) (c_X4_writeWord l D g ad I L S q (oL (mw 15 (x <<< ((nI 16).toInt64 &&& 63)))) (hS18) (by omega)) (List.append_nil _).symm srcN hrdN w_212 w_514 w_210 w_211 w_2 (by decide +kernel) rfl ⟨Nat.le_of_ble_eq_true rfl, Nat.le_of_ble_eq_true rfl⟩ rfl rfl rfl (Nat.le_of_ble_eq_true rfl) ⟨Nat.le_of_ble_eq_true rfl, Nat.le_of_ble_eq_true rfl⟩ dX5_write_27 (fun hu5 _ => ?_)
  refine g_af (ws' := WC ad g I (wrw S L q (oL (mw 15 (x <<< ((nI 16).toInt64 &&& 63)))) 15) S) (st' := []) (cells' := 0) (slots' := 0) (pc' := 30) (List.append_nil _).symm rfl rfl rfl rfl ?_
  refine g_run X KX5_write_30_6 KX5_write_30_6_d 33 [(4, .long (rwd I L S q 15)), (0, .ref (ad 0)), (1, .int (nI q)), (2, .long x)] [.ref (ad 0), .long (rwd I L S q 15)] rfl ?_
  refine g_get X srcW (v := .ref (ad 1)) hinX5 rfl 0 (by decide) w_183 rfl (wc_mem (k := 0) (by decide)) rfl dX5_write_33 ?_
  refine g_run X KX5_write_36_7 KX5_write_36_7_d 37 [(4, .long (rwd I L S q 15)), (0, .ref (ad 0)), (1, .int (nI q)), (2, .long x)] [.int (nI q), .ref (ad 1), .long (rwd I L S q 15)] rfl ?_
  refine g_callV X hSB hAf (srcW) (hrc1 := (rfl : CL[3]? = some _)) (wc_mem (k := 1) (by decide)) rfl (As := [.int (nI q)]) (wr := WC ad g I (wrw S L q (oL (mw 15 (x <<< ((nI 16).toInt64 &&& 63)))) 15) S) (n := 1) (c_X4_readWord l D g ad I (wrw S L q (oL (mw 15 (x <<< ((nI 16).toInt64 &&& 63)))) 15) S q (hS18) (by omega)) rfl srcW hrdC w_244 w_441 w_242 w_243 w_2 (by decide +kernel) rfl ⟨Nat.le_of_ble_eq_true rfl, Nat.le_of_ble_eq_true rfl⟩ rfl rfl rfl (Nat.le_of_ble_eq_true rfl) ⟨Nat.le_of_ble_eq_true rfl, Nat.le_of_ble_eq_true rfl⟩ dX5_write_37 (fun hu6 _ => ?_)
  refine g_af (ws' := WC ad g I (wrw S L q (oL (mw 15 (x <<< ((nI 16).toInt64 &&& 63)))) 15) S) (st' := [.long (rwd I (wrw S L q (oL (mw 15 (x <<< ((nI 16).toInt64 &&& 63)))) 15) S q 15), .long (rwd I L S q 15)]) (cells' := 0) (slots' := 0) (pc' := 40) rfl rfl rfl rfl rfl ?_
  refine g_run X KX5_write_40_8 KX5_write_40_8_d 41 [(4, .long (rwd I L S q 15)), (0, .ref (ad 0)), (1, .int (nI q)), (2, .long x)] [.long ((rwd I L S q 15) ^^^ (rwd I (wrw S L q (oL (mw 15 (x <<< ((nI 16).toInt64 &&& 63)))) 15) S q 15))] rfl ?_
  refine g_callS X hSB hAf (As := [.long ((rwd I L S q 15) ^^^ (rwd I (wrw S L q (oL (mw 15 (x <<< ((nI 16).toInt64 &&& 63)))) 15) S q 15))]) (wr := WC ad g I (wrw S L q (oL (mw 15 (x <<< ((nI 16).toInt64 &&& 63)))) 15) S) (n := 1) (c_X2_placesIn l D g ((rwd I L S q 15) ^^^ (rwd I (wrw S L q (oL (mw 15 (x <<< ((nI 16).toInt64 &&& 63)))) 15) S q 15)) ) rfl srcN hrdN w_444 w_442 w_443 w_22 (by decide +kernel) rfl ⟨Nat.le_of_ble_eq_true rfl, Nat.le_of_ble_eq_true rfl⟩ rfl rfl rfl (Nat.le_of_ble_eq_true rfl) ⟨Nat.le_of_ble_eq_true rfl, Nat.le_of_ble_eq_true rfl⟩ dX5_write_41 (fun hu7 _ => ?_)
  refine g_af (ws' := WC ad g I (wrw S L q (oL (mw 15 (x <<< ((nI 16).toInt64 &&& 63)))) 15) S) (st' := [.int (nI (pl ((rwd I L S q 15) ^^^ (rwd I (wrw S L q (oL (mw 15 (x <<< ((nI 16).toInt64 &&& 63)))) 15) S q 15)) 15))]) (cells' := 0) (slots' := 0) (pc' := 44) rfl rfl rfl rfl rfl ?_
  refine g_callS X hSB hAf (As := [.int (nI (pl ((rwd I L S q 15) ^^^ (rwd I (wrw S L q (oL (mw 15 (x <<< ((nI 16).toInt64 &&& 63)))) 15) S q 15)) 15))]) (wr := WC ad g I (wrw S L q (oL (mw 15 (x <<< ((nI 16).toInt64 &&& 63)))) 15) S) (n := 1) (c_J6_bitCount_0f7a4 l D g (pl ((rwd I L S q 15) ^^^ (rwd I (wrw S L q (oL (mw 15 (x <<< ((nI 16).toInt64 &&& 63)))) 15) S q 15)) 15) (pl_lt _ _)) rfl srcN hrdN w_259 w_309 w_258 w_24 (by decide +kernel) rfl ⟨Nat.le_of_ble_eq_true rfl, Nat.le_of_ble_eq_true rfl⟩ rfl rfl rfl (Nat.le_of_ble_eq_true rfl) ⟨Nat.le_of_ble_eq_true rfl, Nat.le_of_ble_eq_true rfl⟩ dX5_write_44 (fun hu8 _ => ?_)
  refine g_af (ws' := WC ad g I (wrw S L q (oL (mw 15 (x <<< ((nI 16).toInt64 &&& 63)))) 15) S) (st' := [.int (nI (pcn (pl ((rwd I L S q 15) ^^^ (rwd I (wrw S L q (oL (mw 15 (x <<< ((nI 16).toInt64 &&& 63)))) 15) S q 15)) 15) 15))]) (cells' := 0) (slots' := 0) (pc' := 47) rfl rfl rfl rfl rfl ?_
  exact g_iret X hr () (rfl) (trivial) ((List.append_nil _).symm) (Nat.le_of_ble_eq_true rfl) (Nat.le_of_ble_eq_true rfl) dX5_write_47

set_option maxHeartbeats 4000000 in
set_option maxRecDepth 100000 in
theorem x_X5_write_1 (l : Launch) (hfl : l.stackTraces = false) (D : va_G) (g : Nat → ClassId) (ad : Nat → Nat) (I : Nat → Nat → Int32) (L : Nat → Nat → Int64) (S : Nat → Nat) (x : Int32) (y : Int64) (hx : x < 0 ∨ ¬ x < nI 16) : CX l yX5_write cX5_write 6 ((Option.some FieldType.int)) ({ frames := 7, cells := 1, slots := 6, locals := 120 } : Room) [.ref (ad 0), .int x, .long y] D CL (TYS g) (WC ad g I L S) xIO 1 6 := by
  refine cx_of (by decide +kernel) (Nat.le_of_ble_eq_true rfl) ?_
  intro p e s m below meth c A X hnt hSB hRO hAf
  refine g_cs (ws' := []) (lv' := [(0, .ref (ad 0)), (1, .int x), (2, .long y)]) rfl rfl ?_
  refine g_run X KX5_write_0_0 KX5_write_0_0_d 1 [(0, .ref (ad 0)), (1, .int x), (2, .long y)] [.int x] rfl ?_
  exact gx_callS X hSB hAf hnt (As := [.int x]) (n := 1) (x_X5_checkLine l hfl D g x (hx)) srcN w_435 w_433 w_434 w_1 (by decide +kernel) rfl ⟨Nat.le_of_ble_eq_true rfl, Nat.le_of_ble_eq_true rfl⟩ rfl rfl rfl (Nat.le_of_ble_eq_true rfl) ⟨Nat.le_of_ble_eq_true rfl, Nat.le_of_ble_eq_true rfl⟩ (Nat.le_of_ble_eq_true rfl) (Nat.le_of_ble_eq_true rfl) dX5_write_1

set_option maxHeartbeats 4000000 in
set_option maxRecDepth 100000 in
theorem x_X5_write_2 (l : Launch) (hfl : l.stackTraces = false) (D : va_G) (g : Nat → ClassId) (ad : Nat → Nat) (I : Nat → Nat → Int32) (L : Nat → Nat → Int64) (S : Nat → Nat) (q : Nat) (x : Int64) (hq : q < 16) (hx : ¬ dOK x) : CX l yX5_write cX5_write 6 ((Option.some FieldType.int)) ({ frames := 7, cells := 1, slots := 6, locals := 121 } : Room) [.ref (ad 0), .int (nI q), .long x] D CL (TYS g) (WC ad g I L S) xIA 1 6 := by
  refine cx_of (by decide +kernel) (Nat.le_of_ble_eq_true rfl) ?_
  intro p e s m below meth c A X hnt hSB hRO hAf
  refine g_cs (ws' := []) (lv' := [(0, .ref (ad 0)), (1, .int (nI q)), (2, .long x)]) rfl rfl ?_
  refine g_run X KX5_write_0_0 KX5_write_0_0_d 1 [(0, .ref (ad 0)), (1, .int (nI q)), (2, .long x)] [.int (nI q)] rfl ?_
  refine g_callS X hSB hAf (As := [.int (nI q)]) (wr := []) (n := 1) (c_X5_checkLine l D g q (by omega)) rfl srcN hrdN w_435 w_433 w_434 w_1 (by decide +kernel) rfl ⟨Nat.le_of_ble_eq_true rfl, Nat.le_of_ble_eq_true rfl⟩ rfl rfl rfl (Nat.le_of_ble_eq_true rfl) ⟨Nat.le_of_ble_eq_true rfl, Nat.le_of_ble_eq_true rfl⟩ dX5_write_1 (fun hu1 _ => ?_)
  refine g_af (ws' := []) (st' := []) (cells' := 0) (slots' := 0) (pc' := 4) rfl rfl rfl rfl rfl ?_
  refine g_run X KX5_write_4_1 KX5_write_4_1_d 5 [(0, .ref (ad 0)), (1, .int (nI q)), (2, .long x)] [.long x] rfl ?_
  exact gx_callS X hSB hAf hnt (As := [.long x]) (n := 1) (x_X5_checkData l hfl D g x (hx)) srcN w_507 w_505 w_506 w_1 (by decide +kernel) rfl ⟨Nat.le_of_ble_eq_true rfl, Nat.le_of_ble_eq_true rfl⟩ rfl rfl rfl (Nat.le_of_ble_eq_true rfl) ⟨Nat.le_of_ble_eq_true rfl, Nat.le_of_ble_eq_true rfl⟩ (Nat.le_of_ble_eq_true rfl) (Nat.le_of_ble_eq_true rfl) dX5_write_5

def KX5_stick_0_0 : List (Nat × Instr × Nat) := [(0, .iload_n 1, 1)]
theorem KX5_stick_0_0_d : ∀ z ∈ KX5_stick_0_0, decode cX5_stick z.1 = .ok z.2 := by decide +kernel
def KX5_stick_4_1 : List (Nat × Instr × Nat) := [(4, .iload_n 2, 1)]
theorem KX5_stick_4_1_d : ∀ z ∈ KX5_stick_4_1, decode cX5_stick z.1 = .ok z.2 := by decide +kernel
def KX5_stick_8_2 : List (Nat × Instr × Nat) := [(8, .iload_n 3, 1)]
theorem KX5_stick_8_2_d : ∀ z ∈ KX5_stick_8_2, decode cX5_stick z.1 = .ok z.2 := by decide +kernel
def KX5_stick_12_3 : List (Nat × Instr × Nat) := [(12, .iload 4, 2)]
theorem KX5_stick_12_3_d : ∀ z ∈ KX5_stick_12_3, decode cX5_stick z.1 = .ok z.2 := by decide +kernel
def KX5_stick_17_4 : List (Nat × Instr × Nat) := [(17, .aload_n 0, 1)]
theorem KX5_stick_17_4_d : ∀ z ∈ KX5_stick_17_4, decode cX5_stick z.1 = .ok z.2 := by decide +kernel
def KX5_stick_24_5 : List (Nat × Instr × Nat) := [(24, .iload_n 1, 1)]
theorem KX5_stick_24_5_d : ∀ z ∈ KX5_stick_24_5, decode cX5_stick z.1 = .ok z.2 := by decide +kernel
def KX5_stick_26_6 : List (Nat × Instr × Nat) := [(26, .iload_n 2, 1), (27, .iload_n 3, 1), (28, .iload 4, 2)]
theorem KX5_stick_26_6_d : ∀ z ∈ KX5_stick_26_6, decode cX5_stick z.1 = .ok z.2 := by decide +kernel
def KX5_stick_33_7 : List (Nat × Instr × Nat) := [(33, .aload_n 0, 1)]
theorem KX5_stick_33_7_d : ∀ z ∈ KX5_stick_33_7, decode cX5_stick z.1 = .ok z.2 := by decide +kernel
def KX5_stick_40_8 : List (Nat × Instr × Nat) := [(40, .iload_n 1, 1)]
theorem KX5_stick_40_8_d : ∀ z ∈ KX5_stick_40_8, decode cX5_stick z.1 = .ok z.2 := by decide +kernel
set_option maxHeartbeats 4000000 in
set_option maxRecDepth 100000 in
theorem c_X5_stick (l : Launch) (D : va_G) (g : Nat → ClassId) (ad : Nat → Nat) (I : Nat → Nat → Int32) (L : Nat → Nat → Int64) (S : Nat → Nat) (ch : Nat) (q : Nat) (v : Nat) (z : Nat) (hch : ch < 18) (hq : q < 16) (hv : v < 16) (hz : z < 16) : CT l yX5_stick cX5_stick 5 ((Option.some FieldType.int)) ({ frames := 2, cells := 0, slots := 0, locals := 47 } : Room) [.ref (ad 0), .int (nI ch), .int (nI q), .int (nI v), .int (nI z)] D CL (TYS g) ([]) (WC ad g I L S) (S := Unit) (fun _ => some (.int (nI (stk (u2 (u2 L 1 ch (wn (L 1 ch) q v)) 2 ch (wn (L 2 ch) q z)) ch 16)))) (fun _ => WC ad g I (u2 (u2 L 1 ch (wn (L 1 ch) q v)) 2 ch (wn (L 2 ch) q z)) S) (fun _ => True) 0 0 := by
  refine ct_of (by decide +kernel) (Nat.le_of_ble_eq_true rfl) ?_
  intro p e s m below meth c A X hr hnm hSB hRO hAf
  refine g_cs (ws' := WC ad g I L S) (lv' := [(0, .ref (ad 0)), (1, .int (nI ch)), (2, .int (nI q)), (3, .int (nI v)), (4, .int (nI z))]) rfl rfl ?_
  refine g_run X KX5_stick_0_0 KX5_stick_0_0_d 1 [(0, .ref (ad 0)), (1, .int (nI ch)), (2, .int (nI q)), (3, .int (nI v)), (4, .int (nI z))] [.int (nI ch)] rfl ?_
  refine g_callS X hSB hAf (As := [.int (nI ch)]) (wr := WC ad g I L S) (n := 1) (c_X5_checkChip l D g ch (by omega)) rfl srcN hrdN w_407 w_405 w_406 w_1 (by decide +kernel) rfl ⟨Nat.le_of_ble_eq_true rfl, Nat.le_of_ble_eq_true rfl⟩ rfl rfl rfl (Nat.le_of_ble_eq_true rfl) ⟨Nat.le_of_ble_eq_true rfl, Nat.le_of_ble_eq_true rfl⟩ dX5_stick_1 (fun hu1 _ => ?_)
  refine g_af (ws' := WC ad g I L S) (st' := []) (cells' := 0) (slots' := 0) (pc' := 4) rfl rfl rfl rfl rfl ?_
  refine g_run X KX5_stick_4_1 KX5_stick_4_1_d 5 [(0, .ref (ad 0)), (1, .int (nI ch)), (2, .int (nI q)), (3, .int (nI v)), (4, .int (nI z))] [.int (nI q)] rfl ?_
  refine g_callS X hSB hAf (As := [.int (nI q)]) (wr := WC ad g I L S) (n := 1) (c_X5_checkLine l D g q (by omega)) rfl srcN hrdN w_435 w_433 w_434 w_1 (by decide +kernel) rfl ⟨Nat.le_of_ble_eq_true rfl, Nat.le_of_ble_eq_true rfl⟩ rfl rfl rfl (Nat.le_of_ble_eq_true rfl) ⟨Nat.le_of_ble_eq_true rfl, Nat.le_of_ble_eq_true rfl⟩ dX5_stick_5 (fun hu2 _ => ?_)
  refine g_af (ws' := WC ad g I L S) (st' := []) (cells' := 0) (slots' := 0) (pc' := 8) rfl rfl rfl rfl rfl ?_
  refine g_run X KX5_stick_8_2 KX5_stick_8_2_d 9 [(0, .ref (ad 0)), (1, .int (nI ch)), (2, .int (nI q)), (3, .int (nI v)), (4, .int (nI z))] [.int (nI v)] rfl ?_
  refine g_callS X hSB hAf (As := [.int (nI v)]) (wr := WC ad g I L S) (n := 1) (c_X5_checkElement l D g v (by omega)) rfl srcN hrdN w_524 w_522 w_523 w_1 (by decide +kernel) rfl ⟨Nat.le_of_ble_eq_true rfl, Nat.le_of_ble_eq_true rfl⟩ rfl rfl rfl (Nat.le_of_ble_eq_true rfl) ⟨Nat.le_of_ble_eq_true rfl, Nat.le_of_ble_eq_true rfl⟩ dX5_stick_9 (fun hu3 _ => ?_)
  refine g_af (ws' := WC ad g I L S) (st' := []) (cells' := 0) (slots' := 0) (pc' := 12) rfl rfl rfl rfl rfl ?_
  refine g_run X KX5_stick_12_3 KX5_stick_12_3_d 14 [(0, .ref (ad 0)), (1, .int (nI ch)), (2, .int (nI q)), (3, .int (nI v)), (4, .int (nI z))] [.int (nI z)] rfl ?_
  refine g_callS X hSB hAf (As := [.int (nI z)]) (wr := WC ad g I L S) (n := 1) (c_X5_checkElement l D g z (by omega)) rfl srcN hrdN w_524 w_522 w_523 w_1 (by decide +kernel) rfl ⟨Nat.le_of_ble_eq_true rfl, Nat.le_of_ble_eq_true rfl⟩ rfl rfl rfl (Nat.le_of_ble_eq_true rfl) ⟨Nat.le_of_ble_eq_true rfl, Nat.le_of_ble_eq_true rfl⟩ dX5_stick_14 (fun hu4 _ => ?_)
  refine g_af (ws' := WC ad g I L S) (st' := []) (cells' := 0) (slots' := 0) (pc' := 17) rfl rfl rfl rfl rfl ?_
  refine g_run X KX5_stick_17_4 KX5_stick_17_4_d 18 [(0, .ref (ad 0)), (1, .int (nI ch)), (2, .int (nI q)), (3, .int (nI v)), (4, .int (nI z))] [.ref (ad 0)] rfl ?_
  refine g_get X srcW (v := .ref (ad 1)) hinX5 rfl 0 (by decide) w_183 rfl (wc_mem (k := 0) (by decide)) rfl dX5_stick_18 ?_
  refine g_get X srcW (v := .ref (ad 2)) hinX4 rfl 0 (by decide) w_94 rfl (wc_mem (k := 1) (by decide)) rfl dX5_stick_21 ?_
  refine g_run X KX5_stick_24_5 KX5_stick_24_5_d 25 [(0, .ref (ad 0)), (1, .int (nI ch)), (2, .int (nI q)), (3, .int (nI v)), (4, .int (nI z))] [.int (nI ch), .ref (ad 2)] rfl ?_
  refine g_aald X srcW (b := ad (ch + 10)) 1 rfl (wc_mem (k := 2) (by decide)) ch rfl (by omega) (by decide) (rfl) dX5_stick_25 ?_
  refine g_run X KX5_stick_26_6 KX5_stick_26_6_d 30 [(0, .ref (ad 0)), (1, .int (nI ch)), (2, .int (nI q)), (3, .int (nI v)), (4, .int (nI z))] [.int (nI z), .int (nI v), .int (nI q), .ref (ad (ch + 10))] rfl ?_
  refine g_callV X hSB hAf (srcW) (hrc1 := (rfl : CL[1]? = some _)) (wc_chip (by omega)) rfl (As := [.int (nI q), .int (nI v), .int (nI z)]) (wr := []) (n := 3) (c_X1_stickCell l D g ad I L S ch q v z (by omega) (by omega)) (List.append_nil _).symm srcN hrdN w_529 w_526 w_527 w_528 w_3 (by decide +kernel) rfl ⟨Nat.le_of_ble_eq_true rfl, Nat.le_of_ble_eq_true rfl⟩ rfl rfl rfl (Nat.le_of_ble_eq_true rfl) ⟨Nat.le_of_ble_eq_true rfl, Nat.le_of_ble_eq_true rfl⟩ dX5_stick_30 (fun hu5 _ => ?_)
  refine g_af (ws' := WC ad g I (u2 (u2 L 1 ch (wn (L 1 ch) q v)) 2 ch (wn (L 2 ch) q z)) S) (st' := []) (cells' := 0) (slots' := 0) (pc' := 33) (List.append_nil _).symm rfl rfl rfl rfl ?_
  refine g_run X KX5_stick_33_7 KX5_stick_33_7_d 34 [(0, .ref (ad 0)), (1, .int (nI ch)), (2, .int (nI q)), (3, .int (nI v)), (4, .int (nI z))] [.ref (ad 0)] rfl ?_
  refine g_get X srcW (v := .ref (ad 1)) hinX5 rfl 0 (by decide) w_183 rfl (wc_mem (k := 0) (by decide)) rfl dX5_stick_34 ?_
  refine g_get X srcW (v := .ref (ad 2)) hinX4 rfl 0 (by decide) w_94 rfl (wc_mem (k := 1) (by decide)) rfl dX5_stick_37 ?_
  refine g_run X KX5_stick_40_8 KX5_stick_40_8_d 41 [(0, .ref (ad 0)), (1, .int (nI ch)), (2, .int (nI q)), (3, .int (nI v)), (4, .int (nI z))] [.int (nI ch), .ref (ad 2)] rfl ?_
  refine g_aald X srcW (b := ad (ch + 10)) 1 rfl (wc_mem (k := 2) (by decide)) ch rfl (by omega) (by decide) (rfl) dX5_stick_41 ?_
  refine g_callV X hSB hAf (srcW) (hrc1 := (rfl : CL[1]? = some _)) (wc_chip (by omega)) rfl (As := []) (wr := WC ad g I (u2 (u2 L 1 ch (wn (L 1 ch) q v)) 2 ch (wn (L 2 ch) q z)) S) (n := 0) (c_X1_stuckCells l D g ad I (u2 (u2 L 1 ch (wn (L 1 ch) q v)) 2 ch (wn (L 2 ch) q z)) S ch (by omega)) rfl srcW hrdC w_427 w_424 w_425 w_426 w_3 (by decide +kernel) rfl ⟨Nat.le_of_ble_eq_true rfl, Nat.le_of_ble_eq_true rfl⟩ rfl rfl rfl (Nat.le_of_ble_eq_true rfl) ⟨Nat.le_of_ble_eq_true rfl, Nat.le_of_ble_eq_true rfl⟩ dX5_stick_42 (fun hu6 _ => ?_)
  refine g_af (ws' := WC ad g I (u2 (u2 L 1 ch (wn (L 1 ch) q v)) 2 ch (wn (L 2 ch) q z)) S) (st' := [.int (nI (stk (u2 (u2 L 1 ch (wn (L 1 ch) q v)) 2 ch (wn (L 2 ch) q z)) ch 16))]) (cells' := 0) (slots' := 0) (pc' := 45) rfl rfl rfl rfl rfl ?_
  exact g_iret X hr () (rfl) (trivial) ((List.append_nil _).symm) (Nat.le_of_ble_eq_true rfl) (Nat.le_of_ble_eq_true rfl) dX5_stick_45

set_option maxHeartbeats 4000000 in
set_option maxRecDepth 100000 in
theorem x_X5_stick_1 (l : Launch) (hfl : l.stackTraces = false) (D : va_G) (g : Nat → ClassId) (ad : Nat → Nat) (I : Nat → Nat → Int32) (L : Nat → Nat → Int64) (S : Nat → Nat) (x : Int32) (y1 : Int32) (y2 : Int32) (y3 : Int32) (hx : x < 0 ∨ ¬ x < nI 18) : CX l yX5_stick cX5_stick 5 ((Option.some FieldType.int)) ({ frames := 7, cells := 1, slots := 6, locals := 120 } : Room) [.ref (ad 0), .int x, .int y1, .int y2, .int y3] D CL (TYS g) (WC ad g I L S) xIO 1 6 := by
  refine cx_of (by decide +kernel) (Nat.le_of_ble_eq_true rfl) ?_
  intro p e s m below meth c A X hnt hSB hRO hAf
  refine g_cs (ws' := []) (lv' := [(0, .ref (ad 0)), (1, .int x), (2, .int y1), (3, .int y2), (4, .int y3)]) rfl rfl ?_
  refine g_run X KX5_stick_0_0 KX5_stick_0_0_d 1 [(0, .ref (ad 0)), (1, .int x), (2, .int y1), (3, .int y2), (4, .int y3)] [.int x] rfl ?_
  exact gx_callS X hSB hAf hnt (As := [.int x]) (n := 1) (x_X5_checkChip l hfl D g x (hx)) srcN w_407 w_405 w_406 w_1 (by decide +kernel) rfl ⟨Nat.le_of_ble_eq_true rfl, Nat.le_of_ble_eq_true rfl⟩ rfl rfl rfl (Nat.le_of_ble_eq_true rfl) ⟨Nat.le_of_ble_eq_true rfl, Nat.le_of_ble_eq_true rfl⟩ (Nat.le_of_ble_eq_true rfl) (Nat.le_of_ble_eq_true rfl) dX5_stick_1

set_option maxHeartbeats 4000000 in
set_option maxRecDepth 100000 in
theorem x_X5_stick_2 (l : Launch) (hfl : l.stackTraces = false) (D : va_G) (g : Nat → ClassId) (ad : Nat → Nat) (I : Nat → Nat → Int32) (L : Nat → Nat → Int64) (S : Nat → Nat) (ch : Nat) (x : Int32) (y1 : Int32) (y2 : Int32) (hch : ch < 18) (hx : x < 0 ∨ ¬ x < nI 16) : CX l yX5_stick cX5_stick 5 ((Option.some FieldType.int)) ({ frames := 7, cells := 1, slots := 6, locals := 120 } : Room) [.ref (ad 0), .int (nI ch), .int x, .int y1, .int y2] D CL (TYS g) (WC ad g I L S) xIO 1 6 := by
  refine cx_of (by decide +kernel) (Nat.le_of_ble_eq_true rfl) ?_
  intro p e s m below meth c A X hnt hSB hRO hAf
  refine g_cs (ws' := []) (lv' := [(0, .ref (ad 0)), (1, .int (nI ch)), (2, .int x), (3, .int y1), (4, .int y2)]) rfl rfl ?_
  refine g_run X KX5_stick_0_0 KX5_stick_0_0_d 1 [(0, .ref (ad 0)), (1, .int (nI ch)), (2, .int x), (3, .int y1), (4, .int y2)] [.int (nI ch)] rfl ?_
  refine g_callS X hSB hAf (As := [.int (nI ch)]) (wr := []) (n := 1) (c_X5_checkChip l D g ch (by omega)) rfl srcN hrdN w_407 w_405 w_406 w_1 (by decide +kernel) rfl ⟨Nat.le_of_ble_eq_true rfl, Nat.le_of_ble_eq_true rfl⟩ rfl rfl rfl (Nat.le_of_ble_eq_true rfl) ⟨Nat.le_of_ble_eq_true rfl, Nat.le_of_ble_eq_true rfl⟩ dX5_stick_1 (fun hu1 _ => ?_)
  refine g_af (ws' := []) (st' := []) (cells' := 0) (slots' := 0) (pc' := 4) rfl rfl rfl rfl rfl ?_
  refine g_run X KX5_stick_4_1 KX5_stick_4_1_d 5 [(0, .ref (ad 0)), (1, .int (nI ch)), (2, .int x), (3, .int y1), (4, .int y2)] [.int x] rfl ?_
  exact gx_callS X hSB hAf hnt (As := [.int x]) (n := 1) (x_X5_checkLine l hfl D g x (hx)) srcN w_435 w_433 w_434 w_1 (by decide +kernel) rfl ⟨Nat.le_of_ble_eq_true rfl, Nat.le_of_ble_eq_true rfl⟩ rfl rfl rfl (Nat.le_of_ble_eq_true rfl) ⟨Nat.le_of_ble_eq_true rfl, Nat.le_of_ble_eq_true rfl⟩ (Nat.le_of_ble_eq_true rfl) (Nat.le_of_ble_eq_true rfl) dX5_stick_5

set_option maxHeartbeats 4000000 in
set_option maxRecDepth 100000 in
theorem x_X5_stick_3 (l : Launch) (hfl : l.stackTraces = false) (D : va_G) (g : Nat → ClassId) (ad : Nat → Nat) (I : Nat → Nat → Int32) (L : Nat → Nat → Int64) (S : Nat → Nat) (ch : Nat) (q : Nat) (x : Int32) (y1 : Int32) (hch : ch < 18) (hq : q < 16) (hx : x < 0 ∨ ¬ x ≤ nI 15) : CX l yX5_stick cX5_stick 5 ((Option.some FieldType.int)) ({ frames := 7, cells := 1, slots := 6, locals := 120 } : Room) [.ref (ad 0), .int (nI ch), .int (nI q), .int x, .int y1] D CL (TYS g) (WC ad g I L S) xIA 1 6 := by
  refine cx_of (by decide +kernel) (Nat.le_of_ble_eq_true rfl) ?_
  intro p e s m below meth c A X hnt hSB hRO hAf
  refine g_cs (ws' := []) (lv' := [(0, .ref (ad 0)), (1, .int (nI ch)), (2, .int (nI q)), (3, .int x), (4, .int y1)]) rfl rfl ?_
  refine g_run X KX5_stick_0_0 KX5_stick_0_0_d 1 [(0, .ref (ad 0)), (1, .int (nI ch)), (2, .int (nI q)), (3, .int x), (4, .int y1)] [.int (nI ch)] rfl ?_
  refine g_callS X hSB hAf (As := [.int (nI ch)]) (wr := []) (n := 1) (c_X5_checkChip l D g ch (by omega)) rfl srcN hrdN w_407 w_405 w_406 w_1 (by decide +kernel) rfl ⟨Nat.le_of_ble_eq_true rfl, Nat.le_of_ble_eq_true rfl⟩ rfl rfl rfl (Nat.le_of_ble_eq_true rfl) ⟨Nat.le_of_ble_eq_true rfl, Nat.le_of_ble_eq_true rfl⟩ dX5_stick_1 (fun hu1 _ => ?_)
  refine g_af (ws' := []) (st' := []) (cells' := 0) (slots' := 0) (pc' := 4) rfl rfl rfl rfl rfl ?_
  refine g_run X KX5_stick_4_1 KX5_stick_4_1_d 5 [(0, .ref (ad 0)), (1, .int (nI ch)), (2, .int (nI q)), (3, .int x), (4, .int y1)] [.int (nI q)] rfl ?_
  refine g_callS X hSB hAf (As := [.int (nI q)]) (wr := []) (n := 1) (c_X5_checkLine l D g q (by omega)) rfl srcN hrdN w_435 w_433 w_434 w_1 (by decide +kernel) rfl ⟨Nat.le_of_ble_eq_true rfl, Nat.le_of_ble_eq_true rfl⟩ rfl rfl rfl (Nat.le_of_ble_eq_true rfl) ⟨Nat.le_of_ble_eq_true rfl, Nat.le_of_ble_eq_true rfl⟩ dX5_stick_5 (fun hu2 _ => ?_)
  refine g_af (ws' := []) (st' := []) (cells' := 0) (slots' := 0) (pc' := 8) rfl rfl rfl rfl rfl ?_
  refine g_run X KX5_stick_8_2 KX5_stick_8_2_d 9 [(0, .ref (ad 0)), (1, .int (nI ch)), (2, .int (nI q)), (3, .int x), (4, .int y1)] [.int x] rfl ?_
  exact gx_callS X hSB hAf hnt (As := [.int x]) (n := 1) (x_X5_checkElement l hfl D g x (hx)) srcN w_524 w_522 w_523 w_1 (by decide +kernel) rfl ⟨Nat.le_of_ble_eq_true rfl, Nat.le_of_ble_eq_true rfl⟩ rfl rfl rfl (Nat.le_of_ble_eq_true rfl) ⟨Nat.le_of_ble_eq_true rfl, Nat.le_of_ble_eq_true rfl⟩ (Nat.le_of_ble_eq_true rfl) (Nat.le_of_ble_eq_true rfl) dX5_stick_9

set_option maxHeartbeats 4000000 in
set_option maxRecDepth 100000 in
theorem x_X5_stick_4 (l : Launch) (hfl : l.stackTraces = false) (D : va_G) (g : Nat → ClassId) (ad : Nat → Nat) (I : Nat → Nat → Int32) (L : Nat → Nat → Int64) (S : Nat → Nat) (ch : Nat) (q : Nat) (v : Nat) (x : Int32) (hch : ch < 18) (hq : q < 16) (hv : v < 16) (hx : x < 0 ∨ ¬ x ≤ nI 15) : CX l yX5_stick cX5_stick 5 ((Option.some FieldType.int)) ({ frames := 7, cells := 1, slots := 6, locals := 120 } : Room) [.ref (ad 0), .int (nI ch), .int (nI q), .int (nI v), .int x] D CL (TYS g) (WC ad g I L S) xIA 1 6 := by
  refine cx_of (by decide +kernel) (Nat.le_of_ble_eq_true rfl) ?_
  intro p e s m below meth c A X hnt hSB hRO hAf
  refine g_cs (ws' := []) (lv' := [(0, .ref (ad 0)), (1, .int (nI ch)), (2, .int (nI q)), (3, .int (nI v)), (4, .int x)]) rfl rfl ?_
  refine g_run X KX5_stick_0_0 KX5_stick_0_0_d 1 [(0, .ref (ad 0)), (1, .int (nI ch)), (2, .int (nI q)), (3, .int (nI v)), (4, .int x)] [.int (nI ch)] rfl ?_
  refine g_callS X hSB hAf (As := [.int (nI ch)]) (wr := []) (n := 1) (c_X5_checkChip l D g ch (by omega)) rfl srcN hrdN w_407 w_405 w_406 w_1 (by decide +kernel) rfl ⟨Nat.le_of_ble_eq_true rfl, Nat.le_of_ble_eq_true rfl⟩ rfl rfl rfl (Nat.le_of_ble_eq_true rfl) ⟨Nat.le_of_ble_eq_true rfl, Nat.le_of_ble_eq_true rfl⟩ dX5_stick_1 (fun hu1 _ => ?_)
  refine g_af (ws' := []) (st' := []) (cells' := 0) (slots' := 0) (pc' := 4) rfl rfl rfl rfl rfl ?_
  refine g_run X KX5_stick_4_1 KX5_stick_4_1_d 5 [(0, .ref (ad 0)), (1, .int (nI ch)), (2, .int (nI q)), (3, .int (nI v)), (4, .int x)] [.int (nI q)] rfl ?_
  refine g_callS X hSB hAf (As := [.int (nI q)]) (wr := []) (n := 1) (c_X5_checkLine l D g q (by omega)) rfl srcN hrdN w_435 w_433 w_434 w_1 (by decide +kernel) rfl ⟨Nat.le_of_ble_eq_true rfl, Nat.le_of_ble_eq_true rfl⟩ rfl rfl rfl (Nat.le_of_ble_eq_true rfl) ⟨Nat.le_of_ble_eq_true rfl, Nat.le_of_ble_eq_true rfl⟩ dX5_stick_5 (fun hu2 _ => ?_)
  refine g_af (ws' := []) (st' := []) (cells' := 0) (slots' := 0) (pc' := 8) rfl rfl rfl rfl rfl ?_
  refine g_run X KX5_stick_8_2 KX5_stick_8_2_d 9 [(0, .ref (ad 0)), (1, .int (nI ch)), (2, .int (nI q)), (3, .int (nI v)), (4, .int x)] [.int (nI v)] rfl ?_
  refine g_callS X hSB hAf (As := [.int (nI v)]) (wr := []) (n := 1) (c_X5_checkElement l D g v (by omega)) rfl srcN hrdN w_524 w_522 w_523 w_1 (by decide +kernel) rfl ⟨Nat.le_of_ble_eq_true rfl, Nat.le_of_ble_eq_true rfl⟩ rfl rfl rfl (Nat.le_of_ble_eq_true rfl) ⟨Nat.le_of_ble_eq_true rfl, Nat.le_of_ble_eq_true rfl⟩ dX5_stick_9 (fun hu3 _ => ?_)
  refine g_af (ws' := []) (st' := []) (cells' := 0) (slots' := 0) (pc' := 12) rfl rfl rfl rfl rfl ?_
  refine g_run X KX5_stick_12_3 KX5_stick_12_3_d 14 [(0, .ref (ad 0)), (1, .int (nI ch)), (2, .int (nI q)), (3, .int (nI v)), (4, .int x)] [.int x] rfl ?_
  exact gx_callS X hSB hAf hnt (As := [.int x]) (n := 1) (x_X5_checkElement l hfl D g x (hx)) srcN w_524 w_522 w_523 w_1 (by decide +kernel) rfl ⟨Nat.le_of_ble_eq_true rfl, Nat.le_of_ble_eq_true rfl⟩ rfl rfl rfl (Nat.le_of_ble_eq_true rfl) ⟨Nat.le_of_ble_eq_true rfl, Nat.le_of_ble_eq_true rfl⟩ (Nat.le_of_ble_eq_true rfl) (Nat.le_of_ble_eq_true rfl) dX5_stick_14

def KX5_mad_0_0 : List (Nat × Instr × Nat) := [(0, .iload_n 1, 1)]
theorem KX5_mad_0_0_d : ∀ z ∈ KX5_mad_0_0, decode cX5_mad z.1 = .ok z.2 := by decide +kernel
def KX5_mad_4_1 : List (Nat × Instr × Nat) := [(4, .iload_n 2, 1), (5, .iconst (-1), 1)]
theorem KX5_mad_4_1_d : ∀ z ∈ KX5_mad_4_1, decode cX5_mad z.1 = .ok z.2 := by decide +kernel
def KX5_mad_9_2 : List (Nat × Instr × Nat) := [(9, .iload_n 2, 1)]
theorem KX5_mad_9_2_d : ∀ z ∈ KX5_mad_9_2, decode cX5_mad z.1 = .ok z.2 := by decide +kernel
def KX5_mad_13_3 : List (Nat × Instr × Nat) := [(13, .aload_n 0, 1)]
theorem KX5_mad_13_3_d : ∀ z ∈ KX5_mad_13_3, decode cX5_mad z.1 = .ok z.2 := by decide +kernel
def KX5_mad_20_4 : List (Nat × Instr × Nat) := [(20, .iload_n 1, 1)]
theorem KX5_mad_20_4_d : ∀ z ∈ KX5_mad_20_4, decode cX5_mad z.1 = .ok z.2 := by decide +kernel
def KX5_mad_25_5 : List (Nat × Instr × Nat) := [(25, .istore_n 3, 1), (26, .aload_n 0, 1)]
theorem KX5_mad_25_5_d : ∀ z ∈ KX5_mad_25_5, decode cX5_mad z.1 = .ok z.2 := by decide +kernel
def KX5_mad_33_6 : List (Nat × Instr × Nat) := [(33, .iload_n 1, 1)]
theorem KX5_mad_33_6_d : ∀ z ∈ KX5_mad_33_6, decode cX5_mad z.1 = .ok z.2 := by decide +kernel
def KX5_mad_35_7 : List (Nat × Instr × Nat) := [(35, .iload_n 2, 1)]
theorem KX5_mad_35_7_d : ∀ z ∈ KX5_mad_35_7, decode cX5_mad z.1 = .ok z.2 := by decide +kernel
def KX5_mad_39_8 : List (Nat × Instr × Nat) := [(39, .iload_n 3, 1)]
theorem KX5_mad_39_8_d : ∀ z ∈ KX5_mad_39_8, decode cX5_mad z.1 = .ok z.2 := by decide +kernel
set_option maxHeartbeats 4000000 in
set_option maxRecDepth 100000 in
theorem c_X5_mad (l : Launch) (D : va_G) (g : Nat → ClassId) (ad : Nat → Nat) (I : Nat → Nat → Int32) (L : Nat → Nat → Int64) (S : Nat → Nat) (ch : Nat) (k : Nat) (hch : ch < 18) (hk : k < 16) : CT l yX5_mad cX5_mad 4 ((Option.some FieldType.int)) ({ frames := 1, cells := 0, slots := 0, locals := 20 } : Room) [.ref (ad 0), .int (nI ch), .int (nI k)] D CL (TYS g) ([]) (WC ad g I L S) (S := Unit) (fun _ => some (.int (I 1 ch))) (fun _ => WC ad g (u2 I 1 ch (nI k)) L S) (fun _ => True) 0 0 := by
  refine ct_of (by decide +kernel) (Nat.le_of_ble_eq_true rfl) ?_
  intro p e s m below meth c A X hr hnm hSB hRO hAf
  refine g_cs (ws' := WC ad g I L S) (lv' := [(0, .ref (ad 0)), (1, .int (nI ch)), (2, .int (nI k))]) rfl rfl ?_
  refine g_run X KX5_mad_0_0 KX5_mad_0_0_d 1 [(0, .ref (ad 0)), (1, .int (nI ch)), (2, .int (nI k))] [.int (nI ch)] rfl ?_
  refine g_callS X hSB hAf (As := [.int (nI ch)]) (wr := WC ad g I L S) (n := 1) (c_X5_checkChip l D g ch (by omega)) rfl srcN hrdN w_407 w_405 w_406 w_1 (by decide +kernel) rfl ⟨Nat.le_of_ble_eq_true rfl, Nat.le_of_ble_eq_true rfl⟩ rfl rfl rfl (Nat.le_of_ble_eq_true rfl) ⟨Nat.le_of_ble_eq_true rfl, Nat.le_of_ble_eq_true rfl⟩ dX5_mad_1 (fun hu1 _ => ?_)
  refine g_af (ws' := WC ad g I L S) (st' := []) (cells' := 0) (slots' := 0) (pc' := 4) rfl rfl rfl rfl rfl ?_
  refine g_run X KX5_mad_4_1 KX5_mad_4_1_d 6 [(0, .ref (ad 0)), (1, .int (nI ch)), (2, .int (nI k))] [.int (-nI 1), .int (nI k)] rfl ?_
  refine g_icmp_eq X 13 dX5_mad_6 (by decide) (fun hc2 => ?_) (fun hc2 => ?_)
  · exact absurd hc2 (m1_ne (by omega))
  · refine g_run X KX5_mad_9_2 KX5_mad_9_2_d 10 [(0, .ref (ad 0)), (1, .int (nI ch)), (2, .int (nI k))] [.int (nI k)] rfl ?_
    refine g_callS X hSB hAf (As := [.int (nI k)]) (wr := WC ad g I L S) (n := 1) (c_X5_checkElement l D g k (by omega)) rfl srcN hrdN w_524 w_522 w_523 w_1 (by decide +kernel) rfl ⟨Nat.le_of_ble_eq_true rfl, Nat.le_of_ble_eq_true rfl⟩ rfl rfl rfl (Nat.le_of_ble_eq_true rfl) ⟨Nat.le_of_ble_eq_true rfl, Nat.le_of_ble_eq_true rfl⟩ dX5_mad_10 (fun hu3 _ => ?_)
    refine g_af (ws' := WC ad g I L S) (st' := []) (cells' := 0) (slots' := 0) (pc' := 13) rfl rfl rfl rfl rfl ?_
    refine g_run X KX5_mad_13_3 KX5_mad_13_3_d 14 [(0, .ref (ad 0)), (1, .int (nI ch)), (2, .int (nI k))] [.ref (ad 0)] rfl ?_
    refine g_get X srcW (v := .ref (ad 1)) hinX5 rfl 0 (by decide) w_183 rfl (wc_mem (k := 0) (by decide)) rfl dX5_mad_14 ?_
    refine g_get X srcW (v := .ref (ad 2)) hinX4 rfl 0 (by decide) w_94 rfl (wc_mem (k := 1) (by decide)) rfl dX5_mad_17 ?_
    refine g_run X KX5_mad_20_4 KX5_mad_20_4_d 21 [(0, .ref (ad 0)), (1, .int (nI ch)), (2, .int (nI k))] [.int (nI ch), .ref (ad 2)] rfl ?_
    refine g_aald X srcW (b := ad (ch + 10)) 1 rfl (wc_mem (k := 2) (by decide)) ch rfl (by omega) (by decide) (rfl) dX5_mad_21 ?_
    refine g_get X srcW (v := .int (I 1 ch)) hinX1 rfl 2 (by decide) w_61 rfl (wc_chip (by omega)) rfl dX5_mad_22 ?_
    refine g_run X KX5_mad_25_5 KX5_mad_25_5_d 27 [(3, .int (I 1 ch)), (0, .ref (ad 0)), (1, .int (nI ch)), (2, .int (nI k))] [.ref (ad 0)] rfl ?_
    refine g_get X srcW (v := .ref (ad 1)) hinX5 rfl 0 (by decide) w_183 rfl (wc_mem (k := 0) (by decide)) rfl dX5_mad_27 ?_
    refine g_get X srcW (v := .ref (ad 2)) hinX4 rfl 0 (by decide) w_94 rfl (wc_mem (k := 1) (by decide)) rfl dX5_mad_30 ?_
    refine g_run X KX5_mad_33_6 KX5_mad_33_6_d 34 [(3, .int (I 1 ch)), (0, .ref (ad 0)), (1, .int (nI ch)), (2, .int (nI k))] [.int (nI ch), .ref (ad 2)] rfl ?_
    refine g_aald X srcW (b := ad (ch + 10)) 1 rfl (wc_mem (k := 2) (by decide)) ch rfl (by omega) (by decide) (rfl) dX5_mad_34 ?_
    refine g_run X KX5_mad_35_7 KX5_mad_35_7_d 36 [(3, .int (I 1 ch)), (0, .ref (ad 0)), (1, .int (nI ch)), (2, .int (nI k))] [.int (nI k), .ref (ad (ch + 10))] rfl ?_
    refine g_put X (ws' := WC ad g (u2 I 1 ch (nI k)) L S) hinX1 tyX1 tyX1_ok nmX1 rfl 2 (by decide) w_61 rfl rfl (ty := .int) rfl rfl rfl (ch + 10) (wc_get (k := ch + 10) (Nat.add_lt_add_right (by omega) 10)) (Nat.le_of_ble_eq_true rfl) (ws_ch2) dX5_mad_36 ?_
    refine g_run X KX5_mad_39_8 KX5_mad_39_8_d 40 [(3, .int (I 1 ch)), (0, .ref (ad 0)), (1, .int (nI ch)), (2, .int (nI k))] [.int (I 1 ch)] rfl ?_
    exact g_iret X hr () (rfl) (trivial) ((List.append_nil _).symm) (Nat.le_of_ble_eq_true rfl) (Nat.le_of_ble_eq_true rfl) dX5_mad_40

set_option maxHeartbeats 4000000 in
set_option maxRecDepth 100000 in
theorem c_X5_mad_n (l : Launch) (D : va_G) (g : Nat → ClassId) (ad : Nat → Nat) (I : Nat → Nat → Int32) (L : Nat → Nat → Int64) (S : Nat → Nat) (ch : Nat) (hch : ch < 18) : CT l yX5_mad cX5_mad 4 ((Option.some FieldType.int)) ({ frames := 1, cells := 0, slots := 0, locals := 20 } : Room) [.ref (ad 0), .int (nI ch), .int (-nI 1)] D CL (TYS g) ([]) (WC ad g I L S) (S := Unit) (fun _ => some (.int (I 1 ch))) (fun _ => WC ad g (u2 I 1 ch (-nI 1)) L S) (fun _ => True) 0 0 := by
  refine ct_of (by decide +kernel) (Nat.le_of_ble_eq_true rfl) ?_
  intro p e s m below meth c A X hr hnm hSB hRO hAf
  refine g_cs (ws' := WC ad g I L S) (lv' := [(0, .ref (ad 0)), (1, .int (nI ch)), (2, .int (-nI 1))]) rfl rfl ?_
  refine g_run X KX5_mad_0_0 KX5_mad_0_0_d 1 [(0, .ref (ad 0)), (1, .int (nI ch)), (2, .int (-nI 1))] [.int (nI ch)] rfl ?_
  refine g_callS X hSB hAf (As := [.int (nI ch)]) (wr := WC ad g I L S) (n := 1) (c_X5_checkChip l D g ch (by omega)) rfl srcN hrdN w_407 w_405 w_406 w_1 (by decide +kernel) rfl ⟨Nat.le_of_ble_eq_true rfl, Nat.le_of_ble_eq_true rfl⟩ rfl rfl rfl (Nat.le_of_ble_eq_true rfl) ⟨Nat.le_of_ble_eq_true rfl, Nat.le_of_ble_eq_true rfl⟩ dX5_mad_1 (fun hu1 _ => ?_)
  refine g_af (ws' := WC ad g I L S) (st' := []) (cells' := 0) (slots' := 0) (pc' := 4) rfl rfl rfl rfl rfl ?_
  refine g_run X KX5_mad_4_1 KX5_mad_4_1_d 6 [(0, .ref (ad 0)), (1, .int (nI ch)), (2, .int (-nI 1))] [.int (-nI 1), .int (-nI 1)] rfl ?_
  refine g_icmp_eq X 13 dX5_mad_6 (by decide) (fun hc2 => ?_) (fun hc2 => ?_)
  · refine g_run X KX5_mad_13_3 KX5_mad_13_3_d 14 [(0, .ref (ad 0)), (1, .int (nI ch)), (2, .int (-nI 1))] [.ref (ad 0)] rfl ?_
    refine g_get X srcW (v := .ref (ad 1)) hinX5 rfl 0 (by decide) w_183 rfl (wc_mem (k := 0) (by decide)) rfl dX5_mad_14 ?_
    refine g_get X srcW (v := .ref (ad 2)) hinX4 rfl 0 (by decide) w_94 rfl (wc_mem (k := 1) (by decide)) rfl dX5_mad_17 ?_
    refine g_run X KX5_mad_20_4 KX5_mad_20_4_d 21 [(0, .ref (ad 0)), (1, .int (nI ch)), (2, .int (-nI 1))] [.int (nI ch), .ref (ad 2)] rfl ?_
    refine g_aald X srcW (b := ad (ch + 10)) 1 rfl (wc_mem (k := 2) (by decide)) ch rfl (by omega) (by decide) (rfl) dX5_mad_21 ?_
    refine g_get X srcW (v := .int (I 1 ch)) hinX1 rfl 2 (by decide) w_61 rfl (wc_chip (by omega)) rfl dX5_mad_22 ?_
    refine g_run X KX5_mad_25_5 KX5_mad_25_5_d 27 [(3, .int (I 1 ch)), (0, .ref (ad 0)), (1, .int (nI ch)), (2, .int (-nI 1))] [.ref (ad 0)] rfl ?_
    refine g_get X srcW (v := .ref (ad 1)) hinX5 rfl 0 (by decide) w_183 rfl (wc_mem (k := 0) (by decide)) rfl dX5_mad_27 ?_
    refine g_get X srcW (v := .ref (ad 2)) hinX4 rfl 0 (by decide) w_94 rfl (wc_mem (k := 1) (by decide)) rfl dX5_mad_30 ?_
    refine g_run X KX5_mad_33_6 KX5_mad_33_6_d 34 [(3, .int (I 1 ch)), (0, .ref (ad 0)), (1, .int (nI ch)), (2, .int (-nI 1))] [.int (nI ch), .ref (ad 2)] rfl ?_
    refine g_aald X srcW (b := ad (ch + 10)) 1 rfl (wc_mem (k := 2) (by decide)) ch rfl (by omega) (by decide) (rfl) dX5_mad_34 ?_
    refine g_run X KX5_mad_35_7 KX5_mad_35_7_d 36 [(3, .int (I 1 ch)), (0, .ref (ad 0)), (1, .int (nI ch)), (2, .int (-nI 1))] [.int (-nI 1), .ref (ad (ch + 10))] rfl ?_
    refine g_put X (ws' := WC ad g (u2 I 1 ch (-nI 1)) L S) hinX1 tyX1 tyX1_ok nmX1 rfl 2 (by decide) w_61 rfl rfl (ty := .int) rfl rfl rfl (ch + 10) (wc_get (k := ch + 10) (Nat.add_lt_add_right (by omega) 10)) (Nat.le_of_ble_eq_true rfl) (ws_ch2) dX5_mad_36 ?_
    refine g_run X KX5_mad_39_8 KX5_mad_39_8_d 40 [(3, .int (I 1 ch)), (0, .ref (ad 0)), (1, .int (nI ch)), (2, .int (-nI 1))] [.int (I 1 ch)] rfl ?_
    exact g_iret X hr () (rfl) (trivial) ((List.append_nil _).symm) (Nat.le_of_ble_eq_true rfl) (Nat.le_of_ble_eq_true rfl) dX5_mad_40
  · exact absurd rfl hc2

set_option maxHeartbeats 4000000 in
set_option maxRecDepth 100000 in
theorem x_X5_mad_1 (l : Launch) (hfl : l.stackTraces = false) (D : va_G) (g : Nat → ClassId) (ad : Nat → Nat) (I : Nat → Nat → Int32) (L : Nat → Nat → Int64) (S : Nat → Nat) (x : Int32) (y1 : Int32) (hx : x < 0 ∨ ¬ x < nI 18) : CX l yX5_mad cX5_mad 4 ((Option.some FieldType.int)) ({ frames := 7, cells := 1, slots := 6, locals := 120 } : Room) [.ref (ad 0), .int x, .int y1] D CL (TYS g) (WC ad g I L S) xIO 1 6 := by
  refine cx_of (by decide +kernel) (Nat.le_of_ble_eq_true rfl) ?_
  intro p e s m below meth c A X hnt hSB hRO hAf
  refine g_cs (ws' := []) (lv' := [(0, .ref (ad 0)), (1, .int x), (2, .int y1)]) rfl rfl ?_
  refine g_run X KX5_mad_0_0 KX5_mad_0_0_d 1 [(0, .ref (ad 0)), (1, .int x), (2, .int y1)] [.int x] rfl ?_
  exact gx_callS X hSB hAf hnt (As := [.int x]) (n := 1) (x_X5_checkChip l hfl D g x (hx)) srcN w_407 w_405 w_406 w_1 (by decide +kernel) rfl ⟨Nat.le_of_ble_eq_true rfl, Nat.le_of_ble_eq_true rfl⟩ rfl rfl rfl (Nat.le_of_ble_eq_true rfl) ⟨Nat.le_of_ble_eq_true rfl, Nat.le_of_ble_eq_true rfl⟩ (Nat.le_of_ble_eq_true rfl) (Nat.le_of_ble_eq_true rfl) dX5_mad_1

set_option maxHeartbeats 4000000 in
set_option maxRecDepth 100000 in
theorem x_X5_mad_2 (l : Launch) (hfl : l.stackTraces = false) (D : va_G) (g : Nat → ClassId) (ad : Nat → Nat) (I : Nat → Nat → Int32) (L : Nat → Nat → Int64) (S : Nat → Nat) (ch : Nat) (x : Int32) (hch : ch < 18) (hne : ¬ x = -nI 1) (hx : x < 0 ∨ ¬ x ≤ nI 15) : CX l yX5_mad cX5_mad 4 ((Option.some FieldType.int)) ({ frames := 7, cells := 1, slots := 6, locals := 120 } : Room) [.ref (ad 0), .int (nI ch), .int x] D CL (TYS g) (WC ad g I L S) xIA 1 6 := by
  refine cx_of (by decide +kernel) (Nat.le_of_ble_eq_true rfl) ?_
  intro p e s m below meth c A X hnt hSB hRO hAf
  refine g_cs (ws' := []) (lv' := [(0, .ref (ad 0)), (1, .int (nI ch)), (2, .int x)]) rfl rfl ?_
  refine g_run X KX5_mad_0_0 KX5_mad_0_0_d 1 [(0, .ref (ad 0)), (1, .int (nI ch)), (2, .int x)] [.int (nI ch)] rfl ?_
  refine g_callS X hSB hAf (As := [.int (nI ch)]) (wr := []) (n := 1) (c_X5_checkChip l D g ch (by omega)) rfl srcN hrdN w_407 w_405 w_406 w_1 (by decide +kernel) rfl ⟨Nat.le_of_ble_eq_true rfl, Nat.le_of_ble_eq_true rfl⟩ rfl rfl rfl (Nat.le_of_ble_eq_true rfl) ⟨Nat.le_of_ble_eq_true rfl, Nat.le_of_ble_eq_true rfl⟩ dX5_mad_1 (fun hu1 _ => ?_)
  refine g_af (ws' := []) (st' := []) (cells' := 0) (slots' := 0) (pc' := 4) rfl rfl rfl rfl rfl ?_
  refine g_run X KX5_mad_4_1 KX5_mad_4_1_d 6 [(0, .ref (ad 0)), (1, .int (nI ch)), (2, .int x)] [.int (-nI 1), .int x] rfl ?_
  refine g_icmp_eq X 13 dX5_mad_6 (by decide) (fun hc2 => ?_) (fun hc2 => ?_)
  · exact absurd hc2 hne
  · refine g_run X KX5_mad_9_2 KX5_mad_9_2_d 10 [(0, .ref (ad 0)), (1, .int (nI ch)), (2, .int x)] [.int x] rfl ?_
    exact gx_callS X hSB hAf hnt (As := [.int x]) (n := 1) (x_X5_checkElement l hfl D g x (hx)) srcN w_524 w_522 w_523 w_1 (by decide +kernel) rfl ⟨Nat.le_of_ble_eq_true rfl, Nat.le_of_ble_eq_true rfl⟩ rfl rfl rfl (Nat.le_of_ble_eq_true rfl) ⟨Nat.le_of_ble_eq_true rfl, Nat.le_of_ble_eq_true rfl⟩ (Nat.le_of_ble_eq_true rfl) (Nat.le_of_ble_eq_true rfl) dX5_mad_10

def KX5_ray_0_0 : List (Nat × Instr × Nat) := [(0, .iload_n 1, 1)]
theorem KX5_ray_0_0_d : ∀ z ∈ KX5_ray_0_0, decode cX5_ray z.1 = .ok z.2 := by decide +kernel
def KX5_ray_4_1 : List (Nat × Instr × Nat) := [(4, .iload_n 2, 1)]
theorem KX5_ray_4_1_d : ∀ z ∈ KX5_ray_4_1, decode cX5_ray z.1 = .ok z.2 := by decide +kernel
def KX5_ray_8_2 : List (Nat × Instr × Nat) := [(8, .iload_n 3, 1)]
theorem KX5_ray_8_2_d : ∀ z ∈ KX5_ray_8_2, decode cX5_ray z.1 = .ok z.2 := by decide +kernel
def KX5_ray_12_3 : List (Nat × Instr × Nat) := [(12, .aload_n 0, 1)]
theorem KX5_ray_12_3_d : ∀ z ∈ KX5_ray_12_3, decode cX5_ray z.1 = .ok z.2 := by decide +kernel
def KX5_ray_19_4 : List (Nat × Instr × Nat) := [(19, .iload_n 1, 1)]
theorem KX5_ray_19_4_d : ∀ z ∈ KX5_ray_19_4, decode cX5_ray z.1 = .ok z.2 := by decide +kernel
def KX5_ray_21_5 : List (Nat × Instr × Nat) := [(21, .astore 4, 2), (23, .aload 4, 2), (25, .iload_n 2, 1), (26, .aload 4, 2), (28, .iload_n 2, 1)]
theorem KX5_ray_21_5_d : ∀ z ∈ KX5_ray_21_5, decode cX5_ray z.1 = .ok z.2 := by decide +kernel
def KX5_ray_32_6 : List (Nat × Instr × Nat) := [(32, .iload_n 3, 1), (33, .ixor, 1)]
theorem KX5_ray_32_6_d : ∀ z ∈ KX5_ray_32_6, decode cX5_ray z.1 = .ok z.2 := by decide +kernel
def KX5_ray_37_7 : List (Nat × Instr × Nat) := [(37, .aload 4, 2), (39, .iload_n 2, 1)]
theorem KX5_ray_37_7_d : ∀ z ∈ KX5_ray_37_7, decode cX5_ray z.1 = .ok z.2 := by decide +kernel
set_option maxHeartbeats 4000000 in
set_option maxRecDepth 100000 in
theorem c_X5_ray (l : Launch) (D : va_G) (g : Nat → ClassId) (ad : Nat → Nat) (I : Nat → Nat → Int32) (L : Nat → Nat → Int64) (S : Nat → Nat) (ch : Nat) (q : Nat) (v : Nat) (hch : ch < 18) (hq : q < 16) (h1 : 1 ≤ v) (hv : v < 16) : CT l yX5_ray cX5_ray 5 ((Option.some FieldType.int)) ({ frames := 2, cells := 0, slots := 0, locals := 46 } : Room) [.ref (ad 0), .int (nI ch), .int (nI q), .int (nI v)] D CL (TYS g) ([]) (WC ad g I L S) (S := Unit) (fun _ => some (.int (nI (nib (wn (L 0 ch) q (nib (L 0 ch) q ^^^ v)) q)))) (fun _ => WC ad g I (u2 L 0 ch (wn (L 0 ch) q (nib (L 0 ch) q ^^^ v))) S) (fun _ => True) 0 0 := by
  refine ct_of (by decide +kernel) (Nat.le_of_ble_eq_true rfl) ?_
  intro p e s m below meth c A X hr hnm hSB hRO hAf
  refine g_cs (ws' := WC ad g I L S) (lv' := [(0, .ref (ad 0)), (1, .int (nI ch)), (2, .int (nI q)), (3, .int (nI v))]) rfl rfl ?_
  refine g_run X KX5_ray_0_0 KX5_ray_0_0_d 1 [(0, .ref (ad 0)), (1, .int (nI ch)), (2, .int (nI q)), (3, .int (nI v))] [.int (nI ch)] rfl ?_
  refine g_callS X hSB hAf (As := [.int (nI ch)]) (wr := WC ad g I L S) (n := 1) (c_X5_checkChip l D g ch (by omega)) rfl srcN hrdN w_407 w_405 w_406 w_1 (by decide +kernel) rfl ⟨Nat.le_of_ble_eq_true rfl, Nat.le_of_ble_eq_true rfl⟩ rfl rfl rfl (Nat.le_of_ble_eq_true rfl) ⟨Nat.le_of_ble_eq_true rfl, Nat.le_of_ble_eq_true rfl⟩ dX5_ray_1 (fun hu1 _ => ?_)
  refine g_af (ws' := WC ad g I L S) (st' := []) (cells' := 0) (slots' := 0) (pc' := 4) rfl rfl rfl rfl rfl ?_
  refine g_run X KX5_ray_4_1 KX5_ray_4_1_d 5 [(0, .ref (ad 0)), (1, .int (nI ch)), (2, .int (nI q)), (3, .int (nI v))] [.int (nI q)] rfl ?_
  refine g_callS X hSB hAf (As := [.int (nI q)]) (wr := WC ad g I L S) (n := 1) (c_X5_checkLine l D g q (by omega)) rfl srcN hrdN w_435 w_433 w_434 w_1 (by decide +kernel) rfl ⟨Nat.le_of_ble_eq_true rfl, Nat.le_of_ble_eq_true rfl⟩ rfl rfl rfl (Nat.le_of_ble_eq_true rfl) ⟨Nat.le_of_ble_eq_true rfl, Nat.le_of_ble_eq_true rfl⟩ dX5_ray_5 (fun hu2 _ => ?_)
  refine g_af (ws' := WC ad g I L S) (st' := []) (cells' := 0) (slots' := 0) (pc' := 8) rfl rfl rfl rfl rfl ?_
  refine g_run X KX5_ray_8_2 KX5_ray_8_2_d 9 [(0, .ref (ad 0)), (1, .int (nI ch)), (2, .int (nI q)), (3, .int (nI v))] [.int (nI v)] rfl ?_
  refine g_callS X hSB hAf (As := [.int (nI v)]) (wr := WC ad g I L S) (n := 1) (c_X5_checkElementNotZero l D g v (by omega) (by omega)) rfl srcN hrdN w_546 w_544 w_545 w_1 (by decide +kernel) rfl ⟨Nat.le_of_ble_eq_true rfl, Nat.le_of_ble_eq_true rfl⟩ rfl rfl rfl (Nat.le_of_ble_eq_true rfl) ⟨Nat.le_of_ble_eq_true rfl, Nat.le_of_ble_eq_true rfl⟩ dX5_ray_9 (fun hu3 _ => ?_)
  refine g_af (ws' := WC ad g I L S) (st' := []) (cells' := 0) (slots' := 0) (pc' := 12) rfl rfl rfl rfl rfl ?_
  refine g_run X KX5_ray_12_3 KX5_ray_12_3_d 13 [(0, .ref (ad 0)), (1, .int (nI ch)), (2, .int (nI q)), (3, .int (nI v))] [.ref (ad 0)] rfl ?_
  refine g_get X srcW (v := .ref (ad 1)) hinX5 rfl 0 (by decide) w_183 rfl (wc_mem (k := 0) (by decide)) rfl dX5_ray_13 ?_
  refine g_get X srcW (v := .ref (ad 2)) hinX4 rfl 0 (by decide) w_94 rfl (wc_mem (k := 1) (by decide)) rfl dX5_ray_16 ?_
  refine g_run X KX5_ray_19_4 KX5_ray_19_4_d 20 [(0, .ref (ad 0)), (1, .int (nI ch)), (2, .int (nI q)), (3, .int (nI v))] [.int (nI ch), .ref (ad 2)] rfl ?_
  refine g_aald X srcW (b := ad (ch + 10)) 1 rfl (wc_mem (k := 2) (by decide)) ch rfl (by omega) (by decide) (rfl) dX5_ray_20 ?_
  refine g_run X KX5_ray_21_5 KX5_ray_21_5_d 29 [(4, .ref (ad (ch + 10))), (0, .ref (ad 0)), (1, .int (nI ch)), (2, .int (nI q)), (3, .int (nI v))] [.int (nI q), .ref (ad (ch + 10)), .int (nI q), .ref (ad (ch + 10))] rfl ?_
  refine g_callV X hSB hAf (srcW) (hrc1 := (rfl : CL[1]? = some _)) (wc_chip (by omega)) rfl (As := [.int (nI q)]) (wr := WC ad g I L S) (n := 1) (c_X1_storedAt l D g ad I L S ch q (by omega) (by omega)) rfl srcW hrdC w_466 w_463 w_464 w_465 w_3 (by decide +kernel) rfl ⟨Nat.le_of_ble_eq_true rfl, Nat.le_of_ble_eq_true rfl⟩ rfl rfl rfl (Nat.le_of_ble_eq_true rfl) ⟨Nat.le_of_ble_eq_true rfl, Nat.le_of_ble_eq_true rfl⟩ dX5_ray_29 (fun hu4 _ => ?_)
  refine g_af (ws' := WC ad g I L S) (st' := [.int (nI (nib (L 0 ch) q)), .int (nI q), .ref (ad (ch + 10))]) (cells' := 0) (slots' := 0) (pc' := 32) rfl rfl rfl rfl rfl ?_
  refine g_run X KX5_ray_32_6 KX5_ray_32_6_d 34 [(4, .ref (ad (ch + 10))), (0, .ref (ad 0)), (1, .int (nI ch)), (2, .int (nI q)), (3, .int (nI v))] [.int ((nI (nib (L 0 ch) q)) ^^^ (nI v)), .int (nI q), .ref (ad (ch + 10))] rfl ?_
  refine g_nm (lv' := [(4, .ref (ad (ch + 10))), (0, .ref (ad 0)), (1, .int (nI ch)), (2, .int (nI q)), (3, .int (nI v))]) (st' := [.int (nI ((nib (L 0 ch) q) ^^^ v)), .int (nI q), .ref (ad (ch + 10))]) (by simp only [nx_xor]) (by simp only [nx_xor]) ?_
  refine g_callV X hSB hAf (srcW) (hrc1 := (rfl : CL[1]? = some _)) (wc_chip (by omega)) rfl (As := [.int (nI q), .int (nI ((nib (L 0 ch) q) ^^^ v))]) (wr := []) (n := 2) (c_X1_putAt l D g ad I L S ch q ((nib (L 0 ch) q) ^^^ v) (by omega) (by omega)) (List.append_nil _).symm srcN hrdN w_219 w_548 w_217 w_218 w_3 (by decide +kernel) rfl ⟨Nat.le_of_ble_eq_true rfl, Nat.le_of_ble_eq_true rfl⟩ rfl rfl rfl (Nat.le_of_ble_eq_true rfl) ⟨Nat.le_of_ble_eq_true rfl, Nat.le_of_ble_eq_true rfl⟩ dX5_ray_34 (fun hu5 _ => ?_)
  refine g_af (ws' := WC ad g I (u2 L 0 ch (wn (L 0 ch) q ((nib (L 0 ch) q) ^^^ v))) S) (st' := []) (cells' := 0) (slots' := 0) (pc' := 37) (List.append_nil _).symm rfl rfl rfl rfl ?_
  refine g_run X KX5_ray_37_7 KX5_ray_37_7_d 40 [(4, .ref (ad (ch + 10))), (0, .ref (ad 0)), (1, .int (nI ch)), (2, .int (nI q)), (3, .int (nI v))] [.int (nI q), .ref (ad (ch + 10))] rfl ?_
  refine g_callV X hSB hAf (srcW) (hrc1 := (rfl : CL[1]? = some _)) (wc_chip (by omega)) rfl (As := [.int (nI q)]) (wr := WC ad g I (u2 L 0 ch (wn (L 0 ch) q ((nib (L 0 ch) q) ^^^ v))) S) (n := 1) (c_X1_storedAt l D g ad I (u2 L 0 ch (wn (L 0 ch) q ((nib (L 0 ch) q) ^^^ v))) S ch q (by omega) (by omega)) rfl srcW hrdC w_466 w_463 w_464 w_465 w_3 (by decide +kernel) rfl ⟨Nat.le_of_ble_eq_true rfl, Nat.le_of_ble_eq_true rfl⟩ rfl rfl rfl (Nat.le_of_ble_eq_true rfl) ⟨Nat.le_of_ble_eq_true rfl, Nat.le_of_ble_eq_true rfl⟩ dX5_ray_40 (fun hu6 _ => ?_)
  refine g_af (ws' := WC ad g I (u2 L 0 ch (wn (L 0 ch) q ((nib (L 0 ch) q) ^^^ v))) S) (st' := [.int (nI (nib ((u2 L 0 ch (wn (L 0 ch) q ((nib (L 0 ch) q) ^^^ v))) 0 ch) q))]) (cells' := 0) (slots' := 0) (pc' := 43) rfl rfl rfl rfl rfl ?_
  exact g_iret X hr () (by show some (Value.int _) = some (Value.int _); rw [u2_s]) (trivial) ((List.append_nil _).symm) (Nat.le_of_ble_eq_true rfl) (Nat.le_of_ble_eq_true rfl) dX5_ray_43

set_option maxHeartbeats 4000000 in
set_option maxRecDepth 100000 in
theorem x_X5_ray_1 (l : Launch) (hfl : l.stackTraces = false) (D : va_G) (g : Nat → ClassId) (ad : Nat → Nat) (I : Nat → Nat → Int32) (L : Nat → Nat → Int64) (S : Nat → Nat) (x : Int32) (y1 : Int32) (y2 : Int32) (hx : x < 0 ∨ ¬ x < nI 18) : CX l yX5_ray cX5_ray 5 ((Option.some FieldType.int)) ({ frames := 7, cells := 1, slots := 6, locals := 120 } : Room) [.ref (ad 0), .int x, .int y1, .int y2] D CL (TYS g) (WC ad g I L S) xIO 1 6 := by
  refine cx_of (by decide +kernel) (Nat.le_of_ble_eq_true rfl) ?_
  intro p e s m below meth c A X hnt hSB hRO hAf
  refine g_cs (ws' := []) (lv' := [(0, .ref (ad 0)), (1, .int x), (2, .int y1), (3, .int y2)]) rfl rfl ?_
  refine g_run X KX5_ray_0_0 KX5_ray_0_0_d 1 [(0, .ref (ad 0)), (1, .int x), (2, .int y1), (3, .int y2)] [.int x] rfl ?_
  exact gx_callS X hSB hAf hnt (As := [.int x]) (n := 1) (x_X5_checkChip l hfl D g x (hx)) srcN w_407 w_405 w_406 w_1 (by decide +kernel) rfl ⟨Nat.le_of_ble_eq_true rfl, Nat.le_of_ble_eq_true rfl⟩ rfl rfl rfl (Nat.le_of_ble_eq_true rfl) ⟨Nat.le_of_ble_eq_true rfl, Nat.le_of_ble_eq_true rfl⟩ (Nat.le_of_ble_eq_true rfl) (Nat.le_of_ble_eq_true rfl) dX5_ray_1

set_option maxHeartbeats 4000000 in
set_option maxRecDepth 100000 in
theorem x_X5_ray_2 (l : Launch) (hfl : l.stackTraces = false) (D : va_G) (g : Nat → ClassId) (ad : Nat → Nat) (I : Nat → Nat → Int32) (L : Nat → Nat → Int64) (S : Nat → Nat) (ch : Nat) (x : Int32) (y1 : Int32) (hch : ch < 18) (hx : x < 0 ∨ ¬ x < nI 16) : CX l yX5_ray cX5_ray 5 ((Option.some FieldType.int)) ({ frames := 7, cells := 1, slots := 6, locals := 120 } : Room) [.ref (ad 0), .int (nI ch), .int x, .int y1] D CL (TYS g) (WC ad g I L S) xIO 1 6 := by
  refine cx_of (by decide +kernel) (Nat.le_of_ble_eq_true rfl) ?_
  intro p e s m below meth c A X hnt hSB hRO hAf
  refine g_cs (ws' := []) (lv' := [(0, .ref (ad 0)), (1, .int (nI ch)), (2, .int x), (3, .int y1)]) rfl rfl ?_
  refine g_run X KX5_ray_0_0 KX5_ray_0_0_d 1 [(0, .ref (ad 0)), (1, .int (nI ch)), (2, .int x), (3, .int y1)] [.int (nI ch)] rfl ?_
  refine g_callS X hSB hAf (As := [.int (nI ch)]) (wr := []) (n := 1) (c_X5_checkChip l D g ch (by omega)) rfl srcN hrdN w_407 w_405 w_406 w_1 (by decide +kernel) rfl ⟨Nat.le_of_ble_eq_true rfl, Nat.le_of_ble_eq_true rfl⟩ rfl rfl rfl (Nat.le_of_ble_eq_true rfl) ⟨Nat.le_of_ble_eq_true rfl, Nat.le_of_ble_eq_true rfl⟩ dX5_ray_1 (fun hu1 _ => ?_)
  refine g_af (ws' := []) (st' := []) (cells' := 0) (slots' := 0) (pc' := 4) rfl rfl rfl rfl rfl ?_
  refine g_run X KX5_ray_4_1 KX5_ray_4_1_d 5 [(0, .ref (ad 0)), (1, .int (nI ch)), (2, .int x), (3, .int y1)] [.int x] rfl ?_
  exact gx_callS X hSB hAf hnt (As := [.int x]) (n := 1) (x_X5_checkLine l hfl D g x (hx)) srcN w_435 w_433 w_434 w_1 (by decide +kernel) rfl ⟨Nat.le_of_ble_eq_true rfl, Nat.le_of_ble_eq_true rfl⟩ rfl rfl rfl (Nat.le_of_ble_eq_true rfl) ⟨Nat.le_of_ble_eq_true rfl, Nat.le_of_ble_eq_true rfl⟩ (Nat.le_of_ble_eq_true rfl) (Nat.le_of_ble_eq_true rfl) dX5_ray_5

set_option maxHeartbeats 4000000 in
set_option maxRecDepth 100000 in
theorem x_X5_ray_3 (l : Launch) (hfl : l.stackTraces = false) (D : va_G) (g : Nat → ClassId) (ad : Nat → Nat) (I : Nat → Nat → Int32) (L : Nat → Nat → Int64) (S : Nat → Nat) (ch : Nat) (q : Nat) (x : Int32) (hch : ch < 18) (hq : q < 16) (hx : x < nI 1 ∨ ¬ x ≤ nI 15) : CX l yX5_ray cX5_ray 5 ((Option.some FieldType.int)) ({ frames := 7, cells := 1, slots := 6, locals := 120 } : Room) [.ref (ad 0), .int (nI ch), .int (nI q), .int x] D CL (TYS g) (WC ad g I L S) xIA 1 6 := by
  refine cx_of (by decide +kernel) (Nat.le_of_ble_eq_true rfl) ?_
  intro p e s m below meth c A X hnt hSB hRO hAf
  refine g_cs (ws' := []) (lv' := [(0, .ref (ad 0)), (1, .int (nI ch)), (2, .int (nI q)), (3, .int x)]) rfl rfl ?_
  refine g_run X KX5_ray_0_0 KX5_ray_0_0_d 1 [(0, .ref (ad 0)), (1, .int (nI ch)), (2, .int (nI q)), (3, .int x)] [.int (nI ch)] rfl ?_
  refine g_callS X hSB hAf (As := [.int (nI ch)]) (wr := []) (n := 1) (c_X5_checkChip l D g ch (by omega)) rfl srcN hrdN w_407 w_405 w_406 w_1 (by decide +kernel) rfl ⟨Nat.le_of_ble_eq_true rfl, Nat.le_of_ble_eq_true rfl⟩ rfl rfl rfl (Nat.le_of_ble_eq_true rfl) ⟨Nat.le_of_ble_eq_true rfl, Nat.le_of_ble_eq_true rfl⟩ dX5_ray_1 (fun hu1 _ => ?_)
  refine g_af (ws' := []) (st' := []) (cells' := 0) (slots' := 0) (pc' := 4) rfl rfl rfl rfl rfl ?_
  refine g_run X KX5_ray_4_1 KX5_ray_4_1_d 5 [(0, .ref (ad 0)), (1, .int (nI ch)), (2, .int (nI q)), (3, .int x)] [.int (nI q)] rfl ?_
  refine g_callS X hSB hAf (As := [.int (nI q)]) (wr := []) (n := 1) (c_X5_checkLine l D g q (by omega)) rfl srcN hrdN w_435 w_433 w_434 w_1 (by decide +kernel) rfl ⟨Nat.le_of_ble_eq_true rfl, Nat.le_of_ble_eq_true rfl⟩ rfl rfl rfl (Nat.le_of_ble_eq_true rfl) ⟨Nat.le_of_ble_eq_true rfl, Nat.le_of_ble_eq_true rfl⟩ dX5_ray_5 (fun hu2 _ => ?_)
  refine g_af (ws' := []) (st' := []) (cells' := 0) (slots' := 0) (pc' := 8) rfl rfl rfl rfl rfl ?_
  refine g_run X KX5_ray_8_2 KX5_ray_8_2_d 9 [(0, .ref (ad 0)), (1, .int (nI ch)), (2, .int (nI q)), (3, .int x)] [.int x] rfl ?_
  exact gx_callS X hSB hAf hnt (As := [.int x]) (n := 1) (x_X5_checkElementNotZero l hfl D g x (hx)) srcN w_546 w_544 w_545 w_1 (by decide +kernel) rfl ⟨Nat.le_of_ble_eq_true rfl, Nat.le_of_ble_eq_true rfl⟩ rfl rfl rfl (Nat.le_of_ble_eq_true rfl) ⟨Nat.le_of_ble_eq_true rfl, Nat.le_of_ble_eq_true rfl⟩ (Nat.le_of_ble_eq_true rfl) (Nat.le_of_ble_eq_true rfl) dX5_ray_9

def KX5_erase_0_0 : List (Nat × Instr × Nat) := [(0, .iload_n 1, 1)]
theorem KX5_erase_0_0_d : ∀ z ∈ KX5_erase_0_0, decode cX5_erase z.1 = .ok z.2 := by decide +kernel
def KX5_erase_4_1 : List (Nat × Instr × Nat) := [(4, .aload_n 0, 1)]
theorem KX5_erase_4_1_d : ∀ z ∈ KX5_erase_4_1, decode cX5_erase z.1 = .ok z.2 := by decide +kernel
def KX5_erase_11_2 : List (Nat × Instr × Nat) := [(11, .iconst 1, 1), (12, .iload_n 1, 1), (13, .ishl, 1), (14, .iconst (-1), 1), (15, .ixor, 1), (16, .iand, 1), (17, .istore_n 3, 1)]
theorem KX5_erase_11_2_d : ∀ z ∈ KX5_erase_11_2, decode cX5_erase z.1 = .ok z.2 := by decide +kernel
def KX5_erase_18_3 : List (Nat × Instr × Nat) := [(18, .iload_n 2, 1)]
theorem KX5_erase_18_3_d : ∀ z ∈ KX5_erase_18_3, decode cX5_erase z.1 = .ok z.2 := by decide +kernel
def KX5_erase_40_4 : List (Nat × Instr × Nat) := [(40, .aload_n 0, 1)]
theorem KX5_erase_40_4_d : ∀ z ∈ KX5_erase_40_4, decode cX5_erase z.1 = .ok z.2 := by decide +kernel
def KX5_erase_47_5 : List (Nat × Instr × Nat) := [(47, .iload_n 1, 1)]
theorem KX5_erase_47_5_d : ∀ z ∈ KX5_erase_47_5, decode cX5_erase z.1 = .ok z.2 := by decide +kernel
def KX5_erase_49_6 : List (Nat × Instr × Nat) := [(49, .iload_n 2, 1)]
theorem KX5_erase_49_6_d : ∀ z ∈ KX5_erase_49_6, decode cX5_erase z.1 = .ok z.2 := by decide +kernel
def KX5_erase_53_7 : List (Nat × Instr × Nat) := [(53, .aload_n 0, 1)]
theorem KX5_erase_53_7_d : ∀ z ∈ KX5_erase_53_7, decode cX5_erase z.1 = .ok z.2 := by decide +kernel
set_option maxHeartbeats 4000000 in
set_option maxRecDepth 100000 in
theorem c_X5_erase (l : Launch) (D : va_G) (g : Nat → ClassId) (ad : Nat → Nat) (I : Nat → Nat → Int32) (L : Nat → Nat → Int64) (S : Nat → Nat) (q : Nat) (hS18 : ∀ p, p < 15 → S p < 18) (hq : q < 15) : CT l yX5_erase cX5_erase 4 ((Option.some FieldType.int)) ({ frames := 1, cells := 0, slots := 0, locals := 22 } : Room) [.ref (ad 0), .int (nI q), .int (nI 0)] D CL (TYS g) ([]) (WC ad g I L S) (S := Unit) (fun _ => some (.int (nI (pcn (ers (u2 I 3 (S q) (nI 0)) S 15) 15)))) (fun _ => WC ad g (u2 I 3 (S q) (nI 0)) L S) (fun _ => True) 0 0 := by
  refine ct_of (by decide +kernel) (Nat.le_of_ble_eq_true rfl) ?_
  intro p e s m below meth c A X hr hnm hSB hRO hAf
  refine g_cs (ws' := WC ad g I L S) (lv' := [(0, .ref (ad 0)), (1, .int (nI q)), (2, .int (nI 0))]) rfl rfl ?_
  refine g_run X KX5_erase_0_0 KX5_erase_0_0_d 1 [(0, .ref (ad 0)), (1, .int (nI q)), (2, .int (nI 0))] [.int (nI q)] rfl ?_
  refine g_callS X hSB hAf (As := [.int (nI q)]) (wr := WC ad g I L S) (n := 1) (c_X5_checkPlace l D g q (by omega)) rfl srcN hrdN w_559 w_557 w_558 w_1 (by decide +kernel) rfl ⟨Nat.le_of_ble_eq_true rfl, Nat.le_of_ble_eq_true rfl⟩ rfl rfl rfl (Nat.le_of_ble_eq_true rfl) ⟨Nat.le_of_ble_eq_true rfl, Nat.le_of_ble_eq_true rfl⟩ dX5_erase_1 (fun hu1 _ => ?_)
  refine g_af (ws' := WC ad g I L S) (st' := []) (cells' := 0) (slots' := 0) (pc' := 4) rfl rfl rfl rfl rfl ?_
  refine g_run X KX5_erase_4_1 KX5_erase_4_1_d 5 [(0, .ref (ad 0)), (1, .int (nI q)), (2, .int (nI 0))] [.ref (ad 0)] rfl ?_
  refine g_get X srcW (v := .ref (ad 1)) hinX5 rfl 0 (by decide) w_183 rfl (wc_mem (k := 0) (by decide)) rfl dX5_erase_5 ?_
  refine g_callV X hSB hAf (srcW) (hrc1 := (rfl : CL[3]? = some _)) (wc_mem (k := 1) (by decide)) rfl (As := []) (wr := WC ad g I L S) (n := 0) (c_X4_erasedPlaces l D g ad I L S (hS18)) rfl srcW hrdC w_240 w_308 w_238 w_239 w_2 (by decide +kernel) rfl ⟨Nat.le_of_ble_eq_true rfl, Nat.le_of_ble_eq_true rfl⟩ rfl rfl rfl (Nat.le_of_ble_eq_true rfl) ⟨Nat.le_of_ble_eq_true rfl, Nat.le_of_ble_eq_true rfl⟩ dX5_erase_8 (fun hu2 _ => ?_)
  refine g_af (ws' := WC ad g I L S) (st' := [.int (nI (ers I S 15))]) (cells' := 0) (slots' := 0) (pc' := 11) rfl rfl rfl rfl rfl ?_
  refine g_run X KX5_erase_11_2 KX5_erase_11_2_d 18 [(3, .int ((nI (ers I S 15)) &&& (((nI 1) <<< ((nI q) &&& 31)) ^^^ (-nI 1)))), (0, .ref (ad 0)), (1, .int (nI q)), (2, .int (nI 0))] [] rfl ?_
  refine g_nm (lv' := [(3, .int (nI (ers I S 15 &&& (32767 ^^^ 2 ^ q)))), (0, .ref (ad 0)), (1, .int (nI q)), (2, .int (nI 0))]) (st' := []) (by rw [sh1 (by omega), an15 (two_lt hq) (ers_lt _ _ _)]) rfl ?_
  have hp15 := pcn_15 (ers I S 15 &&& (32767 ^^^ 2 ^ q))
  refine g_run X KX5_erase_18_3 KX5_erase_18_3_d 19 [(3, .int (nI (ers I S 15 &&& (32767 ^^^ 2 ^ q)))), (0, .ref (ad 0)), (1, .int (nI q)), (2, .int (nI 0))] [.int (nI 0)] rfl ?_
  refine g_if_eq X 40 dX5_erase_19 (by decide) (fun hc3 => ?_) (fun hc3 => ?_)
  · refine g_run X KX5_erase_40_4 KX5_erase_40_4_d 41 [(3, .int (nI (ers I S 15 &&& (32767 ^^^ 2 ^ q)))), (0, .ref (ad 0)), (1, .int (nI q)), (2, .int (nI 0))] [.ref (ad 0)] rfl ?_
    refine g_get X srcW (v := .ref (ad 1)) hinX5 rfl 0 (by decide) w_183 rfl (wc_mem (k := 0) (by decide)) rfl dX5_erase_41 ?_
    refine g_get X srcW (v := .ref (ad 3)) hinX4 rfl 1 (by decide) w_96 rfl (wc_mem (k := 1) (by decide)) rfl dX5_erase_44 ?_
    refine g_run X KX5_erase_47_5 KX5_erase_47_5_d 48 [(3, .int (nI (ers I S 15 &&& (32767 ^^^ 2 ^ q)))), (0, .ref (ad 0)), (1, .int (nI q)), (2, .int (nI 0))] [.int (nI q), .ref (ad 3)] rfl ?_
    refine g_aald X srcW (b := ad ((S q) + 10)) 1 rfl (wc_mem (k := 3) (by decide)) q rfl (by omega) (by decide) (rfl) dX5_erase_48 ?_
    refine g_run X KX5_erase_49_6 KX5_erase_49_6_d 50 [(3, .int (nI (ers I S 15 &&& (32767 ^^^ 2 ^ q)))), (0, .ref (ad 0)), (1, .int (nI q)), (2, .int (nI 0))] [.int (nI 0), .ref (ad ((S q) + 10))] rfl ?_
    refine g_put X (ws' := WC ad g (u2 I 3 (S q) (nI 0)) L S) hinX1 tyX1 tyX1_ok nmX1 rfl 4 (by decide) w_67 rfl rfl (ty := .boolean) rfl (by decide +kernel) rfl ((S q) + 10) (wc_get (k := (S q) + 10) (Nat.add_lt_add_right (hS18 _ (by omega)) 10)) (Nat.le_of_ble_eq_true rfl) (ws_ch4) dX5_erase_50 ?_
    refine g_run X KX5_erase_53_7 KX5_erase_53_7_d 54 [(3, .int (nI (ers I S 15 &&& (32767 ^^^ 2 ^ q)))), (0, .ref (ad 0)), (1, .int (nI q)), (2, .int (nI 0))] [.ref (ad 0)] rfl ?_
    refine g_get X srcW (v := .ref (ad 1)) hinX5 rfl 0 (by decide) w_183 rfl (wc_mem (k := 0) (by decide)) rfl dX5_erase_54 ?_
    refine g_callV X hSB hAf (srcW) (hrc1 := (rfl : CL[3]? = some _)) (wc_mem (k := 1) (by decide)) rfl (As := []) (wr := WC ad g (u2 I 3 (S q) (nI 0)) L S) (n := 0) (c_X4_erasedPlaces l D g ad (u2 I 3 (S q) (nI 0)) L S (hS18)) rfl srcW hrdC w_240 w_308 w_238 w_239 w_2 (by decide +kernel) rfl ⟨Nat.le_of_ble_eq_true rfl, Nat.le_of_ble_eq_true rfl⟩ rfl rfl rfl (Nat.le_of_ble_eq_true rfl) ⟨Nat.le_of_ble_eq_true rfl, Nat.le_of_ble_eq_true rfl⟩ dX5_erase_57 (fun hu4 _ => ?_)
    refine g_af (ws' := WC ad g (u2 I 3 (S q) (nI 0)) L S) (st' := [.int (nI (ers (u2 I 3 (S q) (nI 0)) S 15))]) (cells' := 0) (slots' := 0) (pc' := 60) rfl rfl rfl rfl rfl ?_
    refine g_callS X hSB hAf (As := [.int (nI (ers (u2 I 3 (S q) (nI 0)) S 15))]) (wr := WC ad g (u2 I 3 (S q) (nI 0)) L S) (n := 1) (c_J6_bitCount_0f7a4 l D g (ers (u2 I 3 (S q) (nI 0)) S 15) (ers_lt _ _ _)) rfl srcN hrdN w_259 w_309 w_258 w_24 (by decide +kernel) rfl ⟨Nat.le_of_ble_eq_true rfl, Nat.le_of_ble_eq_true rfl⟩ rfl rfl rfl (Nat.le_of_ble_eq_true rfl) ⟨Nat.le_of_ble_eq_true rfl, Nat.le_of_ble_eq_true rfl⟩ dX5_erase_60 (fun hu5 _ => ?_)
    refine g_af (ws' := WC ad g (u2 I 3 (S q) (nI 0)) L S) (st' := [.int (nI (pcn (ers (u2 I 3 (S q) (nI 0)) S 15) 15))]) (cells' := 0) (slots' := 0) (pc' := 63) rfl rfl rfl rfl rfl ?_
    exact g_iret X hr () (rfl) (trivial) ((List.append_nil _).symm) (Nat.le_of_ble_eq_true rfl) (Nat.le_of_ble_eq_true rfl) dX5_erase_63
  · rw [nz_eq (by omega)] at hc3; first | omega | (simp at hc3)

def KX5_erase_22_8 : List (Nat × Instr × Nat) := [(22, .iload_n 3, 1)]
theorem KX5_erase_22_8_d : ∀ z ∈ KX5_erase_22_8, decode cX5_erase z.1 = .ok z.2 := by decide +kernel
def KX5_erase_26_9 : List (Nat × Instr × Nat) := [(26, .iconst 4, 1)]
theorem KX5_erase_26_9_d : ∀ z ∈ KX5_erase_26_9, decode cX5_erase z.1 = .ok z.2 := by decide +kernel
set_option maxHeartbeats 4000000 in
set_option maxRecDepth 100000 in
theorem c_X5_erase_1 (l : Launch) (D : va_G) (g : Nat → ClassId) (ad : Nat → Nat) (I : Nat → Nat → Int32) (L : Nat → Nat → Int64) (S : Nat → Nat) (q : Nat) (hS18 : ∀ p, p < 15 → S p < 18) (hq : q < 15) (h4 : pcn (ers I S 15 &&& (32767 ^^^ 2 ^ q)) 15 < 4) : CT l yX5_erase cX5_erase 4 ((Option.some FieldType.int)) ({ frames := 1, cells := 0, slots := 0, locals := 22 } : Room) [.ref (ad 0), .int (nI q), .int (nI 1)] D CL (TYS g) ([]) (WC ad g I L S) (S := Unit) (fun _ => some (.int (nI (pcn (ers (u2 I 3 (S q) (nI 1)) S 15) 15)))) (fun _ => WC ad g (u2 I 3 (S q) (nI 1)) L S) (fun _ => True) 0 0 := by
  refine ct_of (by decide +kernel) (Nat.le_of_ble_eq_true rfl) ?_
  intro p e s m below meth c A X hr hnm hSB hRO hAf
  refine g_cs (ws' := WC ad g I L S) (lv' := [(0, .ref (ad 0)), (1, .int (nI q)), (2, .int (nI 1))]) rfl rfl ?_
  refine g_run X KX5_erase_0_0 KX5_erase_0_0_d 1 [(0, .ref (ad 0)), (1, .int (nI q)), (2, .int (nI 1))] [.int (nI q)] rfl ?_
  refine g_callS X hSB hAf (As := [.int (nI q)]) (wr := WC ad g I L S) (n := 1) (c_X5_checkPlace l D g q (by omega)) rfl srcN hrdN w_559 w_557 w_558 w_1 (by decide +kernel) rfl ⟨Nat.le_of_ble_eq_true rfl, Nat.le_of_ble_eq_true rfl⟩ rfl rfl rfl (Nat.le_of_ble_eq_true rfl) ⟨Nat.le_of_ble_eq_true rfl, Nat.le_of_ble_eq_true rfl⟩ dX5_erase_1 (fun hu1 _ => ?_)
  refine g_af (ws' := WC ad g I L S) (st' := []) (cells' := 0) (slots' := 0) (pc' := 4) rfl rfl rfl rfl rfl ?_
  refine g_run X KX5_erase_4_1 KX5_erase_4_1_d 5 [(0, .ref (ad 0)), (1, .int (nI q)), (2, .int (nI 1))] [.ref (ad 0)] rfl ?_
  refine g_get X srcW (v := .ref (ad 1)) hinX5 rfl 0 (by decide) w_183 rfl (wc_mem (k := 0) (by decide)) rfl dX5_erase_5 ?_
  refine g_callV X hSB hAf (srcW) (hrc1 := (rfl : CL[3]? = some _)) (wc_mem (k := 1) (by decide)) rfl (As := []) (wr := WC ad g I L S) (n := 0) (c_X4_erasedPlaces l D g ad I L S (hS18)) rfl srcW hrdC w_240 w_308 w_238 w_239 w_2 (by decide +kernel) rfl ⟨Nat.le_of_ble_eq_true rfl, Nat.le_of_ble_eq_true rfl⟩ rfl rfl rfl (Nat.le_of_ble_eq_true rfl) ⟨Nat.le_of_ble_eq_true rfl, Nat.le_of_ble_eq_true rfl⟩ dX5_erase_8 (fun hu2 _ => ?_)
  refine g_af (ws' := WC ad g I L S) (st' := [.int (nI (ers I S 15))]) (cells' := 0) (slots' := 0) (pc' := 11) rfl rfl rfl rfl rfl ?_
  refine g_run X KX5_erase_11_2 KX5_erase_11_2_d 18 [(3, .int ((nI (ers I S 15)) &&& (((nI 1) <<< ((nI q) &&& 31)) ^^^ (-nI 1)))), (0, .ref (ad 0)), (1, .int (nI q)), (2, .int (nI 1))] [] rfl ?_
  refine g_nm (lv' := [(3, .int (nI (ers I S 15 &&& (32767 ^^^ 2 ^ q)))), (0, .ref (ad 0)), (1, .int (nI q)), (2, .int (nI 1))]) (st' := []) (by rw [sh1 (by omega), an15 (two_lt hq) (ers_lt _ _ _)]) rfl ?_
  have hp15 := pcn_15 (ers I S 15 &&& (32767 ^^^ 2 ^ q))
  refine g_run X KX5_erase_18_3 KX5_erase_18_3_d 19 [(3, .int (nI (ers I S 15 &&& (32767 ^^^ 2 ^ q)))), (0, .ref (ad 0)), (1, .int (nI q)), (2, .int (nI 1))] [.int (nI 1)] rfl ?_
  refine g_if_eq X 40 dX5_erase_19 (by decide) (fun hc3 => ?_) (fun hc3 => ?_)
  · rw [nz_eq (by omega)] at hc3; first | omega | (simp at hc3)
  · refine g_run X KX5_erase_22_8 KX5_erase_22_8_d 23 [(3, .int (nI (ers I S 15 &&& (32767 ^^^ 2 ^ q)))), (0, .ref (ad 0)), (1, .int (nI q)), (2, .int (nI 1))] [.int (nI (ers I S 15 &&& (32767 ^^^ 2 ^ q)))] rfl ?_
    refine g_callS X hSB hAf (As := [.int (nI (ers I S 15 &&& (32767 ^^^ 2 ^ q)))]) (wr := WC ad g I L S) (n := 1) (c_J6_bitCount_0f7a4 l D g (ers I S 15 &&& (32767 ^^^ 2 ^ q)) (an_lt (ers_lt _ _ _))) rfl srcN hrdN w_259 w_309 w_258 w_24 (by decide +kernel) rfl ⟨Nat.le_of_ble_eq_true rfl, Nat.le_of_ble_eq_true rfl⟩ rfl rfl rfl (Nat.le_of_ble_eq_true rfl) ⟨Nat.le_of_ble_eq_true rfl, Nat.le_of_ble_eq_true rfl⟩ dX5_erase_23 (fun hu4 _ => ?_)
    refine g_af (ws' := WC ad g I L S) (st' := [.int (nI (pcn (ers I S 15 &&& (32767 ^^^ 2 ^ q)) 15))]) (cells' := 0) (slots' := 0) (pc' := 26) rfl rfl rfl rfl rfl ?_
    refine g_run X KX5_erase_26_9 KX5_erase_26_9_d 27 [(3, .int (nI (ers I S 15 &&& (32767 ^^^ 2 ^ q)))), (0, .ref (ad 0)), (1, .int (nI q)), (2, .int (nI 1))] [.int (nI 4), .int (nI (pcn (ers I S 15 &&& (32767 ^^^ 2 ^ q)) 15))] rfl ?_
    refine g_icmp_lt X 40 dX5_erase_27 (by decide) (fun hc5 => ?_) (fun hc5 => ?_)
    · refine g_run X KX5_erase_40_4 KX5_erase_40_4_d 41 [(3, .int (nI (ers I S 15 &&& (32767 ^^^ 2 ^ q)))), (0, .ref (ad 0)), (1, .int (nI q)), (2, .int (nI 1))] [.ref (ad 0)] rfl ?_
      refine g_get X srcW (v := .ref (ad 1)) hinX5 rfl 0 (by decide) w_183 rfl (wc_mem (k := 0) (by decide)) rfl dX5_erase_41 ?_
      refine g_get X srcW (v := .ref (ad 3)) hinX4 rfl 1 (by decide) w_96 rfl (wc_mem (k := 1) (by decide)) rfl dX5_erase_44 ?_
      refine g_run X KX5_erase_47_5 KX5_erase_47_5_d 48 [(3, .int (nI (ers I S 15 &&& (32767 ^^^ 2 ^ q)))), (0, .ref (ad 0)), (1, .int (nI q)), (2, .int (nI 1))] [.int (nI q), .ref (ad 3)] rfl ?_
      refine g_aald X srcW (b := ad ((S q) + 10)) 1 rfl (wc_mem (k := 3) (by decide)) q rfl (by omega) (by decide) (rfl) dX5_erase_48 ?_
      refine g_run X KX5_erase_49_6 KX5_erase_49_6_d 50 [(3, .int (nI (ers I S 15 &&& (32767 ^^^ 2 ^ q)))), (0, .ref (ad 0)), (1, .int (nI q)), (2, .int (nI 1))] [.int (nI 1), .ref (ad ((S q) + 10))] rfl ?_
      refine g_put X (ws' := WC ad g (u2 I 3 (S q) (nI 1)) L S) hinX1 tyX1 tyX1_ok nmX1 rfl 4 (by decide) w_67 rfl rfl (ty := .boolean) rfl (by decide +kernel) rfl ((S q) + 10) (wc_get (k := (S q) + 10) (Nat.add_lt_add_right (hS18 _ (by omega)) 10)) (Nat.le_of_ble_eq_true rfl) (ws_ch4) dX5_erase_50 ?_
      refine g_run X KX5_erase_53_7 KX5_erase_53_7_d 54 [(3, .int (nI (ers I S 15 &&& (32767 ^^^ 2 ^ q)))), (0, .ref (ad 0)), (1, .int (nI q)), (2, .int (nI 1))] [.ref (ad 0)] rfl ?_
      refine g_get X srcW (v := .ref (ad 1)) hinX5 rfl 0 (by decide) w_183 rfl (wc_mem (k := 0) (by decide)) rfl dX5_erase_54 ?_
      refine g_callV X hSB hAf (srcW) (hrc1 := (rfl : CL[3]? = some _)) (wc_mem (k := 1) (by decide)) rfl (As := []) (wr := WC ad g (u2 I 3 (S q) (nI 1)) L S) (n := 0) (c_X4_erasedPlaces l D g ad (u2 I 3 (S q) (nI 1)) L S (hS18)) rfl srcW hrdC w_240 w_308 w_238 w_239 w_2 (by decide +kernel) rfl ⟨Nat.le_of_ble_eq_true rfl, Nat.le_of_ble_eq_true rfl⟩ rfl rfl rfl (Nat.le_of_ble_eq_true rfl) ⟨Nat.le_of_ble_eq_true rfl, Nat.le_of_ble_eq_true rfl⟩ dX5_erase_57 (fun hu6 _ => ?_)
      refine g_af (ws' := WC ad g (u2 I 3 (S q) (nI 1)) L S) (st' := [.int (nI (ers (u2 I 3 (S q) (nI 1)) S 15))]) (cells' := 0) (slots' := 0) (pc' := 60) rfl rfl rfl rfl rfl ?_
      refine g_callS X hSB hAf (As := [.int (nI (ers (u2 I 3 (S q) (nI 1)) S 15))]) (wr := WC ad g (u2 I 3 (S q) (nI 1)) L S) (n := 1) (c_J6_bitCount_0f7a4 l D g (ers (u2 I 3 (S q) (nI 1)) S 15) (ers_lt _ _ _)) rfl srcN hrdN w_259 w_309 w_258 w_24 (by decide +kernel) rfl ⟨Nat.le_of_ble_eq_true rfl, Nat.le_of_ble_eq_true rfl⟩ rfl rfl rfl (Nat.le_of_ble_eq_true rfl) ⟨Nat.le_of_ble_eq_true rfl, Nat.le_of_ble_eq_true rfl⟩ dX5_erase_60 (fun hu7 _ => ?_)
      refine g_af (ws' := WC ad g (u2 I 3 (S q) (nI 1)) L S) (st' := [.int (nI (pcn (ers (u2 I 3 (S q) (nI 1)) S 15) 15))]) (cells' := 0) (slots' := 0) (pc' := 63) rfl rfl rfl rfl rfl ?_
      exact g_iret X hr () (rfl) (trivial) ((List.append_nil _).symm) (Nat.le_of_ble_eq_true rfl) (Nat.le_of_ble_eq_true rfl) dX5_erase_63
    · rw [nI_ltI (by omega) (by omega)] at hc5; first | omega | (simp at hc5)

set_option maxHeartbeats 4000000 in
set_option maxRecDepth 100000 in
theorem x_X5_erase_1 (l : Launch) (hfl : l.stackTraces = false) (D : va_G) (g : Nat → ClassId) (ad : Nat → Nat) (I : Nat → Nat → Int32) (L : Nat → Nat → Int64) (S : Nat → Nat) (x : Int32) (y1 : Int32) (hx : x < 0 ∨ ¬ x < nI 15) : CX l yX5_erase cX5_erase 4 ((Option.some FieldType.int)) ({ frames := 7, cells := 1, slots := 6, locals := 120 } : Room) [.ref (ad 0), .int x, .int y1] D CL (TYS g) (WC ad g I L S) xIO 1 6 := by
  refine cx_of (by decide +kernel) (Nat.le_of_ble_eq_true rfl) ?_
  intro p e s m below meth c A X hnt hSB hRO hAf
  refine g_cs (ws' := []) (lv' := [(0, .ref (ad 0)), (1, .int x), (2, .int y1)]) rfl rfl ?_
  refine g_run X KX5_erase_0_0 KX5_erase_0_0_d 1 [(0, .ref (ad 0)), (1, .int x), (2, .int y1)] [.int x] rfl ?_
  exact gx_callS X hSB hAf hnt (As := [.int x]) (n := 1) (x_X5_checkPlace l hfl D g x (hx)) srcN w_559 w_557 w_558 w_1 (by decide +kernel) rfl ⟨Nat.le_of_ble_eq_true rfl, Nat.le_of_ble_eq_true rfl⟩ rfl rfl rfl (Nat.le_of_ble_eq_true rfl) ⟨Nat.le_of_ble_eq_true rfl, Nat.le_of_ble_eq_true rfl⟩ (Nat.le_of_ble_eq_true rfl) (Nat.le_of_ble_eq_true rfl) dX5_erase_1

set_option maxHeartbeats 4000000 in
set_option maxRecDepth 100000 in
theorem x_X5_erase_2 (l : Launch) (hfl : l.stackTraces = false) (D : va_G) (g : Nat → ClassId) (ad : Nat → Nat) (I : Nat → Nat → Int32) (L : Nat → Nat → Int64) (S : Nat → Nat) (q : Nat) (hS18 : ∀ p, p < 15 → S p < 18) (hq : q < 15) (h4 : ¬ pcn (ers I S 15 &&& (32767 ^^^ 2 ^ q)) 15 < 4) : CX l yX5_erase cX5_erase 4 ((Option.some FieldType.int)) ({ frames := 6, cells := 1, slots := 6, locals := 100 } : Room) [.ref (ad 0), .int (nI q), .int (nI 1)] D CL (TYS g) (WC ad g I L S) xIS 1 6 := by
  refine cx_of (by decide +kernel) (Nat.le_of_ble_eq_true rfl) ?_
  intro p e s m below meth c A X hnt hSB hRO hAf
  refine g_cs (ws' := []) (lv' := [(0, .ref (ad 0)), (1, .int (nI q)), (2, .int (nI 1))]) rfl rfl ?_
  refine g_run X KX5_erase_0_0 KX5_erase_0_0_d 1 [(0, .ref (ad 0)), (1, .int (nI q)), (2, .int (nI 1))] [.int (nI q)] rfl ?_
  refine g_callS X hSB hAf (As := [.int (nI q)]) (wr := []) (n := 1) (c_X5_checkPlace l D g q (by omega)) rfl srcN hrdN w_559 w_557 w_558 w_1 (by decide +kernel) rfl ⟨Nat.le_of_ble_eq_true rfl, Nat.le_of_ble_eq_true rfl⟩ rfl rfl rfl (Nat.le_of_ble_eq_true rfl) ⟨Nat.le_of_ble_eq_true rfl, Nat.le_of_ble_eq_true rfl⟩ dX5_erase_1 (fun hu1 _ => ?_)
  refine g_af (ws' := []) (st' := []) (cells' := 0) (slots' := 0) (pc' := 4) rfl rfl rfl rfl rfl ?_
  refine g_run X KX5_erase_4_1 KX5_erase_4_1_d 5 [(0, .ref (ad 0)), (1, .int (nI q)), (2, .int (nI 1))] [.ref (ad 0)] rfl ?_
  refine g_get X (srcR hRO) (v := .ref (ad 1)) hinX5 rfl 0 (by decide) w_183 rfl (wc_mem (k := 0) (by decide)) rfl dX5_erase_5 ?_
  refine g_callV X hSB hAf ((srcR hRO)) (hrc1 := (rfl : CL[3]? = some _)) (wc_mem (k := 1) (by decide)) rfl (As := []) (wr := []) (n := 0) (c_X4_erasedPlaces l D g ad I L S (hS18)) rfl (srcR hRO) hrdC w_240 w_308 w_238 w_239 w_2 (by decide +kernel) rfl ⟨Nat.le_of_ble_eq_true rfl, Nat.le_of_ble_eq_true rfl⟩ rfl rfl rfl (Nat.le_of_ble_eq_true rfl) ⟨Nat.le_of_ble_eq_true rfl, Nat.le_of_ble_eq_true rfl⟩ dX5_erase_8 (fun hu2 _ => ?_)
  refine g_af (ws' := []) (st' := [.int (nI (ers I S 15))]) (cells' := 0) (slots' := 0) (pc' := 11) rfl rfl rfl rfl rfl ?_
  refine g_run X KX5_erase_11_2 KX5_erase_11_2_d 18 [(3, .int ((nI (ers I S 15)) &&& (((nI 1) <<< ((nI q) &&& 31)) ^^^ (-nI 1)))), (0, .ref (ad 0)), (1, .int (nI q)), (2, .int (nI 1))] [] rfl ?_
  refine g_nm (lv' := [(3, .int (nI (ers I S 15 &&& (32767 ^^^ 2 ^ q)))), (0, .ref (ad 0)), (1, .int (nI q)), (2, .int (nI 1))]) (st' := []) (by rw [sh1 (by omega), an15 (two_lt hq) (ers_lt _ _ _)]) rfl ?_
  have hp15 := pcn_15 (ers I S 15 &&& (32767 ^^^ 2 ^ q))
  refine g_run X KX5_erase_18_3 KX5_erase_18_3_d 19 [(3, .int (nI (ers I S 15 &&& (32767 ^^^ 2 ^ q)))), (0, .ref (ad 0)), (1, .int (nI q)), (2, .int (nI 1))] [.int (nI 1)] rfl ?_
  refine g_if_eq X 40 dX5_erase_19 (by decide) (fun hc3 => ?_) (fun hc3 => ?_)
  · rw [nz_eq (by omega)] at hc3; first | omega | (simp at hc3)
  · refine g_run X KX5_erase_22_8 KX5_erase_22_8_d 23 [(3, .int (nI (ers I S 15 &&& (32767 ^^^ 2 ^ q)))), (0, .ref (ad 0)), (1, .int (nI q)), (2, .int (nI 1))] [.int (nI (ers I S 15 &&& (32767 ^^^ 2 ^ q)))] rfl ?_
    refine g_callS X hSB hAf (As := [.int (nI (ers I S 15 &&& (32767 ^^^ 2 ^ q)))]) (wr := []) (n := 1) (c_J6_bitCount_0f7a4 l D g (ers I S 15 &&& (32767 ^^^ 2 ^ q)) (an_lt (ers_lt _ _ _))) rfl srcN hrdN w_259 w_309 w_258 w_24 (by decide +kernel) rfl ⟨Nat.le_of_ble_eq_true rfl, Nat.le_of_ble_eq_true rfl⟩ rfl rfl rfl (Nat.le_of_ble_eq_true rfl) ⟨Nat.le_of_ble_eq_true rfl, Nat.le_of_ble_eq_true rfl⟩ dX5_erase_23 (fun hu4 _ => ?_)
    refine g_af (ws' := []) (st' := [.int (nI (pcn (ers I S 15 &&& (32767 ^^^ 2 ^ q)) 15))]) (cells' := 0) (slots' := 0) (pc' := 26) rfl rfl rfl rfl rfl ?_
    refine g_run X KX5_erase_26_9 KX5_erase_26_9_d 27 [(3, .int (nI (ers I S 15 &&& (32767 ^^^ 2 ^ q)))), (0, .ref (ad 0)), (1, .int (nI q)), (2, .int (nI 1))] [.int (nI 4), .int (nI (pcn (ers I S 15 &&& (32767 ^^^ 2 ^ q)) 15))] rfl ?_
    refine g_icmp_lt X 40 dX5_erase_27 (by decide) (fun hc5 => ?_) (fun hc5 => ?_)
    · rw [nI_ltI (by omega) (by omega)] at hc5; first | omega | (simp at hc5)
    · exact g_throwS (E := xIS) X hSB hfl hnt (text := "4 other places are ERASED") (names := xNm) (by decide +kernel) (by decide +kernel) w_561 w_25 (by decide +kernel) hatIS hgdIS dX5_erase_30 dX5_erase_33 dX5_erase_34 dX5_erase_36 dX5_erase_39 (Nat.le_of_ble_eq_true rfl) (Nat.le_of_ble_eq_true rfl) (Nat.le_of_ble_eq_true rfl) (Nat.le_of_ble_eq_true rfl) (Nat.le_of_ble_eq_true rfl) (Nat.le_of_ble_eq_true rfl)

def KX5_replace_0_0 : List (Nat × Instr × Nat) := [(0, .iload_n 1, 1)]
theorem KX5_replace_0_0_d : ∀ z ∈ KX5_replace_0_0, decode cX5_replace z.1 = .ok z.2 := by decide +kernel
def KX5_replace_4_1 : List (Nat × Instr × Nat) := [(4, .aload_n 0, 1)]
theorem KX5_replace_4_1_d : ∀ z ∈ KX5_replace_4_1, decode cX5_replace z.1 = .ok z.2 := by decide +kernel
def KX5_replace_24_2 : List (Nat × Instr × Nat) := [(24, .aload_n 0, 1)]
theorem KX5_replace_24_2_d : ∀ z ∈ KX5_replace_24_2, decode cX5_replace z.1 = .ok z.2 := by decide +kernel
def KX5_replace_28_3 : List (Nat × Instr × Nat) := [(28, .iload_n 1, 1)]
theorem KX5_replace_28_3_d : ∀ z ∈ KX5_replace_28_3, decode cX5_replace z.1 = .ok z.2 := by decide +kernel
def KX5_replace_32_4 : List (Nat × Instr × Nat) := [(32, .aload_n 0, 1)]
theorem KX5_replace_32_4_d : ∀ z ∈ KX5_replace_32_4, decode cX5_replace z.1 = .ok z.2 := by decide +kernel
def KX5_replace_39_5 : List (Nat × Instr × Nat) := [(39, .iload_n 1, 1)]
theorem KX5_replace_39_5_d : ∀ z ∈ KX5_replace_39_5, decode cX5_replace z.1 = .ok z.2 := by decide +kernel
set_option maxHeartbeats 4000000 in
set_option maxRecDepth 100000 in
theorem c_X5_replace (l : Launch) (D : va_G) (g : Nat → ClassId) (ad : Nat → Nat) (I : Nat → Nat → Int32) (L : Nat → Nat → Int64) (S : Nat → Nat) (q : Nat) (n : Nat) (hS18 : ∀ p, p < 15 → S p < 18) (hq : q < 15) (hns : I 8 5 = nI n) (hn : n < 18) : CT l yX5_replace cX5_replace 2 ((Option.some FieldType.int)) ({ frames := 6, cells := 0, slots := 0, locals := 159 } : Room) [.ref (ad 0), .int (nI q)] D CL (TYS g) ([]) (WC ad g I L S) (S := Unit) (fun _ => some (.int (nI n))) (fun _ => WC ad g (u2 (u2 (u2 (u2 I 8 5 (nI (n + 1))) 0 (S q) (-nI 1)) 4 (S q) (nI 1)) 0 n (nI q)) (ffl (u2 I 8 5 (nI (n + 1))) L S q n (ffb (u2 I 8 5 (nI (n + 1))) S q) 16) (u1 S q n)) (fun _ => True) 0 0 := by
  refine ct_of (by decide +kernel) (Nat.le_of_ble_eq_true rfl) ?_
  intro p e s m below meth c A X hr hnm hSB hRO hAf
  refine g_cs (ws' := WC ad g I L S) (lv' := [(0, .ref (ad 0)), (1, .int (nI q))]) rfl rfl ?_
  refine g_run X KX5_replace_0_0 KX5_replace_0_0_d 1 [(0, .ref (ad 0)), (1, .int (nI q))] [.int (nI q)] rfl ?_
  refine g_callS X hSB hAf (As := [.int (nI q)]) (wr := WC ad g I L S) (n := 1) (c_X5_checkPlace l D g q (by omega)) rfl srcN hrdN w_559 w_557 w_558 w_1 (by decide +kernel) rfl ⟨Nat.le_of_ble_eq_true rfl, Nat.le_of_ble_eq_true rfl⟩ rfl rfl rfl (Nat.le_of_ble_eq_true rfl) ⟨Nat.le_of_ble_eq_true rfl, Nat.le_of_ble_eq_true rfl⟩ dX5_replace_1 (fun hu1 _ => ?_)
  refine g_af (ws' := WC ad g I L S) (st' := []) (cells' := 0) (slots' := 0) (pc' := 4) rfl rfl rfl rfl rfl ?_
  refine g_run X KX5_replace_4_1 KX5_replace_4_1_d 5 [(0, .ref (ad 0)), (1, .int (nI q))] [.ref (ad 0)] rfl ?_
  refine g_get X srcW (v := .ref (ad 1)) hinX5 rfl 0 (by decide) w_183 rfl (wc_mem (k := 0) (by decide)) rfl dX5_replace_5 ?_
  refine g_callV X hSB hAf (srcW) (hrc1 := (rfl : CL[3]? = some _)) (wc_mem (k := 1) (by decide)) rfl (As := []) (wr := WC ad g I L S) (n := 0) (c_X4_sparesLeft l D g ad I L S ) rfl srcW hrdC w_327 w_324 w_325 w_326 w_2 (by decide +kernel) rfl ⟨Nat.le_of_ble_eq_true rfl, Nat.le_of_ble_eq_true rfl⟩ rfl rfl rfl (Nat.le_of_ble_eq_true rfl) ⟨Nat.le_of_ble_eq_true rfl, Nat.le_of_ble_eq_true rfl⟩ dX5_replace_8 (fun hu2 _ => ?_)
  refine g_af (ws' := WC ad g I L S) (st' := [.int (nI 18 - I 8 5)]) (cells' := 0) (slots' := 0) (pc' := 11) rfl rfl rfl rfl rfl ?_
  refine g_st (st' := [.int (nI (18 - n))]) (by rw [hns, pk_sub (by omega)]) ?_
  refine g_if_ne X 24 dX5_replace_11 (by decide) (fun hc3 => ?_) (fun hc3 => ?_)
  · have hu1 : u1 S q n q < 18 := by simp [u1]; omega
    refine g_run X KX5_replace_24_2 KX5_replace_24_2_d 25 [(0, .ref (ad 0)), (1, .int (nI q))] [.ref (ad 0)] rfl ?_
    refine g_get X srcW (v := .ref (ad 1)) hinX5 rfl 0 (by decide) w_183 rfl (wc_mem (k := 0) (by decide)) rfl dX5_replace_25 ?_
    refine g_run X KX5_replace_28_3 KX5_replace_28_3_d 29 [(0, .ref (ad 0)), (1, .int (nI q))] [.int (nI q), .ref (ad 1)] rfl ?_
    refine g_callV X hSB hAf (srcW) (hrc1 := (rfl : CL[3]? = some _)) (wc_mem (k := 1) (by decide)) rfl (As := [.int (nI q)]) (wr := []) (n := 1) (c_X4_replaceAt l D g ad I L S q n (hS18) (by omega) (hns) (by omega)) (List.append_nil _).symm srcN hrdN w_588 w_585 w_586 w_587 w_2 (by decide +kernel) rfl ⟨Nat.le_of_ble_eq_true rfl, Nat.le_of_ble_eq_true rfl⟩ rfl rfl rfl (Nat.le_of_ble_eq_true rfl) ⟨Nat.le_of_ble_eq_true rfl, Nat.le_of_ble_eq_true rfl⟩ dX5_replace_29 (fun hu4 _ => ?_)
    refine g_af (ws' := WC ad g (u2 (u2 (u2 (u2 I 8 5 (nI (n + 1))) 0 (S q) (-nI 1)) 4 (S q) (nI 1)) 0 n (nI q)) (ffl (u2 I 8 5 (nI (n + 1))) L S q n (ffb (u2 I 8 5 (nI (n + 1))) S q) 16) (u1 S q n)) (st' := []) (cells' := 0) (slots' := 0) (pc' := 32) (List.append_nil _).symm rfl rfl rfl rfl ?_
    refine g_run X KX5_replace_32_4 KX5_replace_32_4_d 33 [(0, .ref (ad 0)), (1, .int (nI q))] [.ref (ad 0)] rfl ?_
    refine g_get X srcW (v := .ref (ad 1)) hinX5 rfl 0 (by decide) w_183 rfl (wc_mem (k := 0) (by decide)) rfl dX5_replace_33 ?_
    refine g_get X srcW (v := .ref (ad 3)) hinX4 rfl 1 (by decide) w_96 rfl (wc_mem (k := 1) (by decide)) rfl dX5_replace_36 ?_
    refine g_run X KX5_replace_39_5 KX5_replace_39_5_d 40 [(0, .ref (ad 0)), (1, .int (nI q))] [.int (nI q), .ref (ad 3)] rfl ?_
    refine g_aald X srcW (b := ad (((u1 S q n) q) + 10)) 1 rfl (wc_mem (k := 3) (by decide)) q rfl (by omega) (by decide) (rfl) dX5_replace_40 ?_
    refine g_get X srcW (v := .int (nI ((u1 S q n) q))) hinX1 rfl 0 (by decide) w_55 rfl (wc_chip (by omega)) rfl dX5_replace_41 ?_
    exact g_iret X hr () (by show some (Value.int _) = some (Value.int _); rw [show u1 S q n q = n by simp [u1]]) (trivial) ((List.append_nil _).symm) (Nat.le_of_ble_eq_true rfl) (Nat.le_of_ble_eq_true rfl) dX5_replace_44
  · rw [nz_eq (by omega)] at hc3; first | omega | (simp at hc3)

set_option maxHeartbeats 4000000 in
set_option maxRecDepth 100000 in
theorem x_X5_replace_1 (l : Launch) (hfl : l.stackTraces = false) (D : va_G) (g : Nat → ClassId) (ad : Nat → Nat) (I : Nat → Nat → Int32) (L : Nat → Nat → Int64) (S : Nat → Nat) (x : Int32) (hx : x < 0 ∨ ¬ x < nI 15) : CX l yX5_replace cX5_replace 2 ((Option.some FieldType.int)) ({ frames := 7, cells := 1, slots := 6, locals := 120 } : Room) [.ref (ad 0), .int x] D CL (TYS g) (WC ad g I L S) xIO 1 6 := by
  refine cx_of (by decide +kernel) (Nat.le_of_ble_eq_true rfl) ?_
  intro p e s m below meth c A X hnt hSB hRO hAf
  refine g_cs (ws' := []) (lv' := [(0, .ref (ad 0)), (1, .int x)]) rfl rfl ?_
  refine g_run X KX5_replace_0_0 KX5_replace_0_0_d 1 [(0, .ref (ad 0)), (1, .int x)] [.int x] rfl ?_
  exact gx_callS X hSB hAf hnt (As := [.int x]) (n := 1) (x_X5_checkPlace l hfl D g x (hx)) srcN w_559 w_557 w_558 w_1 (by decide +kernel) rfl ⟨Nat.le_of_ble_eq_true rfl, Nat.le_of_ble_eq_true rfl⟩ rfl rfl rfl (Nat.le_of_ble_eq_true rfl) ⟨Nat.le_of_ble_eq_true rfl, Nat.le_of_ble_eq_true rfl⟩ (Nat.le_of_ble_eq_true rfl) (Nat.le_of_ble_eq_true rfl) dX5_replace_1

set_option maxHeartbeats 4000000 in
set_option maxRecDepth 100000 in
theorem x_X5_replace_2 (l : Launch) (hfl : l.stackTraces = false) (D : va_G) (g : Nat → ClassId) (ad : Nat → Nat) (I : Nat → Nat → Int32) (L : Nat → Nat → Int64) (S : Nat → Nat) (q : Nat) (hq : q < 15) (hns : I 8 5 = nI 18) : CX l yX5_replace cX5_replace 2 ((Option.some FieldType.int)) ({ frames := 6, cells := 1, slots := 6, locals := 100 } : Room) [.ref (ad 0), .int (nI q)] D CL (TYS g) (WC ad g I L S) xIS 1 6 := by
  refine cx_of (by decide +kernel) (Nat.le_of_ble_eq_true rfl) ?_
  intro p e s m below meth c A X hnt hSB hRO hAf
  refine g_cs (ws' := []) (lv' := [(0, .ref (ad 0)), (1, .int (nI q))]) rfl rfl ?_
  refine g_run X KX5_replace_0_0 KX5_replace_0_0_d 1 [(0, .ref (ad 0)), (1, .int (nI q))] [.int (nI q)] rfl ?_
  refine g_callS X hSB hAf (As := [.int (nI q)]) (wr := []) (n := 1) (c_X5_checkPlace l D g q (by omega)) rfl srcN hrdN w_559 w_557 w_558 w_1 (by decide +kernel) rfl ⟨Nat.le_of_ble_eq_true rfl, Nat.le_of_ble_eq_true rfl⟩ rfl rfl rfl (Nat.le_of_ble_eq_true rfl) ⟨Nat.le_of_ble_eq_true rfl, Nat.le_of_ble_eq_true rfl⟩ dX5_replace_1 (fun hu1 _ => ?_)
  refine g_af (ws' := []) (st' := []) (cells' := 0) (slots' := 0) (pc' := 4) rfl rfl rfl rfl rfl ?_
  refine g_run X KX5_replace_4_1 KX5_replace_4_1_d 5 [(0, .ref (ad 0)), (1, .int (nI q))] [.ref (ad 0)] rfl ?_
  refine g_get X (srcR hRO) (v := .ref (ad 1)) hinX5 rfl 0 (by decide) w_183 rfl (wc_mem (k := 0) (by decide)) rfl dX5_replace_5 ?_
  refine g_callV X hSB hAf ((srcR hRO)) (hrc1 := (rfl : CL[3]? = some _)) (wc_mem (k := 1) (by decide)) rfl (As := []) (wr := []) (n := 0) (c_X4_sparesLeft l D g ad I L S ) rfl (srcR hRO) hrdC w_327 w_324 w_325 w_326 w_2 (by decide +kernel) rfl ⟨Nat.le_of_ble_eq_true rfl, Nat.le_of_ble_eq_true rfl⟩ rfl rfl rfl (Nat.le_of_ble_eq_true rfl) ⟨Nat.le_of_ble_eq_true rfl, Nat.le_of_ble_eq_true rfl⟩ dX5_replace_8 (fun hu2 _ => ?_)
  refine g_af (ws' := []) (st' := [.int (nI 18 - I 8 5)]) (cells' := 0) (slots' := 0) (pc' := 11) rfl rfl rfl rfl rfl ?_
  refine g_st (st' := [.int (nI 0)]) (by rw [hns, pk_sub (by decide)]) ?_
  refine g_if_ne X 24 dX5_replace_11 (by decide) (fun hc3 => ?_) (fun hc3 => ?_)
  · rw [nz_eq (by omega)] at hc3; first | omega | (simp at hc3)
  · exact g_throwS (E := xIS) X hSB hfl hnt (text := "no SPARE is left") (names := xNm) (by decide +kernel) (by decide +kernel) w_561 w_25 (by decide +kernel) hatIS hgdIS dX5_replace_14 dX5_replace_17 dX5_replace_18 dX5_replace_20 dX5_replace_23 (Nat.le_of_ble_eq_true rfl) (Nat.le_of_ble_eq_true rfl) (Nat.le_of_ble_eq_true rfl) (Nat.le_of_ble_eq_true rfl) (Nat.le_of_ble_eq_true rfl) (Nat.le_of_ble_eq_true rfl)

def KX5_limit_0_0 : List (Nat × Instr × Nat) := [(0, .iload_n 1, 1), (1, .iconst 1, 1)]
theorem KX5_limit_0_0_d : ∀ z ∈ KX5_limit_0_0, decode cX5_limit z.1 = .ok z.2 := by decide +kernel
def KX5_limit_5_1 : List (Nat × Instr × Nat) := [(5, .iload_n 1, 1), (6, .bipush 99, 2)]
theorem KX5_limit_5_1_d : ∀ z ∈ KX5_limit_5_1, decode cX5_limit z.1 = .ok z.2 := by decide +kernel
def KX5_limit_21_2 : List (Nat × Instr × Nat) := [(21, .aload_n 0, 1)]
theorem KX5_limit_21_2_d : ∀ z ∈ KX5_limit_21_2, decode cX5_limit z.1 = .ok z.2 := by decide +kernel
def KX5_limit_28_3 : List (Nat × Instr × Nat) := [(28, .istore_n 2, 1), (29, .aload_n 0, 1)]
theorem KX5_limit_28_3_d : ∀ z ∈ KX5_limit_28_3, decode cX5_limit z.1 = .ok z.2 := by decide +kernel
def KX5_limit_33_4 : List (Nat × Instr × Nat) := [(33, .iload_n 1, 1)]
theorem KX5_limit_33_4_d : ∀ z ∈ KX5_limit_33_4, decode cX5_limit z.1 = .ok z.2 := by decide +kernel
def KX5_limit_37_5 : List (Nat × Instr × Nat) := [(37, .iload_n 2, 1)]
theorem KX5_limit_37_5_d : ∀ z ∈ KX5_limit_37_5, decode cX5_limit z.1 = .ok z.2 := by decide +kernel
set_option maxHeartbeats 4000000 in
set_option maxRecDepth 100000 in
theorem c_X5_limit (l : Launch) (D : va_G) (g : Nat → ClassId) (ad : Nat → Nat) (I : Nat → Nat → Int32) (L : Nat → Nat → Int64) (S : Nat → Nat) (v : Nat) (h1 : 1 ≤ v) (hv : v < 100) : CT l yX5_limit cX5_limit 3 ((Option.some FieldType.int)) ({ frames := 0, cells := 0, slots := 0, locals := 0 } : Room) [.ref (ad 0), .int (nI v)] D CL (TYS g) ([]) (WC ad g I L S) (S := Unit) (fun _ => some (.int (I 8 0))) (fun _ => WC ad g (u2 I 8 0 (nI v)) L S) (fun _ => True) 0 0 := by
  refine ct_of (by decide +kernel) (Nat.le_of_ble_eq_true rfl) ?_
  intro p e s m below meth c A X hr hnm hSB hRO hAf
  refine g_cs (ws' := WC ad g I L S) (lv' := [(0, .ref (ad 0)), (1, .int (nI v))]) rfl rfl ?_
  refine g_run X KX5_limit_0_0 KX5_limit_0_0_d 2 [(0, .ref (ad 0)), (1, .int (nI v))] [.int (nI 1), .int (nI v)] rfl ?_
  refine g_icmp_lt X 11 dX5_limit_2 (by decide) (fun hc1 => ?_) (fun hc1 => ?_)
  · rw [nI_ltI (by omega) (by omega)] at hc1; first | omega | (simp at hc1)
  · refine g_run X KX5_limit_5_1 KX5_limit_5_1_d 8 [(0, .ref (ad 0)), (1, .int (nI v))] [.int (nI 99), .int (nI v)] rfl ?_
    refine g_icmp_le X 21 dX5_limit_8 (by decide) (fun hc2 => ?_) (fun hc2 => ?_)
    · refine g_run X KX5_limit_21_2 KX5_limit_21_2_d 22 [(0, .ref (ad 0)), (1, .int (nI v))] [.ref (ad 0)] rfl ?_
      refine g_get X srcW (v := .ref (ad 1)) hinX5 rfl 0 (by decide) w_183 rfl (wc_mem (k := 0) (by decide)) rfl dX5_limit_22 ?_
      refine g_get X srcW (v := .int (I 8 0)) hinX4 rfl 2 (by decide) w_98 rfl (wc_mem (k := 1) (by decide)) rfl dX5_limit_25 ?_
      refine g_run X KX5_limit_28_3 KX5_limit_28_3_d 30 [(2, .int (I 8 0)), (0, .ref (ad 0)), (1, .int (nI v))] [.ref (ad 0)] rfl ?_
      refine g_get X srcW (v := .ref (ad 1)) hinX5 rfl 0 (by decide) w_183 rfl (wc_mem (k := 0) (by decide)) rfl dX5_limit_30 ?_
      refine g_run X KX5_limit_33_4 KX5_limit_33_4_d 34 [(2, .int (I 8 0)), (0, .ref (ad 0)), (1, .int (nI v))] [.int (nI v), .ref (ad 1)] rfl ?_
      refine g_put X (ws' := WC ad g (u2 I 8 0 (nI v)) L S) hinX4 tyX4 tyX4_ok nmX4 rfl 2 (by decide) w_98 rfl rfl (ty := .int) rfl rfl rfl (1) (wc_get (k := 1) (by decide)) (Nat.le_of_ble_eq_true rfl) (ws_me2) dX5_limit_34 ?_
      refine g_run X KX5_limit_37_5 KX5_limit_37_5_d 38 [(2, .int (I 8 0)), (0, .ref (ad 0)), (1, .int (nI v))] [.int (I 8 0)] rfl ?_
      exact g_iret X hr () (rfl) (trivial) ((List.append_nil _).symm) (Nat.le_of_ble_eq_true rfl) (Nat.le_of_ble_eq_true rfl) dX5_limit_38
    · rw [nI_leI (by omega) (by omega)] at hc2; first | omega | (simp at hc2)

set_option maxHeartbeats 4000000 in
set_option maxRecDepth 100000 in
theorem x_X5_limit_1 (l : Launch) (hfl : l.stackTraces = false) (D : va_G) (g : Nat → ClassId) (ad : Nat → Nat) (I : Nat → Nat → Int32) (L : Nat → Nat → Int64) (S : Nat → Nat) (x : Int32) (hx : x < nI 1 ∨ ¬ x ≤ nI 99) : CX l yX5_limit cX5_limit 3 ((Option.some FieldType.int)) ({ frames := 6, cells := 1, slots := 6, locals := 100 } : Room) [.ref (ad 0), .int x] D CL (TYS g) (WC ad g I L S) xIA 1 6 := by
  refine cx_of (by decide +kernel) (Nat.le_of_ble_eq_true rfl) ?_
  intro p e s m below meth c A X hnt hSB hRO hAf
  refine g_cs (ws' := []) (lv' := [(0, .ref (ad 0)), (1, .int x)]) rfl rfl ?_
  refine g_run X KX5_limit_0_0 KX5_limit_0_0_d 2 [(0, .ref (ad 0)), (1, .int x)] [.int (nI 1), .int x] rfl ?_
  refine g_icmp_lt X 11 dX5_limit_2 (by decide) (fun hc1 => ?_) (fun hc1 => ?_)
  · exact g_throwS (E := xIA) X hSB hfl hnt (text := "limit is not 1 to 99") (names := xNm) (by decide +kernel) (by decide +kernel) w_333 w_21 (by decide +kernel) hatIA hgdIA dX5_limit_11 dX5_limit_14 dX5_limit_15 dX5_limit_17 dX5_limit_20 (Nat.le_of_ble_eq_true rfl) (Nat.le_of_ble_eq_true rfl) (Nat.le_of_ble_eq_true rfl) (Nat.le_of_ble_eq_true rfl) (Nat.le_of_ble_eq_true rfl) (Nat.le_of_ble_eq_true rfl)
  · refine g_run X KX5_limit_5_1 KX5_limit_5_1_d 8 [(0, .ref (ad 0)), (1, .int x)] [.int (nI 99), .int x] rfl ?_
    refine g_icmp_le X 21 dX5_limit_8 (by decide) (fun hc2 => ?_) (fun hc2 => ?_)
    · exact (hx.elim (fun z => absurd z (by assumption)) (fun z => absurd hc2 z))
    · exact g_throwS (E := xIA) X hSB hfl hnt (text := "limit is not 1 to 99") (names := xNm) (by decide +kernel) (by decide +kernel) w_333 w_21 (by decide +kernel) hatIA hgdIA dX5_limit_11 dX5_limit_14 dX5_limit_15 dX5_limit_17 dX5_limit_20 (Nat.le_of_ble_eq_true rfl) (Nat.le_of_ble_eq_true rfl) (Nat.le_of_ble_eq_true rfl) (Nat.le_of_ble_eq_true rfl) (Nat.le_of_ble_eq_true rfl) (Nat.le_of_ble_eq_true rfl)

def KX5_fetch_0_0 : List (Nat × Instr × Nat) := [(0, .iload_n 1, 1)]
theorem KX5_fetch_0_0_d : ∀ z ∈ KX5_fetch_0_0, decode cX5_fetch z.1 = .ok z.2 := by decide +kernel
def KX5_fetch_4_1 : List (Nat × Instr × Nat) := [(4, .aload_n 0, 1)]
theorem KX5_fetch_4_1_d : ∀ z ∈ KX5_fetch_4_1, decode cX5_fetch z.1 = .ok z.2 := by decide +kernel
def KX5_fetch_8_2 : List (Nat × Instr × Nat) := [(8, .iload_n 1, 1)]
theorem KX5_fetch_8_2_d : ∀ z ∈ KX5_fetch_8_2, decode cX5_fetch z.1 = .ok z.2 := by decide +kernel
def KX5_fetch_12_3 : List (Nat × Instr × Nat) := [(12, .lstore_n 2, 1), (13, .lload_n 2, 1), (14, .aload_n 0, 1)]
theorem KX5_fetch_12_3_d : ∀ z ∈ KX5_fetch_12_3, decode cX5_fetch z.1 = .ok z.2 := by decide +kernel
def KX5_fetch_18_4 : List (Nat × Instr × Nat) := [(18, .iload_n 1, 1)]
theorem KX5_fetch_18_4_d : ∀ z ∈ KX5_fetch_18_4, decode cX5_fetch z.1 = .ok z.2 := by decide +kernel
set_option maxHeartbeats 4000000 in
set_option maxRecDepth 100000 in
theorem c_X5_fetch (l : Launch) (D : va_G) (g : Nat → ClassId) (ad : Nat → Nat) (I : Nat → Nat → Int32) (L : Nat → Nat → Int64) (S : Nat → Nat) (q : Nat) (hS18 : ∀ p, p < 15 → S p < 18) (hq : q < 16) : CT l yX5_fetch cX5_fetch 4 ((Option.some FieldType.int)) ({ frames := 5, cells := 0, slots := 0, locals := 133 } : Room) [.ref (ad 0), .int (nI q)] D CL (TYS g) ([]) (WC ad g I L S) (S := Unit) (fun _ => some (.int (wrO (rwd I L S q 15) (oL (mwd I L S q))))) (fun _ => WC ad g (ftA I L S q) (ftL I L S q) S) (fun _ => True) 0 0 := by
  refine ct_of (by decide +kernel) (Nat.le_of_ble_eq_true rfl) ?_
  intro p e s m below meth c A X hr hnm hSB hRO hAf
  refine g_cs (ws' := WC ad g I L S) (lv' := [(0, .ref (ad 0)), (1, .int (nI q))]) rfl rfl ?_
  refine g_run X KX5_fetch_0_0 KX5_fetch_0_0_d 1 [(0, .ref (ad 0)), (1, .int (nI q))] [.int (nI q)] rfl ?_
  refine g_callS X hSB hAf (As := [.int (nI q)]) (wr := WC ad g I L S) (n := 1) (c_X5_checkLine l D g q (by omega)) rfl srcN hrdN w_435 w_433 w_434 w_1 (by decide +kernel) rfl ⟨Nat.le_of_ble_eq_true rfl, Nat.le_of_ble_eq_true rfl⟩ rfl rfl rfl (Nat.le_of_ble_eq_true rfl) ⟨Nat.le_of_ble_eq_true rfl, Nat.le_of_ble_eq_true rfl⟩ dX5_fetch_1 (fun hu1 _ => ?_)
  refine g_af (ws' := WC ad g I L S) (st' := []) (cells' := 0) (slots' := 0) (pc' := 4) rfl rfl rfl rfl rfl ?_
  refine g_run X KX5_fetch_4_1 KX5_fetch_4_1_d 5 [(0, .ref (ad 0)), (1, .int (nI q))] [.ref (ad 0)] rfl ?_
  refine g_get X srcW (v := .ref (ad 1)) hinX5 rfl 0 (by decide) w_183 rfl (wc_mem (k := 0) (by decide)) rfl dX5_fetch_5 ?_
  refine g_run X KX5_fetch_8_2 KX5_fetch_8_2_d 9 [(0, .ref (ad 0)), (1, .int (nI q))] [.int (nI q), .ref (ad 1)] rfl ?_
  refine g_callV X hSB hAf (srcW) (hrc1 := (rfl : CL[3]? = some _)) (wc_mem (k := 1) (by decide)) rfl (As := [.int (nI q)]) (wr := WC ad g I L S) (n := 1) (c_X4_readWord l D g ad I L S q (hS18) (by omega)) rfl srcW hrdC w_244 w_441 w_242 w_243 w_2 (by decide +kernel) rfl ⟨Nat.le_of_ble_eq_true rfl, Nat.le_of_ble_eq_true rfl⟩ rfl rfl rfl (Nat.le_of_ble_eq_true rfl) ⟨Nat.le_of_ble_eq_true rfl, Nat.le_of_ble_eq_true rfl⟩ dX5_fetch_9 (fun hu2 _ => ?_)
  refine g_af (ws' := WC ad g I L S) (st' := [.long (rwd I L S q 15)]) (cells' := 0) (slots' := 0) (pc' := 12) rfl rfl rfl rfl rfl ?_
  refine g_run X KX5_fetch_12_3 KX5_fetch_12_3_d 15 [(2, .long (rwd I L S q 15)), (0, .ref (ad 0)), (1, .int (nI q))] [.ref (ad 0), .long (rwd I L S q 15)] rfl ?_
  refine g_get X srcW (v := .ref (ad 1)) hinX5 rfl 0 (by decide) w_183 rfl (wc_mem (k := 0) (by decide)) rfl dX5_fetch_15 ?_
  refine g_run X KX5_fetch_18_4 KX5_fetch_18_4_d 19 [(2, .long (rwd I L S q 15)), (0, .ref (ad 0)), (1, .int (nI q))] [.int (nI q), .ref (ad 1), .long (rwd I L S q 15)] rfl ?_
  refine g_callV X hSB hAf (srcW) (hrc1 := (rfl : CL[3]? = some _)) (wc_mem (k := 1) (by decide)) rfl (As := [.int (nI q)]) (wr := []) (n := 1) (c_X4_fetchLine l D g ad I L S q (hS18) (by omega)) (List.append_nil _).symm srcN hrdN w_612 w_609 w_610 w_611 w_2 (by decide +kernel) rfl ⟨Nat.le_of_ble_eq_true rfl, Nat.le_of_ble_eq_true rfl⟩ rfl rfl rfl (Nat.le_of_ble_eq_true rfl) ⟨Nat.le_of_ble_eq_true rfl, Nat.le_of_ble_eq_true rfl⟩ dX5_fetch_19 (fun hu3 _ => ?_)
  refine g_af (ws' := WC ad g (ftA I L S q) (ftL I L S q) S) (st' := [.long (oL (mwd I L S q)), .long (rwd I L S q 15)]) (cells' := 0) (slots' := 0) (pc' := 22) (List.append_nil _).symm rfl rfl rfl rfl ?_
  refine g_callS X hSB hAf (As := [.long (rwd I L S q 15), .long (oL (mwd I L S q))]) (wr := WC ad g (ftA I L S q) (ftL I L S q) S) (n := 2) (c_X5_wrongIn l D g (rwd I L S q 15) (oL (mwd I L S q)) ) rfl srcN hrdN w_625 w_623 w_624 w_1 (by decide +kernel) rfl ⟨Nat.le_of_ble_eq_true rfl, Nat.le_of_ble_eq_true rfl⟩ rfl rfl rfl (Nat.le_of_ble_eq_true rfl) ⟨Nat.le_of_ble_eq_true rfl, Nat.le_of_ble_eq_true rfl⟩ dX5_fetch_22 (fun hu4 _ => ?_)
  refine g_af (ws' := WC ad g (ftA I L S q) (ftL I L S q) S) (st' := [.int (if (oL (mwd I L S q)) = -1 then -nI 1 else nI (pcn (pl ((rwd I L S q 15) ^^^ (oL (mwd I L S q))) 15) 15))]) (cells' := 0) (slots' := 0) (pc' := 25) rfl rfl rfl rfl rfl ?_
  exact g_iret X hr () (rfl) (trivial) ((List.append_nil _).symm) (Nat.le_of_ble_eq_true rfl) (Nat.le_of_ble_eq_true rfl) dX5_fetch_25

set_option maxHeartbeats 4000000 in
set_option maxRecDepth 100000 in
theorem x_X5_fetch_1 (l : Launch) (hfl : l.stackTraces = false) (D : va_G) (g : Nat → ClassId) (ad : Nat → Nat) (I : Nat → Nat → Int32) (L : Nat → Nat → Int64) (S : Nat → Nat) (x : Int32) (hx : x < 0 ∨ ¬ x < nI 16) : CX l yX5_fetch cX5_fetch 4 ((Option.some FieldType.int)) ({ frames := 7, cells := 1, slots := 6, locals := 120 } : Room) [.ref (ad 0), .int x] D CL (TYS g) (WC ad g I L S) xIO 1 6 := by
  refine cx_of (by decide +kernel) (Nat.le_of_ble_eq_true rfl) ?_
  intro p e s m below meth c A X hnt hSB hRO hAf
  refine g_cs (ws' := []) (lv' := [(0, .ref (ad 0)), (1, .int x)]) rfl rfl ?_
  refine g_run X KX5_fetch_0_0 KX5_fetch_0_0_d 1 [(0, .ref (ad 0)), (1, .int x)] [.int x] rfl ?_
  exact gx_callS X hSB hAf hnt (As := [.int x]) (n := 1) (x_X5_checkLine l hfl D g x (hx)) srcN w_435 w_433 w_434 w_1 (by decide +kernel) rfl ⟨Nat.le_of_ble_eq_true rfl, Nat.le_of_ble_eq_true rfl⟩ rfl rfl rfl (Nat.le_of_ble_eq_true rfl) ⟨Nat.le_of_ble_eq_true rfl, Nat.le_of_ble_eq_true rfl⟩ (Nat.le_of_ble_eq_true rfl) (Nat.le_of_ble_eq_true rfl) dX5_fetch_1

def KX5_load_0_0 : List (Nat × Instr × Nat) := [(0, .iload_n 1, 1)]
theorem KX5_load_0_0_d : ∀ z ∈ KX5_load_0_0, decode cX5_load z.1 = .ok z.2 := by decide +kernel
def KX5_load_4_1 : List (Nat × Instr × Nat) := [(4, .aload_n 0, 1)]
theorem KX5_load_4_1_d : ∀ z ∈ KX5_load_4_1, decode cX5_load z.1 = .ok z.2 := by decide +kernel
def KX5_load_8_2 : List (Nat × Instr × Nat) := [(8, .iload_n 1, 1)]
theorem KX5_load_8_2_d : ∀ z ∈ KX5_load_8_2, decode cX5_load z.1 = .ok z.2 := by decide +kernel
set_option maxHeartbeats 4000000 in
set_option maxRecDepth 100000 in
theorem c_X5_load (l : Launch) (D : va_G) (g : Nat → ClassId) (ad : Nat → Nat) (I : Nat → Nat → Int32) (L : Nat → Nat → Int64) (S : Nat → Nat) (q : Nat) (hS18 : ∀ p, p < 15 → S p < 18) (hFr : FrI I) (hq : q < 16) : CT l yX5_load cX5_load 2 ((Option.some FieldType.long)) ({ frames := 6, cells := 0, slots := 0, locals := 157 } : Room) [.ref (ad 0), .int (nI q)] D CL (TYS g) ([]) (WC ad g I L S) (S := Unit) (fun _ => some (.long (dtO (ldV I L S q)))) (fun _ => WC ad g (ldI I L S q) (ldL I L S q) S) (fun _ => True) 0 0 := by
  refine ct_of (by decide +kernel) (Nat.le_of_ble_eq_true rfl) ?_
  intro p e s m below meth c A X hr hnm hSB hRO hAf
  refine g_cs (ws' := WC ad g I L S) (lv' := [(0, .ref (ad 0)), (1, .int (nI q))]) rfl rfl ?_
  refine g_run X KX5_load_0_0 KX5_load_0_0_d 1 [(0, .ref (ad 0)), (1, .int (nI q))] [.int (nI q)] rfl ?_
  refine g_callS X hSB hAf (As := [.int (nI q)]) (wr := WC ad g I L S) (n := 1) (c_X5_checkLine l D g q (by omega)) rfl srcN hrdN w_435 w_433 w_434 w_1 (by decide +kernel) rfl ⟨Nat.le_of_ble_eq_true rfl, Nat.le_of_ble_eq_true rfl⟩ rfl rfl rfl (Nat.le_of_ble_eq_true rfl) ⟨Nat.le_of_ble_eq_true rfl, Nat.le_of_ble_eq_true rfl⟩ dX5_load_1 (fun hu1 _ => ?_)
  refine g_af (ws' := WC ad g I L S) (st' := []) (cells' := 0) (slots' := 0) (pc' := 4) rfl rfl rfl rfl rfl ?_
  refine g_run X KX5_load_4_1 KX5_load_4_1_d 5 [(0, .ref (ad 0)), (1, .int (nI q))] [.ref (ad 0)] rfl ?_
  refine g_get X srcW (v := .ref (ad 4)) hinX5 rfl 1 (by decide) w_184 rfl (wc_mem (k := 0) (by decide)) rfl dX5_load_5 ?_
  refine g_run X KX5_load_8_2 KX5_load_8_2_d 9 [(0, .ref (ad 0)), (1, .int (nI q))] [.int (nI q), .ref (ad 4)] rfl ?_
  refine g_callV X hSB hAf (srcW) (hrc1 := (rfl : CL[0]? = some _)) (wc_mem (k := 4) (by decide)) rfl (As := [.int (nI q)]) (wr := []) (n := 1) (c_X0_wordThrough l D g ad I L S q (hS18) (hFr) (by omega)) (List.append_nil _).symm srcN hrdN w_649 w_646 w_647 w_648 w_4 (by decide +kernel) rfl ⟨Nat.le_of_ble_eq_true rfl, Nat.le_of_ble_eq_true rfl⟩ rfl rfl rfl (Nat.le_of_ble_eq_true rfl) ⟨Nat.le_of_ble_eq_true rfl, Nat.le_of_ble_eq_true rfl⟩ dX5_load_9 (fun hu2 _ => ?_)
  refine g_af (ws' := WC ad g (ldI I L S q) (ldL I L S q) S) (st' := [.long (ldV I L S q)]) (cells' := 0) (slots' := 0) (pc' := 12) (List.append_nil _).symm rfl rfl rfl rfl ?_
  refine g_callS X hSB hAf (As := [.long (ldV I L S q)]) (wr := WC ad g (ldI I L S q) (ldL I L S q) S) (n := 1) (c_X5_dataOrNone l D g (ldV I L S q) ) rfl srcN hrdN w_451 w_449 w_450 w_1 (by decide +kernel) rfl ⟨Nat.le_of_ble_eq_true rfl, Nat.le_of_ble_eq_true rfl⟩ rfl rfl rfl (Nat.le_of_ble_eq_true rfl) ⟨Nat.le_of_ble_eq_true rfl, Nat.le_of_ble_eq_true rfl⟩ dX5_load_12 (fun hu3 _ => ?_)
  refine g_af (ws' := WC ad g (ldI I L S q) (ldL I L S q) S) (st' := [.long (if (ldV I L S q) = -1 then -1 else ((ldV I L S q).toUInt64 >>> ((nI 16).toInt64.toUInt64 &&& Int64.toUInt64 63)).toInt64)]) (cells' := 0) (slots' := 0) (pc' := 15) rfl rfl rfl rfl rfl ?_
  exact g_lret X hr () (rfl) (trivial) ((List.append_nil _).symm) (Nat.le_of_ble_eq_true rfl) (Nat.le_of_ble_eq_true rfl) dX5_load_15

set_option maxHeartbeats 4000000 in
set_option maxRecDepth 100000 in
theorem x_X5_load_1 (l : Launch) (hfl : l.stackTraces = false) (D : va_G) (g : Nat → ClassId) (ad : Nat → Nat) (I : Nat → Nat → Int32) (L : Nat → Nat → Int64) (S : Nat → Nat) (x : Int32) (hx : x < 0 ∨ ¬ x < nI 16) : CX l yX5_load cX5_load 2 ((Option.some FieldType.long)) ({ frames := 7, cells := 1, slots := 6, locals := 120 } : Room) [.ref (ad 0), .int x] D CL (TYS g) (WC ad g I L S) xIO 1 6 := by
  refine cx_of (by decide +kernel) (Nat.le_of_ble_eq_true rfl) ?_
  intro p e s m below meth c A X hnt hSB hRO hAf
  refine g_cs (ws' := []) (lv' := [(0, .ref (ad 0)), (1, .int x)]) rfl rfl ?_
  refine g_run X KX5_load_0_0 KX5_load_0_0_d 1 [(0, .ref (ad 0)), (1, .int x)] [.int x] rfl ?_
  exact gx_callS X hSB hAf hnt (As := [.int x]) (n := 1) (x_X5_checkLine l hfl D g x (hx)) srcN w_435 w_433 w_434 w_1 (by decide +kernel) rfl ⟨Nat.le_of_ble_eq_true rfl, Nat.le_of_ble_eq_true rfl⟩ rfl rfl rfl (Nat.le_of_ble_eq_true rfl) ⟨Nat.le_of_ble_eq_true rfl, Nat.le_of_ble_eq_true rfl⟩ (Nat.le_of_ble_eq_true rfl) (Nat.le_of_ble_eq_true rfl) dX5_load_1

def KX5_store_0_0 : List (Nat × Instr × Nat) := [(0, .iload_n 1, 1)]
theorem KX5_store_0_0_d : ∀ z ∈ KX5_store_0_0, decode cX5_store z.1 = .ok z.2 := by decide +kernel
def KX5_store_4_1 : List (Nat × Instr × Nat) := [(4, .lload_n 2, 1)]
theorem KX5_store_4_1_d : ∀ z ∈ KX5_store_4_1, decode cX5_store z.1 = .ok z.2 := by decide +kernel
def KX5_store_8_2 : List (Nat × Instr × Nat) := [(8, .aload_n 0, 1)]
theorem KX5_store_8_2_d : ∀ z ∈ KX5_store_8_2, decode cX5_store z.1 = .ok z.2 := by decide +kernel
def KX5_store_12_3 : List (Nat × Instr × Nat) := [(12, .iload_n 1, 1), (13, .lload_n 2, 1)]
theorem KX5_store_12_3_d : ∀ z ∈ KX5_store_12_3, decode cX5_store z.1 = .ok z.2 := by decide +kernel
set_option maxHeartbeats 4000000 in
set_option maxRecDepth 100000 in
theorem c_X5_store (l : Launch) (D : va_G) (g : Nat → ClassId) (ad : Nat → Nat) (I : Nat → Nat → Int32) (L : Nat → Nat → Int64) (S : Nat → Nat) (q : Nat) (x : Int64) (hS18 : ∀ p, p < 15 → S p < 18) (hFr : FrI I) (hq : q < 16) (hx : dOK x) : CT l yX5_store cX5_store 4 ((Option.some FieldType.int)) ({ frames := 6, cells := 0, slots := 0, locals := 137 } : Room) [.ref (ad 0), .int (nI q), .long x] D CL (TYS g) ([]) (WC ad g I L S) (S := Unit) (fun _ => some (.int (nI (stK I q)))) (fun _ => WC ad g (stI I q) (stL I L S q (wdO x)) S) (fun _ => True) 0 0 := by
  refine ct_of (by decide +kernel) (Nat.le_of_ble_eq_true rfl) ?_
  intro p e s m below meth c A X hr hnm hSB hRO hAf
  refine g_cs (ws' := WC ad g I L S) (lv' := [(0, .ref (ad 0)), (1, .int (nI q)), (2, .long x)]) rfl rfl ?_
  refine g_run X KX5_store_0_0 KX5_store_0_0_d 1 [(0, .ref (ad 0)), (1, .int (nI q)), (2, .long x)] [.int (nI q)] rfl ?_
  refine g_callS X hSB hAf (As := [.int (nI q)]) (wr := WC ad g I L S) (n := 1) (c_X5_checkLine l D g q (by omega)) rfl srcN hrdN w_435 w_433 w_434 w_1 (by decide +kernel) rfl ⟨Nat.le_of_ble_eq_true rfl, Nat.le_of_ble_eq_true rfl⟩ rfl rfl rfl (Nat.le_of_ble_eq_true rfl) ⟨Nat.le_of_ble_eq_true rfl, Nat.le_of_ble_eq_true rfl⟩ dX5_store_1 (fun hu1 _ => ?_)
  refine g_af (ws' := WC ad g I L S) (st' := []) (cells' := 0) (slots' := 0) (pc' := 4) rfl rfl rfl rfl rfl ?_
  refine g_run X KX5_store_4_1 KX5_store_4_1_d 5 [(0, .ref (ad 0)), (1, .int (nI q)), (2, .long x)] [.long x] rfl ?_
  refine g_callS X hSB hAf (As := [.long x]) (wr := WC ad g I L S) (n := 1) (c_X5_checkData l D g x (hx)) rfl srcN hrdN w_507 w_505 w_506 w_1 (by decide +kernel) rfl ⟨Nat.le_of_ble_eq_true rfl, Nat.le_of_ble_eq_true rfl⟩ rfl rfl rfl (Nat.le_of_ble_eq_true rfl) ⟨Nat.le_of_ble_eq_true rfl, Nat.le_of_ble_eq_true rfl⟩ dX5_store_5 (fun hu2 _ => ?_)
  refine g_af (ws' := WC ad g I L S) (st' := []) (cells' := 0) (slots' := 0) (pc' := 8) rfl rfl rfl rfl rfl ?_
  refine g_run X KX5_store_8_2 KX5_store_8_2_d 9 [(0, .ref (ad 0)), (1, .int (nI q)), (2, .long x)] [.ref (ad 0)] rfl ?_
  refine g_get X srcW (v := .ref (ad 4)) hinX5 rfl 1 (by decide) w_184 rfl (wc_mem (k := 0) (by decide)) rfl dX5_store_9 ?_
  refine g_run X KX5_store_12_3 KX5_store_12_3_d 14 [(0, .ref (ad 0)), (1, .int (nI q)), (2, .long x)] [.long x, .int (nI q), .ref (ad 4)] rfl ?_
  refine g_callS X hSB hAf (As := [.long x]) (wr := WC ad g I L S) (n := 1) (c_X2_wordOf l D g x ) rfl srcN hrdN w_512 w_510 w_511 w_22 (by decide +kernel) rfl ⟨Nat.le_of_ble_eq_true rfl, Nat.le_of_ble_eq_true rfl⟩ rfl rfl rfl (Nat.le_of_ble_eq_true rfl) ⟨Nat.le_of_ble_eq_true rfl, Nat.le_of_ble_eq_true rfl⟩ dX5_store_14 (fun hu3 _ => ?_)
  refine g_af (ws' := WC ad g I L S) (st' := [.long (oL (mw 15 (x <<< ((nI 16).toInt64 &&& 63)))), .int (nI q), .ref (ad 4)]) (cells' := 0) (slots' := 0) (pc' := 17) rfl rfl rfl rfl rfl ?_
  refine g_callV X hSB hAf (srcW) (hrc1 := (rfl : CL[0]? = some _)) (wc_mem (k := 4) (by decide)) rfl (As := [.int (nI q), .long (oL (mw 15 (x <<< ((nI 16).toInt64 &&& 63))))]) (wr := []) (n := 2) (c_X0_keepDirty l D g ad I L S q (oL (mw 15 (x <<< ((nI 16).toInt64 &&& 63)))) (hS18) (hFr) (by omega)) (List.append_nil _).symm srcN hrdN w_678 w_675 w_676 w_677 w_4 (by decide +kernel) rfl ⟨Nat.le_of_ble_eq_true rfl, Nat.le_of_ble_eq_true rfl⟩ rfl rfl rfl (Nat.le_of_ble_eq_true rfl) ⟨Nat.le_of_ble_eq_true rfl, Nat.le_of_ble_eq_true rfl⟩ dX5_store_17 (fun hu4 _ => ?_)
  refine g_af (ws' := WC ad g (stI I q) (stL I L S q (oL (mw 15 (x <<< ((nI 16).toInt64 &&& 63))))) S) (st' := [.int (nI (stK I q))]) (cells' := 0) (slots' := 0) (pc' := 20) (List.append_nil _).symm rfl rfl rfl rfl ?_
  exact g_iret X hr () (rfl) (trivial) ((List.append_nil _).symm) (Nat.le_of_ble_eq_true rfl) (Nat.le_of_ble_eq_true rfl) dX5_store_20

set_option maxHeartbeats 4000000 in
set_option maxRecDepth 100000 in
theorem x_X5_store_1 (l : Launch) (hfl : l.stackTraces = false) (D : va_G) (g : Nat → ClassId) (ad : Nat → Nat) (I : Nat → Nat → Int32) (L : Nat → Nat → Int64) (S : Nat → Nat) (x : Int32) (y : Int64) (hx : x < 0 ∨ ¬ x < nI 16) : CX l yX5_store cX5_store 4 ((Option.some FieldType.int)) ({ frames := 7, cells := 1, slots := 6, locals := 120 } : Room) [.ref (ad 0), .int x, .long y] D CL (TYS g) (WC ad g I L S) xIO 1 6 := by
  refine cx_of (by decide +kernel) (Nat.le_of_ble_eq_true rfl) ?_
  intro p e s m below meth c A X hnt hSB hRO hAf
  refine g_cs (ws' := []) (lv' := [(0, .ref (ad 0)), (1, .int x), (2, .long y)]) rfl rfl ?_
  refine g_run X KX5_store_0_0 KX5_store_0_0_d 1 [(0, .ref (ad 0)), (1, .int x), (2, .long y)] [.int x] rfl ?_
  exact gx_callS X hSB hAf hnt (As := [.int x]) (n := 1) (x_X5_checkLine l hfl D g x (hx)) srcN w_435 w_433 w_434 w_1 (by decide +kernel) rfl ⟨Nat.le_of_ble_eq_true rfl, Nat.le_of_ble_eq_true rfl⟩ rfl rfl rfl (Nat.le_of_ble_eq_true rfl) ⟨Nat.le_of_ble_eq_true rfl, Nat.le_of_ble_eq_true rfl⟩ (Nat.le_of_ble_eq_true rfl) (Nat.le_of_ble_eq_true rfl) dX5_store_1

set_option maxHeartbeats 4000000 in
set_option maxRecDepth 100000 in
theorem x_X5_store_2 (l : Launch) (hfl : l.stackTraces = false) (D : va_G) (g : Nat → ClassId) (ad : Nat → Nat) (I : Nat → Nat → Int32) (L : Nat → Nat → Int64) (S : Nat → Nat) (q : Nat) (x : Int64) (hq : q < 16) (hx : ¬ dOK x) : CX l yX5_store cX5_store 4 ((Option.some FieldType.int)) ({ frames := 7, cells := 1, slots := 6, locals := 121 } : Room) [.ref (ad 0), .int (nI q), .long x] D CL (TYS g) (WC ad g I L S) xIA 1 6 := by
  refine cx_of (by decide +kernel) (Nat.le_of_ble_eq_true rfl) ?_
  intro p e s m below meth c A X hnt hSB hRO hAf
  refine g_cs (ws' := []) (lv' := [(0, .ref (ad 0)), (1, .int (nI q)), (2, .long x)]) rfl rfl ?_
  refine g_run X KX5_store_0_0 KX5_store_0_0_d 1 [(0, .ref (ad 0)), (1, .int (nI q)), (2, .long x)] [.int (nI q)] rfl ?_
  refine g_callS X hSB hAf (As := [.int (nI q)]) (wr := []) (n := 1) (c_X5_checkLine l D g q (by omega)) rfl srcN hrdN w_435 w_433 w_434 w_1 (by decide +kernel) rfl ⟨Nat.le_of_ble_eq_true rfl, Nat.le_of_ble_eq_true rfl⟩ rfl rfl rfl (Nat.le_of_ble_eq_true rfl) ⟨Nat.le_of_ble_eq_true rfl, Nat.le_of_ble_eq_true rfl⟩ dX5_store_1 (fun hu1 _ => ?_)
  refine g_af (ws' := []) (st' := []) (cells' := 0) (slots' := 0) (pc' := 4) rfl rfl rfl rfl rfl ?_
  refine g_run X KX5_store_4_1 KX5_store_4_1_d 5 [(0, .ref (ad 0)), (1, .int (nI q)), (2, .long x)] [.long x] rfl ?_
  exact gx_callS X hSB hAf hnt (As := [.long x]) (n := 1) (x_X5_checkData l hfl D g x (hx)) srcN w_507 w_505 w_506 w_1 (by decide +kernel) rfl ⟨Nat.le_of_ble_eq_true rfl, Nat.le_of_ble_eq_true rfl⟩ rfl rfl rfl (Nat.le_of_ble_eq_true rfl) ⟨Nat.le_of_ble_eq_true rfl, Nat.le_of_ble_eq_true rfl⟩ (Nat.le_of_ble_eq_true rfl) (Nat.le_of_ble_eq_true rfl) dX5_store_5

def KX5_flush_0_0 : List (Nat × Instr × Nat) := [(0, .aload_n 0, 1)]
theorem KX5_flush_0_0_d : ∀ z ∈ KX5_flush_0_0, decode cX5_flush z.1 = .ok z.2 := by decide +kernel
set_option maxHeartbeats 4000000 in
set_option maxRecDepth 100000 in
theorem c_X5_flush (l : Launch) (D : va_G) (g : Nat → ClassId) (ad : Nat → Nat) (I : Nat → Nat → Int32) (L : Nat → Nat → Int64) (S : Nat → Nat) (hS18 : ∀ p, p < 15 → S p < 18) (hFr : FrI I) : CT l yX5_flush cX5_flush 1 ((Option.some FieldType.int)) ({ frames := 5, cells := 0, slots := 0, locals := 113 } : Room) [.ref (ad 0)] D CL (TYS g) ([]) (WC ad g I L S) (S := Unit) (fun _ => some (.int (nI (dirt I 4)))) (fun _ => WC ad g ((wba I L S 4).1) ((wba I L S 4).2) S) (fun _ => True) 0 0 := by
  refine ct_of (by decide +kernel) (Nat.le_of_ble_eq_true rfl) ?_
  intro p e s m below meth c A X hr hnm hSB hRO hAf
  refine g_cs (ws' := WC ad g I L S) (lv' := [(0, .ref (ad 0))]) rfl rfl ?_
  refine g_run X KX5_flush_0_0 KX5_flush_0_0_d 1 [(0, .ref (ad 0))] [.ref (ad 0)] rfl ?_
  refine g_get X srcW (v := .ref (ad 4)) hinX5 rfl 1 (by decide) w_184 rfl (wc_mem (k := 0) (by decide)) rfl dX5_flush_1 ?_
  refine g_callV X hSB hAf (srcW) (hrc1 := (rfl : CL[0]? = some _)) (wc_mem (k := 4) (by decide)) rfl (As := []) (wr := []) (n := 0) (c_X0_writeBackAll l D g ad I L S (hS18) (hFr)) (List.append_nil _).symm srcN hrdN w_200 w_197 w_198 w_199 w_4 (by decide +kernel) rfl ⟨Nat.le_of_ble_eq_true rfl, Nat.le_of_ble_eq_true rfl⟩ rfl rfl rfl (Nat.le_of_ble_eq_true rfl) ⟨Nat.le_of_ble_eq_true rfl, Nat.le_of_ble_eq_true rfl⟩ dX5_flush_4 (fun hu1 _ => ?_)
  refine g_af (ws' := WC ad g ((wba I L S 4).1) ((wba I L S 4).2) S) (st' := [.int (nI (dirt I 4))]) (cells' := 0) (slots' := 0) (pc' := 7) (List.append_nil _).symm rfl rfl rfl rfl ?_
  exact g_iret X hr () (rfl) (trivial) ((List.append_nil _).symm) (Nat.le_of_ble_eq_true rfl) (Nat.le_of_ble_eq_true rfl) dX5_flush_7

def KX5_call_0_0 : List (Nat × Instr × Nat) := [(0, .aload_n 0, 1), (1, .dup, 1)]
theorem KX5_call_0_0_d : ∀ z ∈ KX5_call_0_0, decode cX5_call z.1 = .ok z.2 := by decide +kernel
def KX5_call_5_1 : List (Nat × Instr × Nat) := [(5, .iconst 1, 1), (6, .iadd, 1)]
theorem KX5_call_5_1_d : ∀ z ∈ KX5_call_5_1, decode cX5_call z.1 = .ok z.2 := by decide +kernel
def KX5_call_10_2 : List (Nat × Instr × Nat) := [(10, .aload_n 0, 1)]
theorem KX5_call_10_2_d : ∀ z ∈ KX5_call_10_2, decode cX5_call z.1 = .ok z.2 := by decide +kernel
set_option maxHeartbeats 4000000 in
set_option maxRecDepth 100000 in
theorem c_X5_call (l : Launch) (D : va_G) (g : Nat → ClassId) (ad : Nat → Nat) (I : Nat → Nat → Int32) (L : Nat → Nat → Int64) (S : Nat → Nat) : CT l yX5_call cX5_call 1 ((Option.some FieldType.int)) ({ frames := 0, cells := 0, slots := 0, locals := 0 } : Room) [.ref (ad 0)] D CL (TYS g) ([]) (WC ad g I L S) (S := Unit) (fun _ => some (.int (I 8 9 + nI 1))) (fun _ => WC ad g (u2 I 8 9 (I 8 9 + nI 1)) L S) (fun _ => True) 0 0 := by
  refine ct_of (by decide +kernel) (Nat.le_of_ble_eq_true rfl) ?_
  intro p e s m below meth c A X hr hnm hSB hRO hAf
  refine g_cs (ws' := WC ad g I L S) (lv' := [(0, .ref (ad 0))]) rfl rfl ?_
  refine g_run X KX5_call_0_0 KX5_call_0_0_d 2 [(0, .ref (ad 0))] [.ref (ad 0), .ref (ad 0)] rfl ?_
  refine g_get X srcW (v := .int (I 8 9)) hinX5 rfl 2 (by decide) w_185 rfl (wc_mem (k := 0) (by decide)) rfl dX5_call_2 ?_
  refine g_run X KX5_call_5_1 KX5_call_5_1_d 7 [(0, .ref (ad 0))] [.int ((I 8 9) + (nI 1)), .ref (ad 0)] rfl ?_
  refine g_put X (ws' := WC ad g (u2 I 8 9 ((I 8 9) + (nI 1))) L S) hinX5 tyX5 tyX5_ok nmX5 rfl 2 (by decide) w_185 rfl rfl (ty := .int) rfl rfl rfl (0) (wc_get (k := 0) (by decide)) (Nat.le_of_ble_eq_true rfl) (ws_cf2) dX5_call_7 ?_
  refine g_run X KX5_call_10_2 KX5_call_10_2_d 11 [(0, .ref (ad 0))] [.ref (ad 0)] rfl ?_
  refine g_get X srcW (v := .int ((u2 I 8 9 ((I 8 9) + (nI 1))) 8 9)) hinX5 rfl 2 (by decide) w_185 rfl (wc_mem (k := 0) (by decide)) rfl dX5_call_11 ?_
  refine g_nm (lv' := [(0, .ref (ad 0))]) (st' := [.int ((I 8 9) + (nI 1))]) (by simp only [u2_s]) (by simp only [u2_s]) ?_
  exact g_iret X hr () (rfl) (trivial) ((List.append_nil _).symm) (Nat.le_of_ble_eq_true rfl) (Nat.le_of_ble_eq_true rfl) dX5_call_14

def KX5_times_0_0 : List (Nat × Instr × Nat) := [(0, .iload_n 1, 1)]
theorem KX5_times_0_0_d : ∀ z ∈ KX5_times_0_0, decode cX5_times z.1 = .ok z.2 := by decide +kernel
def KX5_times_4_1 : List (Nat × Instr × Nat) := [(4, .iload_n 2, 1)]
theorem KX5_times_4_1_d : ∀ z ∈ KX5_times_4_1, decode cX5_times z.1 = .ok z.2 := by decide +kernel
def KX5_times_8_2 : List (Nat × Instr × Nat) := [(8, .iload_n 1, 1), (9, .iload_n 2, 1)]
theorem KX5_times_8_2_d : ∀ z ∈ KX5_times_8_2, decode cX5_times z.1 = .ok z.2 := by decide +kernel
set_option maxHeartbeats 4000000 in
set_option maxRecDepth 100000 in
theorem c_X5_times (l : Launch) (D : va_G) (g : Nat → ClassId) (ad : Nat → Nat) (I : Nat → Nat → Int32) (L : Nat → Nat → Int64) (S : Nat → Nat) (a : Nat) (b : Nat) (ha : a < 16) (hb : b < 16) : CT l yX5_times cX5_times 3 ((Option.some FieldType.int)) ({ frames := 2, cells := 0, slots := 0, locals := 42 } : Room) [.ref (ad 0), .int (nI a), .int (nI b)] D CL (TYS g) (WC ad g I L S) ([]) (S := Unit) (fun _ => some (.int (nI (gm a b)))) (fun _ => []) (fun _ => True) 0 0 := by
  refine ct_of (by decide +kernel) (Nat.le_of_ble_eq_true rfl) ?_
  intro p e s m below meth c A X hr hnm hSB hRO hAf
  refine g_cs (ws' := []) (lv' := [(0, .ref (ad 0)), (1, .int (nI a)), (2, .int (nI b))]) rfl rfl ?_
  refine g_run X KX5_times_0_0 KX5_times_0_0_d 1 [(0, .ref (ad 0)), (1, .int (nI a)), (2, .int (nI b))] [.int (nI a)] rfl ?_
  refine g_callS X hSB hAf (As := [.int (nI a)]) (wr := []) (n := 1) (c_X5_checkElement l D g a (by omega)) rfl srcN hrdN w_524 w_522 w_523 w_1 (by decide +kernel) rfl ⟨Nat.le_of_ble_eq_true rfl, Nat.le_of_ble_eq_true rfl⟩ rfl rfl rfl (Nat.le_of_ble_eq_true rfl) ⟨Nat.le_of_ble_eq_true rfl, Nat.le_of_ble_eq_true rfl⟩ dX5_times_1 (fun hu1 _ => ?_)
  refine g_af (ws' := []) (st' := []) (cells' := 0) (slots' := 0) (pc' := 4) rfl rfl rfl rfl rfl ?_
  refine g_run X KX5_times_4_1 KX5_times_4_1_d 5 [(0, .ref (ad 0)), (1, .int (nI a)), (2, .int (nI b))] [.int (nI b)] rfl ?_
  refine g_callS X hSB hAf (As := [.int (nI b)]) (wr := []) (n := 1) (c_X5_checkElement l D g b (by omega)) rfl srcN hrdN w_524 w_522 w_523 w_1 (by decide +kernel) rfl ⟨Nat.le_of_ble_eq_true rfl, Nat.le_of_ble_eq_true rfl⟩ rfl rfl rfl (Nat.le_of_ble_eq_true rfl) ⟨Nat.le_of_ble_eq_true rfl, Nat.le_of_ble_eq_true rfl⟩ dX5_times_5 (fun hu2 _ => ?_)
  refine g_af (ws' := []) (st' := []) (cells' := 0) (slots' := 0) (pc' := 8) rfl rfl rfl rfl rfl ?_
  refine g_run X KX5_times_8_2 KX5_times_8_2_d 10 [(0, .ref (ad 0)), (1, .int (nI a)), (2, .int (nI b))] [.int (nI b), .int (nI a)] rfl ?_
  refine g_callS X hSB hAf (As := [.int (nI a), .int (nI b)]) (wr := []) (n := 2) (c_X2_product l D g a b (by omega) (by omega)) rfl srcN hrdN w_293 w_686 w_292 w_22 (by decide +kernel) rfl ⟨Nat.le_of_ble_eq_true rfl, Nat.le_of_ble_eq_true rfl⟩ rfl rfl rfl (Nat.le_of_ble_eq_true rfl) ⟨Nat.le_of_ble_eq_true rfl, Nat.le_of_ble_eq_true rfl⟩ dX5_times_10 (fun hu3 _ => ?_)
  refine g_af (ws' := []) (st' := [.int (nI (gm a b))]) (cells' := 0) (slots' := 0) (pc' := 13) rfl rfl rfl rfl rfl ?_
  exact g_iret X hr () (rfl) (trivial) ((List.append_nil _).symm) (Nat.le_of_ble_eq_true rfl) (Nat.le_of_ble_eq_true rfl) dX5_times_13

set_option maxHeartbeats 4000000 in
set_option maxRecDepth 100000 in
theorem x_X5_times_1 (l : Launch) (hfl : l.stackTraces = false) (D : va_G) (g : Nat → ClassId) (ad : Nat → Nat) (I : Nat → Nat → Int32) (L : Nat → Nat → Int64) (S : Nat → Nat) (x : Int32) (y1 : Int32) (hx : x < 0 ∨ ¬ x ≤ nI 15) : CX l yX5_times cX5_times 3 ((Option.some FieldType.int)) ({ frames := 7, cells := 1, slots := 6, locals := 120 } : Room) [.ref (ad 0), .int x, .int y1] D CL (TYS g) (WC ad g I L S) xIA 1 6 := by
  refine cx_of (by decide +kernel) (Nat.le_of_ble_eq_true rfl) ?_
  intro p e s m below meth c A X hnt hSB hRO hAf
  refine g_cs (ws' := []) (lv' := [(0, .ref (ad 0)), (1, .int x), (2, .int y1)]) rfl rfl ?_
  refine g_run X KX5_times_0_0 KX5_times_0_0_d 1 [(0, .ref (ad 0)), (1, .int x), (2, .int y1)] [.int x] rfl ?_
  exact gx_callS X hSB hAf hnt (As := [.int x]) (n := 1) (x_X5_checkElement l hfl D g x (hx)) srcN w_524 w_522 w_523 w_1 (by decide +kernel) rfl ⟨Nat.le_of_ble_eq_true rfl, Nat.le_of_ble_eq_true rfl⟩ rfl rfl rfl (Nat.le_of_ble_eq_true rfl) ⟨Nat.le_of_ble_eq_true rfl, Nat.le_of_ble_eq_true rfl⟩ (Nat.le_of_ble_eq_true rfl) (Nat.le_of_ble_eq_true rfl) dX5_times_1

set_option maxHeartbeats 4000000 in
set_option maxRecDepth 100000 in
theorem x_X5_times_2 (l : Launch) (hfl : l.stackTraces = false) (D : va_G) (g : Nat → ClassId) (ad : Nat → Nat) (I : Nat → Nat → Int32) (L : Nat → Nat → Int64) (S : Nat → Nat) (a : Nat) (x : Int32) (ha : a < 16) (hx : x < 0 ∨ ¬ x ≤ nI 15) : CX l yX5_times cX5_times 3 ((Option.some FieldType.int)) ({ frames := 7, cells := 1, slots := 6, locals := 120 } : Room) [.ref (ad 0), .int (nI a), .int x] D CL (TYS g) (WC ad g I L S) xIA 1 6 := by
  refine cx_of (by decide +kernel) (Nat.le_of_ble_eq_true rfl) ?_
  intro p e s m below meth c A X hnt hSB hRO hAf
  refine g_cs (ws' := []) (lv' := [(0, .ref (ad 0)), (1, .int (nI a)), (2, .int x)]) rfl rfl ?_
  refine g_run X KX5_times_0_0 KX5_times_0_0_d 1 [(0, .ref (ad 0)), (1, .int (nI a)), (2, .int x)] [.int (nI a)] rfl ?_
  refine g_callS X hSB hAf (As := [.int (nI a)]) (wr := []) (n := 1) (c_X5_checkElement l D g a (by omega)) rfl srcN hrdN w_524 w_522 w_523 w_1 (by decide +kernel) rfl ⟨Nat.le_of_ble_eq_true rfl, Nat.le_of_ble_eq_true rfl⟩ rfl rfl rfl (Nat.le_of_ble_eq_true rfl) ⟨Nat.le_of_ble_eq_true rfl, Nat.le_of_ble_eq_true rfl⟩ dX5_times_1 (fun hu1 _ => ?_)
  refine g_af (ws' := []) (st' := []) (cells' := 0) (slots' := 0) (pc' := 4) rfl rfl rfl rfl rfl ?_
  refine g_run X KX5_times_4_1 KX5_times_4_1_d 5 [(0, .ref (ad 0)), (1, .int (nI a)), (2, .int x)] [.int x] rfl ?_
  exact gx_callS X hSB hAf hnt (As := [.int x]) (n := 1) (x_X5_checkElement l hfl D g x (hx)) srcN w_524 w_522 w_523 w_1 (by decide +kernel) rfl ⟨Nat.le_of_ble_eq_true rfl, Nat.le_of_ble_eq_true rfl⟩ rfl rfl rfl (Nat.le_of_ble_eq_true rfl) ⟨Nat.le_of_ble_eq_true rfl, Nat.le_of_ble_eq_true rfl⟩ (Nat.le_of_ble_eq_true rfl) (Nat.le_of_ble_eq_true rfl) dX5_times_5

def KX5_power_0_0 : List (Nat × Instr × Nat) := [(0, .iload_n 1, 1)]
theorem KX5_power_0_0_d : ∀ z ∈ KX5_power_0_0, decode cX5_power z.1 = .ok z.2 := by decide +kernel
def KX5_power_4_1 : List (Nat × Instr × Nat) := [(4, .iload_n 1, 1), (5, .sipush 999, 3)]
theorem KX5_power_4_1_d : ∀ z ∈ KX5_power_4_1, decode cX5_power z.1 = .ok z.2 := by decide +kernel
def KX5_power_21_2 : List (Nat × Instr × Nat) := [(21, .iconst 1, 1), (22, .iload_n 1, 1)]
theorem KX5_power_21_2_d : ∀ z ∈ KX5_power_21_2, decode cX5_power z.1 = .ok z.2 := by decide +kernel
set_option maxHeartbeats 4000000 in
set_option maxRecDepth 100000 in
theorem c_X5_power (l : Launch) (D : va_G) (g : Nat → ClassId) (ad : Nat → Nat) (I : Nat → Nat → Int32) (L : Nat → Nat → Int64) (S : Nat → Nat) (n : Nat) (hn : n < 1000) : CT l yX5_power cX5_power 2 ((Option.some FieldType.int)) ({ frames := 1, cells := 0, slots := 0, locals := 21 } : Room) [.ref (ad 0), .int (nI n)] D CL (TYS g) (WC ad g I L S) ([]) (S := Unit) (fun _ => some (.int (nI (tp 1 n)))) (fun _ => []) (fun _ => True) 0 0 := by
  refine ct_of (by decide +kernel) (Nat.le_of_ble_eq_true rfl) ?_
  intro p e s m below meth c A X hr hnm hSB hRO hAf
  refine g_cs (ws' := []) (lv' := [(0, .ref (ad 0)), (1, .int (nI n))]) rfl rfl ?_
  refine g_run X KX5_power_0_0 KX5_power_0_0_d 1 [(0, .ref (ad 0)), (1, .int (nI n))] [.int (nI n)] rfl ?_
  refine g_if_lt X 11 dX5_power_1 (by decide) (fun hc1 => ?_) (fun hc1 => ?_)
  · rw [nz_lt (by omega)] at hc1; first | omega | (simp at hc1)
  · refine g_run X KX5_power_4_1 KX5_power_4_1_d 8 [(0, .ref (ad 0)), (1, .int (nI n))] [.int (nI 999), .int (nI n)] rfl ?_
    refine g_icmp_le X 21 dX5_power_8 (by decide) (fun hc2 => ?_) (fun hc2 => ?_)
    · refine g_run X KX5_power_21_2 KX5_power_21_2_d 23 [(0, .ref (ad 0)), (1, .int (nI n))] [.int (nI n), .int (nI 1)] rfl ?_
      refine g_callS X hSB hAf (As := [.int (nI 1), .int (nI n)]) (wr := []) (n := 2) (c_X2_timesPower l D g 1 n (by omega) (by omega)) rfl srcN hrdN w_270 w_695 w_269 w_22 (by decide +kernel) rfl ⟨Nat.le_of_ble_eq_true rfl, Nat.le_of_ble_eq_true rfl⟩ rfl rfl rfl (Nat.le_of_ble_eq_true rfl) ⟨Nat.le_of_ble_eq_true rfl, Nat.le_of_ble_eq_true rfl⟩ dX5_power_23 (fun hu3 _ => ?_)
      refine g_af (ws' := []) (st' := [.int (nI (tp 1 n))]) (cells' := 0) (slots' := 0) (pc' := 26) rfl rfl rfl rfl rfl ?_
      exact g_iret X hr () (rfl) (trivial) ((List.append_nil _).symm) (Nat.le_of_ble_eq_true rfl) (Nat.le_of_ble_eq_true rfl) dX5_power_26
    · rw [nI_leI (by omega) (by omega)] at hc2; first | omega | (simp at hc2)

set_option maxHeartbeats 4000000 in
set_option maxRecDepth 100000 in
theorem x_X5_power_1 (l : Launch) (hfl : l.stackTraces = false) (D : va_G) (g : Nat → ClassId) (ad : Nat → Nat) (I : Nat → Nat → Int32) (L : Nat → Nat → Int64) (S : Nat → Nat) (x : Int32) (hx : x < 0 ∨ ¬ x ≤ nI 999) : CX l yX5_power cX5_power 2 ((Option.some FieldType.int)) ({ frames := 6, cells := 1, slots := 6, locals := 100 } : Room) [.ref (ad 0), .int x] D CL (TYS g) (WC ad g I L S) xIA 1 6 := by
  refine cx_of (by decide +kernel) (Nat.le_of_ble_eq_true rfl) ?_
  intro p e s m below meth c A X hnt hSB hRO hAf
  refine g_cs (ws' := []) (lv' := [(0, .ref (ad 0)), (1, .int x)]) rfl rfl ?_
  refine g_run X KX5_power_0_0 KX5_power_0_0_d 1 [(0, .ref (ad 0)), (1, .int x)] [.int x] rfl ?_
  refine g_if_lt X 11 dX5_power_1 (by decide) (fun hc1 => ?_) (fun hc1 => ?_)
  · exact g_throwS (E := xIA) X hSB hfl hnt (text := "k is not 0 to 999") (names := xNm) (by decide +kernel) (by decide +kernel) w_333 w_21 (by decide +kernel) hatIA hgdIA dX5_power_11 dX5_power_14 dX5_power_15 dX5_power_17 dX5_power_20 (Nat.le_of_ble_eq_true rfl) (Nat.le_of_ble_eq_true rfl) (Nat.le_of_ble_eq_true rfl) (Nat.le_of_ble_eq_true rfl) (Nat.le_of_ble_eq_true rfl) (Nat.le_of_ble_eq_true rfl)
  · refine g_run X KX5_power_4_1 KX5_power_4_1_d 8 [(0, .ref (ad 0)), (1, .int x)] [.int (nI 999), .int x] rfl ?_
    refine g_icmp_le X 21 dX5_power_8 (by decide) (fun hc2 => ?_) (fun hc2 => ?_)
    · exact (hx.elim (fun z => absurd z (by assumption)) (fun z => absurd hc2 z))
    · exact g_throwS (E := xIA) X hSB hfl hnt (text := "k is not 0 to 999") (names := xNm) (by decide +kernel) (by decide +kernel) w_333 w_21 (by decide +kernel) hatIA hgdIA dX5_power_11 dX5_power_14 dX5_power_15 dX5_power_17 dX5_power_20 (Nat.le_of_ble_eq_true rfl) (Nat.le_of_ble_eq_true rfl) (Nat.le_of_ble_eq_true rfl) (Nat.le_of_ble_eq_true rfl) (Nat.le_of_ble_eq_true rfl) (Nat.le_of_ble_eq_true rfl)

def KX5_symbol_0_0 : List (Nat × Instr × Nat) := [(0, .iload_n 3, 1)]
theorem KX5_symbol_0_0_d : ∀ z ∈ KX5_symbol_0_0, decode cX5_symbol z.1 = .ok z.2 := by decide +kernel
def KX5_symbol_4_1 : List (Nat × Instr × Nat) := [(4, .lload_n 1, 1)]
theorem KX5_symbol_4_1_d : ∀ z ∈ KX5_symbol_4_1, decode cX5_symbol z.1 = .ok z.2 := by decide +kernel
def KX5_symbol_8_2 : List (Nat × Instr × Nat) := [(8, .lload_n 1, 1)]
theorem KX5_symbol_8_2_d : ∀ z ∈ KX5_symbol_8_2, decode cX5_symbol z.1 = .ok z.2 := by decide +kernel
def KX5_symbol_12_3 : List (Nat × Instr × Nat) := [(12, .iload_n 3, 1)]
theorem KX5_symbol_12_3_d : ∀ z ∈ KX5_symbol_12_3, decode cX5_symbol z.1 = .ok z.2 := by decide +kernel
set_option maxHeartbeats 4000000 in
set_option maxRecDepth 100000 in
theorem c_X5_symbol (l : Launch) (D : va_G) (g : Nat → ClassId) (ad : Nat → Nat) (I : Nat → Nat → Int32) (L : Nat → Nat → Int64) (S : Nat → Nat) (x : Int64) (q : Nat) (hx : dOK x) (hq : q < 15) : CT l yX5_symbol cX5_symbol 4 ((Option.some FieldType.int)) ({ frames := 5, cells := 0, slots := 0, locals := 129 } : Room) [.ref (ad 0), .long x, .int (nI q)] D CL (TYS g) (WC ad g I L S) ([]) (S := Unit) (fun _ => some (.int (nI (nib (wdO x) q)))) (fun _ => []) (fun _ => True) 0 0 := by
  refine ct_of (by decide +kernel) (Nat.le_of_ble_eq_true rfl) ?_
  intro p e s m below meth c A X hr hnm hSB hRO hAf
  refine g_cs (ws' := []) (lv' := [(0, .ref (ad 0)), (1, .long x), (3, .int (nI q))]) rfl rfl ?_
  refine g_run X KX5_symbol_0_0 KX5_symbol_0_0_d 1 [(0, .ref (ad 0)), (1, .long x), (3, .int (nI q))] [.int (nI q)] rfl ?_
  refine g_callS X hSB hAf (As := [.int (nI q)]) (wr := []) (n := 1) (c_X5_checkPlace l D g q (by omega)) rfl srcN hrdN w_559 w_557 w_558 w_1 (by decide +kernel) rfl ⟨Nat.le_of_ble_eq_true rfl, Nat.le_of_ble_eq_true rfl⟩ rfl rfl rfl (Nat.le_of_ble_eq_true rfl) ⟨Nat.le_of_ble_eq_true rfl, Nat.le_of_ble_eq_true rfl⟩ dX5_symbol_1 (fun hu1 _ => ?_)
  refine g_af (ws' := []) (st' := []) (cells' := 0) (slots' := 0) (pc' := 4) rfl rfl rfl rfl rfl ?_
  refine g_run X KX5_symbol_4_1 KX5_symbol_4_1_d 5 [(0, .ref (ad 0)), (1, .long x), (3, .int (nI q))] [.long x] rfl ?_
  refine g_callS X hSB hAf (As := [.long x]) (wr := []) (n := 1) (c_X5_checkData l D g x (hx)) rfl srcN hrdN w_507 w_505 w_506 w_1 (by decide +kernel) rfl ⟨Nat.le_of_ble_eq_true rfl, Nat.le_of_ble_eq_true rfl⟩ rfl rfl rfl (Nat.le_of_ble_eq_true rfl) ⟨Nat.le_of_ble_eq_true rfl, Nat.le_of_ble_eq_true rfl⟩ dX5_symbol_5 (fun hu2 _ => ?_)
  refine g_af (ws' := []) (st' := []) (cells' := 0) (slots' := 0) (pc' := 8) rfl rfl rfl rfl rfl ?_
  refine g_run X KX5_symbol_8_2 KX5_symbol_8_2_d 9 [(0, .ref (ad 0)), (1, .long x), (3, .int (nI q))] [.long x] rfl ?_
  refine g_callS X hSB hAf (As := [.long x]) (wr := []) (n := 1) (c_X2_wordOf l D g x ) rfl srcN hrdN w_512 w_510 w_511 w_22 (by decide +kernel) rfl ⟨Nat.le_of_ble_eq_true rfl, Nat.le_of_ble_eq_true rfl⟩ rfl rfl rfl (Nat.le_of_ble_eq_true rfl) ⟨Nat.le_of_ble_eq_true rfl, Nat.le_of_ble_eq_true rfl⟩ dX5_symbol_9 (fun hu3 _ => ?_)
  refine g_af (ws' := []) (st' := [.long (oL (mw 15 (x <<< ((nI 16).toInt64 &&& 63))))]) (cells' := 0) (slots' := 0) (pc' := 12) rfl rfl rfl rfl rfl ?_
  refine g_run X KX5_symbol_12_3 KX5_symbol_12_3_d 13 [(0, .ref (ad 0)), (1, .long x), (3, .int (nI q))] [.int (nI q), .long (oL (mw 15 (x <<< ((nI 16).toInt64 &&& 63))))] rfl ?_
  refine g_callS X hSB hAf (As := [.long (oL (mw 15 (x <<< ((nI 16).toInt64 &&& 63)))), .int (nI q)]) (wr := []) (n := 2) (c_X5_numberAt l D g (oL (mw 15 (x <<< ((nI 16).toInt64 &&& 63)))) q (by omega)) rfl srcN hrdN w_215 w_703 w_214 w_1 (by decide +kernel) rfl ⟨Nat.le_of_ble_eq_true rfl, Nat.le_of_ble_eq_true rfl⟩ rfl rfl rfl (Nat.le_of_ble_eq_true rfl) ⟨Nat.le_of_ble_eq_true rfl, Nat.le_of_ble_eq_true rfl⟩ dX5_symbol_13 (fun hu4 _ => ?_)
  refine g_af (ws' := []) (st' := [.int (nI (nib (oL (mw 15 (x <<< ((nI 16).toInt64 &&& 63)))) q))]) (cells' := 0) (slots' := 0) (pc' := 16) rfl rfl rfl rfl rfl ?_
  exact g_iret X hr () (rfl) (trivial) ((List.append_nil _).symm) (Nat.le_of_ble_eq_true rfl) (Nat.le_of_ble_eq_true rfl) dX5_symbol_16

set_option maxHeartbeats 4000000 in
set_option maxRecDepth 100000 in
theorem x_X5_symbol_1 (l : Launch) (hfl : l.stackTraces = false) (D : va_G) (g : Nat → ClassId) (ad : Nat → Nat) (I : Nat → Nat → Int32) (L : Nat → Nat → Int64) (S : Nat → Nat) (y : Int64) (x : Int32) (hx : x < 0 ∨ ¬ x < nI 15) : CX l yX5_symbol cX5_symbol 4 ((Option.some FieldType.int)) ({ frames := 7, cells := 1, slots := 6, locals := 120 } : Room) [.ref (ad 0), .long y, .int x] D CL (TYS g) (WC ad g I L S) xIO 1 6 := by
  refine cx_of (by decide +kernel) (Nat.le_of_ble_eq_true rfl) ?_
  intro p e s m below meth c A X hnt hSB hRO hAf
  refine g_cs (ws' := []) (lv' := [(0, .ref (ad 0)), (1, .long y), (3, .int x)]) rfl rfl ?_
  refine g_run X KX5_symbol_0_0 KX5_symbol_0_0_d 1 [(0, .ref (ad 0)), (1, .long y), (3, .int x)] [.int x] rfl ?_
  exact gx_callS X hSB hAf hnt (As := [.int x]) (n := 1) (x_X5_checkPlace l hfl D g x (hx)) srcN w_559 w_557 w_558 w_1 (by decide +kernel) rfl ⟨Nat.le_of_ble_eq_true rfl, Nat.le_of_ble_eq_true rfl⟩ rfl rfl rfl (Nat.le_of_ble_eq_true rfl) ⟨Nat.le_of_ble_eq_true rfl, Nat.le_of_ble_eq_true rfl⟩ (Nat.le_of_ble_eq_true rfl) (Nat.le_of_ble_eq_true rfl) dX5_symbol_1

set_option maxHeartbeats 4000000 in
set_option maxRecDepth 100000 in
theorem x_X5_symbol_2 (l : Launch) (hfl : l.stackTraces = false) (D : va_G) (g : Nat → ClassId) (ad : Nat → Nat) (I : Nat → Nat → Int32) (L : Nat → Nat → Int64) (S : Nat → Nat) (x : Int64) (q : Nat) (hq : q < 15) (hx : ¬ dOK x) : CX l yX5_symbol cX5_symbol 4 ((Option.some FieldType.int)) ({ frames := 7, cells := 1, slots := 6, locals := 121 } : Room) [.ref (ad 0), .long x, .int (nI q)] D CL (TYS g) (WC ad g I L S) xIA 1 6 := by
  refine cx_of (by decide +kernel) (Nat.le_of_ble_eq_true rfl) ?_
  intro p e s m below meth c A X hnt hSB hRO hAf
  refine g_cs (ws' := []) (lv' := [(0, .ref (ad 0)), (1, .long x), (3, .int (nI q))]) rfl rfl ?_
  refine g_run X KX5_symbol_0_0 KX5_symbol_0_0_d 1 [(0, .ref (ad 0)), (1, .long x), (3, .int (nI q))] [.int (nI q)] rfl ?_
  refine g_callS X hSB hAf (As := [.int (nI q)]) (wr := []) (n := 1) (c_X5_checkPlace l D g q (by omega)) rfl srcN hrdN w_559 w_557 w_558 w_1 (by decide +kernel) rfl ⟨Nat.le_of_ble_eq_true rfl, Nat.le_of_ble_eq_true rfl⟩ rfl rfl rfl (Nat.le_of_ble_eq_true rfl) ⟨Nat.le_of_ble_eq_true rfl, Nat.le_of_ble_eq_true rfl⟩ dX5_symbol_1 (fun hu1 _ => ?_)
  refine g_af (ws' := []) (st' := []) (cells' := 0) (slots' := 0) (pc' := 4) rfl rfl rfl rfl rfl ?_
  refine g_run X KX5_symbol_4_1 KX5_symbol_4_1_d 5 [(0, .ref (ad 0)), (1, .long x), (3, .int (nI q))] [.long x] rfl ?_
  exact gx_callS X hSB hAf hnt (As := [.long x]) (n := 1) (x_X5_checkData l hfl D g x (hx)) srcN w_507 w_505 w_506 w_1 (by decide +kernel) rfl ⟨Nat.le_of_ble_eq_true rfl, Nat.le_of_ble_eq_true rfl⟩ rfl rfl rfl (Nat.le_of_ble_eq_true rfl) ⟨Nat.le_of_ble_eq_true rfl, Nat.le_of_ble_eq_true rfl⟩ (Nat.le_of_ble_eq_true rfl) (Nat.le_of_ble_eq_true rfl) dX5_symbol_5

