def KX9_thrown_0_0 : List (Nat × Instr × Nat) := [(0, .aload_n 0, 1)]
theorem KX9_thrown_0_0_d : ∀ z ∈ KX9_thrown_0_0, decode cX9_thrown z.1 = .ok z.2 := by decide +kernel
set_option maxHeartbeats 4000000 in
set_option maxRecDepth 100000 in
theorem c_X9_thrown (l : Launch) (D : va_G) (g : Nat → ClassId) (ad : Nat → Nat) (I : Nat → Nat → Int32) (L : Nat → Nat → Int64) (S : Nat → Nat) (Z : Nat → Nat → Int32) (Y : Int64) : CT l yX9_thrown cX9_thrown 1 ((Option.some FieldType.int)) ({ frames := 0, cells := 0, slots := 0, locals := 0 } : Room) [.ref (ad 0)] D CL (TYS g) ([]) (WM ad g I L S Z Y) (S := Unit) (fun _ => some (.int (Z 3 0))) (fun _ => WM ad g I L S Z Y) (fun _ => True) 0 0 := by
  refine ct_of (by decide +kernel) (Nat.le_of_ble_eq_true rfl) ?_
  intro p e s m below meth c A X hr hnm hSB hRO hAf
  refine g_cs (ws' := WM ad g I L S Z Y ++ []) (lv' := [(0, .ref (ad 0))]) (List.append_nil _) rfl ?_
  refine g_run X KX9_thrown_0_0 KX9_thrown_0_0_d 1 [(0, .ref (ad 0))] [.ref (ad 0)] rfl ?_
  refine g_get X srcW (v := .int (Z 3 0)) hinX9 rfl 0 (by decide) w_1180 rfl (wm_mem (k := 0) (by decide)) rfl dX9_thrown_1 ?_
  exact g_iret X hr () (rfl) (trivial) (rfl) (Nat.le_of_ble_eq_true rfl) (Nat.le_of_ble_eq_true rfl) dX9_thrown_4

/-! the helpers of the law -/
theorem wo_get {ad : Nat → Nat} {g : Nat → ClassId} {I : Nat → Nat → Int32} {L : Nat → Nat → Int64} {S : Nat → Nat} {x : Nat × va_E} : (WC ad g I L S ++ [x])[28]? = some x := rfl
theorem wo_set {ad : Nat → Nat} {g : Nat → ClassId} {I : Nat → Nat → Int32} {L : Nat → Nat → Int64} {S : Nat → Nat} {x y : Nat × va_E} : (WC ad g I L S ++ [x]).set 28 y = WC ad g I L S ++ [y] := rfl
def KL_write_0_0 : List (Nat × Instr × Nat) := [(0, .aload 4, 2), (2, .aload_n 0, 1), (3, .iload_n 1, 1), (4, .lload_n 2, 1)]
theorem KL_write_0_0_d : ∀ z ∈ KL_write_0_0, decode cL_write z.1 = .ok z.2 := by decide +kernel
def KL_write_8_1 : List (Nat × Instr × Nat) := [(8, .i2l, 1)]
theorem KL_write_8_1_d : ∀ z ∈ KL_write_8_1, decode cL_write z.1 = .ok z.2 := by decide +kernel
def KL_write_12_2 : List (Nat × Instr × Nat) := [(12, .goto 11, 3), (23, .iconst 0, 1)]
theorem KL_write_12_2_d : ∀ z ∈ KL_write_12_2, decode cL_write z.1 = .ok z.2 := by decide +kernel
set_option maxHeartbeats 4000000 in
set_option maxRecDepth 100000 in
theorem hc_write (l : Launch) (D : va_G) (g : Nat → ClassId) (ad : Nat → Nat) (I : Nat → Nat → Int32) (L : Nat → Nat → Int64) (S : Nat → Nat) (q : Nat) (x : Int64) (ao : Nat) (o : Int64) (v : Value) (hS18 : ∀ p, p < 15 → S p < 18) (hq : q < 16) (hx : dOK x) : CTW l yL_write cL_write 6 (Option.some FieldType.int) [(0, 12, 15, 19), (0, 12, 19, 21)] ({ frames := 6, cells := 0, slots := 0, locals := 154 } : Room) [.ref (ad 0), .int (nI q), .long x, .ref ao] D CL (TYS g) (WC ad g I L S ++ [OUT ao o v]) (S := Unit) (fun _ => some (.int (nI 0))) (fun _ => WC ad g I (wrw S L q (wdO x) 15) S ++ [OUT ao ((nI (pcn (pl (rwd I L S q 15 ^^^ rwd I (wrw S L q (wdO x) 15) S q 15) 15) 15)).toInt64) v]) (fun _ => True) 0 0 := by
  refine ctw_of (by decide +kernel) (Nat.le_of_ble_eq_true rfl) ?_
  intro p e s m below meth c A X hT hNC hr hSB hAf
  refine g_cs (ws' := WC ad g I L S ++ [OUT ao o v]) (lv' := [(0, .ref (ad 0)), (1, .int (nI q)), (2, .long x), (4, .ref ao)]) rfl rfl ?_
  refine g_run X KL_write_0_0 KL_write_0_0_d 5 [(0, .ref (ad 0)), (1, .int (nI q)), (2, .long x), (4, .ref ao)] [.long x, .int (nI q), .ref (ad 0), .ref ao] rfl ?_
  refine g_callV X hSB hAf (srcW) (hrc1 := (rfl : CL[4]? = some _)) ((List.mem_append_left _ (wc_mem (k := 0) (by decide)))) rfl (As := [.int (nI q), .long x]) (wr := [OUT ao o v]) (n := 2) (c_X5_write l D g ad I L S q x (by assumption) (by assumption) (by assumption)) rfl srcN hrdN w_504 w_501 w_502 w_503 w_1 (by decide +kernel) rfl ⟨Nat.le_of_ble_eq_true rfl, Nat.le_of_ble_eq_true rfl⟩ rfl rfl rfl (Nat.le_of_ble_eq_true rfl) ⟨Nat.le_of_ble_eq_true rfl, Nat.le_of_ble_eq_true rfl⟩ dL_write_5 (fun hu1 _ => ?_)
  refine g_af (ws' := WC ad g I (wrw S L q (wdO x) 15) S ++ [OUT ao o v]) (st' := [.int (nI (pcn (pl (rwd I L S q 15 ^^^ rwd I (wrw S L q (wdO x) 15) S q 15) 15) 15)), .ref ao]) (cells' := 0) (slots' := 0) (pc' := 8) rfl rfl rfl rfl rfl ?_
  refine g_run X KL_write_8_1 KL_write_8_1_d 9 [(0, .ref (ad 0)), (1, .int (nI q)), (2, .long x), (4, .ref ao)] [.long ((nI (pcn (pl (rwd I L S q 15 ^^^ rwd I (wrw S L q (wdO x) 15) S q 15) 15) 15)).toInt64), .ref ao] rfl ?_
  refine g_putN X (ws' := WC ad g I (wrw S L q (wdO x) 15) S ++ [OUT ao ((nI (pcn (pl (rwd I L S q 15 ^^^ rwd I (wrw S L q (wdO x) 15) S q 15) 15) 15)).toInt64) v]) hinX6 tyX6 tyX6_ok nmX6 rfl 0 (by decide) (nw_in n_489 rfl) rfl rfl (ty := .long) rfl rfl rfl (28) (wo_get) (Nat.le_of_ble_eq_true rfl) (wo_set) dL_write_9 ?_
  refine g_run X KL_write_12_2 KL_write_12_2_d 24 [(0, .ref (ad 0)), (1, .int (nI q)), (2, .long x), (4, .ref ao)] [.int (nI 0)] rfl ?_
  exact g_iret X hr () (rfl) (trivial) ((List.append_nil _).symm) (Nat.le_of_ble_eq_true rfl) (Nat.le_of_ble_eq_true rfl) dL_write_24

def KL_write_15_3 : List (Nat × Instr × Nat) := [(15, .astore 5, 2), (17, .iconst 1, 1)]
theorem KL_write_15_3_d : ∀ z ∈ KL_write_15_3, decode cL_write z.1 = .ok z.2 := by decide +kernel
set_option maxHeartbeats 4000000 in
set_option maxRecDepth 100000 in
theorem hx_write_1 (l : Launch) (hfl : l.stackTraces = false) (D : va_G) (g : Nat → ClassId) (ad : Nat → Nat) (I : Nat → Nat → Int32) (L : Nat → Nat → Int64) (S : Nat → Nat) (x : Int32) (y : Int64) (ao : Nat) (o : Int64) (v : Value) (hx : x < 0 ∨ ¬ x < nI 16) : CTW l yL_write cL_write 6 (Option.some FieldType.int) [(0, 12, 15, 19), (0, 12, 19, 21)] ({ frames := 8, cells := 1, slots := 6, locals := 145 } : Room) [.ref (ad 0), .int x, .long y, .ref ao] D CL (TYS g) (WC ad g I L S ++ [OUT ao o v]) (S := Unit) (fun _ => some (.int (nI 1))) (fun _ => WC ad g I L S ++ [OUT ao o v]) (fun _ => True) 1 6 := by
  refine ctw_of (by decide +kernel) (Nat.le_of_ble_eq_true rfl) ?_
  intro p e s m below meth c A X hT hNC hr hSB hAf
  refine g_cs (ws' := WC ad g I L S ++ [OUT ao o v]) (lv' := [(0, .ref (ad 0)), (1, .int x), (2, .long y), (4, .ref ao)]) rfl rfl ?_
  refine g_run X KL_write_0_0 KL_write_0_0_d 5 [(0, .ref (ad 0)), (1, .int x), (2, .long y), (4, .ref ao)] [.long y, .int x, .ref (ad 0), .ref ao] rfl ?_
  refine gc_callV X hSB hAf hT srcW (hrc1 := (rfl : CL[4]? = some _)) (List.mem_append_left _ (wc_mem (k := 0) (by decide))) rfl (As := [.int x, .long y]) (n := 2) (x_X5_write_1 l hfl D g ad I L S x y (by assumption)) srcL w_504 w_501 w_502 w_503 w_1 (by decide +kernel) rfl ⟨Nat.le_of_ble_eq_true rfl, Nat.le_of_ble_eq_true rfl⟩ rfl rfl rfl (Nat.le_of_ble_eq_true rfl) ⟨Nat.le_of_ble_eq_true rfl, Nat.le_of_ble_eq_true rfl⟩ dL_write_5 [] ⟨0, 12, 15, 19⟩ [⟨0, 12, 19, 21⟩] rfl (fun _ h => absurd h List.not_mem_nil) (by decide) (by decide) w_499 (nw_in n_410 rfl) (fun qx1 => ?_)
  refine g_af (ws' := WC ad g I L S ++ [OUT ao o v]) (st' := [.ref qx1]) (cells' := 1) (slots' := 6) (pc' := 15) rfl rfl rfl rfl rfl ?_
  refine g_run X KL_write_15_3 KL_write_15_3_d 18 [(5, .ref qx1), (0, .ref (ad 0)), (1, .int x), (2, .long y), (4, .ref ao)] [.int (nI 1)] rfl ?_
  exact g_iret X hr () (rfl) (trivial) ((List.append_nil _).symm) (Nat.le_of_ble_eq_true rfl) (Nat.le_of_ble_eq_true rfl) dL_write_18

def KL_write_19_4 : List (Nat × Instr × Nat) := [(19, .astore 5, 2), (21, .iconst 2, 1)]
theorem KL_write_19_4_d : ∀ z ∈ KL_write_19_4, decode cL_write z.1 = .ok z.2 := by decide +kernel
set_option maxHeartbeats 4000000 in
set_option maxRecDepth 100000 in
theorem hx_write_2 (l : Launch) (hfl : l.stackTraces = false) (D : va_G) (g : Nat → ClassId) (ad : Nat → Nat) (I : Nat → Nat → Int32) (L : Nat → Nat → Int64) (S : Nat → Nat) (q : Nat) (x : Int64) (ao : Nat) (o : Int64) (v : Value) (hq : q < 16) (hx : ¬ dOK x) : CTW l yL_write cL_write 6 (Option.some FieldType.int) [(0, 12, 15, 19), (0, 12, 19, 21)] ({ frames := 8, cells := 1, slots := 6, locals := 146 } : Room) [.ref (ad 0), .int (nI q), .long x, .ref ao] D CL (TYS g) (WC ad g I L S ++ [OUT ao o v]) (S := Unit) (fun _ => some (.int (nI 2))) (fun _ => WC ad g I L S ++ [OUT ao o v]) (fun _ => True) 1 6 := by
  refine ctw_of (by decide +kernel) (Nat.le_of_ble_eq_true rfl) ?_
  intro p e s m below meth c A X hT hNC hr hSB hAf
  refine g_cs (ws' := WC ad g I L S ++ [OUT ao o v]) (lv' := [(0, .ref (ad 0)), (1, .int (nI q)), (2, .long x), (4, .ref ao)]) rfl rfl ?_
  refine g_run X KL_write_0_0 KL_write_0_0_d 5 [(0, .ref (ad 0)), (1, .int (nI q)), (2, .long x), (4, .ref ao)] [.long x, .int (nI q), .ref (ad 0), .ref ao] rfl ?_
  refine gc_callV X hSB hAf hT srcW (hrc1 := (rfl : CL[4]? = some _)) (List.mem_append_left _ (wc_mem (k := 0) (by decide))) rfl (As := [.int (nI q), .long x]) (n := 2) (x_X5_write_2 l hfl D g ad I L S q x (by assumption) (by assumption)) srcL w_504 w_501 w_502 w_503 w_1 (by decide +kernel) rfl ⟨Nat.le_of_ble_eq_true rfl, Nat.le_of_ble_eq_true rfl⟩ rfl rfl rfl (Nat.le_of_ble_eq_true rfl) ⟨Nat.le_of_ble_eq_true rfl, Nat.le_of_ble_eq_true rfl⟩ dL_write_5 [⟨0, 12, 15, 19⟩] ⟨0, 12, 19, 21⟩ [] rfl (fun z hz => by cases List.mem_singleton.mp hz; exact ⟨by decide, _, w_499, hNC.1⟩) (by decide) (by decide) w_500 (nw_in n_335 rfl) (fun qx1 => ?_)
  refine g_af (ws' := WC ad g I L S ++ [OUT ao o v]) (st' := [.ref qx1]) (cells' := 1) (slots' := 6) (pc' := 19) rfl rfl rfl rfl rfl ?_
  refine g_run X KL_write_19_4 KL_write_19_4_d 22 [(5, .ref qx1), (0, .ref (ad 0)), (1, .int (nI q)), (2, .long x), (4, .ref ao)] [.int (nI 2)] rfl ?_
  exact g_iret X hr () (rfl) (trivial) ((List.append_nil _).symm) (Nat.le_of_ble_eq_true rfl) (Nat.le_of_ble_eq_true rfl) dL_write_22

def KL_stick_0_0 : List (Nat × Instr × Nat) := [(0, .aload 5, 2), (2, .aload_n 0, 1), (3, .iload_n 1, 1), (4, .iload_n 2, 1), (5, .iload_n 3, 1), (6, .iload 4, 2)]
theorem KL_stick_0_0_d : ∀ z ∈ KL_stick_0_0, decode cL_stick z.1 = .ok z.2 := by decide +kernel
def KL_stick_11_1 : List (Nat × Instr × Nat) := [(11, .i2l, 1)]
theorem KL_stick_11_1_d : ∀ z ∈ KL_stick_11_1, decode cL_stick z.1 = .ok z.2 := by decide +kernel
def KL_stick_15_2 : List (Nat × Instr × Nat) := [(15, .goto 11, 3), (26, .iconst 0, 1)]
theorem KL_stick_15_2_d : ∀ z ∈ KL_stick_15_2, decode cL_stick z.1 = .ok z.2 := by decide +kernel
set_option maxHeartbeats 4000000 in
set_option maxRecDepth 100000 in
theorem hc_stick (l : Launch) (D : va_G) (g : Nat → ClassId) (ad : Nat → Nat) (I : Nat → Nat → Int32) (L : Nat → Nat → Int64) (S : Nat → Nat) (ch : Nat) (q : Nat) (vv : Nat) (z : Nat) (ao : Nat) (o : Int64) (v : Value) (hch : ch < 18) (hq : q < 16) (hv : vv < 16) (hz : z < 16) : CTW l yL_stick cL_stick 7 (Option.some FieldType.int) [(0, 15, 18, 19), (0, 15, 22, 21)] ({ frames := 3, cells := 0, slots := 0, locals := 71 } : Room) [.ref (ad 0), .int (nI ch), .int (nI q), .int (nI vv), .int (nI z), .ref ao] D CL (TYS g) (WC ad g I L S ++ [OUT ao o v]) (S := Unit) (fun _ => some (.int (nI 0))) (fun _ => WC ad g I (u2 (u2 L 1 ch (wn (L 1 ch) q vv)) 2 ch (wn (L 2 ch) q z)) S ++ [OUT ao ((nI (stk (u2 (u2 L 1 ch (wn (L 1 ch) q vv)) 2 ch (wn (L 2 ch) q z)) ch 16)).toInt64) v]) (fun _ => True) 0 0 := by
  refine ctw_of (by decide +kernel) (Nat.le_of_ble_eq_true rfl) ?_
  intro p e s m below meth c A X hT hNC hr hSB hAf
  refine g_cs (ws' := WC ad g I L S ++ [OUT ao o v]) (lv' := [(0, .ref (ad 0)), (1, .int (nI ch)), (2, .int (nI q)), (3, .int (nI vv)), (4, .int (nI z)), (5, .ref ao)]) rfl rfl ?_
  refine g_run X KL_stick_0_0 KL_stick_0_0_d 8 [(0, .ref (ad 0)), (1, .int (nI ch)), (2, .int (nI q)), (3, .int (nI vv)), (4, .int (nI z)), (5, .ref ao)] [.int (nI z), .int (nI vv), .int (nI q), .int (nI ch), .ref (ad 0), .ref ao] rfl ?_
  refine g_callV X hSB hAf (srcW) (hrc1 := (rfl : CL[4]? = some _)) ((List.mem_append_left _ (wc_mem (k := 0) (by decide)))) rfl (As := [.int (nI ch), .int (nI q), .int (nI vv), .int (nI z)]) (wr := [OUT ao o v]) (n := 4) (c_X5_stick l D g ad I L S ch q vv z (by assumption) (by assumption) (by assumption) (by assumption)) rfl srcN hrdN w_521 w_518 w_519 w_520 w_1 (by decide +kernel) rfl ⟨Nat.le_of_ble_eq_true rfl, Nat.le_of_ble_eq_true rfl⟩ rfl rfl rfl (Nat.le_of_ble_eq_true rfl) ⟨Nat.le_of_ble_eq_true rfl, Nat.le_of_ble_eq_true rfl⟩ dL_stick_8 (fun hu1 _ => ?_)
  refine g_af (ws' := WC ad g I (u2 (u2 L 1 ch (wn (L 1 ch) q vv)) 2 ch (wn (L 2 ch) q z)) S ++ [OUT ao o v]) (st' := [.int (nI (stk (u2 (u2 L 1 ch (wn (L 1 ch) q vv)) 2 ch (wn (L 2 ch) q z)) ch 16)), .ref ao]) (cells' := 0) (slots' := 0) (pc' := 11) rfl rfl rfl rfl rfl ?_
  refine g_run X KL_stick_11_1 KL_stick_11_1_d 12 [(0, .ref (ad 0)), (1, .int (nI ch)), (2, .int (nI q)), (3, .int (nI vv)), (4, .int (nI z)), (5, .ref ao)] [.long ((nI (stk (u2 (u2 L 1 ch (wn (L 1 ch) q vv)) 2 ch (wn (L 2 ch) q z)) ch 16)).toInt64), .ref ao] rfl ?_
  refine g_putN X (ws' := WC ad g I (u2 (u2 L 1 ch (wn (L 1 ch) q vv)) 2 ch (wn (L 2 ch) q z)) S ++ [OUT ao ((nI (stk (u2 (u2 L 1 ch (wn (L 1 ch) q vv)) 2 ch (wn (L 2 ch) q z)) ch 16)).toInt64) v]) hinX6 tyX6 tyX6_ok nmX6 rfl 0 (by decide) (nw_in n_489 rfl) rfl rfl (ty := .long) rfl rfl rfl (28) (wo_get) (Nat.le_of_ble_eq_true rfl) (wo_set) dL_stick_12 ?_
  refine g_run X KL_stick_15_2 KL_stick_15_2_d 27 [(0, .ref (ad 0)), (1, .int (nI ch)), (2, .int (nI q)), (3, .int (nI vv)), (4, .int (nI z)), (5, .ref ao)] [.int (nI 0)] rfl ?_
  exact g_iret X hr () (rfl) (trivial) ((List.append_nil _).symm) (Nat.le_of_ble_eq_true rfl) (Nat.le_of_ble_eq_true rfl) dL_stick_27

def KL_stick_18_3 : List (Nat × Instr × Nat) := [(18, .astore 6, 2), (20, .iconst 1, 1)]
theorem KL_stick_18_3_d : ∀ z ∈ KL_stick_18_3, decode cL_stick z.1 = .ok z.2 := by decide +kernel
set_option maxHeartbeats 4000000 in
set_option maxRecDepth 100000 in
theorem hx_stick_1 (l : Launch) (hfl : l.stackTraces = false) (D : va_G) (g : Nat → ClassId) (ad : Nat → Nat) (I : Nat → Nat → Int32) (L : Nat → Nat → Int64) (S : Nat → Nat) (x : Int32) (y1 : Int32) (y2 : Int32) (y3 : Int32) (ao : Nat) (o : Int64) (v : Value) (hx : x < 0 ∨ ¬ x < nI 18) : CTW l yL_stick cL_stick 7 (Option.some FieldType.int) [(0, 15, 18, 19), (0, 15, 22, 21)] ({ frames := 8, cells := 1, slots := 6, locals := 144 } : Room) [.ref (ad 0), .int x, .int y1, .int y2, .int y3, .ref ao] D CL (TYS g) (WC ad g I L S ++ [OUT ao o v]) (S := Unit) (fun _ => some (.int (nI 1))) (fun _ => WC ad g I L S ++ [OUT ao o v]) (fun _ => True) 1 6 := by
  refine ctw_of (by decide +kernel) (Nat.le_of_ble_eq_true rfl) ?_
  intro p e s m below meth c A X hT hNC hr hSB hAf
  refine g_cs (ws' := WC ad g I L S ++ [OUT ao o v]) (lv' := [(0, .ref (ad 0)), (1, .int x), (2, .int y1), (3, .int y2), (4, .int y3), (5, .ref ao)]) rfl rfl ?_
  refine g_run X KL_stick_0_0 KL_stick_0_0_d 8 [(0, .ref (ad 0)), (1, .int x), (2, .int y1), (3, .int y2), (4, .int y3), (5, .ref ao)] [.int y3, .int y2, .int y1, .int x, .ref (ad 0), .ref ao] rfl ?_
  refine gc_callV X hSB hAf hT srcW (hrc1 := (rfl : CL[4]? = some _)) (List.mem_append_left _ (wc_mem (k := 0) (by decide))) rfl (As := [.int x, .int y1, .int y2, .int y3]) (n := 4) (x_X5_stick_1 l hfl D g ad I L S x y1 y2 y3 (by assumption)) srcL w_521 w_518 w_519 w_520 w_1 (by decide +kernel) rfl ⟨Nat.le_of_ble_eq_true rfl, Nat.le_of_ble_eq_true rfl⟩ rfl rfl rfl (Nat.le_of_ble_eq_true rfl) ⟨Nat.le_of_ble_eq_true rfl, Nat.le_of_ble_eq_true rfl⟩ dL_stick_8 [] ⟨0, 15, 18, 19⟩ [⟨0, 15, 22, 21⟩] rfl (fun _ h => absurd h List.not_mem_nil) (by decide) (by decide) w_499 (nw_in n_410 rfl) (fun qx1 => ?_)
  refine g_af (ws' := WC ad g I L S ++ [OUT ao o v]) (st' := [.ref qx1]) (cells' := 1) (slots' := 6) (pc' := 18) rfl rfl rfl rfl rfl ?_
  refine g_run X KL_stick_18_3 KL_stick_18_3_d 21 [(6, .ref qx1), (0, .ref (ad 0)), (1, .int x), (2, .int y1), (3, .int y2), (4, .int y3), (5, .ref ao)] [.int (nI 1)] rfl ?_
  exact g_iret X hr () (rfl) (trivial) ((List.append_nil _).symm) (Nat.le_of_ble_eq_true rfl) (Nat.le_of_ble_eq_true rfl) dL_stick_21

set_option maxHeartbeats 4000000 in
set_option maxRecDepth 100000 in
theorem hx_stick_2 (l : Launch) (hfl : l.stackTraces = false) (D : va_G) (g : Nat → ClassId) (ad : Nat → Nat) (I : Nat → Nat → Int32) (L : Nat → Nat → Int64) (S : Nat → Nat) (ch : Nat) (x : Int32) (y1 : Int32) (y2 : Int32) (ao : Nat) (o : Int64) (v : Value) (hch : ch < 18) (hx : x < 0 ∨ ¬ x < nI 16) : CTW l yL_stick cL_stick 7 (Option.some FieldType.int) [(0, 15, 18, 19), (0, 15, 22, 21)] ({ frames := 8, cells := 1, slots := 6, locals := 144 } : Room) [.ref (ad 0), .int (nI ch), .int x, .int y1, .int y2, .ref ao] D CL (TYS g) (WC ad g I L S ++ [OUT ao o v]) (S := Unit) (fun _ => some (.int (nI 1))) (fun _ => WC ad g I L S ++ [OUT ao o v]) (fun _ => True) 1 6 := by
  refine ctw_of (by decide +kernel) (Nat.le_of_ble_eq_true rfl) ?_
  intro p e s m below meth c A X hT hNC hr hSB hAf
  refine g_cs (ws' := WC ad g I L S ++ [OUT ao o v]) (lv' := [(0, .ref (ad 0)), (1, .int (nI ch)), (2, .int x), (3, .int y1), (4, .int y2), (5, .ref ao)]) rfl rfl ?_
  refine g_run X KL_stick_0_0 KL_stick_0_0_d 8 [(0, .ref (ad 0)), (1, .int (nI ch)), (2, .int x), (3, .int y1), (4, .int y2), (5, .ref ao)] [.int y2, .int y1, .int x, .int (nI ch), .ref (ad 0), .ref ao] rfl ?_
  refine gc_callV X hSB hAf hT srcW (hrc1 := (rfl : CL[4]? = some _)) (List.mem_append_left _ (wc_mem (k := 0) (by decide))) rfl (As := [.int (nI ch), .int x, .int y1, .int y2]) (n := 4) (x_X5_stick_2 l hfl D g ad I L S ch x y1 y2 (by assumption) (by assumption)) srcL w_521 w_518 w_519 w_520 w_1 (by decide +kernel) rfl ⟨Nat.le_of_ble_eq_true rfl, Nat.le_of_ble_eq_true rfl⟩ rfl rfl rfl (Nat.le_of_ble_eq_true rfl) ⟨Nat.le_of_ble_eq_true rfl, Nat.le_of_ble_eq_true rfl⟩ dL_stick_8 [] ⟨0, 15, 18, 19⟩ [⟨0, 15, 22, 21⟩] rfl (fun _ h => absurd h List.not_mem_nil) (by decide) (by decide) w_499 (nw_in n_410 rfl) (fun qx1 => ?_)
  refine g_af (ws' := WC ad g I L S ++ [OUT ao o v]) (st' := [.ref qx1]) (cells' := 1) (slots' := 6) (pc' := 18) rfl rfl rfl rfl rfl ?_
  refine g_run X KL_stick_18_3 KL_stick_18_3_d 21 [(6, .ref qx1), (0, .ref (ad 0)), (1, .int (nI ch)), (2, .int x), (3, .int y1), (4, .int y2), (5, .ref ao)] [.int (nI 1)] rfl ?_
  exact g_iret X hr () (rfl) (trivial) ((List.append_nil _).symm) (Nat.le_of_ble_eq_true rfl) (Nat.le_of_ble_eq_true rfl) dL_stick_21

def KL_stick_22_4 : List (Nat × Instr × Nat) := [(22, .astore 6, 2), (24, .iconst 2, 1)]
theorem KL_stick_22_4_d : ∀ z ∈ KL_stick_22_4, decode cL_stick z.1 = .ok z.2 := by decide +kernel
set_option maxHeartbeats 4000000 in
set_option maxRecDepth 100000 in
theorem hx_stick_3 (l : Launch) (hfl : l.stackTraces = false) (D : va_G) (g : Nat → ClassId) (ad : Nat → Nat) (I : Nat → Nat → Int32) (L : Nat → Nat → Int64) (S : Nat → Nat) (ch : Nat) (q : Nat) (x : Int32) (y1 : Int32) (ao : Nat) (o : Int64) (v : Value) (hch : ch < 18) (hq : q < 16) (hx : x < 0 ∨ ¬ x ≤ nI 15) : CTW l yL_stick cL_stick 7 (Option.some FieldType.int) [(0, 15, 18, 19), (0, 15, 22, 21)] ({ frames := 8, cells := 1, slots := 6, locals := 144 } : Room) [.ref (ad 0), .int (nI ch), .int (nI q), .int x, .int y1, .ref ao] D CL (TYS g) (WC ad g I L S ++ [OUT ao o v]) (S := Unit) (fun _ => some (.int (nI 2))) (fun _ => WC ad g I L S ++ [OUT ao o v]) (fun _ => True) 1 6 := by
  refine ctw_of (by decide +kernel) (Nat.le_of_ble_eq_true rfl) ?_
  intro p e s m below meth c A X hT hNC hr hSB hAf
  refine g_cs (ws' := WC ad g I L S ++ [OUT ao o v]) (lv' := [(0, .ref (ad 0)), (1, .int (nI ch)), (2, .int (nI q)), (3, .int x), (4, .int y1), (5, .ref ao)]) rfl rfl ?_
  refine g_run X KL_stick_0_0 KL_stick_0_0_d 8 [(0, .ref (ad 0)), (1, .int (nI ch)), (2, .int (nI q)), (3, .int x), (4, .int y1), (5, .ref ao)] [.int y1, .int x, .int (nI q), .int (nI ch), .ref (ad 0), .ref ao] rfl ?_
  refine gc_callV X hSB hAf hT srcW (hrc1 := (rfl : CL[4]? = some _)) (List.mem_append_left _ (wc_mem (k := 0) (by decide))) rfl (As := [.int (nI ch), .int (nI q), .int x, .int y1]) (n := 4) (x_X5_stick_3 l hfl D g ad I L S ch q x y1 (by assumption) (by assumption) (by assumption)) srcL w_521 w_518 w_519 w_520 w_1 (by decide +kernel) rfl ⟨Nat.le_of_ble_eq_true rfl, Nat.le_of_ble_eq_true rfl⟩ rfl rfl rfl (Nat.le_of_ble_eq_true rfl) ⟨Nat.le_of_ble_eq_true rfl, Nat.le_of_ble_eq_true rfl⟩ dL_stick_8 [⟨0, 15, 18, 19⟩] ⟨0, 15, 22, 21⟩ [] rfl (fun z hz => by cases List.mem_singleton.mp hz; exact ⟨by decide, _, w_499, hNC.1⟩) (by decide) (by decide) w_500 (nw_in n_335 rfl) (fun qx1 => ?_)
  refine g_af (ws' := WC ad g I L S ++ [OUT ao o v]) (st' := [.ref qx1]) (cells' := 1) (slots' := 6) (pc' := 22) rfl rfl rfl rfl rfl ?_
  refine g_run X KL_stick_22_4 KL_stick_22_4_d 25 [(6, .ref qx1), (0, .ref (ad 0)), (1, .int (nI ch)), (2, .int (nI q)), (3, .int x), (4, .int y1), (5, .ref ao)] [.int (nI 2)] rfl ?_
  exact g_iret X hr () (rfl) (trivial) ((List.append_nil _).symm) (Nat.le_of_ble_eq_true rfl) (Nat.le_of_ble_eq_true rfl) dL_stick_25

set_option maxHeartbeats 4000000 in
set_option maxRecDepth 100000 in
theorem hx_stick_4 (l : Launch) (hfl : l.stackTraces = false) (D : va_G) (g : Nat → ClassId) (ad : Nat → Nat) (I : Nat → Nat → Int32) (L : Nat → Nat → Int64) (S : Nat → Nat) (ch : Nat) (q : Nat) (vv : Nat) (x : Int32) (ao : Nat) (o : Int64) (v : Value) (hch : ch < 18) (hq : q < 16) (hv : vv < 16) (hx : x < 0 ∨ ¬ x ≤ nI 15) : CTW l yL_stick cL_stick 7 (Option.some FieldType.int) [(0, 15, 18, 19), (0, 15, 22, 21)] ({ frames := 8, cells := 1, slots := 6, locals := 144 } : Room) [.ref (ad 0), .int (nI ch), .int (nI q), .int (nI vv), .int x, .ref ao] D CL (TYS g) (WC ad g I L S ++ [OUT ao o v]) (S := Unit) (fun _ => some (.int (nI 2))) (fun _ => WC ad g I L S ++ [OUT ao o v]) (fun _ => True) 1 6 := by
  refine ctw_of (by decide +kernel) (Nat.le_of_ble_eq_true rfl) ?_
  intro p e s m below meth c A X hT hNC hr hSB hAf
  refine g_cs (ws' := WC ad g I L S ++ [OUT ao o v]) (lv' := [(0, .ref (ad 0)), (1, .int (nI ch)), (2, .int (nI q)), (3, .int (nI vv)), (4, .int x), (5, .ref ao)]) rfl rfl ?_
  refine g_run X KL_stick_0_0 KL_stick_0_0_d 8 [(0, .ref (ad 0)), (1, .int (nI ch)), (2, .int (nI q)), (3, .int (nI vv)), (4, .int x), (5, .ref ao)] [.int x, .int (nI vv), .int (nI q), .int (nI ch), .ref (ad 0), .ref ao] rfl ?_
  refine gc_callV X hSB hAf hT srcW (hrc1 := (rfl : CL[4]? = some _)) (List.mem_append_left _ (wc_mem (k := 0) (by decide))) rfl (As := [.int (nI ch), .int (nI q), .int (nI vv), .int x]) (n := 4) (x_X5_stick_4 l hfl D g ad I L S ch q vv x (by assumption) (by assumption) (by assumption) (by assumption)) srcL w_521 w_518 w_519 w_520 w_1 (by decide +kernel) rfl ⟨Nat.le_of_ble_eq_true rfl, Nat.le_of_ble_eq_true rfl⟩ rfl rfl rfl (Nat.le_of_ble_eq_true rfl) ⟨Nat.le_of_ble_eq_true rfl, Nat.le_of_ble_eq_true rfl⟩ dL_stick_8 [⟨0, 15, 18, 19⟩] ⟨0, 15, 22, 21⟩ [] rfl (fun z hz => by cases List.mem_singleton.mp hz; exact ⟨by decide, _, w_499, hNC.1⟩) (by decide) (by decide) w_500 (nw_in n_335 rfl) (fun qx1 => ?_)
  refine g_af (ws' := WC ad g I L S ++ [OUT ao o v]) (st' := [.ref qx1]) (cells' := 1) (slots' := 6) (pc' := 22) rfl rfl rfl rfl rfl ?_
  refine g_run X KL_stick_22_4 KL_stick_22_4_d 25 [(6, .ref qx1), (0, .ref (ad 0)), (1, .int (nI ch)), (2, .int (nI q)), (3, .int (nI vv)), (4, .int x), (5, .ref ao)] [.int (nI 2)] rfl ?_
  exact g_iret X hr () (rfl) (trivial) ((List.append_nil _).symm) (Nat.le_of_ble_eq_true rfl) (Nat.le_of_ble_eq_true rfl) dL_stick_25

def KL_mad_0_0 : List (Nat × Instr × Nat) := [(0, .aload_n 3, 1), (1, .aload_n 0, 1), (2, .iload_n 1, 1), (3, .iload_n 2, 1)]
theorem KL_mad_0_0_d : ∀ z ∈ KL_mad_0_0, decode cL_mad z.1 = .ok z.2 := by decide +kernel
def KL_mad_7_1 : List (Nat × Instr × Nat) := [(7, .i2l, 1)]
theorem KL_mad_7_1_d : ∀ z ∈ KL_mad_7_1, decode cL_mad z.1 = .ok z.2 := by decide +kernel
def KL_mad_11_2 : List (Nat × Instr × Nat) := [(11, .goto 11, 3), (22, .iconst 0, 1)]
theorem KL_mad_11_2_d : ∀ z ∈ KL_mad_11_2, decode cL_mad z.1 = .ok z.2 := by decide +kernel
set_option maxHeartbeats 4000000 in
set_option maxRecDepth 100000 in
theorem hc_mad (l : Launch) (D : va_G) (g : Nat → ClassId) (ad : Nat → Nat) (I : Nat → Nat → Int32) (L : Nat → Nat → Int64) (S : Nat → Nat) (ch : Nat) (k : Nat) (ao : Nat) (o : Int64) (v : Value) (hch : ch < 18) (hk : k < 16) : CTW l yL_mad cL_mad 5 (Option.some FieldType.int) [(0, 11, 14, 19), (0, 11, 18, 21)] ({ frames := 2, cells := 0, slots := 0, locals := 43 } : Room) [.ref (ad 0), .int (nI ch), .int (nI k), .ref ao] D CL (TYS g) (WC ad g I L S ++ [OUT ao o v]) (S := Unit) (fun _ => some (.int (nI 0))) (fun _ => WC ad g (u2 I 1 ch (nI k)) L S ++ [OUT ao ((I 1 ch).toInt64) v]) (fun _ => True) 0 0 := by
  refine ctw_of (by decide +kernel) (Nat.le_of_ble_eq_true rfl) ?_
  intro p e s m below meth c A X hT hNC hr hSB hAf
  refine g_cs (ws' := WC ad g I L S ++ [OUT ao o v]) (lv' := [(0, .ref (ad 0)), (1, .int (nI ch)), (2, .int (nI k)), (3, .ref ao)]) rfl rfl ?_
  refine g_run X KL_mad_0_0 KL_mad_0_0_d 4 [(0, .ref (ad 0)), (1, .int (nI ch)), (2, .int (nI k)), (3, .ref ao)] [.int (nI k), .int (nI ch), .ref (ad 0), .ref ao] rfl ?_
  refine g_callV X hSB hAf (srcW) (hrc1 := (rfl : CL[4]? = some _)) ((List.mem_append_left _ (wc_mem (k := 0) (by decide)))) rfl (As := [.int (nI ch), .int (nI k)]) (wr := [OUT ao o v]) (n := 2) (c_X5_mad l D g ad I L S ch k (by assumption) (by assumption)) rfl srcN hrdN w_536 w_533 w_534 w_535 w_1 (by decide +kernel) rfl ⟨Nat.le_of_ble_eq_true rfl, Nat.le_of_ble_eq_true rfl⟩ rfl rfl rfl (Nat.le_of_ble_eq_true rfl) ⟨Nat.le_of_ble_eq_true rfl, Nat.le_of_ble_eq_true rfl⟩ dL_mad_4 (fun hu1 _ => ?_)
  refine g_af (ws' := WC ad g (u2 I 1 ch (nI k)) L S ++ [OUT ao o v]) (st' := [.int (I 1 ch), .ref ao]) (cells' := 0) (slots' := 0) (pc' := 7) rfl rfl rfl rfl rfl ?_
  refine g_run X KL_mad_7_1 KL_mad_7_1_d 8 [(0, .ref (ad 0)), (1, .int (nI ch)), (2, .int (nI k)), (3, .ref ao)] [.long ((I 1 ch).toInt64), .ref ao] rfl ?_
  refine g_putN X (ws' := WC ad g (u2 I 1 ch (nI k)) L S ++ [OUT ao ((I 1 ch).toInt64) v]) hinX6 tyX6 tyX6_ok nmX6 rfl 0 (by decide) (nw_in n_489 rfl) rfl rfl (ty := .long) rfl rfl rfl (28) (wo_get) (Nat.le_of_ble_eq_true rfl) (wo_set) dL_mad_8 ?_
  refine g_run X KL_mad_11_2 KL_mad_11_2_d 23 [(0, .ref (ad 0)), (1, .int (nI ch)), (2, .int (nI k)), (3, .ref ao)] [.int (nI 0)] rfl ?_
  exact g_iret X hr () (rfl) (trivial) ((List.append_nil _).symm) (Nat.le_of_ble_eq_true rfl) (Nat.le_of_ble_eq_true rfl) dL_mad_23

set_option maxHeartbeats 4000000 in
set_option maxRecDepth 100000 in
theorem hc_mad_n (l : Launch) (D : va_G) (g : Nat → ClassId) (ad : Nat → Nat) (I : Nat → Nat → Int32) (L : Nat → Nat → Int64) (S : Nat → Nat) (ch : Nat) (ao : Nat) (o : Int64) (v : Value) (hch : ch < 18) : CTW l yL_mad cL_mad 5 (Option.some FieldType.int) [(0, 11, 14, 19), (0, 11, 18, 21)] ({ frames := 2, cells := 0, slots := 0, locals := 43 } : Room) [.ref (ad 0), .int (nI ch), .int (-nI 1), .ref ao] D CL (TYS g) (WC ad g I L S ++ [OUT ao o v]) (S := Unit) (fun _ => some (.int (nI 0))) (fun _ => WC ad g (u2 I 1 ch (-nI 1)) L S ++ [OUT ao ((I 1 ch).toInt64) v]) (fun _ => True) 0 0 := by
  refine ctw_of (by decide +kernel) (Nat.le_of_ble_eq_true rfl) ?_
  intro p e s m below meth c A X hT hNC hr hSB hAf
  refine g_cs (ws' := WC ad g I L S ++ [OUT ao o v]) (lv' := [(0, .ref (ad 0)), (1, .int (nI ch)), (2, .int (-nI 1)), (3, .ref ao)]) rfl rfl ?_
  refine g_run X KL_mad_0_0 KL_mad_0_0_d 4 [(0, .ref (ad 0)), (1, .int (nI ch)), (2, .int (-nI 1)), (3, .ref ao)] [.int (-nI 1), .int (nI ch), .ref (ad 0), .ref ao] rfl ?_
  refine g_callV X hSB hAf (srcW) (hrc1 := (rfl : CL[4]? = some _)) ((List.mem_append_left _ (wc_mem (k := 0) (by decide)))) rfl (As := [.int (nI ch), .int (-nI 1)]) (wr := [OUT ao o v]) (n := 2) (c_X5_mad_n l D g ad I L S ch (by assumption)) rfl srcN hrdN w_536 w_533 w_534 w_535 w_1 (by decide +kernel) rfl ⟨Nat.le_of_ble_eq_true rfl, Nat.le_of_ble_eq_true rfl⟩ rfl rfl rfl (Nat.le_of_ble_eq_true rfl) ⟨Nat.le_of_ble_eq_true rfl, Nat.le_of_ble_eq_true rfl⟩ dL_mad_4 (fun hu1 _ => ?_)
  refine g_af (ws' := WC ad g (u2 I 1 ch (-nI 1)) L S ++ [OUT ao o v]) (st' := [.int (I 1 ch), .ref ao]) (cells' := 0) (slots' := 0) (pc' := 7) rfl rfl rfl rfl rfl ?_
  refine g_run X KL_mad_7_1 KL_mad_7_1_d 8 [(0, .ref (ad 0)), (1, .int (nI ch)), (2, .int (-nI 1)), (3, .ref ao)] [.long ((I 1 ch).toInt64), .ref ao] rfl ?_
  refine g_putN X (ws' := WC ad g (u2 I 1 ch (-nI 1)) L S ++ [OUT ao ((I 1 ch).toInt64) v]) hinX6 tyX6 tyX6_ok nmX6 rfl 0 (by decide) (nw_in n_489 rfl) rfl rfl (ty := .long) rfl rfl rfl (28) (wo_get) (Nat.le_of_ble_eq_true rfl) (wo_set) dL_mad_8 ?_
  refine g_run X KL_mad_11_2 KL_mad_11_2_d 23 [(0, .ref (ad 0)), (1, .int (nI ch)), (2, .int (-nI 1)), (3, .ref ao)] [.int (nI 0)] rfl ?_
  exact g_iret X hr () (rfl) (trivial) ((List.append_nil _).symm) (Nat.le_of_ble_eq_true rfl) (Nat.le_of_ble_eq_true rfl) dL_mad_23

def KL_mad_14_3 : List (Nat × Instr × Nat) := [(14, .astore 4, 2), (16, .iconst 1, 1)]
theorem KL_mad_14_3_d : ∀ z ∈ KL_mad_14_3, decode cL_mad z.1 = .ok z.2 := by decide +kernel
set_option maxHeartbeats 4000000 in
set_option maxRecDepth 100000 in
theorem hx_mad_1 (l : Launch) (hfl : l.stackTraces = false) (D : va_G) (g : Nat → ClassId) (ad : Nat → Nat) (I : Nat → Nat → Int32) (L : Nat → Nat → Int64) (S : Nat → Nat) (x : Int32) (y1 : Int32) (ao : Nat) (o : Int64) (v : Value) (hx : x < 0 ∨ ¬ x < nI 18) : CTW l yL_mad cL_mad 5 (Option.some FieldType.int) [(0, 11, 14, 19), (0, 11, 18, 21)] ({ frames := 8, cells := 1, slots := 6, locals := 143 } : Room) [.ref (ad 0), .int x, .int y1, .ref ao] D CL (TYS g) (WC ad g I L S ++ [OUT ao o v]) (S := Unit) (fun _ => some (.int (nI 1))) (fun _ => WC ad g I L S ++ [OUT ao o v]) (fun _ => True) 1 6 := by
  refine ctw_of (by decide +kernel) (Nat.le_of_ble_eq_true rfl) ?_
  intro p e s m below meth c A X hT hNC hr hSB hAf
  refine g_cs (ws' := WC ad g I L S ++ [OUT ao o v]) (lv' := [(0, .ref (ad 0)), (1, .int x), (2, .int y1), (3, .ref ao)]) rfl rfl ?_
  refine g_run X KL_mad_0_0 KL_mad_0_0_d 4 [(0, .ref (ad 0)), (1, .int x), (2, .int y1), (3, .ref ao)] [.int y1, .int x, .ref (ad 0), .ref ao] rfl ?_
  refine gc_callV X hSB hAf hT srcW (hrc1 := (rfl : CL[4]? = some _)) (List.mem_append_left _ (wc_mem (k := 0) (by decide))) rfl (As := [.int x, .int y1]) (n := 2) (x_X5_mad_1 l hfl D g ad I L S x y1 (by assumption)) srcL w_536 w_533 w_534 w_535 w_1 (by decide +kernel) rfl ⟨Nat.le_of_ble_eq_true rfl, Nat.le_of_ble_eq_true rfl⟩ rfl rfl rfl (Nat.le_of_ble_eq_true rfl) ⟨Nat.le_of_ble_eq_true rfl, Nat.le_of_ble_eq_true rfl⟩ dL_mad_4 [] ⟨0, 11, 14, 19⟩ [⟨0, 11, 18, 21⟩] rfl (fun _ h => absurd h List.not_mem_nil) (by decide) (by decide) w_499 (nw_in n_410 rfl) (fun qx1 => ?_)
  refine g_af (ws' := WC ad g I L S ++ [OUT ao o v]) (st' := [.ref qx1]) (cells' := 1) (slots' := 6) (pc' := 14) rfl rfl rfl rfl rfl ?_
  refine g_run X KL_mad_14_3 KL_mad_14_3_d 17 [(4, .ref qx1), (0, .ref (ad 0)), (1, .int x), (2, .int y1), (3, .ref ao)] [.int (nI 1)] rfl ?_
  exact g_iret X hr () (rfl) (trivial) ((List.append_nil _).symm) (Nat.le_of_ble_eq_true rfl) (Nat.le_of_ble_eq_true rfl) dL_mad_17

def KL_mad_18_4 : List (Nat × Instr × Nat) := [(18, .astore 4, 2), (20, .iconst 2, 1)]
theorem KL_mad_18_4_d : ∀ z ∈ KL_mad_18_4, decode cL_mad z.1 = .ok z.2 := by decide +kernel
set_option maxHeartbeats 4000000 in
set_option maxRecDepth 100000 in
theorem hx_mad_2 (l : Launch) (hfl : l.stackTraces = false) (D : va_G) (g : Nat → ClassId) (ad : Nat → Nat) (I : Nat → Nat → Int32) (L : Nat → Nat → Int64) (S : Nat → Nat) (ch : Nat) (x : Int32) (ao : Nat) (o : Int64) (v : Value) (hch : ch < 18) (hne : ¬ x = -nI 1) (hx : x < 0 ∨ ¬ x ≤ nI 15) : CTW l yL_mad cL_mad 5 (Option.some FieldType.int) [(0, 11, 14, 19), (0, 11, 18, 21)] ({ frames := 8, cells := 1, slots := 6, locals := 143 } : Room) [.ref (ad 0), .int (nI ch), .int x, .ref ao] D CL (TYS g) (WC ad g I L S ++ [OUT ao o v]) (S := Unit) (fun _ => some (.int (nI 2))) (fun _ => WC ad g I L S ++ [OUT ao o v]) (fun _ => True) 1 6 := by
  refine ctw_of (by decide +kernel) (Nat.le_of_ble_eq_true rfl) ?_
  intro p e s m below meth c A X hT hNC hr hSB hAf
  refine g_cs (ws' := WC ad g I L S ++ [OUT ao o v]) (lv' := [(0, .ref (ad 0)), (1, .int (nI ch)), (2, .int x), (3, .ref ao)]) rfl rfl ?_
  refine g_run X KL_mad_0_0 KL_mad_0_0_d 4 [(0, .ref (ad 0)), (1, .int (nI ch)), (2, .int x), (3, .ref ao)] [.int x, .int (nI ch), .ref (ad 0), .ref ao] rfl ?_
  refine gc_callV X hSB hAf hT srcW (hrc1 := (rfl : CL[4]? = some _)) (List.mem_append_left _ (wc_mem (k := 0) (by decide))) rfl (As := [.int (nI ch), .int x]) (n := 2) (x_X5_mad_2 l hfl D g ad I L S ch x (by assumption) (by assumption) (by assumption)) srcL w_536 w_533 w_534 w_535 w_1 (by decide +kernel) rfl ⟨Nat.le_of_ble_eq_true rfl, Nat.le_of_ble_eq_true rfl⟩ rfl rfl rfl (Nat.le_of_ble_eq_true rfl) ⟨Nat.le_of_ble_eq_true rfl, Nat.le_of_ble_eq_true rfl⟩ dL_mad_4 [⟨0, 11, 14, 19⟩] ⟨0, 11, 18, 21⟩ [] rfl (fun z hz => by cases List.mem_singleton.mp hz; exact ⟨by decide, _, w_499, hNC.1⟩) (by decide) (by decide) w_500 (nw_in n_335 rfl) (fun qx1 => ?_)
  refine g_af (ws' := WC ad g I L S ++ [OUT ao o v]) (st' := [.ref qx1]) (cells' := 1) (slots' := 6) (pc' := 18) rfl rfl rfl rfl rfl ?_
  refine g_run X KL_mad_18_4 KL_mad_18_4_d 21 [(4, .ref qx1), (0, .ref (ad 0)), (1, .int (nI ch)), (2, .int x), (3, .ref ao)] [.int (nI 2)] rfl ?_
  exact g_iret X hr () (rfl) (trivial) ((List.append_nil _).symm) (Nat.le_of_ble_eq_true rfl) (Nat.le_of_ble_eq_true rfl) dL_mad_21

def KL_ray_0_0 : List (Nat × Instr × Nat) := [(0, .aload 4, 2), (2, .aload_n 0, 1), (3, .iload_n 1, 1), (4, .iload_n 2, 1), (5, .iload_n 3, 1)]
theorem KL_ray_0_0_d : ∀ z ∈ KL_ray_0_0, decode cL_ray z.1 = .ok z.2 := by decide +kernel
def KL_ray_9_1 : List (Nat × Instr × Nat) := [(9, .i2l, 1)]
theorem KL_ray_9_1_d : ∀ z ∈ KL_ray_9_1, decode cL_ray z.1 = .ok z.2 := by decide +kernel
def KL_ray_13_2 : List (Nat × Instr × Nat) := [(13, .goto 11, 3), (24, .iconst 0, 1)]
theorem KL_ray_13_2_d : ∀ z ∈ KL_ray_13_2, decode cL_ray z.1 = .ok z.2 := by decide +kernel
set_option maxHeartbeats 4000000 in
set_option maxRecDepth 100000 in
theorem hc_ray (l : Launch) (D : va_G) (g : Nat → ClassId) (ad : Nat → Nat) (I : Nat → Nat → Int32) (L : Nat → Nat → Int64) (S : Nat → Nat) (ch : Nat) (q : Nat) (vv : Nat) (ao : Nat) (o : Int64) (v : Value) (hch : ch < 18) (hq : q < 16) (h1 : 1 ≤ vv) (hv : vv < 16) : CTW l yL_ray cL_ray 6 (Option.some FieldType.int) [(0, 13, 16, 19), (0, 13, 20, 21)] ({ frames := 3, cells := 0, slots := 0, locals := 70 } : Room) [.ref (ad 0), .int (nI ch), .int (nI q), .int (nI vv), .ref ao] D CL (TYS g) (WC ad g I L S ++ [OUT ao o v]) (S := Unit) (fun _ => some (.int (nI 0))) (fun _ => WC ad g I (u2 L 0 ch (wn (L 0 ch) q (nib (L 0 ch) q ^^^ vv))) S ++ [OUT ao ((nI (nib (wn (L 0 ch) q (nib (L 0 ch) q ^^^ vv)) q)).toInt64) v]) (fun _ => True) 0 0 := by
  refine ctw_of (by decide +kernel) (Nat.le_of_ble_eq_true rfl) ?_
  intro p e s m below meth c A X hT hNC hr hSB hAf
  refine g_cs (ws' := WC ad g I L S ++ [OUT ao o v]) (lv' := [(0, .ref (ad 0)), (1, .int (nI ch)), (2, .int (nI q)), (3, .int (nI vv)), (4, .ref ao)]) rfl rfl ?_
  refine g_run X KL_ray_0_0 KL_ray_0_0_d 6 [(0, .ref (ad 0)), (1, .int (nI ch)), (2, .int (nI q)), (3, .int (nI vv)), (4, .ref ao)] [.int (nI vv), .int (nI q), .int (nI ch), .ref (ad 0), .ref ao] rfl ?_
  refine g_callV X hSB hAf (srcW) (hrc1 := (rfl : CL[4]? = some _)) ((List.mem_append_left _ (wc_mem (k := 0) (by decide)))) rfl (As := [.int (nI ch), .int (nI q), .int (nI vv)]) (wr := [OUT ao o v]) (n := 3) (c_X5_ray l D g ad I L S ch q vv (by assumption) (by assumption) (by assumption) (by assumption)) rfl srcN hrdN w_543 w_540 w_541 w_542 w_1 (by decide +kernel) rfl ⟨Nat.le_of_ble_eq_true rfl, Nat.le_of_ble_eq_true rfl⟩ rfl rfl rfl (Nat.le_of_ble_eq_true rfl) ⟨Nat.le_of_ble_eq_true rfl, Nat.le_of_ble_eq_true rfl⟩ dL_ray_6 (fun hu1 _ => ?_)
  refine g_af (ws' := WC ad g I (u2 L 0 ch (wn (L 0 ch) q (nib (L 0 ch) q ^^^ vv))) S ++ [OUT ao o v]) (st' := [.int (nI (nib (wn (L 0 ch) q (nib (L 0 ch) q ^^^ vv)) q)), .ref ao]) (cells' := 0) (slots' := 0) (pc' := 9) rfl rfl rfl rfl rfl ?_
  refine g_run X KL_ray_9_1 KL_ray_9_1_d 10 [(0, .ref (ad 0)), (1, .int (nI ch)), (2, .int (nI q)), (3, .int (nI vv)), (4, .ref ao)] [.long ((nI (nib (wn (L 0 ch) q (nib (L 0 ch) q ^^^ vv)) q)).toInt64), .ref ao] rfl ?_
  refine g_putN X (ws' := WC ad g I (u2 L 0 ch (wn (L 0 ch) q (nib (L 0 ch) q ^^^ vv))) S ++ [OUT ao ((nI (nib (wn (L 0 ch) q (nib (L 0 ch) q ^^^ vv)) q)).toInt64) v]) hinX6 tyX6 tyX6_ok nmX6 rfl 0 (by decide) (nw_in n_489 rfl) rfl rfl (ty := .long) rfl rfl rfl (28) (wo_get) (Nat.le_of_ble_eq_true rfl) (wo_set) dL_ray_10 ?_
  refine g_run X KL_ray_13_2 KL_ray_13_2_d 25 [(0, .ref (ad 0)), (1, .int (nI ch)), (2, .int (nI q)), (3, .int (nI vv)), (4, .ref ao)] [.int (nI 0)] rfl ?_
  exact g_iret X hr () (rfl) (trivial) ((List.append_nil _).symm) (Nat.le_of_ble_eq_true rfl) (Nat.le_of_ble_eq_true rfl) dL_ray_25

def KL_ray_16_3 : List (Nat × Instr × Nat) := [(16, .astore 5, 2), (18, .iconst 1, 1)]
theorem KL_ray_16_3_d : ∀ z ∈ KL_ray_16_3, decode cL_ray z.1 = .ok z.2 := by decide +kernel
set_option maxHeartbeats 4000000 in
set_option maxRecDepth 100000 in
theorem hx_ray_1 (l : Launch) (hfl : l.stackTraces = false) (D : va_G) (g : Nat → ClassId) (ad : Nat → Nat) (I : Nat → Nat → Int32) (L : Nat → Nat → Int64) (S : Nat → Nat) (x : Int32) (y1 : Int32) (y2 : Int32) (ao : Nat) (o : Int64) (v : Value) (hx : x < 0 ∨ ¬ x < nI 18) : CTW l yL_ray cL_ray 6 (Option.some FieldType.int) [(0, 13, 16, 19), (0, 13, 20, 21)] ({ frames := 8, cells := 1, slots := 6, locals := 144 } : Room) [.ref (ad 0), .int x, .int y1, .int y2, .ref ao] D CL (TYS g) (WC ad g I L S ++ [OUT ao o v]) (S := Unit) (fun _ => some (.int (nI 1))) (fun _ => WC ad g I L S ++ [OUT ao o v]) (fun _ => True) 1 6 := by
  refine ctw_of (by decide +kernel) (Nat.le_of_ble_eq_true rfl) ?_
  intro p e s m below meth c A X hT hNC hr hSB hAf
  refine g_cs (ws' := WC ad g I L S ++ [OUT ao o v]) (lv' := [(0, .ref (ad 0)), (1, .int x), (2, .int y1), (3, .int y2), (4, .ref ao)]) rfl rfl ?_
  refine g_run X KL_ray_0_0 KL_ray_0_0_d 6 [(0, .ref (ad 0)), (1, .int x), (2, .int y1), (3, .int y2), (4, .ref ao)] [.int y2, .int y1, .int x, .ref (ad 0), .ref ao] rfl ?_
  refine gc_callV X hSB hAf hT srcW (hrc1 := (rfl : CL[4]? = some _)) (List.mem_append_left _ (wc_mem (k := 0) (by decide))) rfl (As := [.int x, .int y1, .int y2]) (n := 3) (x_X5_ray_1 l hfl D g ad I L S x y1 y2 (by assumption)) srcL w_543 w_540 w_541 w_542 w_1 (by decide +kernel) rfl ⟨Nat.le_of_ble_eq_true rfl, Nat.le_of_ble_eq_true rfl⟩ rfl rfl rfl (Nat.le_of_ble_eq_true rfl) ⟨Nat.le_of_ble_eq_true rfl, Nat.le_of_ble_eq_true rfl⟩ dL_ray_6 [] ⟨0, 13, 16, 19⟩ [⟨0, 13, 20, 21⟩] rfl (fun _ h => absurd h List.not_mem_nil) (by decide) (by decide) w_499 (nw_in n_410 rfl) (fun qx1 => ?_)
  refine g_af (ws' := WC ad g I L S ++ [OUT ao o v]) (st' := [.ref qx1]) (cells' := 1) (slots' := 6) (pc' := 16) rfl rfl rfl rfl rfl ?_
  refine g_run X KL_ray_16_3 KL_ray_16_3_d 19 [(5, .ref qx1), (0, .ref (ad 0)), (1, .int x), (2, .int y1), (3, .int y2), (4, .ref ao)] [.int (nI 1)] rfl ?_
  exact g_iret X hr () (rfl) (trivial) ((List.append_nil _).symm) (Nat.le_of_ble_eq_true rfl) (Nat.le_of_ble_eq_true rfl) dL_ray_19

set_option maxHeartbeats 4000000 in
set_option maxRecDepth 100000 in
theorem hx_ray_2 (l : Launch) (hfl : l.stackTraces = false) (D : va_G) (g : Nat → ClassId) (ad : Nat → Nat) (I : Nat → Nat → Int32) (L : Nat → Nat → Int64) (S : Nat → Nat) (ch : Nat) (x : Int32) (y1 : Int32) (ao : Nat) (o : Int64) (v : Value) (hch : ch < 18) (hx : x < 0 ∨ ¬ x < nI 16) : CTW l yL_ray cL_ray 6 (Option.some FieldType.int) [(0, 13, 16, 19), (0, 13, 20, 21)] ({ frames := 8, cells := 1, slots := 6, locals := 144 } : Room) [.ref (ad 0), .int (nI ch), .int x, .int y1, .ref ao] D CL (TYS g) (WC ad g I L S ++ [OUT ao o v]) (S := Unit) (fun _ => some (.int (nI 1))) (fun _ => WC ad g I L S ++ [OUT ao o v]) (fun _ => True) 1 6 := by
  refine ctw_of (by decide +kernel) (Nat.le_of_ble_eq_true rfl) ?_
  intro p e s m below meth c A X hT hNC hr hSB hAf
  refine g_cs (ws' := WC ad g I L S ++ [OUT ao o v]) (lv' := [(0, .ref (ad 0)), (1, .int (nI ch)), (2, .int x), (3, .int y1), (4, .ref ao)]) rfl rfl ?_
  refine g_run X KL_ray_0_0 KL_ray_0_0_d 6 [(0, .ref (ad 0)), (1, .int (nI ch)), (2, .int x), (3, .int y1), (4, .ref ao)] [.int y1, .int x, .int (nI ch), .ref (ad 0), .ref ao] rfl ?_
  refine gc_callV X hSB hAf hT srcW (hrc1 := (rfl : CL[4]? = some _)) (List.mem_append_left _ (wc_mem (k := 0) (by decide))) rfl (As := [.int (nI ch), .int x, .int y1]) (n := 3) (x_X5_ray_2 l hfl D g ad I L S ch x y1 (by assumption) (by assumption)) srcL w_543 w_540 w_541 w_542 w_1 (by decide +kernel) rfl ⟨Nat.le_of_ble_eq_true rfl, Nat.le_of_ble_eq_true rfl⟩ rfl rfl rfl (Nat.le_of_ble_eq_true rfl) ⟨Nat.le_of_ble_eq_true rfl, Nat.le_of_ble_eq_true rfl⟩ dL_ray_6 [] ⟨0, 13, 16, 19⟩ [⟨0, 13, 20, 21⟩] rfl (fun _ h => absurd h List.not_mem_nil) (by decide) (by decide) w_499 (nw_in n_410 rfl) (fun qx1 => ?_)
  refine g_af (ws' := WC ad g I L S ++ [OUT ao o v]) (st' := [.ref qx1]) (cells' := 1) (slots' := 6) (pc' := 16) rfl rfl rfl rfl rfl ?_
  refine g_run X KL_ray_16_3 KL_ray_16_3_d 19 [(5, .ref qx1), (0, .ref (ad 0)), (1, .int (nI ch)), (2, .int x), (3, .int y1), (4, .ref ao)] [.int (nI 1)] rfl ?_
  exact g_iret X hr () (rfl) (trivial) ((List.append_nil _).symm) (Nat.le_of_ble_eq_true rfl) (Nat.le_of_ble_eq_true rfl) dL_ray_19

def KL_ray_20_4 : List (Nat × Instr × Nat) := [(20, .astore 5, 2), (22, .iconst 2, 1)]
theorem KL_ray_20_4_d : ∀ z ∈ KL_ray_20_4, decode cL_ray z.1 = .ok z.2 := by decide +kernel
set_option maxHeartbeats 4000000 in
set_option maxRecDepth 100000 in
theorem hx_ray_3 (l : Launch) (hfl : l.stackTraces = false) (D : va_G) (g : Nat → ClassId) (ad : Nat → Nat) (I : Nat → Nat → Int32) (L : Nat → Nat → Int64) (S : Nat → Nat) (ch : Nat) (q : Nat) (x : Int32) (ao : Nat) (o : Int64) (v : Value) (hch : ch < 18) (hq : q < 16) (hx : x < nI 1 ∨ ¬ x ≤ nI 15) : CTW l yL_ray cL_ray 6 (Option.some FieldType.int) [(0, 13, 16, 19), (0, 13, 20, 21)] ({ frames := 8, cells := 1, slots := 6, locals := 144 } : Room) [.ref (ad 0), .int (nI ch), .int (nI q), .int x, .ref ao] D CL (TYS g) (WC ad g I L S ++ [OUT ao o v]) (S := Unit) (fun _ => some (.int (nI 2))) (fun _ => WC ad g I L S ++ [OUT ao o v]) (fun _ => True) 1 6 := by
  refine ctw_of (by decide +kernel) (Nat.le_of_ble_eq_true rfl) ?_
  intro p e s m below meth c A X hT hNC hr hSB hAf
  refine g_cs (ws' := WC ad g I L S ++ [OUT ao o v]) (lv' := [(0, .ref (ad 0)), (1, .int (nI ch)), (2, .int (nI q)), (3, .int x), (4, .ref ao)]) rfl rfl ?_
  refine g_run X KL_ray_0_0 KL_ray_0_0_d 6 [(0, .ref (ad 0)), (1, .int (nI ch)), (2, .int (nI q)), (3, .int x), (4, .ref ao)] [.int x, .int (nI q), .int (nI ch), .ref (ad 0), .ref ao] rfl ?_
  refine gc_callV X hSB hAf hT srcW (hrc1 := (rfl : CL[4]? = some _)) (List.mem_append_left _ (wc_mem (k := 0) (by decide))) rfl (As := [.int (nI ch), .int (nI q), .int x]) (n := 3) (x_X5_ray_3 l hfl D g ad I L S ch q x (by assumption) (by assumption) (by assumption)) srcL w_543 w_540 w_541 w_542 w_1 (by decide +kernel) rfl ⟨Nat.le_of_ble_eq_true rfl, Nat.le_of_ble_eq_true rfl⟩ rfl rfl rfl (Nat.le_of_ble_eq_true rfl) ⟨Nat.le_of_ble_eq_true rfl, Nat.le_of_ble_eq_true rfl⟩ dL_ray_6 [⟨0, 13, 16, 19⟩] ⟨0, 13, 20, 21⟩ [] rfl (fun z hz => by cases List.mem_singleton.mp hz; exact ⟨by decide, _, w_499, hNC.1⟩) (by decide) (by decide) w_500 (nw_in n_335 rfl) (fun qx1 => ?_)
  refine g_af (ws' := WC ad g I L S ++ [OUT ao o v]) (st' := [.ref qx1]) (cells' := 1) (slots' := 6) (pc' := 20) rfl rfl rfl rfl rfl ?_
  refine g_run X KL_ray_20_4 KL_ray_20_4_d 23 [(5, .ref qx1), (0, .ref (ad 0)), (1, .int (nI ch)), (2, .int (nI q)), (3, .int x), (4, .ref ao)] [.int (nI 2)] rfl ?_
  exact g_iret X hr () (rfl) (trivial) ((List.append_nil _).symm) (Nat.le_of_ble_eq_true rfl) (Nat.le_of_ble_eq_true rfl) dL_ray_23

def KL_erase_0_0 : List (Nat × Instr × Nat) := [(0, .aload_n 3, 1), (1, .aload_n 0, 1), (2, .iload_n 1, 1), (3, .iload_n 2, 1)]
theorem KL_erase_0_0_d : ∀ z ∈ KL_erase_0_0, decode cL_erase z.1 = .ok z.2 := by decide +kernel
def KL_erase_7_1 : List (Nat × Instr × Nat) := [(7, .i2l, 1)]
theorem KL_erase_7_1_d : ∀ z ∈ KL_erase_7_1, decode cL_erase z.1 = .ok z.2 := by decide +kernel
def KL_erase_11_2 : List (Nat × Instr × Nat) := [(11, .goto 11, 3), (22, .iconst 0, 1)]
theorem KL_erase_11_2_d : ∀ z ∈ KL_erase_11_2, decode cL_erase z.1 = .ok z.2 := by decide +kernel
set_option maxHeartbeats 4000000 in
set_option maxRecDepth 100000 in
theorem hc_erase (l : Launch) (D : va_G) (g : Nat → ClassId) (ad : Nat → Nat) (I : Nat → Nat → Int32) (L : Nat → Nat → Int64) (S : Nat → Nat) (q : Nat) (ao : Nat) (o : Int64) (v : Value) (hS18 : ∀ p, p < 15 → S p < 18) (hq : q < 15) : CTW l yL_erase cL_erase 5 (Option.some FieldType.int) [(0, 11, 14, 19), (0, 11, 18, 39)] ({ frames := 2, cells := 0, slots := 0, locals := 45 } : Room) [.ref (ad 0), .int (nI q), .int (nI 0), .ref ao] D CL (TYS g) (WC ad g I L S ++ [OUT ao o v]) (S := Unit) (fun _ => some (.int (nI 0))) (fun _ => WC ad g (u2 I 3 (S q) (nI 0)) L S ++ [OUT ao ((nI (pcn (ers (u2 I 3 (S q) (nI 0)) S 15) 15)).toInt64) v]) (fun _ => True) 0 0 := by
  refine ctw_of (by decide +kernel) (Nat.le_of_ble_eq_true rfl) ?_
  intro p e s m below meth c A X hT hNC hr hSB hAf
  refine g_cs (ws' := WC ad g I L S ++ [OUT ao o v]) (lv' := [(0, .ref (ad 0)), (1, .int (nI q)), (2, .int (nI 0)), (3, .ref ao)]) rfl rfl ?_
  refine g_run X KL_erase_0_0 KL_erase_0_0_d 4 [(0, .ref (ad 0)), (1, .int (nI q)), (2, .int (nI 0)), (3, .ref ao)] [.int (nI 0), .int (nI q), .ref (ad 0), .ref ao] rfl ?_
  refine g_callV X hSB hAf (srcW) (hrc1 := (rfl : CL[4]? = some _)) ((List.mem_append_left _ (wc_mem (k := 0) (by decide)))) rfl (As := [.int (nI q), .int (nI 0)]) (wr := [OUT ao o v]) (n := 2) (c_X5_erase l D g ad I L S q (by assumption) (by assumption)) rfl srcN hrdN w_556 w_553 w_554 w_555 w_1 (by decide +kernel) rfl ⟨Nat.le_of_ble_eq_true rfl, Nat.le_of_ble_eq_true rfl⟩ rfl rfl rfl (Nat.le_of_ble_eq_true rfl) ⟨Nat.le_of_ble_eq_true rfl, Nat.le_of_ble_eq_true rfl⟩ dL_erase_4 (fun hu1 _ => ?_)
  refine g_af (ws' := WC ad g (u2 I 3 (S q) (nI 0)) L S ++ [OUT ao o v]) (st' := [.int (nI (pcn (ers (u2 I 3 (S q) (nI 0)) S 15) 15)), .ref ao]) (cells' := 0) (slots' := 0) (pc' := 7) rfl rfl rfl rfl rfl ?_
  refine g_run X KL_erase_7_1 KL_erase_7_1_d 8 [(0, .ref (ad 0)), (1, .int (nI q)), (2, .int (nI 0)), (3, .ref ao)] [.long ((nI (pcn (ers (u2 I 3 (S q) (nI 0)) S 15) 15)).toInt64), .ref ao] rfl ?_
  refine g_putN X (ws' := WC ad g (u2 I 3 (S q) (nI 0)) L S ++ [OUT ao ((nI (pcn (ers (u2 I 3 (S q) (nI 0)) S 15) 15)).toInt64) v]) hinX6 tyX6 tyX6_ok nmX6 rfl 0 (by decide) (nw_in n_489 rfl) rfl rfl (ty := .long) rfl rfl rfl (28) (wo_get) (Nat.le_of_ble_eq_true rfl) (wo_set) dL_erase_8 ?_
  refine g_run X KL_erase_11_2 KL_erase_11_2_d 23 [(0, .ref (ad 0)), (1, .int (nI q)), (2, .int (nI 0)), (3, .ref ao)] [.int (nI 0)] rfl ?_
  exact g_iret X hr () (rfl) (trivial) ((List.append_nil _).symm) (Nat.le_of_ble_eq_true rfl) (Nat.le_of_ble_eq_true rfl) dL_erase_23

set_option maxHeartbeats 4000000 in
set_option maxRecDepth 100000 in
theorem hc_erase_1 (l : Launch) (D : va_G) (g : Nat → ClassId) (ad : Nat → Nat) (I : Nat → Nat → Int32) (L : Nat → Nat → Int64) (S : Nat → Nat) (q : Nat) (ao : Nat) (o : Int64) (v : Value) (hS18 : ∀ p, p < 15 → S p < 18) (hq : q < 15) (h4 : pcn (ers I S 15 &&& (32767 ^^^ 2 ^ q)) 15 < 4) : CTW l yL_erase cL_erase 5 (Option.some FieldType.int) [(0, 11, 14, 19), (0, 11, 18, 39)] ({ frames := 2, cells := 0, slots := 0, locals := 45 } : Room) [.ref (ad 0), .int (nI q), .int (nI 1), .ref ao] D CL (TYS g) (WC ad g I L S ++ [OUT ao o v]) (S := Unit) (fun _ => some (.int (nI 0))) (fun _ => WC ad g (u2 I 3 (S q) (nI 1)) L S ++ [OUT ao ((nI (pcn (ers (u2 I 3 (S q) (nI 1)) S 15) 15)).toInt64) v]) (fun _ => True) 0 0 := by
  refine ctw_of (by decide +kernel) (Nat.le_of_ble_eq_true rfl) ?_
  intro p e s m below meth c A X hT hNC hr hSB hAf
  refine g_cs (ws' := WC ad g I L S ++ [OUT ao o v]) (lv' := [(0, .ref (ad 0)), (1, .int (nI q)), (2, .int (nI 1)), (3, .ref ao)]) rfl rfl ?_
  refine g_run X KL_erase_0_0 KL_erase_0_0_d 4 [(0, .ref (ad 0)), (1, .int (nI q)), (2, .int (nI 1)), (3, .ref ao)] [.int (nI 1), .int (nI q), .ref (ad 0), .ref ao] rfl ?_
  refine g_callV X hSB hAf (srcW) (hrc1 := (rfl : CL[4]? = some _)) ((List.mem_append_left _ (wc_mem (k := 0) (by decide)))) rfl (As := [.int (nI q), .int (nI 1)]) (wr := [OUT ao o v]) (n := 2) (c_X5_erase_1 l D g ad I L S q (by assumption) (by assumption) (by assumption)) rfl srcN hrdN w_556 w_553 w_554 w_555 w_1 (by decide +kernel) rfl ⟨Nat.le_of_ble_eq_true rfl, Nat.le_of_ble_eq_true rfl⟩ rfl rfl rfl (Nat.le_of_ble_eq_true rfl) ⟨Nat.le_of_ble_eq_true rfl, Nat.le_of_ble_eq_true rfl⟩ dL_erase_4 (fun hu1 _ => ?_)
  refine g_af (ws' := WC ad g (u2 I 3 (S q) (nI 1)) L S ++ [OUT ao o v]) (st' := [.int (nI (pcn (ers (u2 I 3 (S q) (nI 1)) S 15) 15)), .ref ao]) (cells' := 0) (slots' := 0) (pc' := 7) rfl rfl rfl rfl rfl ?_
  refine g_run X KL_erase_7_1 KL_erase_7_1_d 8 [(0, .ref (ad 0)), (1, .int (nI q)), (2, .int (nI 1)), (3, .ref ao)] [.long ((nI (pcn (ers (u2 I 3 (S q) (nI 1)) S 15) 15)).toInt64), .ref ao] rfl ?_
  refine g_putN X (ws' := WC ad g (u2 I 3 (S q) (nI 1)) L S ++ [OUT ao ((nI (pcn (ers (u2 I 3 (S q) (nI 1)) S 15) 15)).toInt64) v]) hinX6 tyX6 tyX6_ok nmX6 rfl 0 (by decide) (nw_in n_489 rfl) rfl rfl (ty := .long) rfl rfl rfl (28) (wo_get) (Nat.le_of_ble_eq_true rfl) (wo_set) dL_erase_8 ?_
  refine g_run X KL_erase_11_2 KL_erase_11_2_d 23 [(0, .ref (ad 0)), (1, .int (nI q)), (2, .int (nI 1)), (3, .ref ao)] [.int (nI 0)] rfl ?_
  exact g_iret X hr () (rfl) (trivial) ((List.append_nil _).symm) (Nat.le_of_ble_eq_true rfl) (Nat.le_of_ble_eq_true rfl) dL_erase_23

def KL_erase_14_3 : List (Nat × Instr × Nat) := [(14, .astore 4, 2), (16, .iconst 1, 1)]
theorem KL_erase_14_3_d : ∀ z ∈ KL_erase_14_3, decode cL_erase z.1 = .ok z.2 := by decide +kernel
set_option maxHeartbeats 4000000 in
set_option maxRecDepth 100000 in
theorem hx_erase_1 (l : Launch) (hfl : l.stackTraces = false) (D : va_G) (g : Nat → ClassId) (ad : Nat → Nat) (I : Nat → Nat → Int32) (L : Nat → Nat → Int64) (S : Nat → Nat) (x : Int32) (y1 : Int32) (ao : Nat) (o : Int64) (v : Value) (hx : x < 0 ∨ ¬ x < nI 15) : CTW l yL_erase cL_erase 5 (Option.some FieldType.int) [(0, 11, 14, 19), (0, 11, 18, 39)] ({ frames := 8, cells := 1, slots := 6, locals := 143 } : Room) [.ref (ad 0), .int x, .int y1, .ref ao] D CL (TYS g) (WC ad g I L S ++ [OUT ao o v]) (S := Unit) (fun _ => some (.int (nI 1))) (fun _ => WC ad g I L S ++ [OUT ao o v]) (fun _ => True) 1 6 := by
  refine ctw_of (by decide +kernel) (Nat.le_of_ble_eq_true rfl) ?_
  intro p e s m below meth c A X hT hNC hr hSB hAf
  refine g_cs (ws' := WC ad g I L S ++ [OUT ao o v]) (lv' := [(0, .ref (ad 0)), (1, .int x), (2, .int y1), (3, .ref ao)]) rfl rfl ?_
  refine g_run X KL_erase_0_0 KL_erase_0_0_d 4 [(0, .ref (ad 0)), (1, .int x), (2, .int y1), (3, .ref ao)] [.int y1, .int x, .ref (ad 0), .ref ao] rfl ?_
  refine gc_callV X hSB hAf hT srcW (hrc1 := (rfl : CL[4]? = some _)) (List.mem_append_left _ (wc_mem (k := 0) (by decide))) rfl (As := [.int x, .int y1]) (n := 2) (x_X5_erase_1 l hfl D g ad I L S x y1 (by assumption)) srcL w_556 w_553 w_554 w_555 w_1 (by decide +kernel) rfl ⟨Nat.le_of_ble_eq_true rfl, Nat.le_of_ble_eq_true rfl⟩ rfl rfl rfl (Nat.le_of_ble_eq_true rfl) ⟨Nat.le_of_ble_eq_true rfl, Nat.le_of_ble_eq_true rfl⟩ dL_erase_4 [] ⟨0, 11, 14, 19⟩ [⟨0, 11, 18, 39⟩] rfl (fun _ h => absurd h List.not_mem_nil) (by decide) (by decide) w_499 (nw_in n_410 rfl) (fun qx1 => ?_)
  refine g_af (ws' := WC ad g I L S ++ [OUT ao o v]) (st' := [.ref qx1]) (cells' := 1) (slots' := 6) (pc' := 14) rfl rfl rfl rfl rfl ?_
  refine g_run X KL_erase_14_3 KL_erase_14_3_d 17 [(4, .ref qx1), (0, .ref (ad 0)), (1, .int x), (2, .int y1), (3, .ref ao)] [.int (nI 1)] rfl ?_
  exact g_iret X hr () (rfl) (trivial) ((List.append_nil _).symm) (Nat.le_of_ble_eq_true rfl) (Nat.le_of_ble_eq_true rfl) dL_erase_17

def KL_erase_18_4 : List (Nat × Instr × Nat) := [(18, .astore 4, 2), (20, .iconst 2, 1)]
theorem KL_erase_18_4_d : ∀ z ∈ KL_erase_18_4, decode cL_erase z.1 = .ok z.2 := by decide +kernel
set_option maxHeartbeats 4000000 in
set_option maxRecDepth 100000 in
theorem hx_erase_2 (l : Launch) (hfl : l.stackTraces = false) (D : va_G) (g : Nat → ClassId) (ad : Nat → Nat) (I : Nat → Nat → Int32) (L : Nat → Nat → Int64) (S : Nat → Nat) (q : Nat) (ao : Nat) (o : Int64) (v : Value) (hS18 : ∀ p, p < 15 → S p < 18) (hq : q < 15) (h4 : ¬ pcn (ers I S 15 &&& (32767 ^^^ 2 ^ q)) 15 < 4) : CTW l yL_erase cL_erase 5 (Option.some FieldType.int) [(0, 11, 14, 19), (0, 11, 18, 39)] ({ frames := 7, cells := 1, slots := 6, locals := 123 } : Room) [.ref (ad 0), .int (nI q), .int (nI 1), .ref ao] D CL (TYS g) (WC ad g I L S ++ [OUT ao o v]) (S := Unit) (fun _ => some (.int (nI 2))) (fun _ => WC ad g I L S ++ [OUT ao o v]) (fun _ => True) 1 6 := by
  refine ctw_of (by decide +kernel) (Nat.le_of_ble_eq_true rfl) ?_
  intro p e s m below meth c A X hT hNC hr hSB hAf
  refine g_cs (ws' := WC ad g I L S ++ [OUT ao o v]) (lv' := [(0, .ref (ad 0)), (1, .int (nI q)), (2, .int (nI 1)), (3, .ref ao)]) rfl rfl ?_
  refine g_run X KL_erase_0_0 KL_erase_0_0_d 4 [(0, .ref (ad 0)), (1, .int (nI q)), (2, .int (nI 1)), (3, .ref ao)] [.int (nI 1), .int (nI q), .ref (ad 0), .ref ao] rfl ?_
  refine gc_callV X hSB hAf hT srcW (hrc1 := (rfl : CL[4]? = some _)) (List.mem_append_left _ (wc_mem (k := 0) (by decide))) rfl (As := [.int (nI q), .int (nI 1)]) (n := 2) (x_X5_erase_2 l hfl D g ad I L S q (by assumption) (by assumption) (by assumption)) srcL w_556 w_553 w_554 w_555 w_1 (by decide +kernel) rfl ⟨Nat.le_of_ble_eq_true rfl, Nat.le_of_ble_eq_true rfl⟩ rfl rfl rfl (Nat.le_of_ble_eq_true rfl) ⟨Nat.le_of_ble_eq_true rfl, Nat.le_of_ble_eq_true rfl⟩ dL_erase_4 [⟨0, 11, 14, 19⟩] ⟨0, 11, 18, 39⟩ [] rfl (fun z hz => by cases List.mem_singleton.mp hz; exact ⟨by decide, _, w_499, hNC.2⟩) (by decide) (by decide) w_552 (nw_in n_563 rfl) (fun qx1 => ?_)
  refine g_af (ws' := WC ad g I L S ++ [OUT ao o v]) (st' := [.ref qx1]) (cells' := 1) (slots' := 6) (pc' := 18) rfl rfl rfl rfl rfl ?_
  refine g_run X KL_erase_18_4 KL_erase_18_4_d 21 [(4, .ref qx1), (0, .ref (ad 0)), (1, .int (nI q)), (2, .int (nI 1)), (3, .ref ao)] [.int (nI 2)] rfl ?_
  exact g_iret X hr () (rfl) (trivial) ((List.append_nil _).symm) (Nat.le_of_ble_eq_true rfl) (Nat.le_of_ble_eq_true rfl) dL_erase_21

def KL_replace_0_0 : List (Nat × Instr × Nat) := [(0, .aload_n 2, 1), (1, .aload_n 0, 1), (2, .iload_n 1, 1)]
theorem KL_replace_0_0_d : ∀ z ∈ KL_replace_0_0, decode cL_replace z.1 = .ok z.2 := by decide +kernel
def KL_replace_6_1 : List (Nat × Instr × Nat) := [(6, .i2l, 1)]
theorem KL_replace_6_1_d : ∀ z ∈ KL_replace_6_1, decode cL_replace z.1 = .ok z.2 := by decide +kernel
def KL_replace_10_2 : List (Nat × Instr × Nat) := [(10, .goto 9, 3), (19, .iconst 0, 1)]
theorem KL_replace_10_2_d : ∀ z ∈ KL_replace_10_2, decode cL_replace z.1 = .ok z.2 := by decide +kernel
set_option maxHeartbeats 4000000 in
set_option maxRecDepth 100000 in
theorem hc_replace (l : Launch) (D : va_G) (g : Nat → ClassId) (ad : Nat → Nat) (I : Nat → Nat → Int32) (L : Nat → Nat → Int64) (S : Nat → Nat) (q : Nat) (n : Nat) (ao : Nat) (o : Int64) (v : Value) (hS18 : ∀ p, p < 15 → S p < 18) (hq : q < 15) (hns : I 8 5 = nI n) (hn : n < 18) : CTW l yL_replace cL_replace 4 (Option.some FieldType.int) [(0, 10, 13, 19), (0, 10, 16, 39)] ({ frames := 7, cells := 0, slots := 0, locals := 180 } : Room) [.ref (ad 0), .int (nI q), .ref ao] D CL (TYS g) (WC ad g I L S ++ [OUT ao o v]) (S := Unit) (fun _ => some (.int (nI 0))) (fun _ => WC ad g (u2 (u2 (u2 (u2 I 8 5 (nI (n + 1))) 0 (S q) (-nI 1)) 4 (S q) (nI 1)) 0 n (nI q)) (ffl (u2 I 8 5 (nI (n + 1))) L S q n (ffb (u2 I 8 5 (nI (n + 1))) S q) 16) (u1 S q n) ++ [OUT ao ((nI n).toInt64) v]) (fun _ => True) 0 0 := by
  refine ctw_of (by decide +kernel) (Nat.le_of_ble_eq_true rfl) ?_
  intro p e s m below meth c A X hT hNC hr hSB hAf
  refine g_cs (ws' := WC ad g I L S ++ [OUT ao o v]) (lv' := [(0, .ref (ad 0)), (1, .int (nI q)), (2, .ref ao)]) rfl rfl ?_
  refine g_run X KL_replace_0_0 KL_replace_0_0_d 3 [(0, .ref (ad 0)), (1, .int (nI q)), (2, .ref ao)] [.int (nI q), .ref (ad 0), .ref ao] rfl ?_
  refine g_callV X hSB hAf (srcW) (hrc1 := (rfl : CL[4]? = some _)) ((List.mem_append_left _ (wc_mem (k := 0) (by decide)))) rfl (As := [.int (nI q)]) (wr := [OUT ao o v]) (n := 1) (c_X5_replace l D g ad I L S q n (by assumption) (by assumption) (by assumption) (by assumption)) rfl srcN hrdN w_583 w_580 w_581 w_582 w_1 (by decide +kernel) rfl ⟨Nat.le_of_ble_eq_true rfl, Nat.le_of_ble_eq_true rfl⟩ rfl rfl rfl (Nat.le_of_ble_eq_true rfl) ⟨Nat.le_of_ble_eq_true rfl, Nat.le_of_ble_eq_true rfl⟩ dL_replace_3 (fun hu1 _ => ?_)
  refine g_af (ws' := WC ad g (u2 (u2 (u2 (u2 I 8 5 (nI (n + 1))) 0 (S q) (-nI 1)) 4 (S q) (nI 1)) 0 n (nI q)) (ffl (u2 I 8 5 (nI (n + 1))) L S q n (ffb (u2 I 8 5 (nI (n + 1))) S q) 16) (u1 S q n) ++ [OUT ao o v]) (st' := [.int (nI n), .ref ao]) (cells' := 0) (slots' := 0) (pc' := 6) rfl rfl rfl rfl rfl ?_
  refine g_run X KL_replace_6_1 KL_replace_6_1_d 7 [(0, .ref (ad 0)), (1, .int (nI q)), (2, .ref ao)] [.long ((nI n).toInt64), .ref ao] rfl ?_
  refine g_putN X (ws' := WC ad g (u2 (u2 (u2 (u2 I 8 5 (nI (n + 1))) 0 (S q) (-nI 1)) 4 (S q) (nI 1)) 0 n (nI q)) (ffl (u2 I 8 5 (nI (n + 1))) L S q n (ffb (u2 I 8 5 (nI (n + 1))) S q) 16) (u1 S q n) ++ [OUT ao ((nI n).toInt64) v]) hinX6 tyX6 tyX6_ok nmX6 rfl 0 (by decide) (nw_in n_489 rfl) rfl rfl (ty := .long) rfl rfl rfl (28) (wo_get) (Nat.le_of_ble_eq_true rfl) (wo_set) dL_replace_7 ?_
  refine g_run X KL_replace_10_2 KL_replace_10_2_d 20 [(0, .ref (ad 0)), (1, .int (nI q)), (2, .ref ao)] [.int (nI 0)] rfl ?_
  exact g_iret X hr () (rfl) (trivial) ((List.append_nil _).symm) (Nat.le_of_ble_eq_true rfl) (Nat.le_of_ble_eq_true rfl) dL_replace_20

def KL_replace_13_3 : List (Nat × Instr × Nat) := [(13, .astore_n 3, 1), (14, .iconst 1, 1)]
theorem KL_replace_13_3_d : ∀ z ∈ KL_replace_13_3, decode cL_replace z.1 = .ok z.2 := by decide +kernel
set_option maxHeartbeats 4000000 in
set_option maxRecDepth 100000 in
theorem hx_replace_1 (l : Launch) (hfl : l.stackTraces = false) (D : va_G) (g : Nat → ClassId) (ad : Nat → Nat) (I : Nat → Nat → Int32) (L : Nat → Nat → Int64) (S : Nat → Nat) (x : Int32) (ao : Nat) (o : Int64) (v : Value) (hx : x < 0 ∨ ¬ x < nI 15) : CTW l yL_replace cL_replace 4 (Option.some FieldType.int) [(0, 10, 13, 19), (0, 10, 16, 39)] ({ frames := 8, cells := 1, slots := 6, locals := 141 } : Room) [.ref (ad 0), .int x, .ref ao] D CL (TYS g) (WC ad g I L S ++ [OUT ao o v]) (S := Unit) (fun _ => some (.int (nI 1))) (fun _ => WC ad g I L S ++ [OUT ao o v]) (fun _ => True) 1 6 := by
  refine ctw_of (by decide +kernel) (Nat.le_of_ble_eq_true rfl) ?_
  intro p e s m below meth c A X hT hNC hr hSB hAf
  refine g_cs (ws' := WC ad g I L S ++ [OUT ao o v]) (lv' := [(0, .ref (ad 0)), (1, .int x), (2, .ref ao)]) rfl rfl ?_
  refine g_run X KL_replace_0_0 KL_replace_0_0_d 3 [(0, .ref (ad 0)), (1, .int x), (2, .ref ao)] [.int x, .ref (ad 0), .ref ao] rfl ?_
  refine gc_callV X hSB hAf hT srcW (hrc1 := (rfl : CL[4]? = some _)) (List.mem_append_left _ (wc_mem (k := 0) (by decide))) rfl (As := [.int x]) (n := 1) (x_X5_replace_1 l hfl D g ad I L S x (by assumption)) srcL w_583 w_580 w_581 w_582 w_1 (by decide +kernel) rfl ⟨Nat.le_of_ble_eq_true rfl, Nat.le_of_ble_eq_true rfl⟩ rfl rfl rfl (Nat.le_of_ble_eq_true rfl) ⟨Nat.le_of_ble_eq_true rfl, Nat.le_of_ble_eq_true rfl⟩ dL_replace_3 [] ⟨0, 10, 13, 19⟩ [⟨0, 10, 16, 39⟩] rfl (fun _ h => absurd h List.not_mem_nil) (by decide) (by decide) w_499 (nw_in n_410 rfl) (fun qx1 => ?_)
  refine g_af (ws' := WC ad g I L S ++ [OUT ao o v]) (st' := [.ref qx1]) (cells' := 1) (slots' := 6) (pc' := 13) rfl rfl rfl rfl rfl ?_
  refine g_run X KL_replace_13_3 KL_replace_13_3_d 15 [(3, .ref qx1), (0, .ref (ad 0)), (1, .int x), (2, .ref ao)] [.int (nI 1)] rfl ?_
  exact g_iret X hr () (rfl) (trivial) ((List.append_nil _).symm) (Nat.le_of_ble_eq_true rfl) (Nat.le_of_ble_eq_true rfl) dL_replace_15

def KL_replace_16_4 : List (Nat × Instr × Nat) := [(16, .astore_n 3, 1), (17, .iconst 2, 1)]
theorem KL_replace_16_4_d : ∀ z ∈ KL_replace_16_4, decode cL_replace z.1 = .ok z.2 := by decide +kernel
set_option maxHeartbeats 4000000 in
set_option maxRecDepth 100000 in
theorem hx_replace_2 (l : Launch) (hfl : l.stackTraces = false) (D : va_G) (g : Nat → ClassId) (ad : Nat → Nat) (I : Nat → Nat → Int32) (L : Nat → Nat → Int64) (S : Nat → Nat) (q : Nat) (ao : Nat) (o : Int64) (v : Value) (hq : q < 15) (hns : I 8 5 = nI 18) : CTW l yL_replace cL_replace 4 (Option.some FieldType.int) [(0, 10, 13, 19), (0, 10, 16, 39)] ({ frames := 7, cells := 1, slots := 6, locals := 121 } : Room) [.ref (ad 0), .int (nI q), .ref ao] D CL (TYS g) (WC ad g I L S ++ [OUT ao o v]) (S := Unit) (fun _ => some (.int (nI 2))) (fun _ => WC ad g I L S ++ [OUT ao o v]) (fun _ => True) 1 6 := by
  refine ctw_of (by decide +kernel) (Nat.le_of_ble_eq_true rfl) ?_
  intro p e s m below meth c A X hT hNC hr hSB hAf
  refine g_cs (ws' := WC ad g I L S ++ [OUT ao o v]) (lv' := [(0, .ref (ad 0)), (1, .int (nI q)), (2, .ref ao)]) rfl rfl ?_
  refine g_run X KL_replace_0_0 KL_replace_0_0_d 3 [(0, .ref (ad 0)), (1, .int (nI q)), (2, .ref ao)] [.int (nI q), .ref (ad 0), .ref ao] rfl ?_
  refine gc_callV X hSB hAf hT srcW (hrc1 := (rfl : CL[4]? = some _)) (List.mem_append_left _ (wc_mem (k := 0) (by decide))) rfl (As := [.int (nI q)]) (n := 1) (x_X5_replace_2 l hfl D g ad I L S q (by assumption) (by assumption)) srcL w_583 w_580 w_581 w_582 w_1 (by decide +kernel) rfl ⟨Nat.le_of_ble_eq_true rfl, Nat.le_of_ble_eq_true rfl⟩ rfl rfl rfl (Nat.le_of_ble_eq_true rfl) ⟨Nat.le_of_ble_eq_true rfl, Nat.le_of_ble_eq_true rfl⟩ dL_replace_3 [⟨0, 10, 13, 19⟩] ⟨0, 10, 16, 39⟩ [] rfl (fun z hz => by cases List.mem_singleton.mp hz; exact ⟨by decide, _, w_499, hNC.2⟩) (by decide) (by decide) w_552 (nw_in n_563 rfl) (fun qx1 => ?_)
  refine g_af (ws' := WC ad g I L S ++ [OUT ao o v]) (st' := [.ref qx1]) (cells' := 1) (slots' := 6) (pc' := 16) rfl rfl rfl rfl rfl ?_
  refine g_run X KL_replace_16_4 KL_replace_16_4_d 18 [(3, .ref qx1), (0, .ref (ad 0)), (1, .int (nI q)), (2, .ref ao)] [.int (nI 2)] rfl ?_
  exact g_iret X hr () (rfl) (trivial) ((List.append_nil _).symm) (Nat.le_of_ble_eq_true rfl) (Nat.le_of_ble_eq_true rfl) dL_replace_18

def KL_limit_0_0 : List (Nat × Instr × Nat) := [(0, .aload_n 2, 1), (1, .aload_n 0, 1), (2, .iload_n 1, 1)]
theorem KL_limit_0_0_d : ∀ z ∈ KL_limit_0_0, decode cL_limit z.1 = .ok z.2 := by decide +kernel
def KL_limit_6_1 : List (Nat × Instr × Nat) := [(6, .i2l, 1)]
theorem KL_limit_6_1_d : ∀ z ∈ KL_limit_6_1, decode cL_limit z.1 = .ok z.2 := by decide +kernel
def KL_limit_10_2 : List (Nat × Instr × Nat) := [(10, .goto 6, 3), (16, .iconst 0, 1)]
theorem KL_limit_10_2_d : ∀ z ∈ KL_limit_10_2, decode cL_limit z.1 = .ok z.2 := by decide +kernel
set_option maxHeartbeats 4000000 in
set_option maxRecDepth 100000 in
theorem hc_limit (l : Launch) (D : va_G) (g : Nat → ClassId) (ad : Nat → Nat) (I : Nat → Nat → Int32) (L : Nat → Nat → Int64) (S : Nat → Nat) (vv : Nat) (ao : Nat) (o : Int64) (v : Value) (h1 : 1 ≤ vv) (hv : vv < 100) : CTW l yL_limit cL_limit 4 (Option.some FieldType.int) [(0, 10, 13, 21)] ({ frames := 1, cells := 0, slots := 0, locals := 22 } : Room) [.ref (ad 0), .int (nI vv), .ref ao] D CL (TYS g) (WC ad g I L S ++ [OUT ao o v]) (S := Unit) (fun _ => some (.int (nI 0))) (fun _ => WC ad g (u2 I 8 0 (nI vv)) L S ++ [OUT ao ((I 8 0).toInt64) v]) (fun _ => True) 0 0 := by
  refine ctw_of (by decide +kernel) (Nat.le_of_ble_eq_true rfl) ?_
  intro p e s m below meth c A X hT hNC hr hSB hAf
  refine g_cs (ws' := WC ad g I L S ++ [OUT ao o v]) (lv' := [(0, .ref (ad 0)), (1, .int (nI vv)), (2, .ref ao)]) rfl rfl ?_
  refine g_run X KL_limit_0_0 KL_limit_0_0_d 3 [(0, .ref (ad 0)), (1, .int (nI vv)), (2, .ref ao)] [.int (nI vv), .ref (ad 0), .ref ao] rfl ?_
  refine g_callV X hSB hAf (srcW) (hrc1 := (rfl : CL[4]? = some _)) ((List.mem_append_left _ (wc_mem (k := 0) (by decide)))) rfl (As := [.int (nI vv)]) (wr := [OUT ao o v]) (n := 1) (c_X5_limit l D g ad I L S vv (by assumption) (by assumption)) rfl srcN hrdN w_600 w_597 w_598 w_599 w_1 (by decide +kernel) rfl ⟨Nat.le_of_ble_eq_true rfl, Nat.le_of_ble_eq_true rfl⟩ rfl rfl rfl (Nat.le_of_ble_eq_true rfl) ⟨Nat.le_of_ble_eq_true rfl, Nat.le_of_ble_eq_true rfl⟩ dL_limit_3 (fun hu1 _ => ?_)
  refine g_af (ws' := WC ad g (u2 I 8 0 (nI vv)) L S ++ [OUT ao o v]) (st' := [.int (I 8 0), .ref ao]) (cells' := 0) (slots' := 0) (pc' := 6) rfl rfl rfl rfl rfl ?_
  refine g_run X KL_limit_6_1 KL_limit_6_1_d 7 [(0, .ref (ad 0)), (1, .int (nI vv)), (2, .ref ao)] [.long ((I 8 0).toInt64), .ref ao] rfl ?_
  refine g_putN X (ws' := WC ad g (u2 I 8 0 (nI vv)) L S ++ [OUT ao ((I 8 0).toInt64) v]) hinX6 tyX6 tyX6_ok nmX6 rfl 0 (by decide) (nw_in n_489 rfl) rfl rfl (ty := .long) rfl rfl rfl (28) (wo_get) (Nat.le_of_ble_eq_true rfl) (wo_set) dL_limit_7 ?_
  refine g_run X KL_limit_10_2 KL_limit_10_2_d 17 [(0, .ref (ad 0)), (1, .int (nI vv)), (2, .ref ao)] [.int (nI 0)] rfl ?_
  exact g_iret X hr () (rfl) (trivial) ((List.append_nil _).symm) (Nat.le_of_ble_eq_true rfl) (Nat.le_of_ble_eq_true rfl) dL_limit_17

def KL_limit_13_3 : List (Nat × Instr × Nat) := [(13, .astore_n 3, 1), (14, .iconst 1, 1)]
theorem KL_limit_13_3_d : ∀ z ∈ KL_limit_13_3, decode cL_limit z.1 = .ok z.2 := by decide +kernel
set_option maxHeartbeats 4000000 in
set_option maxRecDepth 100000 in
theorem hx_limit_1 (l : Launch) (hfl : l.stackTraces = false) (D : va_G) (g : Nat → ClassId) (ad : Nat → Nat) (I : Nat → Nat → Int32) (L : Nat → Nat → Int64) (S : Nat → Nat) (x : Int32) (ao : Nat) (o : Int64) (v : Value) (hx : x < nI 1 ∨ ¬ x ≤ nI 99) : CTW l yL_limit cL_limit 4 (Option.some FieldType.int) [(0, 10, 13, 21)] ({ frames := 7, cells := 1, slots := 6, locals := 122 } : Room) [.ref (ad 0), .int x, .ref ao] D CL (TYS g) (WC ad g I L S ++ [OUT ao o v]) (S := Unit) (fun _ => some (.int (nI 1))) (fun _ => WC ad g I L S ++ [OUT ao o v]) (fun _ => True) 1 6 := by
  refine ctw_of (by decide +kernel) (Nat.le_of_ble_eq_true rfl) ?_
  intro p e s m below meth c A X hT hNC hr hSB hAf
  refine g_cs (ws' := WC ad g I L S ++ [OUT ao o v]) (lv' := [(0, .ref (ad 0)), (1, .int x), (2, .ref ao)]) rfl rfl ?_
  refine g_run X KL_limit_0_0 KL_limit_0_0_d 3 [(0, .ref (ad 0)), (1, .int x), (2, .ref ao)] [.int x, .ref (ad 0), .ref ao] rfl ?_
  refine gc_callV X hSB hAf hT srcW (hrc1 := (rfl : CL[4]? = some _)) (List.mem_append_left _ (wc_mem (k := 0) (by decide))) rfl (As := [.int x]) (n := 1) (x_X5_limit_1 l hfl D g ad I L S x (by assumption)) srcL w_600 w_597 w_598 w_599 w_1 (by decide +kernel) rfl ⟨Nat.le_of_ble_eq_true rfl, Nat.le_of_ble_eq_true rfl⟩ rfl rfl rfl (Nat.le_of_ble_eq_true rfl) ⟨Nat.le_of_ble_eq_true rfl, Nat.le_of_ble_eq_true rfl⟩ dL_limit_3 [] ⟨0, 10, 13, 21⟩ [] rfl (fun _ h => absurd h List.not_mem_nil) (by decide) (by decide) w_500 (nw_in n_335 rfl) (fun qx1 => ?_)
  refine g_af (ws' := WC ad g I L S ++ [OUT ao o v]) (st' := [.ref qx1]) (cells' := 1) (slots' := 6) (pc' := 13) rfl rfl rfl rfl rfl ?_
  refine g_run X KL_limit_13_3 KL_limit_13_3_d 15 [(3, .ref qx1), (0, .ref (ad 0)), (1, .int x), (2, .ref ao)] [.int (nI 1)] rfl ?_
  exact g_iret X hr () (rfl) (trivial) ((List.append_nil _).symm) (Nat.le_of_ble_eq_true rfl) (Nat.le_of_ble_eq_true rfl) dL_limit_15

def KL_fetch_0_0 : List (Nat × Instr × Nat) := [(0, .aload_n 2, 1), (1, .aload_n 0, 1), (2, .iload_n 1, 1)]
theorem KL_fetch_0_0_d : ∀ z ∈ KL_fetch_0_0, decode cL_fetch z.1 = .ok z.2 := by decide +kernel
def KL_fetch_6_1 : List (Nat × Instr × Nat) := [(6, .i2l, 1)]
theorem KL_fetch_6_1_d : ∀ z ∈ KL_fetch_6_1, decode cL_fetch z.1 = .ok z.2 := by decide +kernel
def KL_fetch_10_2 : List (Nat × Instr × Nat) := [(10, .goto 6, 3), (16, .iconst 0, 1)]
theorem KL_fetch_10_2_d : ∀ z ∈ KL_fetch_10_2, decode cL_fetch z.1 = .ok z.2 := by decide +kernel
set_option maxHeartbeats 4000000 in
set_option maxRecDepth 100000 in
theorem hc_fetch (l : Launch) (D : va_G) (g : Nat → ClassId) (ad : Nat → Nat) (I : Nat → Nat → Int32) (L : Nat → Nat → Int64) (S : Nat → Nat) (q : Nat) (ao : Nat) (o : Int64) (v : Value) (hS18 : ∀ p, p < 15 → S p < 18) (hq : q < 16) : CTW l yL_fetch cL_fetch 4 (Option.some FieldType.int) [(0, 10, 13, 19)] ({ frames := 6, cells := 0, slots := 0, locals := 156 } : Room) [.ref (ad 0), .int (nI q), .ref ao] D CL (TYS g) (WC ad g I L S ++ [OUT ao o v]) (S := Unit) (fun _ => some (.int (nI 0))) (fun _ => WC ad g (ftA I L S q) (ftL I L S q) S ++ [OUT ao ((wrO (rwd I L S q 15) (oL (mwd I L S q))).toInt64) v]) (fun _ => True) 0 0 := by
  refine ctw_of (by decide +kernel) (Nat.le_of_ble_eq_true rfl) ?_
  intro p e s m below meth c A X hT hNC hr hSB hAf
  refine g_cs (ws' := WC ad g I L S ++ [OUT ao o v]) (lv' := [(0, .ref (ad 0)), (1, .int (nI q)), (2, .ref ao)]) rfl rfl ?_
  refine g_run X KL_fetch_0_0 KL_fetch_0_0_d 3 [(0, .ref (ad 0)), (1, .int (nI q)), (2, .ref ao)] [.int (nI q), .ref (ad 0), .ref ao] rfl ?_
  refine g_callV X hSB hAf (srcW) (hrc1 := (rfl : CL[4]? = some _)) ((List.mem_append_left _ (wc_mem (k := 0) (by decide)))) rfl (As := [.int (nI q)]) (wr := [OUT ao o v]) (n := 1) (c_X5_fetch l D g ad I L S q (by assumption) (by assumption)) rfl srcN hrdN w_608 w_605 w_606 w_607 w_1 (by decide +kernel) rfl ⟨Nat.le_of_ble_eq_true rfl, Nat.le_of_ble_eq_true rfl⟩ rfl rfl rfl (Nat.le_of_ble_eq_true rfl) ⟨Nat.le_of_ble_eq_true rfl, Nat.le_of_ble_eq_true rfl⟩ dL_fetch_3 (fun hu1 _ => ?_)
  refine g_af (ws' := WC ad g (ftA I L S q) (ftL I L S q) S ++ [OUT ao o v]) (st' := [.int (wrO (rwd I L S q 15) (oL (mwd I L S q))), .ref ao]) (cells' := 0) (slots' := 0) (pc' := 6) rfl rfl rfl rfl rfl ?_
  refine g_run X KL_fetch_6_1 KL_fetch_6_1_d 7 [(0, .ref (ad 0)), (1, .int (nI q)), (2, .ref ao)] [.long ((wrO (rwd I L S q 15) (oL (mwd I L S q))).toInt64), .ref ao] rfl ?_
  refine g_putN X (ws' := WC ad g (ftA I L S q) (ftL I L S q) S ++ [OUT ao ((wrO (rwd I L S q 15) (oL (mwd I L S q))).toInt64) v]) hinX6 tyX6 tyX6_ok nmX6 rfl 0 (by decide) (nw_in n_489 rfl) rfl rfl (ty := .long) rfl rfl rfl (28) (wo_get) (Nat.le_of_ble_eq_true rfl) (wo_set) dL_fetch_7 ?_
  refine g_run X KL_fetch_10_2 KL_fetch_10_2_d 17 [(0, .ref (ad 0)), (1, .int (nI q)), (2, .ref ao)] [.int (nI 0)] rfl ?_
  exact g_iret X hr () (rfl) (trivial) ((List.append_nil _).symm) (Nat.le_of_ble_eq_true rfl) (Nat.le_of_ble_eq_true rfl) dL_fetch_17

def KL_fetch_13_3 : List (Nat × Instr × Nat) := [(13, .astore_n 3, 1), (14, .iconst 1, 1)]
theorem KL_fetch_13_3_d : ∀ z ∈ KL_fetch_13_3, decode cL_fetch z.1 = .ok z.2 := by decide +kernel
set_option maxHeartbeats 4000000 in
set_option maxRecDepth 100000 in
theorem hx_fetch_1 (l : Launch) (hfl : l.stackTraces = false) (D : va_G) (g : Nat → ClassId) (ad : Nat → Nat) (I : Nat → Nat → Int32) (L : Nat → Nat → Int64) (S : Nat → Nat) (x : Int32) (ao : Nat) (o : Int64) (v : Value) (hx : x < 0 ∨ ¬ x < nI 16) : CTW l yL_fetch cL_fetch 4 (Option.some FieldType.int) [(0, 10, 13, 19)] ({ frames := 8, cells := 1, slots := 6, locals := 143 } : Room) [.ref (ad 0), .int x, .ref ao] D CL (TYS g) (WC ad g I L S ++ [OUT ao o v]) (S := Unit) (fun _ => some (.int (nI 1))) (fun _ => WC ad g I L S ++ [OUT ao o v]) (fun _ => True) 1 6 := by
  refine ctw_of (by decide +kernel) (Nat.le_of_ble_eq_true rfl) ?_
  intro p e s m below meth c A X hT hNC hr hSB hAf
  refine g_cs (ws' := WC ad g I L S ++ [OUT ao o v]) (lv' := [(0, .ref (ad 0)), (1, .int x), (2, .ref ao)]) rfl rfl ?_
  refine g_run X KL_fetch_0_0 KL_fetch_0_0_d 3 [(0, .ref (ad 0)), (1, .int x), (2, .ref ao)] [.int x, .ref (ad 0), .ref ao] rfl ?_
  refine gc_callV X hSB hAf hT srcW (hrc1 := (rfl : CL[4]? = some _)) (List.mem_append_left _ (wc_mem (k := 0) (by decide))) rfl (As := [.int x]) (n := 1) (x_X5_fetch_1 l hfl D g ad I L S x (by assumption)) srcL w_608 w_605 w_606 w_607 w_1 (by decide +kernel) rfl ⟨Nat.le_of_ble_eq_true rfl, Nat.le_of_ble_eq_true rfl⟩ rfl rfl rfl (Nat.le_of_ble_eq_true rfl) ⟨Nat.le_of_ble_eq_true rfl, Nat.le_of_ble_eq_true rfl⟩ dL_fetch_3 [] ⟨0, 10, 13, 19⟩ [] rfl (fun _ h => absurd h List.not_mem_nil) (by decide) (by decide) w_499 (nw_in n_410 rfl) (fun qx1 => ?_)
  refine g_af (ws' := WC ad g I L S ++ [OUT ao o v]) (st' := [.ref qx1]) (cells' := 1) (slots' := 6) (pc' := 13) rfl rfl rfl rfl rfl ?_
  refine g_run X KL_fetch_13_3 KL_fetch_13_3_d 15 [(3, .ref qx1), (0, .ref (ad 0)), (1, .int x), (2, .ref ao)] [.int (nI 1)] rfl ?_
  exact g_iret X hr () (rfl) (trivial) ((List.append_nil _).symm) (Nat.le_of_ble_eq_true rfl) (Nat.le_of_ble_eq_true rfl) dL_fetch_15

def KL_patrol_0_0 : List (Nat × Instr × Nat) := [(0, .aload_n 2, 1), (1, .aload_n 0, 1), (2, .iload_n 1, 1)]
theorem KL_patrol_0_0_d : ∀ z ∈ KL_patrol_0_0, decode cL_patrol z.1 = .ok z.2 := by decide +kernel
def KL_patrol_6_1 : List (Nat × Instr × Nat) := [(6, .i2l, 1)]
theorem KL_patrol_6_1_d : ∀ z ∈ KL_patrol_6_1, decode cL_patrol z.1 = .ok z.2 := by decide +kernel
def KL_patrol_10_2 : List (Nat × Instr × Nat) := [(10, .goto 6, 3), (16, .iconst 0, 1)]
theorem KL_patrol_10_2_d : ∀ z ∈ KL_patrol_10_2, decode cL_patrol z.1 = .ok z.2 := by decide +kernel
set_option maxHeartbeats 4000000 in
set_option maxRecDepth 100000 in
theorem hc_patrol (l : Launch) (D : va_G) (g : Nat → ClassId) (ad : Nat → Nat) (I : Nat → Nat → Int32) (L : Nat → Nat → Int64) (S : Nat → Nat) (vv : Nat) (n : Nat) (ao : Nat) (o : Int64) (v : Value) (hS18 : ∀ p, p < 15 → S p < 18) (hpt : I 8 1 = nI n) (hn : n < 16) (h1 : 1 ≤ vv) (hv : vv < 41) : CTW l yL_patrol cL_patrol 4 (Option.some FieldType.int) [(0, 10, 13, 21)] ({ frames := 7, cells := 0, slots := 0, locals := 177 } : Room) [.ref (ad 0), .int (nI vv), .ref ao] D CL (TYS g) (WC ad g I L S ++ [OUT ao o v]) (S := Unit) (fun _ => some (.int (nI 0))) (fun _ => WC ad g ((ptr I L S n vv).1) ((ptr I L S n vv).2) S ++ [OUT ao ((nI (ptb I L S n vv)).toInt64) v]) (fun _ => True) 0 0 := by
  refine ctw_of (by decide +kernel) (Nat.le_of_ble_eq_true rfl) ?_
  intro p e s m below meth c A X hT hNC hr hSB hAf
  refine g_cs (ws' := WC ad g I L S ++ [OUT ao o v]) (lv' := [(0, .ref (ad 0)), (1, .int (nI vv)), (2, .ref ao)]) rfl rfl ?_
  refine g_run X KL_patrol_0_0 KL_patrol_0_0_d 3 [(0, .ref (ad 0)), (1, .int (nI vv)), (2, .ref ao)] [.int (nI vv), .ref (ad 0), .ref ao] rfl ?_
  refine g_callV X hSB hAf (srcW) (hrc1 := (rfl : CL[4]? = some _)) ((List.mem_append_left _ (wc_mem (k := 0) (by decide)))) rfl (As := [.int (nI vv)]) (wr := [OUT ao o v]) (n := 1) (c_X5_patrol l D g ad I L S vv n (by assumption) (by assumption) (by assumption) (by assumption) (by assumption)) rfl srcN hrdN w_632 w_629 w_630 w_631 w_1 (by decide +kernel) rfl ⟨Nat.le_of_ble_eq_true rfl, Nat.le_of_ble_eq_true rfl⟩ rfl rfl rfl (Nat.le_of_ble_eq_true rfl) ⟨Nat.le_of_ble_eq_true rfl, Nat.le_of_ble_eq_true rfl⟩ dL_patrol_3 (fun hu1 _ => ?_)
  refine g_af (ws' := WC ad g ((ptr I L S n vv).1) ((ptr I L S n vv).2) S ++ [OUT ao o v]) (st' := [.int (nI (ptb I L S n vv)), .ref ao]) (cells' := 0) (slots' := 0) (pc' := 6) rfl rfl rfl rfl rfl ?_
  refine g_run X KL_patrol_6_1 KL_patrol_6_1_d 7 [(0, .ref (ad 0)), (1, .int (nI vv)), (2, .ref ao)] [.long ((nI (ptb I L S n vv)).toInt64), .ref ao] rfl ?_
  refine g_putN X (ws' := WC ad g ((ptr I L S n vv).1) ((ptr I L S n vv).2) S ++ [OUT ao ((nI (ptb I L S n vv)).toInt64) v]) hinX6 tyX6 tyX6_ok nmX6 rfl 0 (by decide) (nw_in n_489 rfl) rfl rfl (ty := .long) rfl rfl rfl (28) (wo_get) (Nat.le_of_ble_eq_true rfl) (wo_set) dL_patrol_7 ?_
  refine g_run X KL_patrol_10_2 KL_patrol_10_2_d 17 [(0, .ref (ad 0)), (1, .int (nI vv)), (2, .ref ao)] [.int (nI 0)] rfl ?_
  exact g_iret X hr () (rfl) (trivial) ((List.append_nil _).symm) (Nat.le_of_ble_eq_true rfl) (Nat.le_of_ble_eq_true rfl) dL_patrol_17

def KL_patrol_13_3 : List (Nat × Instr × Nat) := [(13, .astore_n 3, 1), (14, .iconst 1, 1)]
theorem KL_patrol_13_3_d : ∀ z ∈ KL_patrol_13_3, decode cL_patrol z.1 = .ok z.2 := by decide +kernel
set_option maxHeartbeats 4000000 in
set_option maxRecDepth 100000 in
theorem hx_patrol_1 (l : Launch) (hfl : l.stackTraces = false) (D : va_G) (g : Nat → ClassId) (ad : Nat → Nat) (I : Nat → Nat → Int32) (L : Nat → Nat → Int64) (S : Nat → Nat) (x : Int32) (ao : Nat) (o : Int64) (v : Value) (hx : x < nI 1 ∨ ¬ x ≤ nI 40) : CTW l yL_patrol cL_patrol 4 (Option.some FieldType.int) [(0, 10, 13, 21)] ({ frames := 7, cells := 1, slots := 6, locals := 123 } : Room) [.ref (ad 0), .int x, .ref ao] D CL (TYS g) (WC ad g I L S ++ [OUT ao o v]) (S := Unit) (fun _ => some (.int (nI 1))) (fun _ => WC ad g I L S ++ [OUT ao o v]) (fun _ => True) 1 6 := by
  refine ctw_of (by decide +kernel) (Nat.le_of_ble_eq_true rfl) ?_
  intro p e s m below meth c A X hT hNC hr hSB hAf
  refine g_cs (ws' := WC ad g I L S ++ [OUT ao o v]) (lv' := [(0, .ref (ad 0)), (1, .int x), (2, .ref ao)]) rfl rfl ?_
  refine g_run X KL_patrol_0_0 KL_patrol_0_0_d 3 [(0, .ref (ad 0)), (1, .int x), (2, .ref ao)] [.int x, .ref (ad 0), .ref ao] rfl ?_
  refine gc_callV X hSB hAf hT srcW (hrc1 := (rfl : CL[4]? = some _)) (List.mem_append_left _ (wc_mem (k := 0) (by decide))) rfl (As := [.int x]) (n := 1) (x_X5_patrol_1 l hfl D g ad I L S x (by assumption)) srcL w_632 w_629 w_630 w_631 w_1 (by decide +kernel) rfl ⟨Nat.le_of_ble_eq_true rfl, Nat.le_of_ble_eq_true rfl⟩ rfl rfl rfl (Nat.le_of_ble_eq_true rfl) ⟨Nat.le_of_ble_eq_true rfl, Nat.le_of_ble_eq_true rfl⟩ dL_patrol_3 [] ⟨0, 10, 13, 21⟩ [] rfl (fun _ h => absurd h List.not_mem_nil) (by decide) (by decide) w_500 (nw_in n_335 rfl) (fun qx1 => ?_)
  refine g_af (ws' := WC ad g I L S ++ [OUT ao o v]) (st' := [.ref qx1]) (cells' := 1) (slots' := 6) (pc' := 13) rfl rfl rfl rfl rfl ?_
  refine g_run X KL_patrol_13_3 KL_patrol_13_3_d 15 [(3, .ref qx1), (0, .ref (ad 0)), (1, .int x), (2, .ref ao)] [.int (nI 1)] rfl ?_
  exact g_iret X hr () (rfl) (trivial) ((List.append_nil _).symm) (Nat.le_of_ble_eq_true rfl) (Nat.le_of_ble_eq_true rfl) dL_patrol_15

def KL_load_0_0 : List (Nat × Instr × Nat) := [(0, .aload_n 2, 1), (1, .aload_n 0, 1), (2, .iload_n 1, 1)]
theorem KL_load_0_0_d : ∀ z ∈ KL_load_0_0, decode cL_load z.1 = .ok z.2 := by decide +kernel
def KL_load_9_1 : List (Nat × Instr × Nat) := [(9, .goto 6, 3), (15, .iconst 0, 1)]
theorem KL_load_9_1_d : ∀ z ∈ KL_load_9_1, decode cL_load z.1 = .ok z.2 := by decide +kernel
set_option maxHeartbeats 4000000 in
set_option maxRecDepth 100000 in
theorem hc_load (l : Launch) (D : va_G) (g : Nat → ClassId) (ad : Nat → Nat) (I : Nat → Nat → Int32) (L : Nat → Nat → Int64) (S : Nat → Nat) (q : Nat) (ao : Nat) (o : Int64) (v : Value) (hS18 : ∀ p, p < 15 → S p < 18) (hFr : FrI I) (hq : q < 16) : CTW l yL_load cL_load 4 (Option.some FieldType.int) [(0, 9, 12, 19)] ({ frames := 7, cells := 0, slots := 0, locals := 178 } : Room) [.ref (ad 0), .int (nI q), .ref ao] D CL (TYS g) (WC ad g I L S ++ [OUT ao o v]) (S := Unit) (fun _ => some (.int (nI 0))) (fun _ => WC ad g (ldI I L S q) (ldL I L S q) S ++ [OUT ao (dtO (ldV I L S q)) v]) (fun _ => True) 0 0 := by
  refine ctw_of (by decide +kernel) (Nat.le_of_ble_eq_true rfl) ?_
  intro p e s m below meth c A X hT hNC hr hSB hAf
  refine g_cs (ws' := WC ad g I L S ++ [OUT ao o v]) (lv' := [(0, .ref (ad 0)), (1, .int (nI q)), (2, .ref ao)]) rfl rfl ?_
  refine g_run X KL_load_0_0 KL_load_0_0_d 3 [(0, .ref (ad 0)), (1, .int (nI q)), (2, .ref ao)] [.int (nI q), .ref (ad 0), .ref ao] rfl ?_
  refine g_callV X hSB hAf (srcW) (hrc1 := (rfl : CL[4]? = some _)) ((List.mem_append_left _ (wc_mem (k := 0) (by decide)))) rfl (As := [.int (nI q)]) (wr := [OUT ao o v]) (n := 1) (c_X5_load l D g ad I L S q (by assumption) (by assumption) (by assumption)) rfl srcN hrdN w_645 w_642 w_643 w_644 w_1 (by decide +kernel) rfl ⟨Nat.le_of_ble_eq_true rfl, Nat.le_of_ble_eq_true rfl⟩ rfl rfl rfl (Nat.le_of_ble_eq_true rfl) ⟨Nat.le_of_ble_eq_true rfl, Nat.le_of_ble_eq_true rfl⟩ dL_load_3 (fun hu1 _ => ?_)
  refine g_af (ws' := WC ad g (ldI I L S q) (ldL I L S q) S ++ [OUT ao o v]) (st' := [.long (dtO (ldV I L S q)), .ref ao]) (cells' := 0) (slots' := 0) (pc' := 6) rfl rfl rfl rfl rfl ?_
  refine g_putN X (ws' := WC ad g (ldI I L S q) (ldL I L S q) S ++ [OUT ao (dtO (ldV I L S q)) v]) hinX6 tyX6 tyX6_ok nmX6 rfl 0 (by decide) (nw_in n_489 rfl) rfl rfl (ty := .long) rfl rfl rfl (28) (wo_get) (Nat.le_of_ble_eq_true rfl) (wo_set) dL_load_6 ?_
  refine g_run X KL_load_9_1 KL_load_9_1_d 16 [(0, .ref (ad 0)), (1, .int (nI q)), (2, .ref ao)] [.int (nI 0)] rfl ?_
  exact g_iret X hr () (rfl) (trivial) ((List.append_nil _).symm) (Nat.le_of_ble_eq_true rfl) (Nat.le_of_ble_eq_true rfl) dL_load_16

def KL_load_12_2 : List (Nat × Instr × Nat) := [(12, .astore_n 3, 1), (13, .iconst 1, 1)]
theorem KL_load_12_2_d : ∀ z ∈ KL_load_12_2, decode cL_load z.1 = .ok z.2 := by decide +kernel
set_option maxHeartbeats 4000000 in
set_option maxRecDepth 100000 in
theorem hx_load_1 (l : Launch) (hfl : l.stackTraces = false) (D : va_G) (g : Nat → ClassId) (ad : Nat → Nat) (I : Nat → Nat → Int32) (L : Nat → Nat → Int64) (S : Nat → Nat) (x : Int32) (ao : Nat) (o : Int64) (v : Value) (hx : x < 0 ∨ ¬ x < nI 16) : CTW l yL_load cL_load 4 (Option.some FieldType.int) [(0, 9, 12, 19)] ({ frames := 8, cells := 1, slots := 6, locals := 141 } : Room) [.ref (ad 0), .int x, .ref ao] D CL (TYS g) (WC ad g I L S ++ [OUT ao o v]) (S := Unit) (fun _ => some (.int (nI 1))) (fun _ => WC ad g I L S ++ [OUT ao o v]) (fun _ => True) 1 6 := by
  refine ctw_of (by decide +kernel) (Nat.le_of_ble_eq_true rfl) ?_
  intro p e s m below meth c A X hT hNC hr hSB hAf
  refine g_cs (ws' := WC ad g I L S ++ [OUT ao o v]) (lv' := [(0, .ref (ad 0)), (1, .int x), (2, .ref ao)]) rfl rfl ?_
  refine g_run X KL_load_0_0 KL_load_0_0_d 3 [(0, .ref (ad 0)), (1, .int x), (2, .ref ao)] [.int x, .ref (ad 0), .ref ao] rfl ?_
  refine gc_callV X hSB hAf hT srcW (hrc1 := (rfl : CL[4]? = some _)) (List.mem_append_left _ (wc_mem (k := 0) (by decide))) rfl (As := [.int x]) (n := 1) (x_X5_load_1 l hfl D g ad I L S x (by assumption)) srcL w_645 w_642 w_643 w_644 w_1 (by decide +kernel) rfl ⟨Nat.le_of_ble_eq_true rfl, Nat.le_of_ble_eq_true rfl⟩ rfl rfl rfl (Nat.le_of_ble_eq_true rfl) ⟨Nat.le_of_ble_eq_true rfl, Nat.le_of_ble_eq_true rfl⟩ dL_load_3 [] ⟨0, 9, 12, 19⟩ [] rfl (fun _ h => absurd h List.not_mem_nil) (by decide) (by decide) w_499 (nw_in n_410 rfl) (fun qx1 => ?_)
  refine g_af (ws' := WC ad g I L S ++ [OUT ao o v]) (st' := [.ref qx1]) (cells' := 1) (slots' := 6) (pc' := 12) rfl rfl rfl rfl rfl ?_
  refine g_run X KL_load_12_2 KL_load_12_2_d 14 [(3, .ref qx1), (0, .ref (ad 0)), (1, .int x), (2, .ref ao)] [.int (nI 1)] rfl ?_
  exact g_iret X hr () (rfl) (trivial) ((List.append_nil _).symm) (Nat.le_of_ble_eq_true rfl) (Nat.le_of_ble_eq_true rfl) dL_load_14

def KL_store_0_0 : List (Nat × Instr × Nat) := [(0, .aload 4, 2), (2, .aload_n 0, 1), (3, .iload_n 1, 1), (4, .lload_n 2, 1)]
theorem KL_store_0_0_d : ∀ z ∈ KL_store_0_0, decode cL_store z.1 = .ok z.2 := by decide +kernel
def KL_store_8_1 : List (Nat × Instr × Nat) := [(8, .i2l, 1)]
theorem KL_store_8_1_d : ∀ z ∈ KL_store_8_1, decode cL_store z.1 = .ok z.2 := by decide +kernel
def KL_store_12_2 : List (Nat × Instr × Nat) := [(12, .goto 11, 3), (23, .iconst 0, 1)]
theorem KL_store_12_2_d : ∀ z ∈ KL_store_12_2, decode cL_store z.1 = .ok z.2 := by decide +kernel
set_option maxHeartbeats 4000000 in
set_option maxRecDepth 100000 in
theorem hc_store (l : Launch) (D : va_G) (g : Nat → ClassId) (ad : Nat → Nat) (I : Nat → Nat → Int32) (L : Nat → Nat → Int64) (S : Nat → Nat) (q : Nat) (x : Int64) (ao : Nat) (o : Int64) (v : Value) (hS18 : ∀ p, p < 15 → S p < 18) (hFr : FrI I) (hq : q < 16) (hx : dOK x) : CTW l yL_store cL_store 6 (Option.some FieldType.int) [(0, 12, 15, 19), (0, 12, 19, 21)] ({ frames := 7, cells := 0, slots := 0, locals := 160 } : Room) [.ref (ad 0), .int (nI q), .long x, .ref ao] D CL (TYS g) (WC ad g I L S ++ [OUT ao o v]) (S := Unit) (fun _ => some (.int (nI 0))) (fun _ => WC ad g (stI I q) (stL I L S q (wdO x)) S ++ [OUT ao ((nI (stK I q)).toInt64) v]) (fun _ => True) 0 0 := by
  refine ctw_of (by decide +kernel) (Nat.le_of_ble_eq_true rfl) ?_
  intro p e s m below meth c A X hT hNC hr hSB hAf
  refine g_cs (ws' := WC ad g I L S ++ [OUT ao o v]) (lv' := [(0, .ref (ad 0)), (1, .int (nI q)), (2, .long x), (4, .ref ao)]) rfl rfl ?_
  refine g_run X KL_store_0_0 KL_store_0_0_d 5 [(0, .ref (ad 0)), (1, .int (nI q)), (2, .long x), (4, .ref ao)] [.long x, .int (nI q), .ref (ad 0), .ref ao] rfl ?_
  refine g_callV X hSB hAf (srcW) (hrc1 := (rfl : CL[4]? = some _)) ((List.mem_append_left _ (wc_mem (k := 0) (by decide)))) rfl (As := [.int (nI q), .long x]) (wr := [OUT ao o v]) (n := 2) (c_X5_store l D g ad I L S q x (by assumption) (by assumption) (by assumption) (by assumption)) rfl srcN hrdN w_674 w_671 w_672 w_673 w_1 (by decide +kernel) rfl ⟨Nat.le_of_ble_eq_true rfl, Nat.le_of_ble_eq_true rfl⟩ rfl rfl rfl (Nat.le_of_ble_eq_true rfl) ⟨Nat.le_of_ble_eq_true rfl, Nat.le_of_ble_eq_true rfl⟩ dL_store_5 (fun hu1 _ => ?_)
  refine g_af (ws' := WC ad g (stI I q) (stL I L S q (wdO x)) S ++ [OUT ao o v]) (st' := [.int (nI (stK I q)), .ref ao]) (cells' := 0) (slots' := 0) (pc' := 8) rfl rfl rfl rfl rfl ?_
  refine g_run X KL_store_8_1 KL_store_8_1_d 9 [(0, .ref (ad 0)), (1, .int (nI q)), (2, .long x), (4, .ref ao)] [.long ((nI (stK I q)).toInt64), .ref ao] rfl ?_
  refine g_putN X (ws' := WC ad g (stI I q) (stL I L S q (wdO x)) S ++ [OUT ao ((nI (stK I q)).toInt64) v]) hinX6 tyX6 tyX6_ok nmX6 rfl 0 (by decide) (nw_in n_489 rfl) rfl rfl (ty := .long) rfl rfl rfl (28) (wo_get) (Nat.le_of_ble_eq_true rfl) (wo_set) dL_store_9 ?_
  refine g_run X KL_store_12_2 KL_store_12_2_d 24 [(0, .ref (ad 0)), (1, .int (nI q)), (2, .long x), (4, .ref ao)] [.int (nI 0)] rfl ?_
  exact g_iret X hr () (rfl) (trivial) ((List.append_nil _).symm) (Nat.le_of_ble_eq_true rfl) (Nat.le_of_ble_eq_true rfl) dL_store_24

def KL_store_15_3 : List (Nat × Instr × Nat) := [(15, .astore 5, 2), (17, .iconst 1, 1)]
theorem KL_store_15_3_d : ∀ z ∈ KL_store_15_3, decode cL_store z.1 = .ok z.2 := by decide +kernel
set_option maxHeartbeats 4000000 in
set_option maxRecDepth 100000 in
theorem hx_store_1 (l : Launch) (hfl : l.stackTraces = false) (D : va_G) (g : Nat → ClassId) (ad : Nat → Nat) (I : Nat → Nat → Int32) (L : Nat → Nat → Int64) (S : Nat → Nat) (x : Int32) (y : Int64) (ao : Nat) (o : Int64) (v : Value) (hx : x < 0 ∨ ¬ x < nI 16) : CTW l yL_store cL_store 6 (Option.some FieldType.int) [(0, 12, 15, 19), (0, 12, 19, 21)] ({ frames := 8, cells := 1, slots := 6, locals := 143 } : Room) [.ref (ad 0), .int x, .long y, .ref ao] D CL (TYS g) (WC ad g I L S ++ [OUT ao o v]) (S := Unit) (fun _ => some (.int (nI 1))) (fun _ => WC ad g I L S ++ [OUT ao o v]) (fun _ => True) 1 6 := by
  refine ctw_of (by decide +kernel) (Nat.le_of_ble_eq_true rfl) ?_
  intro p e s m below meth c A X hT hNC hr hSB hAf
  refine g_cs (ws' := WC ad g I L S ++ [OUT ao o v]) (lv' := [(0, .ref (ad 0)), (1, .int x), (2, .long y), (4, .ref ao)]) rfl rfl ?_
  refine g_run X KL_store_0_0 KL_store_0_0_d 5 [(0, .ref (ad 0)), (1, .int x), (2, .long y), (4, .ref ao)] [.long y, .int x, .ref (ad 0), .ref ao] rfl ?_
  refine gc_callV X hSB hAf hT srcW (hrc1 := (rfl : CL[4]? = some _)) (List.mem_append_left _ (wc_mem (k := 0) (by decide))) rfl (As := [.int x, .long y]) (n := 2) (x_X5_store_1 l hfl D g ad I L S x y (by assumption)) srcL w_674 w_671 w_672 w_673 w_1 (by decide +kernel) rfl ⟨Nat.le_of_ble_eq_true rfl, Nat.le_of_ble_eq_true rfl⟩ rfl rfl rfl (Nat.le_of_ble_eq_true rfl) ⟨Nat.le_of_ble_eq_true rfl, Nat.le_of_ble_eq_true rfl⟩ dL_store_5 [] ⟨0, 12, 15, 19⟩ [⟨0, 12, 19, 21⟩] rfl (fun _ h => absurd h List.not_mem_nil) (by decide) (by decide) w_499 (nw_in n_410 rfl) (fun qx1 => ?_)
  refine g_af (ws' := WC ad g I L S ++ [OUT ao o v]) (st' := [.ref qx1]) (cells' := 1) (slots' := 6) (pc' := 15) rfl rfl rfl rfl rfl ?_
  refine g_run X KL_store_15_3 KL_store_15_3_d 18 [(5, .ref qx1), (0, .ref (ad 0)), (1, .int x), (2, .long y), (4, .ref ao)] [.int (nI 1)] rfl ?_
  exact g_iret X hr () (rfl) (trivial) ((List.append_nil _).symm) (Nat.le_of_ble_eq_true rfl) (Nat.le_of_ble_eq_true rfl) dL_store_18

def KL_store_19_4 : List (Nat × Instr × Nat) := [(19, .astore 5, 2), (21, .iconst 2, 1)]
theorem KL_store_19_4_d : ∀ z ∈ KL_store_19_4, decode cL_store z.1 = .ok z.2 := by decide +kernel
set_option maxHeartbeats 4000000 in
set_option maxRecDepth 100000 in
theorem hx_store_2 (l : Launch) (hfl : l.stackTraces = false) (D : va_G) (g : Nat → ClassId) (ad : Nat → Nat) (I : Nat → Nat → Int32) (L : Nat → Nat → Int64) (S : Nat → Nat) (q : Nat) (x : Int64) (ao : Nat) (o : Int64) (v : Value) (hq : q < 16) (hx : ¬ dOK x) : CTW l yL_store cL_store 6 (Option.some FieldType.int) [(0, 12, 15, 19), (0, 12, 19, 21)] ({ frames := 8, cells := 1, slots := 6, locals := 144 } : Room) [.ref (ad 0), .int (nI q), .long x, .ref ao] D CL (TYS g) (WC ad g I L S ++ [OUT ao o v]) (S := Unit) (fun _ => some (.int (nI 2))) (fun _ => WC ad g I L S ++ [OUT ao o v]) (fun _ => True) 1 6 := by
  refine ctw_of (by decide +kernel) (Nat.le_of_ble_eq_true rfl) ?_
  intro p e s m below meth c A X hT hNC hr hSB hAf
  refine g_cs (ws' := WC ad g I L S ++ [OUT ao o v]) (lv' := [(0, .ref (ad 0)), (1, .int (nI q)), (2, .long x), (4, .ref ao)]) rfl rfl ?_
  refine g_run X KL_store_0_0 KL_store_0_0_d 5 [(0, .ref (ad 0)), (1, .int (nI q)), (2, .long x), (4, .ref ao)] [.long x, .int (nI q), .ref (ad 0), .ref ao] rfl ?_
  refine gc_callV X hSB hAf hT srcW (hrc1 := (rfl : CL[4]? = some _)) (List.mem_append_left _ (wc_mem (k := 0) (by decide))) rfl (As := [.int (nI q), .long x]) (n := 2) (x_X5_store_2 l hfl D g ad I L S q x (by assumption) (by assumption)) srcL w_674 w_671 w_672 w_673 w_1 (by decide +kernel) rfl ⟨Nat.le_of_ble_eq_true rfl, Nat.le_of_ble_eq_true rfl⟩ rfl rfl rfl (Nat.le_of_ble_eq_true rfl) ⟨Nat.le_of_ble_eq_true rfl, Nat.le_of_ble_eq_true rfl⟩ dL_store_5 [⟨0, 12, 15, 19⟩] ⟨0, 12, 19, 21⟩ [] rfl (fun z hz => by cases List.mem_singleton.mp hz; exact ⟨by decide, _, w_499, hNC.1⟩) (by decide) (by decide) w_500 (nw_in n_335 rfl) (fun qx1 => ?_)
  refine g_af (ws' := WC ad g I L S ++ [OUT ao o v]) (st' := [.ref qx1]) (cells' := 1) (slots' := 6) (pc' := 19) rfl rfl rfl rfl rfl ?_
  refine g_run X KL_store_19_4 KL_store_19_4_d 22 [(5, .ref qx1), (0, .ref (ad 0)), (1, .int (nI q)), (2, .long x), (4, .ref ao)] [.int (nI 2)] rfl ?_
  exact g_iret X hr () (rfl) (trivial) ((List.append_nil _).symm) (Nat.le_of_ble_eq_true rfl) (Nat.le_of_ble_eq_true rfl) dL_store_22

def KL_times_0_0 : List (Nat × Instr × Nat) := [(0, .aload_n 3, 1), (1, .aload_n 0, 1), (2, .iload_n 1, 1), (3, .iload_n 2, 1)]
theorem KL_times_0_0_d : ∀ z ∈ KL_times_0_0, decode cL_times z.1 = .ok z.2 := by decide +kernel
def KL_times_7_1 : List (Nat × Instr × Nat) := [(7, .i2l, 1)]
theorem KL_times_7_1_d : ∀ z ∈ KL_times_7_1, decode cL_times z.1 = .ok z.2 := by decide +kernel
def KL_times_11_2 : List (Nat × Instr × Nat) := [(11, .goto 7, 3), (18, .iconst 0, 1)]
theorem KL_times_11_2_d : ∀ z ∈ KL_times_11_2, decode cL_times z.1 = .ok z.2 := by decide +kernel
set_option maxHeartbeats 4000000 in
set_option maxRecDepth 100000 in
theorem hc_times (l : Launch) (D : va_G) (g : Nat → ClassId) (ad : Nat → Nat) (I : Nat → Nat → Int32) (L : Nat → Nat → Int64) (S : Nat → Nat) (a : Nat) (b : Nat) (ao : Nat) (o : Int64) (v : Value) (ha : a < 16) (hb : b < 16) : CTW l yL_times cL_times 5 (Option.some FieldType.int) [(0, 11, 14, 21)] ({ frames := 3, cells := 0, slots := 0, locals := 64 } : Room) [.ref (ad 0), .int (nI a), .int (nI b), .ref ao] D CL (TYS g) (WC ad g I L S ++ [OUT ao o v]) (S := Unit) (fun _ => some (.int (nI 0))) (fun _ => WC ad g I L S ++ [OUT ao ((nI (gm a b)).toInt64) v]) (fun _ => True) 0 0 := by
  refine ctw_of (by decide +kernel) (Nat.le_of_ble_eq_true rfl) ?_
  intro p e s m below meth c A X hT hNC hr hSB hAf
  refine g_cs (ws' := WC ad g I L S ++ [OUT ao o v]) (lv' := [(0, .ref (ad 0)), (1, .int (nI a)), (2, .int (nI b)), (3, .ref ao)]) rfl rfl ?_
  refine g_run X KL_times_0_0 KL_times_0_0_d 4 [(0, .ref (ad 0)), (1, .int (nI a)), (2, .int (nI b)), (3, .ref ao)] [.int (nI b), .int (nI a), .ref (ad 0), .ref ao] rfl ?_
  refine g_callV X hSB hAf (srcW) (hrc1 := (rfl : CL[4]? = some _)) ((List.mem_append_left _ (wc_mem (k := 0) (by decide)))) rfl (As := [.int (nI a), .int (nI b)]) (wr := WC ad g I L S ++ [OUT ao o v]) (n := 2) (c_X5_times l D g ad I L S a b (by assumption) (by assumption)) rfl srcL hrdC w_685 w_682 w_683 w_684 w_1 (by decide +kernel) rfl ⟨Nat.le_of_ble_eq_true rfl, Nat.le_of_ble_eq_true rfl⟩ rfl rfl rfl (Nat.le_of_ble_eq_true rfl) ⟨Nat.le_of_ble_eq_true rfl, Nat.le_of_ble_eq_true rfl⟩ dL_times_4 (fun hu1 _ => ?_)
  refine g_af (ws' := WC ad g I L S ++ [OUT ao o v]) (st' := [.int (nI (gm a b)), .ref ao]) (cells' := 0) (slots' := 0) (pc' := 7) rfl rfl rfl rfl rfl ?_
  refine g_run X KL_times_7_1 KL_times_7_1_d 8 [(0, .ref (ad 0)), (1, .int (nI a)), (2, .int (nI b)), (3, .ref ao)] [.long ((nI (gm a b)).toInt64), .ref ao] rfl ?_
  refine g_putN X (ws' := WC ad g I L S ++ [OUT ao ((nI (gm a b)).toInt64) v]) hinX6 tyX6 tyX6_ok nmX6 rfl 0 (by decide) (nw_in n_489 rfl) rfl rfl (ty := .long) rfl rfl rfl (28) (wo_get) (Nat.le_of_ble_eq_true rfl) (wo_set) dL_times_8 ?_
  refine g_run X KL_times_11_2 KL_times_11_2_d 19 [(0, .ref (ad 0)), (1, .int (nI a)), (2, .int (nI b)), (3, .ref ao)] [.int (nI 0)] rfl ?_
  exact g_iret X hr () (rfl) (trivial) ((List.append_nil _).symm) (Nat.le_of_ble_eq_true rfl) (Nat.le_of_ble_eq_true rfl) dL_times_19

def KL_times_14_3 : List (Nat × Instr × Nat) := [(14, .astore 4, 2), (16, .iconst 1, 1)]
theorem KL_times_14_3_d : ∀ z ∈ KL_times_14_3, decode cL_times z.1 = .ok z.2 := by decide +kernel
set_option maxHeartbeats 4000000 in
set_option maxRecDepth 100000 in
theorem hx_times_1 (l : Launch) (hfl : l.stackTraces = false) (D : va_G) (g : Nat → ClassId) (ad : Nat → Nat) (I : Nat → Nat → Int32) (L : Nat → Nat → Int64) (S : Nat → Nat) (x : Int32) (y1 : Int32) (ao : Nat) (o : Int64) (v : Value) (hx : x < 0 ∨ ¬ x ≤ nI 15) : CTW l yL_times cL_times 5 (Option.some FieldType.int) [(0, 11, 14, 21)] ({ frames := 8, cells := 1, slots := 6, locals := 142 } : Room) [.ref (ad 0), .int x, .int y1, .ref ao] D CL (TYS g) (WC ad g I L S ++ [OUT ao o v]) (S := Unit) (fun _ => some (.int (nI 1))) (fun _ => WC ad g I L S ++ [OUT ao o v]) (fun _ => True) 1 6 := by
  refine ctw_of (by decide +kernel) (Nat.le_of_ble_eq_true rfl) ?_
  intro p e s m below meth c A X hT hNC hr hSB hAf
  refine g_cs (ws' := WC ad g I L S ++ [OUT ao o v]) (lv' := [(0, .ref (ad 0)), (1, .int x), (2, .int y1), (3, .ref ao)]) rfl rfl ?_
  refine g_run X KL_times_0_0 KL_times_0_0_d 4 [(0, .ref (ad 0)), (1, .int x), (2, .int y1), (3, .ref ao)] [.int y1, .int x, .ref (ad 0), .ref ao] rfl ?_
  refine gc_callV X hSB hAf hT srcW (hrc1 := (rfl : CL[4]? = some _)) (List.mem_append_left _ (wc_mem (k := 0) (by decide))) rfl (As := [.int x, .int y1]) (n := 2) (x_X5_times_1 l hfl D g ad I L S x y1 (by assumption)) srcL w_685 w_682 w_683 w_684 w_1 (by decide +kernel) rfl ⟨Nat.le_of_ble_eq_true rfl, Nat.le_of_ble_eq_true rfl⟩ rfl rfl rfl (Nat.le_of_ble_eq_true rfl) ⟨Nat.le_of_ble_eq_true rfl, Nat.le_of_ble_eq_true rfl⟩ dL_times_4 [] ⟨0, 11, 14, 21⟩ [] rfl (fun _ h => absurd h List.not_mem_nil) (by decide) (by decide) w_500 (nw_in n_335 rfl) (fun qx1 => ?_)
  refine g_af (ws' := WC ad g I L S ++ [OUT ao o v]) (st' := [.ref qx1]) (cells' := 1) (slots' := 6) (pc' := 14) rfl rfl rfl rfl rfl ?_
  refine g_run X KL_times_14_3 KL_times_14_3_d 17 [(4, .ref qx1), (0, .ref (ad 0)), (1, .int x), (2, .int y1), (3, .ref ao)] [.int (nI 1)] rfl ?_
  exact g_iret X hr () (rfl) (trivial) ((List.append_nil _).symm) (Nat.le_of_ble_eq_true rfl) (Nat.le_of_ble_eq_true rfl) dL_times_17

set_option maxHeartbeats 4000000 in
set_option maxRecDepth 100000 in
theorem hx_times_2 (l : Launch) (hfl : l.stackTraces = false) (D : va_G) (g : Nat → ClassId) (ad : Nat → Nat) (I : Nat → Nat → Int32) (L : Nat → Nat → Int64) (S : Nat → Nat) (a : Nat) (x : Int32) (ao : Nat) (o : Int64) (v : Value) (ha : a < 16) (hx : x < 0 ∨ ¬ x ≤ nI 15) : CTW l yL_times cL_times 5 (Option.some FieldType.int) [(0, 11, 14, 21)] ({ frames := 8, cells := 1, slots := 6, locals := 142 } : Room) [.ref (ad 0), .int (nI a), .int x, .ref ao] D CL (TYS g) (WC ad g I L S ++ [OUT ao o v]) (S := Unit) (fun _ => some (.int (nI 1))) (fun _ => WC ad g I L S ++ [OUT ao o v]) (fun _ => True) 1 6 := by
  refine ctw_of (by decide +kernel) (Nat.le_of_ble_eq_true rfl) ?_
  intro p e s m below meth c A X hT hNC hr hSB hAf
  refine g_cs (ws' := WC ad g I L S ++ [OUT ao o v]) (lv' := [(0, .ref (ad 0)), (1, .int (nI a)), (2, .int x), (3, .ref ao)]) rfl rfl ?_
  refine g_run X KL_times_0_0 KL_times_0_0_d 4 [(0, .ref (ad 0)), (1, .int (nI a)), (2, .int x), (3, .ref ao)] [.int x, .int (nI a), .ref (ad 0), .ref ao] rfl ?_
  refine gc_callV X hSB hAf hT srcW (hrc1 := (rfl : CL[4]? = some _)) (List.mem_append_left _ (wc_mem (k := 0) (by decide))) rfl (As := [.int (nI a), .int x]) (n := 2) (x_X5_times_2 l hfl D g ad I L S a x (by assumption) (by assumption)) srcL w_685 w_682 w_683 w_684 w_1 (by decide +kernel) rfl ⟨Nat.le_of_ble_eq_true rfl, Nat.le_of_ble_eq_true rfl⟩ rfl rfl rfl (Nat.le_of_ble_eq_true rfl) ⟨Nat.le_of_ble_eq_true rfl, Nat.le_of_ble_eq_true rfl⟩ dL_times_4 [] ⟨0, 11, 14, 21⟩ [] rfl (fun _ h => absurd h List.not_mem_nil) (by decide) (by decide) w_500 (nw_in n_335 rfl) (fun qx1 => ?_)
  refine g_af (ws' := WC ad g I L S ++ [OUT ao o v]) (st' := [.ref qx1]) (cells' := 1) (slots' := 6) (pc' := 14) rfl rfl rfl rfl rfl ?_
  refine g_run X KL_times_14_3 KL_times_14_3_d 17 [(4, .ref qx1), (0, .ref (ad 0)), (1, .int (nI a)), (2, .int x), (3, .ref ao)] [.int (nI 1)] rfl ?_
  exact g_iret X hr () (rfl) (trivial) ((List.append_nil _).symm) (Nat.le_of_ble_eq_true rfl) (Nat.le_of_ble_eq_true rfl) dL_times_17

def KL_power_0_0 : List (Nat × Instr × Nat) := [(0, .aload_n 2, 1), (1, .aload_n 0, 1), (2, .iload_n 1, 1)]
theorem KL_power_0_0_d : ∀ z ∈ KL_power_0_0, decode cL_power z.1 = .ok z.2 := by decide +kernel
def KL_power_6_1 : List (Nat × Instr × Nat) := [(6, .i2l, 1)]
theorem KL_power_6_1_d : ∀ z ∈ KL_power_6_1, decode cL_power z.1 = .ok z.2 := by decide +kernel
def KL_power_10_2 : List (Nat × Instr × Nat) := [(10, .goto 6, 3), (16, .iconst 0, 1)]
theorem KL_power_10_2_d : ∀ z ∈ KL_power_10_2, decode cL_power z.1 = .ok z.2 := by decide +kernel
set_option maxHeartbeats 4000000 in
set_option maxRecDepth 100000 in
theorem hc_power (l : Launch) (D : va_G) (g : Nat → ClassId) (ad : Nat → Nat) (I : Nat → Nat → Int32) (L : Nat → Nat → Int64) (S : Nat → Nat) (n : Nat) (ao : Nat) (o : Int64) (v : Value) (hn : n < 1000) : CTW l yL_power cL_power 4 (Option.some FieldType.int) [(0, 10, 13, 21)] ({ frames := 2, cells := 0, slots := 0, locals := 42 } : Room) [.ref (ad 0), .int (nI n), .ref ao] D CL (TYS g) (WC ad g I L S ++ [OUT ao o v]) (S := Unit) (fun _ => some (.int (nI 0))) (fun _ => WC ad g I L S ++ [OUT ao ((nI (tp 1 n)).toInt64) v]) (fun _ => True) 0 0 := by
  refine ctw_of (by decide +kernel) (Nat.le_of_ble_eq_true rfl) ?_
  intro p e s m below meth c A X hT hNC hr hSB hAf
  refine g_cs (ws' := WC ad g I L S ++ [OUT ao o v]) (lv' := [(0, .ref (ad 0)), (1, .int (nI n)), (2, .ref ao)]) rfl rfl ?_
  refine g_run X KL_power_0_0 KL_power_0_0_d 3 [(0, .ref (ad 0)), (1, .int (nI n)), (2, .ref ao)] [.int (nI n), .ref (ad 0), .ref ao] rfl ?_
  refine g_callV X hSB hAf (srcW) (hrc1 := (rfl : CL[4]? = some _)) ((List.mem_append_left _ (wc_mem (k := 0) (by decide)))) rfl (As := [.int (nI n)]) (wr := WC ad g I L S ++ [OUT ao o v]) (n := 1) (c_X5_power l D g ad I L S n (by assumption)) rfl srcL hrdC w_693 w_690 w_691 w_692 w_1 (by decide +kernel) rfl ⟨Nat.le_of_ble_eq_true rfl, Nat.le_of_ble_eq_true rfl⟩ rfl rfl rfl (Nat.le_of_ble_eq_true rfl) ⟨Nat.le_of_ble_eq_true rfl, Nat.le_of_ble_eq_true rfl⟩ dL_power_3 (fun hu1 _ => ?_)
  refine g_af (ws' := WC ad g I L S ++ [OUT ao o v]) (st' := [.int (nI (tp 1 n)), .ref ao]) (cells' := 0) (slots' := 0) (pc' := 6) rfl rfl rfl rfl rfl ?_
  refine g_run X KL_power_6_1 KL_power_6_1_d 7 [(0, .ref (ad 0)), (1, .int (nI n)), (2, .ref ao)] [.long ((nI (tp 1 n)).toInt64), .ref ao] rfl ?_
  refine g_putN X (ws' := WC ad g I L S ++ [OUT ao ((nI (tp 1 n)).toInt64) v]) hinX6 tyX6 tyX6_ok nmX6 rfl 0 (by decide) (nw_in n_489 rfl) rfl rfl (ty := .long) rfl rfl rfl (28) (wo_get) (Nat.le_of_ble_eq_true rfl) (wo_set) dL_power_7 ?_
  refine g_run X KL_power_10_2 KL_power_10_2_d 17 [(0, .ref (ad 0)), (1, .int (nI n)), (2, .ref ao)] [.int (nI 0)] rfl ?_
  exact g_iret X hr () (rfl) (trivial) ((List.append_nil _).symm) (Nat.le_of_ble_eq_true rfl) (Nat.le_of_ble_eq_true rfl) dL_power_17

def KL_power_13_3 : List (Nat × Instr × Nat) := [(13, .astore_n 3, 1), (14, .iconst 1, 1)]
theorem KL_power_13_3_d : ∀ z ∈ KL_power_13_3, decode cL_power z.1 = .ok z.2 := by decide +kernel
set_option maxHeartbeats 4000000 in
set_option maxRecDepth 100000 in
theorem hx_power_1 (l : Launch) (hfl : l.stackTraces = false) (D : va_G) (g : Nat → ClassId) (ad : Nat → Nat) (I : Nat → Nat → Int32) (L : Nat → Nat → Int64) (S : Nat → Nat) (x : Int32) (ao : Nat) (o : Int64) (v : Value) (hx : x < 0 ∨ ¬ x ≤ nI 999) : CTW l yL_power cL_power 4 (Option.some FieldType.int) [(0, 10, 13, 21)] ({ frames := 7, cells := 1, slots := 6, locals := 121 } : Room) [.ref (ad 0), .int x, .ref ao] D CL (TYS g) (WC ad g I L S ++ [OUT ao o v]) (S := Unit) (fun _ => some (.int (nI 1))) (fun _ => WC ad g I L S ++ [OUT ao o v]) (fun _ => True) 1 6 := by
  refine ctw_of (by decide +kernel) (Nat.le_of_ble_eq_true rfl) ?_
  intro p e s m below meth c A X hT hNC hr hSB hAf
  refine g_cs (ws' := WC ad g I L S ++ [OUT ao o v]) (lv' := [(0, .ref (ad 0)), (1, .int x), (2, .ref ao)]) rfl rfl ?_
  refine g_run X KL_power_0_0 KL_power_0_0_d 3 [(0, .ref (ad 0)), (1, .int x), (2, .ref ao)] [.int x, .ref (ad 0), .ref ao] rfl ?_
  refine gc_callV X hSB hAf hT srcW (hrc1 := (rfl : CL[4]? = some _)) (List.mem_append_left _ (wc_mem (k := 0) (by decide))) rfl (As := [.int x]) (n := 1) (x_X5_power_1 l hfl D g ad I L S x (by assumption)) srcL w_693 w_690 w_691 w_692 w_1 (by decide +kernel) rfl ⟨Nat.le_of_ble_eq_true rfl, Nat.le_of_ble_eq_true rfl⟩ rfl rfl rfl (Nat.le_of_ble_eq_true rfl) ⟨Nat.le_of_ble_eq_true rfl, Nat.le_of_ble_eq_true rfl⟩ dL_power_3 [] ⟨0, 10, 13, 21⟩ [] rfl (fun _ h => absurd h List.not_mem_nil) (by decide) (by decide) w_500 (nw_in n_335 rfl) (fun qx1 => ?_)
  refine g_af (ws' := WC ad g I L S ++ [OUT ao o v]) (st' := [.ref qx1]) (cells' := 1) (slots' := 6) (pc' := 13) rfl rfl rfl rfl rfl ?_
  refine g_run X KL_power_13_3 KL_power_13_3_d 15 [(3, .ref qx1), (0, .ref (ad 0)), (1, .int x), (2, .ref ao)] [.int (nI 1)] rfl ?_
  exact g_iret X hr () (rfl) (trivial) ((List.append_nil _).symm) (Nat.le_of_ble_eq_true rfl) (Nat.le_of_ble_eq_true rfl) dL_power_15

def KL_symbol_0_0 : List (Nat × Instr × Nat) := [(0, .aload 4, 2), (2, .aload_n 0, 1), (3, .lload_n 1, 1), (4, .iload_n 3, 1)]
theorem KL_symbol_0_0_d : ∀ z ∈ KL_symbol_0_0, decode cL_symbol z.1 = .ok z.2 := by decide +kernel
def KL_symbol_8_1 : List (Nat × Instr × Nat) := [(8, .i2l, 1)]
theorem KL_symbol_8_1_d : ∀ z ∈ KL_symbol_8_1, decode cL_symbol z.1 = .ok z.2 := by decide +kernel
def KL_symbol_12_2 : List (Nat × Instr × Nat) := [(12, .goto 11, 3), (23, .iconst 0, 1)]
theorem KL_symbol_12_2_d : ∀ z ∈ KL_symbol_12_2, decode cL_symbol z.1 = .ok z.2 := by decide +kernel
set_option maxHeartbeats 4000000 in
set_option maxRecDepth 100000 in
theorem hc_symbol (l : Launch) (D : va_G) (g : Nat → ClassId) (ad : Nat → Nat) (I : Nat → Nat → Int32) (L : Nat → Nat → Int64) (S : Nat → Nat) (x : Int64) (q : Nat) (ao : Nat) (o : Int64) (v : Value) (hx : dOK x) (hq : q < 15) : CTW l yL_symbol cL_symbol 6 (Option.some FieldType.int) [(0, 12, 15, 19), (0, 12, 19, 21)] ({ frames := 6, cells := 0, slots := 0, locals := 152 } : Room) [.ref (ad 0), .long x, .int (nI q), .ref ao] D CL (TYS g) (WC ad g I L S ++ [OUT ao o v]) (S := Unit) (fun _ => some (.int (nI 0))) (fun _ => WC ad g I L S ++ [OUT ao ((nI (nib (wdO x) q)).toInt64) v]) (fun _ => True) 0 0 := by
  refine ctw_of (by decide +kernel) (Nat.le_of_ble_eq_true rfl) ?_
  intro p e s m below meth c A X hT hNC hr hSB hAf
  refine g_cs (ws' := WC ad g I L S ++ [OUT ao o v]) (lv' := [(0, .ref (ad 0)), (1, .long x), (3, .int (nI q)), (4, .ref ao)]) rfl rfl ?_
  refine g_run X KL_symbol_0_0 KL_symbol_0_0_d 5 [(0, .ref (ad 0)), (1, .long x), (3, .int (nI q)), (4, .ref ao)] [.int (nI q), .long x, .ref (ad 0), .ref ao] rfl ?_
  refine g_callV X hSB hAf (srcW) (hrc1 := (rfl : CL[4]? = some _)) ((List.mem_append_left _ (wc_mem (k := 0) (by decide)))) rfl (As := [.long x, .int (nI q)]) (wr := WC ad g I L S ++ [OUT ao o v]) (n := 2) (c_X5_symbol l D g ad I L S x q (by assumption) (by assumption)) rfl srcL hrdC w_702 w_699 w_700 w_701 w_1 (by decide +kernel) rfl ⟨Nat.le_of_ble_eq_true rfl, Nat.le_of_ble_eq_true rfl⟩ rfl rfl rfl (Nat.le_of_ble_eq_true rfl) ⟨Nat.le_of_ble_eq_true rfl, Nat.le_of_ble_eq_true rfl⟩ dL_symbol_5 (fun hu1 _ => ?_)
  refine g_af (ws' := WC ad g I L S ++ [OUT ao o v]) (st' := [.int (nI (nib (wdO x) q)), .ref ao]) (cells' := 0) (slots' := 0) (pc' := 8) rfl rfl rfl rfl rfl ?_
  refine g_run X KL_symbol_8_1 KL_symbol_8_1_d 9 [(0, .ref (ad 0)), (1, .long x), (3, .int (nI q)), (4, .ref ao)] [.long ((nI (nib (wdO x) q)).toInt64), .ref ao] rfl ?_
  refine g_putN X (ws' := WC ad g I L S ++ [OUT ao ((nI (nib (wdO x) q)).toInt64) v]) hinX6 tyX6 tyX6_ok nmX6 rfl 0 (by decide) (nw_in n_489 rfl) rfl rfl (ty := .long) rfl rfl rfl (28) (wo_get) (Nat.le_of_ble_eq_true rfl) (wo_set) dL_symbol_9 ?_
  refine g_run X KL_symbol_12_2 KL_symbol_12_2_d 24 [(0, .ref (ad 0)), (1, .long x), (3, .int (nI q)), (4, .ref ao)] [.int (nI 0)] rfl ?_
  exact g_iret X hr () (rfl) (trivial) ((List.append_nil _).symm) (Nat.le_of_ble_eq_true rfl) (Nat.le_of_ble_eq_true rfl) dL_symbol_24

def KL_symbol_15_3 : List (Nat × Instr × Nat) := [(15, .astore 5, 2), (17, .iconst 1, 1)]
theorem KL_symbol_15_3_d : ∀ z ∈ KL_symbol_15_3, decode cL_symbol z.1 = .ok z.2 := by decide +kernel
set_option maxHeartbeats 4000000 in
set_option maxRecDepth 100000 in
theorem hx_symbol_1 (l : Launch) (hfl : l.stackTraces = false) (D : va_G) (g : Nat → ClassId) (ad : Nat → Nat) (I : Nat → Nat → Int32) (L : Nat → Nat → Int64) (S : Nat → Nat) (y : Int64) (x : Int32) (ao : Nat) (o : Int64) (v : Value) (hx : x < 0 ∨ ¬ x < nI 15) : CTW l yL_symbol cL_symbol 6 (Option.some FieldType.int) [(0, 12, 15, 19), (0, 12, 19, 21)] ({ frames := 8, cells := 1, slots := 6, locals := 143 } : Room) [.ref (ad 0), .long y, .int x, .ref ao] D CL (TYS g) (WC ad g I L S ++ [OUT ao o v]) (S := Unit) (fun _ => some (.int (nI 1))) (fun _ => WC ad g I L S ++ [OUT ao o v]) (fun _ => True) 1 6 := by
  refine ctw_of (by decide +kernel) (Nat.le_of_ble_eq_true rfl) ?_
  intro p e s m below meth c A X hT hNC hr hSB hAf
  refine g_cs (ws' := WC ad g I L S ++ [OUT ao o v]) (lv' := [(0, .ref (ad 0)), (1, .long y), (3, .int x), (4, .ref ao)]) rfl rfl ?_
  refine g_run X KL_symbol_0_0 KL_symbol_0_0_d 5 [(0, .ref (ad 0)), (1, .long y), (3, .int x), (4, .ref ao)] [.int x, .long y, .ref (ad 0), .ref ao] rfl ?_
  refine gc_callV X hSB hAf hT srcW (hrc1 := (rfl : CL[4]? = some _)) (List.mem_append_left _ (wc_mem (k := 0) (by decide))) rfl (As := [.long y, .int x]) (n := 2) (x_X5_symbol_1 l hfl D g ad I L S y x (by assumption)) srcL w_702 w_699 w_700 w_701 w_1 (by decide +kernel) rfl ⟨Nat.le_of_ble_eq_true rfl, Nat.le_of_ble_eq_true rfl⟩ rfl rfl rfl (Nat.le_of_ble_eq_true rfl) ⟨Nat.le_of_ble_eq_true rfl, Nat.le_of_ble_eq_true rfl⟩ dL_symbol_5 [] ⟨0, 12, 15, 19⟩ [⟨0, 12, 19, 21⟩] rfl (fun _ h => absurd h List.not_mem_nil) (by decide) (by decide) w_499 (nw_in n_410 rfl) (fun qx1 => ?_)
  refine g_af (ws' := WC ad g I L S ++ [OUT ao o v]) (st' := [.ref qx1]) (cells' := 1) (slots' := 6) (pc' := 15) rfl rfl rfl rfl rfl ?_
  refine g_run X KL_symbol_15_3 KL_symbol_15_3_d 18 [(5, .ref qx1), (0, .ref (ad 0)), (1, .long y), (3, .int x), (4, .ref ao)] [.int (nI 1)] rfl ?_
  exact g_iret X hr () (rfl) (trivial) ((List.append_nil _).symm) (Nat.le_of_ble_eq_true rfl) (Nat.le_of_ble_eq_true rfl) dL_symbol_18

def KL_symbol_19_4 : List (Nat × Instr × Nat) := [(19, .astore 5, 2), (21, .iconst 2, 1)]
theorem KL_symbol_19_4_d : ∀ z ∈ KL_symbol_19_4, decode cL_symbol z.1 = .ok z.2 := by decide +kernel
set_option maxHeartbeats 4000000 in
set_option maxRecDepth 100000 in
theorem hx_symbol_2 (l : Launch) (hfl : l.stackTraces = false) (D : va_G) (g : Nat → ClassId) (ad : Nat → Nat) (I : Nat → Nat → Int32) (L : Nat → Nat → Int64) (S : Nat → Nat) (x : Int64) (q : Nat) (ao : Nat) (o : Int64) (v : Value) (hq : q < 15) (hx : ¬ dOK x) : CTW l yL_symbol cL_symbol 6 (Option.some FieldType.int) [(0, 12, 15, 19), (0, 12, 19, 21)] ({ frames := 8, cells := 1, slots := 6, locals := 144 } : Room) [.ref (ad 0), .long x, .int (nI q), .ref ao] D CL (TYS g) (WC ad g I L S ++ [OUT ao o v]) (S := Unit) (fun _ => some (.int (nI 2))) (fun _ => WC ad g I L S ++ [OUT ao o v]) (fun _ => True) 1 6 := by
  refine ctw_of (by decide +kernel) (Nat.le_of_ble_eq_true rfl) ?_
  intro p e s m below meth c A X hT hNC hr hSB hAf
  refine g_cs (ws' := WC ad g I L S ++ [OUT ao o v]) (lv' := [(0, .ref (ad 0)), (1, .long x), (3, .int (nI q)), (4, .ref ao)]) rfl rfl ?_
  refine g_run X KL_symbol_0_0 KL_symbol_0_0_d 5 [(0, .ref (ad 0)), (1, .long x), (3, .int (nI q)), (4, .ref ao)] [.int (nI q), .long x, .ref (ad 0), .ref ao] rfl ?_
  refine gc_callV X hSB hAf hT srcW (hrc1 := (rfl : CL[4]? = some _)) (List.mem_append_left _ (wc_mem (k := 0) (by decide))) rfl (As := [.long x, .int (nI q)]) (n := 2) (x_X5_symbol_2 l hfl D g ad I L S x q (by assumption) (by assumption)) srcL w_702 w_699 w_700 w_701 w_1 (by decide +kernel) rfl ⟨Nat.le_of_ble_eq_true rfl, Nat.le_of_ble_eq_true rfl⟩ rfl rfl rfl (Nat.le_of_ble_eq_true rfl) ⟨Nat.le_of_ble_eq_true rfl, Nat.le_of_ble_eq_true rfl⟩ dL_symbol_5 [⟨0, 12, 15, 19⟩] ⟨0, 12, 19, 21⟩ [] rfl (fun z hz => by cases List.mem_singleton.mp hz; exact ⟨by decide, _, w_499, hNC.1⟩) (by decide) (by decide) w_500 (nw_in n_335 rfl) (fun qx1 => ?_)
  refine g_af (ws' := WC ad g I L S ++ [OUT ao o v]) (st' := [.ref qx1]) (cells' := 1) (slots' := 6) (pc' := 19) rfl rfl rfl rfl rfl ?_
  refine g_run X KL_symbol_19_4 KL_symbol_19_4_d 22 [(5, .ref qx1), (0, .ref (ad 0)), (1, .long x), (3, .int (nI q)), (4, .ref ao)] [.int (nI 2)] rfl ?_
  exact g_iret X hr () (rfl) (trivial) ((List.append_nil _).symm) (Nat.le_of_ble_eq_true rfl) (Nat.le_of_ble_eq_true rfl) dL_symbol_22

def KL_fooled_0_0 : List (Nat × Instr × Nat) := [(0, .aload 6, 2), (2, .aload_n 0, 1), (3, .iload_n 1, 1), (4, .iload_n 2, 1), (5, .iload_n 3, 1), (6, .iload 4, 2), (8, .iload 5, 2)]
theorem KL_fooled_0_0_d : ∀ z ∈ KL_fooled_0_0, decode cL_fooled z.1 = .ok z.2 := by decide +kernel
def KL_fooled_13_1 : List (Nat × Instr × Nat) := [(13, .i2l, 1)]
theorem KL_fooled_13_1_d : ∀ z ∈ KL_fooled_13_1, decode cL_fooled z.1 = .ok z.2 := by decide +kernel
def KL_fooled_17_2 : List (Nat × Instr × Nat) := [(17, .goto 11, 3), (28, .iconst 0, 1)]
theorem KL_fooled_17_2_d : ∀ z ∈ KL_fooled_17_2, decode cL_fooled z.1 = .ok z.2 := by decide +kernel
set_option maxHeartbeats 4000000 in
set_option maxRecDepth 100000 in
theorem hc_fooled (l : Launch) (D : va_G) (g : Nat → ClassId) (ad : Nat → Nat) (I : Nat → Nat → Int32) (L : Nat → Nat → Int64) (S : Nat → Nat) (a : Nat) (b : Nat) (d : Nat) (x : Nat) (y : Nat) (ao : Nat) (o : Int64) (v : Value) (ha : a < 15) (hb : b < 15) (hd : d < 15) (hab : a ≠ b) (had : a ≠ d) (hbd : b ≠ d) (hx1 : 1 ≤ x) (hx : x < 16) (hy1 : 1 ≤ y) (hy : y < 16) : CTW l yL_fooled cL_fooled 8 (Option.some FieldType.int) [(0, 17, 20, 19), (0, 17, 24, 21)] ({ frames := 5, cells := 0, slots := 0, locals := 137 } : Room) [.ref (ad 0), .int (nI a), .int (nI b), .int (nI d), .int (nI x), .int (nI y), .ref ao] D CL (TYS g) (WC ad g I L S ++ [OUT ao o v]) (S := Unit) (fun _ => some (.int (nI 0))) (fun _ => WC ad g I L S ++ [OUT ao ((nI (flV a b d x y 15)).toInt64) v]) (fun _ => True) 0 0 := by
  refine ctw_of (by decide +kernel) (Nat.le_of_ble_eq_true rfl) ?_
  intro p e s m below meth c A X hT hNC hr hSB hAf
  refine g_cs (ws' := WC ad g I L S ++ [OUT ao o v]) (lv' := [(0, .ref (ad 0)), (1, .int (nI a)), (2, .int (nI b)), (3, .int (nI d)), (4, .int (nI x)), (5, .int (nI y)), (6, .ref ao)]) rfl rfl ?_
  refine g_run X KL_fooled_0_0 KL_fooled_0_0_d 10 [(0, .ref (ad 0)), (1, .int (nI a)), (2, .int (nI b)), (3, .int (nI d)), (4, .int (nI x)), (5, .int (nI y)), (6, .ref ao)] [.int (nI y), .int (nI x), .int (nI d), .int (nI b), .int (nI a), .ref (ad 0), .ref ao] rfl ?_
  refine g_callV X hSB hAf (srcW) (hrc1 := (rfl : CL[4]? = some _)) ((List.mem_append_left _ (wc_mem (k := 0) (by decide)))) rfl (As := [.int (nI a), .int (nI b), .int (nI d), .int (nI x), .int (nI y)]) (wr := WC ad g I L S ++ [OUT ao o v]) (n := 5) (c_X5_fooled l D g ad I L S a b d x y (by assumption) (by assumption) (by assumption) (by assumption) (by assumption) (by assumption) (by assumption) (by assumption) (by assumption) (by assumption)) rfl srcL hrdC w_710 w_707 w_708 w_709 w_1 (by decide +kernel) rfl ⟨Nat.le_of_ble_eq_true rfl, Nat.le_of_ble_eq_true rfl⟩ rfl rfl rfl (Nat.le_of_ble_eq_true rfl) ⟨Nat.le_of_ble_eq_true rfl, Nat.le_of_ble_eq_true rfl⟩ dL_fooled_10 (fun hu1 _ => ?_)
  refine g_af (ws' := WC ad g I L S ++ [OUT ao o v]) (st' := [.int (nI (flV a b d x y 15)), .ref ao]) (cells' := 0) (slots' := 0) (pc' := 13) rfl rfl rfl rfl rfl ?_
  refine g_run X KL_fooled_13_1 KL_fooled_13_1_d 14 [(0, .ref (ad 0)), (1, .int (nI a)), (2, .int (nI b)), (3, .int (nI d)), (4, .int (nI x)), (5, .int (nI y)), (6, .ref ao)] [.long ((nI (flV a b d x y 15)).toInt64), .ref ao] rfl ?_
  refine g_putN X (ws' := WC ad g I L S ++ [OUT ao ((nI (flV a b d x y 15)).toInt64) v]) hinX6 tyX6 tyX6_ok nmX6 rfl 0 (by decide) (nw_in n_489 rfl) rfl rfl (ty := .long) rfl rfl rfl (28) (wo_get) (Nat.le_of_ble_eq_true rfl) (wo_set) dL_fooled_14 ?_
  refine g_run X KL_fooled_17_2 KL_fooled_17_2_d 29 [(0, .ref (ad 0)), (1, .int (nI a)), (2, .int (nI b)), (3, .int (nI d)), (4, .int (nI x)), (5, .int (nI y)), (6, .ref ao)] [.int (nI 0)] rfl ?_
  exact g_iret X hr () (rfl) (trivial) ((List.append_nil _).symm) (Nat.le_of_ble_eq_true rfl) (Nat.le_of_ble_eq_true rfl) dL_fooled_29

def KL_fooled_20_3 : List (Nat × Instr × Nat) := [(20, .astore 7, 2), (22, .iconst 1, 1)]
theorem KL_fooled_20_3_d : ∀ z ∈ KL_fooled_20_3, decode cL_fooled z.1 = .ok z.2 := by decide +kernel
set_option maxHeartbeats 4000000 in
set_option maxRecDepth 100000 in
theorem hx_fooled_1 (l : Launch) (hfl : l.stackTraces = false) (D : va_G) (g : Nat → ClassId) (ad : Nat → Nat) (I : Nat → Nat → Int32) (L : Nat → Nat → Int64) (S : Nat → Nat) (x : Int32) (y1 : Int32) (y2 : Int32) (y3 : Int32) (y4 : Int32) (ao : Nat) (o : Int64) (v : Value) (hx : x < 0 ∨ ¬ x < nI 15) : CTW l yL_fooled cL_fooled 8 (Option.some FieldType.int) [(0, 17, 20, 19), (0, 17, 24, 21)] ({ frames := 8, cells := 1, slots := 6, locals := 149 } : Room) [.ref (ad 0), .int x, .int y1, .int y2, .int y3, .int y4, .ref ao] D CL (TYS g) (WC ad g I L S ++ [OUT ao o v]) (S := Unit) (fun _ => some (.int (nI 1))) (fun _ => WC ad g I L S ++ [OUT ao o v]) (fun _ => True) 1 6 := by
  refine ctw_of (by decide +kernel) (Nat.le_of_ble_eq_true rfl) ?_
  intro p e s m below meth c A X hT hNC hr hSB hAf
  refine g_cs (ws' := WC ad g I L S ++ [OUT ao o v]) (lv' := [(0, .ref (ad 0)), (1, .int x), (2, .int y1), (3, .int y2), (4, .int y3), (5, .int y4), (6, .ref ao)]) rfl rfl ?_
  refine g_run X KL_fooled_0_0 KL_fooled_0_0_d 10 [(0, .ref (ad 0)), (1, .int x), (2, .int y1), (3, .int y2), (4, .int y3), (5, .int y4), (6, .ref ao)] [.int y4, .int y3, .int y2, .int y1, .int x, .ref (ad 0), .ref ao] rfl ?_
  refine gc_callV X hSB hAf hT srcW (hrc1 := (rfl : CL[4]? = some _)) (List.mem_append_left _ (wc_mem (k := 0) (by decide))) rfl (As := [.int x, .int y1, .int y2, .int y3, .int y4]) (n := 5) (x_X5_fooled_1 l hfl D g ad I L S x y1 y2 y3 y4 (by assumption)) srcL w_710 w_707 w_708 w_709 w_1 (by decide +kernel) rfl ⟨Nat.le_of_ble_eq_true rfl, Nat.le_of_ble_eq_true rfl⟩ rfl rfl rfl (Nat.le_of_ble_eq_true rfl) ⟨Nat.le_of_ble_eq_true rfl, Nat.le_of_ble_eq_true rfl⟩ dL_fooled_10 [] ⟨0, 17, 20, 19⟩ [⟨0, 17, 24, 21⟩] rfl (fun _ h => absurd h List.not_mem_nil) (by decide) (by decide) w_499 (nw_in n_410 rfl) (fun qx1 => ?_)
  refine g_af (ws' := WC ad g I L S ++ [OUT ao o v]) (st' := [.ref qx1]) (cells' := 1) (slots' := 6) (pc' := 20) rfl rfl rfl rfl rfl ?_
  refine g_run X KL_fooled_20_3 KL_fooled_20_3_d 23 [(7, .ref qx1), (0, .ref (ad 0)), (1, .int x), (2, .int y1), (3, .int y2), (4, .int y3), (5, .int y4), (6, .ref ao)] [.int (nI 1)] rfl ?_
  exact g_iret X hr () (rfl) (trivial) ((List.append_nil _).symm) (Nat.le_of_ble_eq_true rfl) (Nat.le_of_ble_eq_true rfl) dL_fooled_23

set_option maxHeartbeats 4000000 in
set_option maxRecDepth 100000 in
theorem hx_fooled_2 (l : Launch) (hfl : l.stackTraces = false) (D : va_G) (g : Nat → ClassId) (ad : Nat → Nat) (I : Nat → Nat → Int32) (L : Nat → Nat → Int64) (S : Nat → Nat) (a : Nat) (x : Int32) (y1 : Int32) (y2 : Int32) (y3 : Int32) (ao : Nat) (o : Int64) (v : Value) (ha : a < 15) (hx : x < 0 ∨ ¬ x < nI 15) : CTW l yL_fooled cL_fooled 8 (Option.some FieldType.int) [(0, 17, 20, 19), (0, 17, 24, 21)] ({ frames := 8, cells := 1, slots := 6, locals := 149 } : Room) [.ref (ad 0), .int (nI a), .int x, .int y1, .int y2, .int y3, .ref ao] D CL (TYS g) (WC ad g I L S ++ [OUT ao o v]) (S := Unit) (fun _ => some (.int (nI 1))) (fun _ => WC ad g I L S ++ [OUT ao o v]) (fun _ => True) 1 6 := by
  refine ctw_of (by decide +kernel) (Nat.le_of_ble_eq_true rfl) ?_
  intro p e s m below meth c A X hT hNC hr hSB hAf
  refine g_cs (ws' := WC ad g I L S ++ [OUT ao o v]) (lv' := [(0, .ref (ad 0)), (1, .int (nI a)), (2, .int x), (3, .int y1), (4, .int y2), (5, .int y3), (6, .ref ao)]) rfl rfl ?_
  refine g_run X KL_fooled_0_0 KL_fooled_0_0_d 10 [(0, .ref (ad 0)), (1, .int (nI a)), (2, .int x), (3, .int y1), (4, .int y2), (5, .int y3), (6, .ref ao)] [.int y3, .int y2, .int y1, .int x, .int (nI a), .ref (ad 0), .ref ao] rfl ?_
  refine gc_callV X hSB hAf hT srcW (hrc1 := (rfl : CL[4]? = some _)) (List.mem_append_left _ (wc_mem (k := 0) (by decide))) rfl (As := [.int (nI a), .int x, .int y1, .int y2, .int y3]) (n := 5) (x_X5_fooled_2 l hfl D g ad I L S a x y1 y2 y3 (by assumption) (by assumption)) srcL w_710 w_707 w_708 w_709 w_1 (by decide +kernel) rfl ⟨Nat.le_of_ble_eq_true rfl, Nat.le_of_ble_eq_true rfl⟩ rfl rfl rfl (Nat.le_of_ble_eq_true rfl) ⟨Nat.le_of_ble_eq_true rfl, Nat.le_of_ble_eq_true rfl⟩ dL_fooled_10 [] ⟨0, 17, 20, 19⟩ [⟨0, 17, 24, 21⟩] rfl (fun _ h => absurd h List.not_mem_nil) (by decide) (by decide) w_499 (nw_in n_410 rfl) (fun qx1 => ?_)
  refine g_af (ws' := WC ad g I L S ++ [OUT ao o v]) (st' := [.ref qx1]) (cells' := 1) (slots' := 6) (pc' := 20) rfl rfl rfl rfl rfl ?_
  refine g_run X KL_fooled_20_3 KL_fooled_20_3_d 23 [(7, .ref qx1), (0, .ref (ad 0)), (1, .int (nI a)), (2, .int x), (3, .int y1), (4, .int y2), (5, .int y3), (6, .ref ao)] [.int (nI 1)] rfl ?_
  exact g_iret X hr () (rfl) (trivial) ((List.append_nil _).symm) (Nat.le_of_ble_eq_true rfl) (Nat.le_of_ble_eq_true rfl) dL_fooled_23

set_option maxHeartbeats 4000000 in
set_option maxRecDepth 100000 in
theorem hx_fooled_3 (l : Launch) (hfl : l.stackTraces = false) (D : va_G) (g : Nat → ClassId) (ad : Nat → Nat) (I : Nat → Nat → Int32) (L : Nat → Nat → Int64) (S : Nat → Nat) (a : Nat) (b : Nat) (x : Int32) (y1 : Int32) (y2 : Int32) (ao : Nat) (o : Int64) (v : Value) (ha : a < 15) (hb : b < 15) (hx : x < 0 ∨ ¬ x < nI 15) : CTW l yL_fooled cL_fooled 8 (Option.some FieldType.int) [(0, 17, 20, 19), (0, 17, 24, 21)] ({ frames := 8, cells := 1, slots := 6, locals := 149 } : Room) [.ref (ad 0), .int (nI a), .int (nI b), .int x, .int y1, .int y2, .ref ao] D CL (TYS g) (WC ad g I L S ++ [OUT ao o v]) (S := Unit) (fun _ => some (.int (nI 1))) (fun _ => WC ad g I L S ++ [OUT ao o v]) (fun _ => True) 1 6 := by
  refine ctw_of (by decide +kernel) (Nat.le_of_ble_eq_true rfl) ?_
  intro p e s m below meth c A X hT hNC hr hSB hAf
  refine g_cs (ws' := WC ad g I L S ++ [OUT ao o v]) (lv' := [(0, .ref (ad 0)), (1, .int (nI a)), (2, .int (nI b)), (3, .int x), (4, .int y1), (5, .int y2), (6, .ref ao)]) rfl rfl ?_
  refine g_run X KL_fooled_0_0 KL_fooled_0_0_d 10 [(0, .ref (ad 0)), (1, .int (nI a)), (2, .int (nI b)), (3, .int x), (4, .int y1), (5, .int y2), (6, .ref ao)] [.int y2, .int y1, .int x, .int (nI b), .int (nI a), .ref (ad 0), .ref ao] rfl ?_
  refine gc_callV X hSB hAf hT srcW (hrc1 := (rfl : CL[4]? = some _)) (List.mem_append_left _ (wc_mem (k := 0) (by decide))) rfl (As := [.int (nI a), .int (nI b), .int x, .int y1, .int y2]) (n := 5) (x_X5_fooled_3 l hfl D g ad I L S a b x y1 y2 (by assumption) (by assumption) (by assumption)) srcL w_710 w_707 w_708 w_709 w_1 (by decide +kernel) rfl ⟨Nat.le_of_ble_eq_true rfl, Nat.le_of_ble_eq_true rfl⟩ rfl rfl rfl (Nat.le_of_ble_eq_true rfl) ⟨Nat.le_of_ble_eq_true rfl, Nat.le_of_ble_eq_true rfl⟩ dL_fooled_10 [] ⟨0, 17, 20, 19⟩ [⟨0, 17, 24, 21⟩] rfl (fun _ h => absurd h List.not_mem_nil) (by decide) (by decide) w_499 (nw_in n_410 rfl) (fun qx1 => ?_)
  refine g_af (ws' := WC ad g I L S ++ [OUT ao o v]) (st' := [.ref qx1]) (cells' := 1) (slots' := 6) (pc' := 20) rfl rfl rfl rfl rfl ?_
  refine g_run X KL_fooled_20_3 KL_fooled_20_3_d 23 [(7, .ref qx1), (0, .ref (ad 0)), (1, .int (nI a)), (2, .int (nI b)), (3, .int x), (4, .int y1), (5, .int y2), (6, .ref ao)] [.int (nI 1)] rfl ?_
  exact g_iret X hr () (rfl) (trivial) ((List.append_nil _).symm) (Nat.le_of_ble_eq_true rfl) (Nat.le_of_ble_eq_true rfl) dL_fooled_23

def KL_fooled_24_4 : List (Nat × Instr × Nat) := [(24, .astore 7, 2), (26, .iconst 2, 1)]
theorem KL_fooled_24_4_d : ∀ z ∈ KL_fooled_24_4, decode cL_fooled z.1 = .ok z.2 := by decide +kernel
set_option maxHeartbeats 4000000 in
set_option maxRecDepth 100000 in
theorem hx_fooled_4 (l : Launch) (hfl : l.stackTraces = false) (D : va_G) (g : Nat → ClassId) (ad : Nat → Nat) (I : Nat → Nat → Int32) (L : Nat → Nat → Int64) (S : Nat → Nat) (a : Nat) (b : Nat) (d : Nat) (y1 : Int32) (y2 : Int32) (ao : Nat) (o : Int64) (v : Value) (ha : a < 15) (hb : b < 15) (hd : d < 15) (hx : a = b ∨ a = d ∨ b = d) : CTW l yL_fooled cL_fooled 8 (Option.some FieldType.int) [(0, 17, 20, 19), (0, 17, 24, 21)] ({ frames := 7, cells := 1, slots := 6, locals := 129 } : Room) [.ref (ad 0), .int (nI a), .int (nI b), .int (nI d), .int y1, .int y2, .ref ao] D CL (TYS g) (WC ad g I L S ++ [OUT ao o v]) (S := Unit) (fun _ => some (.int (nI 2))) (fun _ => WC ad g I L S ++ [OUT ao o v]) (fun _ => True) 1 6 := by
  refine ctw_of (by decide +kernel) (Nat.le_of_ble_eq_true rfl) ?_
  intro p e s m below meth c A X hT hNC hr hSB hAf
  refine g_cs (ws' := WC ad g I L S ++ [OUT ao o v]) (lv' := [(0, .ref (ad 0)), (1, .int (nI a)), (2, .int (nI b)), (3, .int (nI d)), (4, .int y1), (5, .int y2), (6, .ref ao)]) rfl rfl ?_
  refine g_run X KL_fooled_0_0 KL_fooled_0_0_d 10 [(0, .ref (ad 0)), (1, .int (nI a)), (2, .int (nI b)), (3, .int (nI d)), (4, .int y1), (5, .int y2), (6, .ref ao)] [.int y2, .int y1, .int (nI d), .int (nI b), .int (nI a), .ref (ad 0), .ref ao] rfl ?_
  refine gc_callV X hSB hAf hT srcW (hrc1 := (rfl : CL[4]? = some _)) (List.mem_append_left _ (wc_mem (k := 0) (by decide))) rfl (As := [.int (nI a), .int (nI b), .int (nI d), .int y1, .int y2]) (n := 5) (x_X5_fooled_4 l hfl D g ad I L S a b d y1 y2 (by assumption) (by assumption) (by assumption) (by assumption)) srcL w_710 w_707 w_708 w_709 w_1 (by decide +kernel) rfl ⟨Nat.le_of_ble_eq_true rfl, Nat.le_of_ble_eq_true rfl⟩ rfl rfl rfl (Nat.le_of_ble_eq_true rfl) ⟨Nat.le_of_ble_eq_true rfl, Nat.le_of_ble_eq_true rfl⟩ dL_fooled_10 [⟨0, 17, 20, 19⟩] ⟨0, 17, 24, 21⟩ [] rfl (fun z hz => by cases List.mem_singleton.mp hz; exact ⟨by decide, _, w_499, hNC.1⟩) (by decide) (by decide) w_500 (nw_in n_335 rfl) (fun qx1 => ?_)
  refine g_af (ws' := WC ad g I L S ++ [OUT ao o v]) (st' := [.ref qx1]) (cells' := 1) (slots' := 6) (pc' := 24) rfl rfl rfl rfl rfl ?_
  refine g_run X KL_fooled_24_4 KL_fooled_24_4_d 27 [(7, .ref qx1), (0, .ref (ad 0)), (1, .int (nI a)), (2, .int (nI b)), (3, .int (nI d)), (4, .int y1), (5, .int y2), (6, .ref ao)] [.int (nI 2)] rfl ?_
  exact g_iret X hr () (rfl) (trivial) ((List.append_nil _).symm) (Nat.le_of_ble_eq_true rfl) (Nat.le_of_ble_eq_true rfl) dL_fooled_27

set_option maxHeartbeats 4000000 in
set_option maxRecDepth 100000 in
theorem hx_fooled_5 (l : Launch) (hfl : l.stackTraces = false) (D : va_G) (g : Nat → ClassId) (ad : Nat → Nat) (I : Nat → Nat → Int32) (L : Nat → Nat → Int64) (S : Nat → Nat) (a : Nat) (b : Nat) (d : Nat) (x : Int32) (y1 : Int32) (ao : Nat) (o : Int64) (v : Value) (ha : a < 15) (hb : b < 15) (hd : d < 15) (hab : a ≠ b) (had : a ≠ d) (hbd : b ≠ d) (hx : x < nI 1 ∨ ¬ x ≤ nI 15) : CTW l yL_fooled cL_fooled 8 (Option.some FieldType.int) [(0, 17, 20, 19), (0, 17, 24, 21)] ({ frames := 8, cells := 1, slots := 6, locals := 149 } : Room) [.ref (ad 0), .int (nI a), .int (nI b), .int (nI d), .int x, .int y1, .ref ao] D CL (TYS g) (WC ad g I L S ++ [OUT ao o v]) (S := Unit) (fun _ => some (.int (nI 2))) (fun _ => WC ad g I L S ++ [OUT ao o v]) (fun _ => True) 1 6 := by
  refine ctw_of (by decide +kernel) (Nat.le_of_ble_eq_true rfl) ?_
  intro p e s m below meth c A X hT hNC hr hSB hAf
  refine g_cs (ws' := WC ad g I L S ++ [OUT ao o v]) (lv' := [(0, .ref (ad 0)), (1, .int (nI a)), (2, .int (nI b)), (3, .int (nI d)), (4, .int x), (5, .int y1), (6, .ref ao)]) rfl rfl ?_
  refine g_run X KL_fooled_0_0 KL_fooled_0_0_d 10 [(0, .ref (ad 0)), (1, .int (nI a)), (2, .int (nI b)), (3, .int (nI d)), (4, .int x), (5, .int y1), (6, .ref ao)] [.int y1, .int x, .int (nI d), .int (nI b), .int (nI a), .ref (ad 0), .ref ao] rfl ?_
  refine gc_callV X hSB hAf hT srcW (hrc1 := (rfl : CL[4]? = some _)) (List.mem_append_left _ (wc_mem (k := 0) (by decide))) rfl (As := [.int (nI a), .int (nI b), .int (nI d), .int x, .int y1]) (n := 5) (x_X5_fooled_5 l hfl D g ad I L S a b d x y1 (by assumption) (by assumption) (by assumption) (by assumption) (by assumption) (by assumption) (by assumption)) srcL w_710 w_707 w_708 w_709 w_1 (by decide +kernel) rfl ⟨Nat.le_of_ble_eq_true rfl, Nat.le_of_ble_eq_true rfl⟩ rfl rfl rfl (Nat.le_of_ble_eq_true rfl) ⟨Nat.le_of_ble_eq_true rfl, Nat.le_of_ble_eq_true rfl⟩ dL_fooled_10 [⟨0, 17, 20, 19⟩] ⟨0, 17, 24, 21⟩ [] rfl (fun z hz => by cases List.mem_singleton.mp hz; exact ⟨by decide, _, w_499, hNC.1⟩) (by decide) (by decide) w_500 (nw_in n_335 rfl) (fun qx1 => ?_)
  refine g_af (ws' := WC ad g I L S ++ [OUT ao o v]) (st' := [.ref qx1]) (cells' := 1) (slots' := 6) (pc' := 24) rfl rfl rfl rfl rfl ?_
  refine g_run X KL_fooled_24_4 KL_fooled_24_4_d 27 [(7, .ref qx1), (0, .ref (ad 0)), (1, .int (nI a)), (2, .int (nI b)), (3, .int (nI d)), (4, .int x), (5, .int y1), (6, .ref ao)] [.int (nI 2)] rfl ?_
  exact g_iret X hr () (rfl) (trivial) ((List.append_nil _).symm) (Nat.le_of_ble_eq_true rfl) (Nat.le_of_ble_eq_true rfl) dL_fooled_27

set_option maxHeartbeats 4000000 in
set_option maxRecDepth 100000 in
theorem hx_fooled_6 (l : Launch) (hfl : l.stackTraces = false) (D : va_G) (g : Nat → ClassId) (ad : Nat → Nat) (I : Nat → Nat → Int32) (L : Nat → Nat → Int64) (S : Nat → Nat) (a : Nat) (b : Nat) (d : Nat) (vv : Nat) (x : Int32) (ao : Nat) (o : Int64) (v : Value) (ha : a < 15) (hb : b < 15) (hd : d < 15) (hab : a ≠ b) (had : a ≠ d) (hbd : b ≠ d) (hv1 : 1 ≤ vv) (hv : vv < 16) (hx : x < nI 1 ∨ ¬ x ≤ nI 15) : CTW l yL_fooled cL_fooled 8 (Option.some FieldType.int) [(0, 17, 20, 19), (0, 17, 24, 21)] ({ frames := 8, cells := 1, slots := 6, locals := 149 } : Room) [.ref (ad 0), .int (nI a), .int (nI b), .int (nI d), .int (nI vv), .int x, .ref ao] D CL (TYS g) (WC ad g I L S ++ [OUT ao o v]) (S := Unit) (fun _ => some (.int (nI 2))) (fun _ => WC ad g I L S ++ [OUT ao o v]) (fun _ => True) 1 6 := by
  refine ctw_of (by decide +kernel) (Nat.le_of_ble_eq_true rfl) ?_
  intro p e s m below meth c A X hT hNC hr hSB hAf
  refine g_cs (ws' := WC ad g I L S ++ [OUT ao o v]) (lv' := [(0, .ref (ad 0)), (1, .int (nI a)), (2, .int (nI b)), (3, .int (nI d)), (4, .int (nI vv)), (5, .int x), (6, .ref ao)]) rfl rfl ?_
  refine g_run X KL_fooled_0_0 KL_fooled_0_0_d 10 [(0, .ref (ad 0)), (1, .int (nI a)), (2, .int (nI b)), (3, .int (nI d)), (4, .int (nI vv)), (5, .int x), (6, .ref ao)] [.int x, .int (nI vv), .int (nI d), .int (nI b), .int (nI a), .ref (ad 0), .ref ao] rfl ?_
  refine gc_callV X hSB hAf hT srcW (hrc1 := (rfl : CL[4]? = some _)) (List.mem_append_left _ (wc_mem (k := 0) (by decide))) rfl (As := [.int (nI a), .int (nI b), .int (nI d), .int (nI vv), .int x]) (n := 5) (x_X5_fooled_6 l hfl D g ad I L S a b d vv x (by assumption) (by assumption) (by assumption) (by assumption) (by assumption) (by assumption) (by assumption) (by assumption) (by assumption)) srcL w_710 w_707 w_708 w_709 w_1 (by decide +kernel) rfl ⟨Nat.le_of_ble_eq_true rfl, Nat.le_of_ble_eq_true rfl⟩ rfl rfl rfl (Nat.le_of_ble_eq_true rfl) ⟨Nat.le_of_ble_eq_true rfl, Nat.le_of_ble_eq_true rfl⟩ dL_fooled_10 [⟨0, 17, 20, 19⟩] ⟨0, 17, 24, 21⟩ [] rfl (fun z hz => by cases List.mem_singleton.mp hz; exact ⟨by decide, _, w_499, hNC.1⟩) (by decide) (by decide) w_500 (nw_in n_335 rfl) (fun qx1 => ?_)
  refine g_af (ws' := WC ad g I L S ++ [OUT ao o v]) (st' := [.ref qx1]) (cells' := 1) (slots' := 6) (pc' := 24) rfl rfl rfl rfl rfl ?_
  refine g_run X KL_fooled_24_4 KL_fooled_24_4_d 27 [(7, .ref qx1), (0, .ref (ad 0)), (1, .int (nI a)), (2, .int (nI b)), (3, .int (nI d)), (4, .int (nI vv)), (5, .int x), (6, .ref ao)] [.int (nI 2)] rfl ?_
  exact g_iret X hr () (rfl) (trivial) ((List.append_nil _).symm) (Nat.le_of_ble_eq_true rfl) (Nat.le_of_ble_eq_true rfl) dL_fooled_27

def KL_seen_0_0 : List (Nat × Instr × Nat) := [(0, .aload_n 3, 1), (1, .aload_n 0, 1), (2, .iload_n 1, 1), (3, .iload_n 2, 1)]
theorem KL_seen_0_0_d : ∀ z ∈ KL_seen_0_0, decode cL_seen z.1 = .ok z.2 := by decide +kernel
def KL_seen_7_1 : List (Nat × Instr × Nat) := [(7, .i2l, 1)]
theorem KL_seen_7_1_d : ∀ z ∈ KL_seen_7_1, decode cL_seen z.1 = .ok z.2 := by decide +kernel
def KL_seen_11_2 : List (Nat × Instr × Nat) := [(11, .goto 7, 3), (18, .iconst 0, 1)]
theorem KL_seen_11_2_d : ∀ z ∈ KL_seen_11_2, decode cL_seen z.1 = .ok z.2 := by decide +kernel
set_option maxHeartbeats 4000000 in
set_option maxRecDepth 100000 in
theorem hc_seen (l : Launch) (D : va_G) (g : Nat → ClassId) (ad : Nat → Nat) (I : Nat → Nat → Int32) (L : Nat → Nat → Int64) (S : Nat → Nat) (q : Nat) (r : Nat) (ao : Nat) (o : Int64) (v : Value) (hS18 : ∀ p, p < 15 → S p < 18) (hq : q < 16) (hr : r < 15) : CTW l yL_seen cL_seen 5 (Option.some FieldType.int) [(0, 11, 14, 19)] ({ frames := 3, cells := 0, slots := 0, locals := 66 } : Room) [.ref (ad 0), .int (nI q), .int (nI r), .ref ao] D CL (TYS g) (WC ad g I L S ++ [OUT ao o v]) (S := Unit) (fun _ => some (.int (nI 0))) (fun _ => WC ad g I L S ++ [OUT ao ((nI (rd I L (S r) q)).toInt64) v]) (fun _ => True) 0 0 := by
  refine ctw_of (by decide +kernel) (Nat.le_of_ble_eq_true rfl) ?_
  intro p e s m below meth c A X hT hNC hr hSB hAf
  refine g_cs (ws' := WC ad g I L S ++ [OUT ao o v]) (lv' := [(0, .ref (ad 0)), (1, .int (nI q)), (2, .int (nI r)), (3, .ref ao)]) rfl rfl ?_
  refine g_run X KL_seen_0_0 KL_seen_0_0_d 4 [(0, .ref (ad 0)), (1, .int (nI q)), (2, .int (nI r)), (3, .ref ao)] [.int (nI r), .int (nI q), .ref (ad 0), .ref ao] rfl ?_
  refine g_callV X hSB hAf (srcW) (hrc1 := (rfl : CL[4]? = some _)) ((List.mem_append_left _ (wc_mem (k := 0) (by decide)))) rfl (As := [.int (nI q), .int (nI r)]) (wr := WC ad g I L S ++ [OUT ao o v]) (n := 2) (c_X5_seen l D g ad I L S q r (by assumption) (by assumption) (by assumption)) rfl srcL hrdC w_720 w_717 w_718 w_719 w_1 (by decide +kernel) rfl ⟨Nat.le_of_ble_eq_true rfl, Nat.le_of_ble_eq_true rfl⟩ rfl rfl rfl (Nat.le_of_ble_eq_true rfl) ⟨Nat.le_of_ble_eq_true rfl, Nat.le_of_ble_eq_true rfl⟩ dL_seen_4 (fun hu1 _ => ?_)
  refine g_af (ws' := WC ad g I L S ++ [OUT ao o v]) (st' := [.int (nI (rd I L (S r) q)), .ref ao]) (cells' := 0) (slots' := 0) (pc' := 7) rfl rfl rfl rfl rfl ?_
  refine g_run X KL_seen_7_1 KL_seen_7_1_d 8 [(0, .ref (ad 0)), (1, .int (nI q)), (2, .int (nI r)), (3, .ref ao)] [.long ((nI (rd I L (S r) q)).toInt64), .ref ao] rfl ?_
  refine g_putN X (ws' := WC ad g I L S ++ [OUT ao ((nI (rd I L (S r) q)).toInt64) v]) hinX6 tyX6 tyX6_ok nmX6 rfl 0 (by decide) (nw_in n_489 rfl) rfl rfl (ty := .long) rfl rfl rfl (28) (wo_get) (Nat.le_of_ble_eq_true rfl) (wo_set) dL_seen_8 ?_
  refine g_run X KL_seen_11_2 KL_seen_11_2_d 19 [(0, .ref (ad 0)), (1, .int (nI q)), (2, .int (nI r)), (3, .ref ao)] [.int (nI 0)] rfl ?_
  exact g_iret X hr () (rfl) (trivial) ((List.append_nil _).symm) (Nat.le_of_ble_eq_true rfl) (Nat.le_of_ble_eq_true rfl) dL_seen_19

def KL_seen_14_3 : List (Nat × Instr × Nat) := [(14, .astore 4, 2), (16, .iconst 1, 1)]
theorem KL_seen_14_3_d : ∀ z ∈ KL_seen_14_3, decode cL_seen z.1 = .ok z.2 := by decide +kernel
set_option maxHeartbeats 4000000 in
set_option maxRecDepth 100000 in
theorem hx_seen_1 (l : Launch) (hfl : l.stackTraces = false) (D : va_G) (g : Nat → ClassId) (ad : Nat → Nat) (I : Nat → Nat → Int32) (L : Nat → Nat → Int64) (S : Nat → Nat) (x : Int32) (y1 : Int32) (ao : Nat) (o : Int64) (v : Value) (hx : x < 0 ∨ ¬ x < nI 16) : CTW l yL_seen cL_seen 5 (Option.some FieldType.int) [(0, 11, 14, 19)] ({ frames := 8, cells := 1, slots := 6, locals := 142 } : Room) [.ref (ad 0), .int x, .int y1, .ref ao] D CL (TYS g) (WC ad g I L S ++ [OUT ao o v]) (S := Unit) (fun _ => some (.int (nI 1))) (fun _ => WC ad g I L S ++ [OUT ao o v]) (fun _ => True) 1 6 := by
  refine ctw_of (by decide +kernel) (Nat.le_of_ble_eq_true rfl) ?_
  intro p e s m below meth c A X hT hNC hr hSB hAf
  refine g_cs (ws' := WC ad g I L S ++ [OUT ao o v]) (lv' := [(0, .ref (ad 0)), (1, .int x), (2, .int y1), (3, .ref ao)]) rfl rfl ?_
  refine g_run X KL_seen_0_0 KL_seen_0_0_d 4 [(0, .ref (ad 0)), (1, .int x), (2, .int y1), (3, .ref ao)] [.int y1, .int x, .ref (ad 0), .ref ao] rfl ?_
  refine gc_callV X hSB hAf hT srcW (hrc1 := (rfl : CL[4]? = some _)) (List.mem_append_left _ (wc_mem (k := 0) (by decide))) rfl (As := [.int x, .int y1]) (n := 2) (x_X5_seen_1 l hfl D g ad I L S x y1 (by assumption)) srcL w_720 w_717 w_718 w_719 w_1 (by decide +kernel) rfl ⟨Nat.le_of_ble_eq_true rfl, Nat.le_of_ble_eq_true rfl⟩ rfl rfl rfl (Nat.le_of_ble_eq_true rfl) ⟨Nat.le_of_ble_eq_true rfl, Nat.le_of_ble_eq_true rfl⟩ dL_seen_4 [] ⟨0, 11, 14, 19⟩ [] rfl (fun _ h => absurd h List.not_mem_nil) (by decide) (by decide) w_499 (nw_in n_410 rfl) (fun qx1 => ?_)
  refine g_af (ws' := WC ad g I L S ++ [OUT ao o v]) (st' := [.ref qx1]) (cells' := 1) (slots' := 6) (pc' := 14) rfl rfl rfl rfl rfl ?_
  refine g_run X KL_seen_14_3 KL_seen_14_3_d 17 [(4, .ref qx1), (0, .ref (ad 0)), (1, .int x), (2, .int y1), (3, .ref ao)] [.int (nI 1)] rfl ?_
  exact g_iret X hr () (rfl) (trivial) ((List.append_nil _).symm) (Nat.le_of_ble_eq_true rfl) (Nat.le_of_ble_eq_true rfl) dL_seen_17

set_option maxHeartbeats 4000000 in
set_option maxRecDepth 100000 in
theorem hx_seen_2 (l : Launch) (hfl : l.stackTraces = false) (D : va_G) (g : Nat → ClassId) (ad : Nat → Nat) (I : Nat → Nat → Int32) (L : Nat → Nat → Int64) (S : Nat → Nat) (q : Nat) (x : Int32) (ao : Nat) (o : Int64) (v : Value) (hq : q < 16) (hx : x < 0 ∨ ¬ x < nI 15) : CTW l yL_seen cL_seen 5 (Option.some FieldType.int) [(0, 11, 14, 19)] ({ frames := 8, cells := 1, slots := 6, locals := 142 } : Room) [.ref (ad 0), .int (nI q), .int x, .ref ao] D CL (TYS g) (WC ad g I L S ++ [OUT ao o v]) (S := Unit) (fun _ => some (.int (nI 1))) (fun _ => WC ad g I L S ++ [OUT ao o v]) (fun _ => True) 1 6 := by
  refine ctw_of (by decide +kernel) (Nat.le_of_ble_eq_true rfl) ?_
  intro p e s m below meth c A X hT hNC hr hSB hAf
  refine g_cs (ws' := WC ad g I L S ++ [OUT ao o v]) (lv' := [(0, .ref (ad 0)), (1, .int (nI q)), (2, .int x), (3, .ref ao)]) rfl rfl ?_
  refine g_run X KL_seen_0_0 KL_seen_0_0_d 4 [(0, .ref (ad 0)), (1, .int (nI q)), (2, .int x), (3, .ref ao)] [.int x, .int (nI q), .ref (ad 0), .ref ao] rfl ?_
  refine gc_callV X hSB hAf hT srcW (hrc1 := (rfl : CL[4]? = some _)) (List.mem_append_left _ (wc_mem (k := 0) (by decide))) rfl (As := [.int (nI q), .int x]) (n := 2) (x_X5_seen_2 l hfl D g ad I L S q x (by assumption) (by assumption)) srcL w_720 w_717 w_718 w_719 w_1 (by decide +kernel) rfl ⟨Nat.le_of_ble_eq_true rfl, Nat.le_of_ble_eq_true rfl⟩ rfl rfl rfl (Nat.le_of_ble_eq_true rfl) ⟨Nat.le_of_ble_eq_true rfl, Nat.le_of_ble_eq_true rfl⟩ dL_seen_4 [] ⟨0, 11, 14, 19⟩ [] rfl (fun _ h => absurd h List.not_mem_nil) (by decide) (by decide) w_499 (nw_in n_410 rfl) (fun qx1 => ?_)
  refine g_af (ws' := WC ad g I L S ++ [OUT ao o v]) (st' := [.ref qx1]) (cells' := 1) (slots' := 6) (pc' := 14) rfl rfl rfl rfl rfl ?_
  refine g_run X KL_seen_14_3 KL_seen_14_3_d 17 [(4, .ref qx1), (0, .ref (ad 0)), (1, .int (nI q)), (2, .int x), (3, .ref ao)] [.int (nI 1)] rfl ?_
  exact g_iret X hr () (rfl) (trivial) ((List.append_nil _).symm) (Nat.le_of_ble_eq_true rfl) (Nat.le_of_ble_eq_true rfl) dL_seen_17

def KL_sum_0_0 : List (Nat × Instr × Nat) := [(0, .aload_n 3, 1), (1, .aload_n 0, 1), (2, .iload_n 1, 1), (3, .iload_n 2, 1)]
theorem KL_sum_0_0_d : ∀ z ∈ KL_sum_0_0, decode cL_sum z.1 = .ok z.2 := by decide +kernel
def KL_sum_7_1 : List (Nat × Instr × Nat) := [(7, .i2l, 1)]
theorem KL_sum_7_1_d : ∀ z ∈ KL_sum_7_1, decode cL_sum z.1 = .ok z.2 := by decide +kernel
def KL_sum_11_2 : List (Nat × Instr × Nat) := [(11, .goto 11, 3), (22, .iconst 0, 1)]
theorem KL_sum_11_2_d : ∀ z ∈ KL_sum_11_2, decode cL_sum z.1 = .ok z.2 := by decide +kernel
set_option maxHeartbeats 4000000 in
set_option maxRecDepth 100000 in
theorem hc_sum (l : Launch) (D : va_G) (g : Nat → ClassId) (ad : Nat → Nat) (I : Nat → Nat → Int32) (L : Nat → Nat → Int64) (S : Nat → Nat) (q : Nat) (j : Nat) (ao : Nat) (o : Int64) (v : Value) (hS18 : ∀ p, p < 15 → S p < 18) (hq : q < 16) (h1 : 1 ≤ j) (hj : j < 5) : CTW l yL_sum cL_sum 5 (Option.some FieldType.int) [(0, 11, 14, 19), (0, 11, 18, 21)] ({ frames := 4, cells := 0, slots := 0, locals := 90 } : Room) [.ref (ad 0), .int (nI q), .int (nI j), .ref ao] D CL (TYS g) (WC ad g I L S ++ [OUT ao o v]) (S := Unit) (fun _ => some (.int (nI 0))) (fun _ => WC ad g I L S ++ [OUT ao ((nI (sm (rwd I L S q 15) j 15)).toInt64) v]) (fun _ => True) 0 0 := by
  refine ctw_of (by decide +kernel) (Nat.le_of_ble_eq_true rfl) ?_
  intro p e s m below meth c A X hT hNC hr hSB hAf
  refine g_cs (ws' := WC ad g I L S ++ [OUT ao o v]) (lv' := [(0, .ref (ad 0)), (1, .int (nI q)), (2, .int (nI j)), (3, .ref ao)]) rfl rfl ?_
  refine g_run X KL_sum_0_0 KL_sum_0_0_d 4 [(0, .ref (ad 0)), (1, .int (nI q)), (2, .int (nI j)), (3, .ref ao)] [.int (nI j), .int (nI q), .ref (ad 0), .ref ao] rfl ?_
  refine g_callV X hSB hAf (srcW) (hrc1 := (rfl : CL[4]? = some _)) ((List.mem_append_left _ (wc_mem (k := 0) (by decide)))) rfl (As := [.int (nI q), .int (nI j)]) (wr := WC ad g I L S ++ [OUT ao o v]) (n := 2) (c_X5_sum l D g ad I L S q j (by assumption) (by assumption) (by assumption) (by assumption)) rfl srcL hrdC w_728 w_725 w_726 w_727 w_1 (by decide +kernel) rfl ⟨Nat.le_of_ble_eq_true rfl, Nat.le_of_ble_eq_true rfl⟩ rfl rfl rfl (Nat.le_of_ble_eq_true rfl) ⟨Nat.le_of_ble_eq_true rfl, Nat.le_of_ble_eq_true rfl⟩ dL_sum_4 (fun hu1 _ => ?_)
  refine g_af (ws' := WC ad g I L S ++ [OUT ao o v]) (st' := [.int (nI (sm (rwd I L S q 15) j 15)), .ref ao]) (cells' := 0) (slots' := 0) (pc' := 7) rfl rfl rfl rfl rfl ?_
  refine g_run X KL_sum_7_1 KL_sum_7_1_d 8 [(0, .ref (ad 0)), (1, .int (nI q)), (2, .int (nI j)), (3, .ref ao)] [.long ((nI (sm (rwd I L S q 15) j 15)).toInt64), .ref ao] rfl ?_
  refine g_putN X (ws' := WC ad g I L S ++ [OUT ao ((nI (sm (rwd I L S q 15) j 15)).toInt64) v]) hinX6 tyX6 tyX6_ok nmX6 rfl 0 (by decide) (nw_in n_489 rfl) rfl rfl (ty := .long) rfl rfl rfl (28) (wo_get) (Nat.le_of_ble_eq_true rfl) (wo_set) dL_sum_8 ?_
  refine g_run X KL_sum_11_2 KL_sum_11_2_d 23 [(0, .ref (ad 0)), (1, .int (nI q)), (2, .int (nI j)), (3, .ref ao)] [.int (nI 0)] rfl ?_
  exact g_iret X hr () (rfl) (trivial) ((List.append_nil _).symm) (Nat.le_of_ble_eq_true rfl) (Nat.le_of_ble_eq_true rfl) dL_sum_23

def KL_sum_14_3 : List (Nat × Instr × Nat) := [(14, .astore 4, 2), (16, .iconst 1, 1)]
theorem KL_sum_14_3_d : ∀ z ∈ KL_sum_14_3, decode cL_sum z.1 = .ok z.2 := by decide +kernel
set_option maxHeartbeats 4000000 in
set_option maxRecDepth 100000 in
theorem hx_sum_1 (l : Launch) (hfl : l.stackTraces = false) (D : va_G) (g : Nat → ClassId) (ad : Nat → Nat) (I : Nat → Nat → Int32) (L : Nat → Nat → Int64) (S : Nat → Nat) (x : Int32) (y1 : Int32) (ao : Nat) (o : Int64) (v : Value) (hx : x < 0 ∨ ¬ x < nI 16) : CTW l yL_sum cL_sum 5 (Option.some FieldType.int) [(0, 11, 14, 19), (0, 11, 18, 21)] ({ frames := 8, cells := 1, slots := 6, locals := 142 } : Room) [.ref (ad 0), .int x, .int y1, .ref ao] D CL (TYS g) (WC ad g I L S ++ [OUT ao o v]) (S := Unit) (fun _ => some (.int (nI 1))) (fun _ => WC ad g I L S ++ [OUT ao o v]) (fun _ => True) 1 6 := by
  refine ctw_of (by decide +kernel) (Nat.le_of_ble_eq_true rfl) ?_
  intro p e s m below meth c A X hT hNC hr hSB hAf
  refine g_cs (ws' := WC ad g I L S ++ [OUT ao o v]) (lv' := [(0, .ref (ad 0)), (1, .int x), (2, .int y1), (3, .ref ao)]) rfl rfl ?_
  refine g_run X KL_sum_0_0 KL_sum_0_0_d 4 [(0, .ref (ad 0)), (1, .int x), (2, .int y1), (3, .ref ao)] [.int y1, .int x, .ref (ad 0), .ref ao] rfl ?_
  refine gc_callV X hSB hAf hT srcW (hrc1 := (rfl : CL[4]? = some _)) (List.mem_append_left _ (wc_mem (k := 0) (by decide))) rfl (As := [.int x, .int y1]) (n := 2) (x_X5_sum_1 l hfl D g ad I L S x y1 (by assumption)) srcL w_728 w_725 w_726 w_727 w_1 (by decide +kernel) rfl ⟨Nat.le_of_ble_eq_true rfl, Nat.le_of_ble_eq_true rfl⟩ rfl rfl rfl (Nat.le_of_ble_eq_true rfl) ⟨Nat.le_of_ble_eq_true rfl, Nat.le_of_ble_eq_true rfl⟩ dL_sum_4 [] ⟨0, 11, 14, 19⟩ [⟨0, 11, 18, 21⟩] rfl (fun _ h => absurd h List.not_mem_nil) (by decide) (by decide) w_499 (nw_in n_410 rfl) (fun qx1 => ?_)
  refine g_af (ws' := WC ad g I L S ++ [OUT ao o v]) (st' := [.ref qx1]) (cells' := 1) (slots' := 6) (pc' := 14) rfl rfl rfl rfl rfl ?_
  refine g_run X KL_sum_14_3 KL_sum_14_3_d 17 [(4, .ref qx1), (0, .ref (ad 0)), (1, .int x), (2, .int y1), (3, .ref ao)] [.int (nI 1)] rfl ?_
  exact g_iret X hr () (rfl) (trivial) ((List.append_nil _).symm) (Nat.le_of_ble_eq_true rfl) (Nat.le_of_ble_eq_true rfl) dL_sum_17

def KL_sum_18_4 : List (Nat × Instr × Nat) := [(18, .astore 4, 2), (20, .iconst 2, 1)]
theorem KL_sum_18_4_d : ∀ z ∈ KL_sum_18_4, decode cL_sum z.1 = .ok z.2 := by decide +kernel
set_option maxHeartbeats 4000000 in
set_option maxRecDepth 100000 in
theorem hx_sum_2 (l : Launch) (hfl : l.stackTraces = false) (D : va_G) (g : Nat → ClassId) (ad : Nat → Nat) (I : Nat → Nat → Int32) (L : Nat → Nat → Int64) (S : Nat → Nat) (q : Nat) (x : Int32) (ao : Nat) (o : Int64) (v : Value) (hq : q < 16) (hx : x < nI 1 ∨ ¬ x ≤ nI 4) : CTW l yL_sum cL_sum 5 (Option.some FieldType.int) [(0, 11, 14, 19), (0, 11, 18, 21)] ({ frames := 7, cells := 1, slots := 6, locals := 122 } : Room) [.ref (ad 0), .int (nI q), .int x, .ref ao] D CL (TYS g) (WC ad g I L S ++ [OUT ao o v]) (S := Unit) (fun _ => some (.int (nI 2))) (fun _ => WC ad g I L S ++ [OUT ao o v]) (fun _ => True) 1 6 := by
  refine ctw_of (by decide +kernel) (Nat.le_of_ble_eq_true rfl) ?_
  intro p e s m below meth c A X hT hNC hr hSB hAf
  refine g_cs (ws' := WC ad g I L S ++ [OUT ao o v]) (lv' := [(0, .ref (ad 0)), (1, .int (nI q)), (2, .int x), (3, .ref ao)]) rfl rfl ?_
  refine g_run X KL_sum_0_0 KL_sum_0_0_d 4 [(0, .ref (ad 0)), (1, .int (nI q)), (2, .int x), (3, .ref ao)] [.int x, .int (nI q), .ref (ad 0), .ref ao] rfl ?_
  refine gc_callV X hSB hAf hT srcW (hrc1 := (rfl : CL[4]? = some _)) (List.mem_append_left _ (wc_mem (k := 0) (by decide))) rfl (As := [.int (nI q), .int x]) (n := 2) (x_X5_sum_2 l hfl D g ad I L S q x (by assumption) (by assumption)) srcL w_728 w_725 w_726 w_727 w_1 (by decide +kernel) rfl ⟨Nat.le_of_ble_eq_true rfl, Nat.le_of_ble_eq_true rfl⟩ rfl rfl rfl (Nat.le_of_ble_eq_true rfl) ⟨Nat.le_of_ble_eq_true rfl, Nat.le_of_ble_eq_true rfl⟩ dL_sum_4 [⟨0, 11, 14, 19⟩] ⟨0, 11, 18, 21⟩ [] rfl (fun z hz => by cases List.mem_singleton.mp hz; exact ⟨by decide, _, w_499, hNC.1⟩) (by decide) (by decide) w_500 (nw_in n_335 rfl) (fun qx1 => ?_)
  refine g_af (ws' := WC ad g I L S ++ [OUT ao o v]) (st' := [.ref qx1]) (cells' := 1) (slots' := 6) (pc' := 18) rfl rfl rfl rfl rfl ?_
  refine g_run X KL_sum_18_4 KL_sum_18_4_d 21 [(4, .ref qx1), (0, .ref (ad 0)), (1, .int (nI q)), (2, .int x), (3, .ref ao)] [.int (nI 2)] rfl ?_
  exact g_iret X hr () (rfl) (trivial) ((List.append_nil _).symm) (Nat.le_of_ble_eq_true rfl) (Nat.le_of_ble_eq_true rfl) dL_sum_21

def KL_mended_0_0 : List (Nat × Instr × Nat) := [(0, .aload_n 2, 1), (1, .aload_n 0, 1), (2, .iload_n 1, 1)]
theorem KL_mended_0_0_d : ∀ z ∈ KL_mended_0_0, decode cL_mended z.1 = .ok z.2 := by decide +kernel
def KL_mended_6_1 : List (Nat × Instr × Nat) := [(6, .i2l, 1)]
theorem KL_mended_6_1_d : ∀ z ∈ KL_mended_6_1, decode cL_mended z.1 = .ok z.2 := by decide +kernel
def KL_mended_10_2 : List (Nat × Instr × Nat) := [(10, .goto 6, 3), (16, .iconst 0, 1)]
theorem KL_mended_10_2_d : ∀ z ∈ KL_mended_10_2, decode cL_mended z.1 = .ok z.2 := by decide +kernel
set_option maxHeartbeats 4000000 in
set_option maxRecDepth 100000 in
theorem hc_mended (l : Launch) (D : va_G) (g : Nat → ClassId) (ad : Nat → Nat) (I : Nat → Nat → Int32) (L : Nat → Nat → Int64) (S : Nat → Nat) (q : Nat) (ao : Nat) (o : Int64) (v : Value) (hS18 : ∀ p, p < 15 → S p < 18) (hq : q < 16) : CTW l yL_mended cL_mended 4 (Option.some FieldType.int) [(0, 10, 13, 19)] ({ frames := 6, cells := 0, slots := 0, locals := 152 } : Room) [.ref (ad 0), .int (nI q), .ref ao] D CL (TYS g) (WC ad g I L S ++ [OUT ao o v]) (S := Unit) (fun _ => some (.int (nI 0))) (fun _ => WC ad g I L S ++ [OUT ao ((mdV I L S q).toInt64) v]) (fun _ => True) 0 0 := by
  refine ctw_of (by decide +kernel) (Nat.le_of_ble_eq_true rfl) ?_
  intro p e s m below meth c A X hT hNC hr hSB hAf
  refine g_cs (ws' := WC ad g I L S ++ [OUT ao o v]) (lv' := [(0, .ref (ad 0)), (1, .int (nI q)), (2, .ref ao)]) rfl rfl ?_
  refine g_run X KL_mended_0_0 KL_mended_0_0_d 3 [(0, .ref (ad 0)), (1, .int (nI q)), (2, .ref ao)] [.int (nI q), .ref (ad 0), .ref ao] rfl ?_
  refine g_callV X hSB hAf (srcW) (hrc1 := (rfl : CL[4]? = some _)) ((List.mem_append_left _ (wc_mem (k := 0) (by decide)))) rfl (As := [.int (nI q)]) (wr := WC ad g I L S ++ [OUT ao o v]) (n := 1) (c_X5_mended l D g ad I L S q (by assumption) (by assumption)) rfl srcL hrdC w_432 w_734 w_430 w_431 w_1 (by decide +kernel) rfl ⟨Nat.le_of_ble_eq_true rfl, Nat.le_of_ble_eq_true rfl⟩ rfl rfl rfl (Nat.le_of_ble_eq_true rfl) ⟨Nat.le_of_ble_eq_true rfl, Nat.le_of_ble_eq_true rfl⟩ dL_mended_3 (fun hu1 _ => ?_)
  refine g_af (ws' := WC ad g I L S ++ [OUT ao o v]) (st' := [.int (mdV I L S q), .ref ao]) (cells' := 0) (slots' := 0) (pc' := 6) rfl rfl rfl rfl rfl ?_
  refine g_run X KL_mended_6_1 KL_mended_6_1_d 7 [(0, .ref (ad 0)), (1, .int (nI q)), (2, .ref ao)] [.long ((mdV I L S q).toInt64), .ref ao] rfl ?_
  refine g_putN X (ws' := WC ad g I L S ++ [OUT ao ((mdV I L S q).toInt64) v]) hinX6 tyX6 tyX6_ok nmX6 rfl 0 (by decide) (nw_in n_489 rfl) rfl rfl (ty := .long) rfl rfl rfl (28) (wo_get) (Nat.le_of_ble_eq_true rfl) (wo_set) dL_mended_7 ?_
  refine g_run X KL_mended_10_2 KL_mended_10_2_d 17 [(0, .ref (ad 0)), (1, .int (nI q)), (2, .ref ao)] [.int (nI 0)] rfl ?_
  exact g_iret X hr () (rfl) (trivial) ((List.append_nil _).symm) (Nat.le_of_ble_eq_true rfl) (Nat.le_of_ble_eq_true rfl) dL_mended_17

def KL_mended_13_3 : List (Nat × Instr × Nat) := [(13, .astore_n 3, 1), (14, .iconst 1, 1)]
theorem KL_mended_13_3_d : ∀ z ∈ KL_mended_13_3, decode cL_mended z.1 = .ok z.2 := by decide +kernel
set_option maxHeartbeats 4000000 in
set_option maxRecDepth 100000 in
theorem hx_mended_1 (l : Launch) (hfl : l.stackTraces = false) (D : va_G) (g : Nat → ClassId) (ad : Nat → Nat) (I : Nat → Nat → Int32) (L : Nat → Nat → Int64) (S : Nat → Nat) (x : Int32) (ao : Nat) (o : Int64) (v : Value) (hx : x < 0 ∨ ¬ x < nI 16) : CTW l yL_mended cL_mended 4 (Option.some FieldType.int) [(0, 10, 13, 19)] ({ frames := 8, cells := 1, slots := 6, locals := 143 } : Room) [.ref (ad 0), .int x, .ref ao] D CL (TYS g) (WC ad g I L S ++ [OUT ao o v]) (S := Unit) (fun _ => some (.int (nI 1))) (fun _ => WC ad g I L S ++ [OUT ao o v]) (fun _ => True) 1 6 := by
  refine ctw_of (by decide +kernel) (Nat.le_of_ble_eq_true rfl) ?_
  intro p e s m below meth c A X hT hNC hr hSB hAf
  refine g_cs (ws' := WC ad g I L S ++ [OUT ao o v]) (lv' := [(0, .ref (ad 0)), (1, .int x), (2, .ref ao)]) rfl rfl ?_
  refine g_run X KL_mended_0_0 KL_mended_0_0_d 3 [(0, .ref (ad 0)), (1, .int x), (2, .ref ao)] [.int x, .ref (ad 0), .ref ao] rfl ?_
  refine gc_callV X hSB hAf hT srcW (hrc1 := (rfl : CL[4]? = some _)) (List.mem_append_left _ (wc_mem (k := 0) (by decide))) rfl (As := [.int x]) (n := 1) (x_X5_mended_1 l hfl D g ad I L S x (by assumption)) srcL w_432 w_734 w_430 w_431 w_1 (by decide +kernel) rfl ⟨Nat.le_of_ble_eq_true rfl, Nat.le_of_ble_eq_true rfl⟩ rfl rfl rfl (Nat.le_of_ble_eq_true rfl) ⟨Nat.le_of_ble_eq_true rfl, Nat.le_of_ble_eq_true rfl⟩ dL_mended_3 [] ⟨0, 10, 13, 19⟩ [] rfl (fun _ h => absurd h List.not_mem_nil) (by decide) (by decide) w_499 (nw_in n_410 rfl) (fun qx1 => ?_)
  refine g_af (ws' := WC ad g I L S ++ [OUT ao o v]) (st' := [.ref qx1]) (cells' := 1) (slots' := 6) (pc' := 13) rfl rfl rfl rfl rfl ?_
  refine g_run X KL_mended_13_3 KL_mended_13_3_d 15 [(3, .ref qx1), (0, .ref (ad 0)), (1, .int x), (2, .ref ao)] [.int (nI 1)] rfl ?_
  exact g_iret X hr () (rfl) (trivial) ((List.append_nil _).symm) (Nat.le_of_ble_eq_true rfl) (Nat.le_of_ble_eq_true rfl) dL_mended_15

def KL_data_0_0 : List (Nat × Instr × Nat) := [(0, .aload_n 2, 1), (1, .aload_n 0, 1), (2, .iload_n 1, 1)]
theorem KL_data_0_0_d : ∀ z ∈ KL_data_0_0, decode cL_data z.1 = .ok z.2 := by decide +kernel
def KL_data_9_1 : List (Nat × Instr × Nat) := [(9, .goto 6, 3), (15, .iconst 0, 1)]
theorem KL_data_9_1_d : ∀ z ∈ KL_data_9_1, decode cL_data z.1 = .ok z.2 := by decide +kernel
set_option maxHeartbeats 4000000 in
set_option maxRecDepth 100000 in
theorem hc_data (l : Launch) (D : va_G) (g : Nat → ClassId) (ad : Nat → Nat) (I : Nat → Nat → Int32) (L : Nat → Nat → Int64) (S : Nat → Nat) (q : Nat) (ao : Nat) (o : Int64) (v : Value) (hS18 : ∀ p, p < 15 → S p < 18) (hq : q < 16) : CTW l yL_data cL_data 4 (Option.some FieldType.int) [(0, 9, 12, 19)] ({ frames := 6, cells := 0, slots := 0, locals := 150 } : Room) [.ref (ad 0), .int (nI q), .ref ao] D CL (TYS g) (WC ad g I L S ++ [OUT ao o v]) (S := Unit) (fun _ => some (.int (nI 0))) (fun _ => WC ad g I L S ++ [OUT ao (dtO (oL (mwd I L S q))) v]) (fun _ => True) 0 0 := by
  refine ctw_of (by decide +kernel) (Nat.le_of_ble_eq_true rfl) ?_
  intro p e s m below meth c A X hT hNC hr hSB hAf
  refine g_cs (ws' := WC ad g I L S ++ [OUT ao o v]) (lv' := [(0, .ref (ad 0)), (1, .int (nI q)), (2, .ref ao)]) rfl rfl ?_
  refine g_run X KL_data_0_0 KL_data_0_0_d 3 [(0, .ref (ad 0)), (1, .int (nI q)), (2, .ref ao)] [.int (nI q), .ref (ad 0), .ref ao] rfl ?_
  refine g_callV X hSB hAf (srcW) (hrc1 := (rfl : CL[4]? = some _)) ((List.mem_append_left _ (wc_mem (k := 0) (by decide)))) rfl (As := [.int (nI q)]) (wr := WC ad g I L S ++ [OUT ao o v]) (n := 1) (c_X5_data l D g ad I L S q (by assumption) (by assumption)) rfl srcL hrdC w_448 w_738 w_446 w_447 w_1 (by decide +kernel) rfl ⟨Nat.le_of_ble_eq_true rfl, Nat.le_of_ble_eq_true rfl⟩ rfl rfl rfl (Nat.le_of_ble_eq_true rfl) ⟨Nat.le_of_ble_eq_true rfl, Nat.le_of_ble_eq_true rfl⟩ dL_data_3 (fun hu1 _ => ?_)
  refine g_af (ws' := WC ad g I L S ++ [OUT ao o v]) (st' := [.long (dtO (oL (mwd I L S q))), .ref ao]) (cells' := 0) (slots' := 0) (pc' := 6) rfl rfl rfl rfl rfl ?_
  refine g_putN X (ws' := WC ad g I L S ++ [OUT ao (dtO (oL (mwd I L S q))) v]) hinX6 tyX6 tyX6_ok nmX6 rfl 0 (by decide) (nw_in n_489 rfl) rfl rfl (ty := .long) rfl rfl rfl (28) (wo_get) (Nat.le_of_ble_eq_true rfl) (wo_set) dL_data_6 ?_
  refine g_run X KL_data_9_1 KL_data_9_1_d 16 [(0, .ref (ad 0)), (1, .int (nI q)), (2, .ref ao)] [.int (nI 0)] rfl ?_
  exact g_iret X hr () (rfl) (trivial) ((List.append_nil _).symm) (Nat.le_of_ble_eq_true rfl) (Nat.le_of_ble_eq_true rfl) dL_data_16

def KL_data_12_2 : List (Nat × Instr × Nat) := [(12, .astore_n 3, 1), (13, .iconst 1, 1)]
theorem KL_data_12_2_d : ∀ z ∈ KL_data_12_2, decode cL_data z.1 = .ok z.2 := by decide +kernel
set_option maxHeartbeats 4000000 in
set_option maxRecDepth 100000 in
theorem hx_data_1 (l : Launch) (hfl : l.stackTraces = false) (D : va_G) (g : Nat → ClassId) (ad : Nat → Nat) (I : Nat → Nat → Int32) (L : Nat → Nat → Int64) (S : Nat → Nat) (x : Int32) (ao : Nat) (o : Int64) (v : Value) (hx : x < 0 ∨ ¬ x < nI 16) : CTW l yL_data cL_data 4 (Option.some FieldType.int) [(0, 9, 12, 19)] ({ frames := 8, cells := 1, slots := 6, locals := 141 } : Room) [.ref (ad 0), .int x, .ref ao] D CL (TYS g) (WC ad g I L S ++ [OUT ao o v]) (S := Unit) (fun _ => some (.int (nI 1))) (fun _ => WC ad g I L S ++ [OUT ao o v]) (fun _ => True) 1 6 := by
  refine ctw_of (by decide +kernel) (Nat.le_of_ble_eq_true rfl) ?_
  intro p e s m below meth c A X hT hNC hr hSB hAf
  refine g_cs (ws' := WC ad g I L S ++ [OUT ao o v]) (lv' := [(0, .ref (ad 0)), (1, .int x), (2, .ref ao)]) rfl rfl ?_
  refine g_run X KL_data_0_0 KL_data_0_0_d 3 [(0, .ref (ad 0)), (1, .int x), (2, .ref ao)] [.int x, .ref (ad 0), .ref ao] rfl ?_
  refine gc_callV X hSB hAf hT srcW (hrc1 := (rfl : CL[4]? = some _)) (List.mem_append_left _ (wc_mem (k := 0) (by decide))) rfl (As := [.int x]) (n := 1) (x_X5_data_1 l hfl D g ad I L S x (by assumption)) srcL w_448 w_738 w_446 w_447 w_1 (by decide +kernel) rfl ⟨Nat.le_of_ble_eq_true rfl, Nat.le_of_ble_eq_true rfl⟩ rfl rfl rfl (Nat.le_of_ble_eq_true rfl) ⟨Nat.le_of_ble_eq_true rfl, Nat.le_of_ble_eq_true rfl⟩ dL_data_3 [] ⟨0, 9, 12, 19⟩ [] rfl (fun _ h => absurd h List.not_mem_nil) (by decide) (by decide) w_499 (nw_in n_410 rfl) (fun qx1 => ?_)
  refine g_af (ws' := WC ad g I L S ++ [OUT ao o v]) (st' := [.ref qx1]) (cells' := 1) (slots' := 6) (pc' := 12) rfl rfl rfl rfl rfl ?_
  refine g_run X KL_data_12_2 KL_data_12_2_d 14 [(3, .ref qx1), (0, .ref (ad 0)), (1, .int x), (2, .ref ao)] [.int (nI 1)] rfl ?_
  exact g_iret X hr () (rfl) (trivial) ((List.append_nil _).symm) (Nat.le_of_ble_eq_true rfl) (Nat.le_of_ble_eq_true rfl) dL_data_14

def KL_ofChip_0_0 : List (Nat × Instr × Nat) := [(0, .aload_n 3, 1), (1, .aload_n 0, 1), (2, .iload_n 1, 1), (3, .iload_n 2, 1)]
theorem KL_ofChip_0_0_d : ∀ z ∈ KL_ofChip_0_0, decode cL_ofChip z.1 = .ok z.2 := by decide +kernel
def KL_ofChip_7_1 : List (Nat × Instr × Nat) := [(7, .i2l, 1)]
theorem KL_ofChip_7_1_d : ∀ z ∈ KL_ofChip_7_1, decode cL_ofChip z.1 = .ok z.2 := by decide +kernel
def KL_ofChip_11_2 : List (Nat × Instr × Nat) := [(11, .goto 11, 3), (22, .iconst 0, 1)]
theorem KL_ofChip_11_2_d : ∀ z ∈ KL_ofChip_11_2, decode cL_ofChip z.1 = .ok z.2 := by decide +kernel
set_option maxHeartbeats 4000000 in
set_option maxRecDepth 100000 in
theorem hc_ofChip (l : Launch) (D : va_G) (g : Nat → ClassId) (ad : Nat → Nat) (I : Nat → Nat → Int32) (L : Nat → Nat → Int64) (S : Nat → Nat) (ch : Nat) (w : Nat) (ao : Nat) (o : Int64) (v : Value) (hch : ch < 18) (hw : w < 6) : CTW l yL_ofChip cL_ofChip 5 (Option.some FieldType.int) [(0, 11, 14, 19), (0, 11, 18, 21)] ({ frames := 3, cells := 0, slots := 0, locals := 67 } : Room) [.ref (ad 0), .int (nI ch), .int (nI w), .ref ao] D CL (TYS g) (WC ad g I L S ++ [OUT ao o v]) (S := Unit) (fun _ => some (.int (nI 0))) (fun _ => WC ad g I L S ++ [OUT ao ((ocV I L ch w).toInt64) v]) (fun _ => True) 0 0 := by
  refine ctw_of (by decide +kernel) (Nat.le_of_ble_eq_true rfl) ?_
  intro p e s m below meth c A X hT hNC hr hSB hAf
  refine g_cs (ws' := WC ad g I L S ++ [OUT ao o v]) (lv' := [(0, .ref (ad 0)), (1, .int (nI ch)), (2, .int (nI w)), (3, .ref ao)]) rfl rfl ?_
  refine g_run X KL_ofChip_0_0 KL_ofChip_0_0_d 4 [(0, .ref (ad 0)), (1, .int (nI ch)), (2, .int (nI w)), (3, .ref ao)] [.int (nI w), .int (nI ch), .ref (ad 0), .ref ao] rfl ?_
  refine g_callV X hSB hAf (srcW) (hrc1 := (rfl : CL[4]? = some _)) ((List.mem_append_left _ (wc_mem (k := 0) (by decide)))) rfl (As := [.int (nI ch), .int (nI w)]) (wr := WC ad g I L S ++ [OUT ao o v]) (n := 2) (c_X5_ofChip l D g ad I L S ch w (by assumption) (by assumption)) rfl srcL hrdC w_404 w_742 w_402 w_403 w_1 (by decide +kernel) rfl ⟨Nat.le_of_ble_eq_true rfl, Nat.le_of_ble_eq_true rfl⟩ rfl rfl rfl (Nat.le_of_ble_eq_true rfl) ⟨Nat.le_of_ble_eq_true rfl, Nat.le_of_ble_eq_true rfl⟩ dL_ofChip_4 (fun hu1 _ => ?_)
  refine g_af (ws' := WC ad g I L S ++ [OUT ao o v]) (st' := [.int (ocV I L ch w), .ref ao]) (cells' := 0) (slots' := 0) (pc' := 7) rfl rfl rfl rfl rfl ?_
  refine g_run X KL_ofChip_7_1 KL_ofChip_7_1_d 8 [(0, .ref (ad 0)), (1, .int (nI ch)), (2, .int (nI w)), (3, .ref ao)] [.long ((ocV I L ch w).toInt64), .ref ao] rfl ?_
  refine g_putN X (ws' := WC ad g I L S ++ [OUT ao ((ocV I L ch w).toInt64) v]) hinX6 tyX6 tyX6_ok nmX6 rfl 0 (by decide) (nw_in n_489 rfl) rfl rfl (ty := .long) rfl rfl rfl (28) (wo_get) (Nat.le_of_ble_eq_true rfl) (wo_set) dL_ofChip_8 ?_
  refine g_run X KL_ofChip_11_2 KL_ofChip_11_2_d 23 [(0, .ref (ad 0)), (1, .int (nI ch)), (2, .int (nI w)), (3, .ref ao)] [.int (nI 0)] rfl ?_
  exact g_iret X hr () (rfl) (trivial) ((List.append_nil _).symm) (Nat.le_of_ble_eq_true rfl) (Nat.le_of_ble_eq_true rfl) dL_ofChip_23

def KL_ofChip_14_3 : List (Nat × Instr × Nat) := [(14, .astore 4, 2), (16, .iconst 1, 1)]
theorem KL_ofChip_14_3_d : ∀ z ∈ KL_ofChip_14_3, decode cL_ofChip z.1 = .ok z.2 := by decide +kernel
set_option maxHeartbeats 4000000 in
set_option maxRecDepth 100000 in
theorem hx_ofChip_1 (l : Launch) (hfl : l.stackTraces = false) (D : va_G) (g : Nat → ClassId) (ad : Nat → Nat) (I : Nat → Nat → Int32) (L : Nat → Nat → Int64) (S : Nat → Nat) (x : Int32) (y1 : Int32) (ao : Nat) (o : Int64) (v : Value) (hx : x < 0 ∨ ¬ x < nI 18) : CTW l yL_ofChip cL_ofChip 5 (Option.some FieldType.int) [(0, 11, 14, 19), (0, 11, 18, 21)] ({ frames := 8, cells := 1, slots := 6, locals := 143 } : Room) [.ref (ad 0), .int x, .int y1, .ref ao] D CL (TYS g) (WC ad g I L S ++ [OUT ao o v]) (S := Unit) (fun _ => some (.int (nI 1))) (fun _ => WC ad g I L S ++ [OUT ao o v]) (fun _ => True) 1 6 := by
  refine ctw_of (by decide +kernel) (Nat.le_of_ble_eq_true rfl) ?_
  intro p e s m below meth c A X hT hNC hr hSB hAf
  refine g_cs (ws' := WC ad g I L S ++ [OUT ao o v]) (lv' := [(0, .ref (ad 0)), (1, .int x), (2, .int y1), (3, .ref ao)]) rfl rfl ?_
  refine g_run X KL_ofChip_0_0 KL_ofChip_0_0_d 4 [(0, .ref (ad 0)), (1, .int x), (2, .int y1), (3, .ref ao)] [.int y1, .int x, .ref (ad 0), .ref ao] rfl ?_
  refine gc_callV X hSB hAf hT srcW (hrc1 := (rfl : CL[4]? = some _)) (List.mem_append_left _ (wc_mem (k := 0) (by decide))) rfl (As := [.int x, .int y1]) (n := 2) (x_X5_ofChip_1 l hfl D g ad I L S x y1 (by assumption)) srcL w_404 w_742 w_402 w_403 w_1 (by decide +kernel) rfl ⟨Nat.le_of_ble_eq_true rfl, Nat.le_of_ble_eq_true rfl⟩ rfl rfl rfl (Nat.le_of_ble_eq_true rfl) ⟨Nat.le_of_ble_eq_true rfl, Nat.le_of_ble_eq_true rfl⟩ dL_ofChip_4 [] ⟨0, 11, 14, 19⟩ [⟨0, 11, 18, 21⟩] rfl (fun _ h => absurd h List.not_mem_nil) (by decide) (by decide) w_499 (nw_in n_410 rfl) (fun qx1 => ?_)
  refine g_af (ws' := WC ad g I L S ++ [OUT ao o v]) (st' := [.ref qx1]) (cells' := 1) (slots' := 6) (pc' := 14) rfl rfl rfl rfl rfl ?_
  refine g_run X KL_ofChip_14_3 KL_ofChip_14_3_d 17 [(4, .ref qx1), (0, .ref (ad 0)), (1, .int x), (2, .int y1), (3, .ref ao)] [.int (nI 1)] rfl ?_
  exact g_iret X hr () (rfl) (trivial) ((List.append_nil _).symm) (Nat.le_of_ble_eq_true rfl) (Nat.le_of_ble_eq_true rfl) dL_ofChip_17

def KL_ofChip_18_4 : List (Nat × Instr × Nat) := [(18, .astore 4, 2), (20, .iconst 2, 1)]
theorem KL_ofChip_18_4_d : ∀ z ∈ KL_ofChip_18_4, decode cL_ofChip z.1 = .ok z.2 := by decide +kernel
set_option maxHeartbeats 4000000 in
set_option maxRecDepth 100000 in
theorem hx_ofChip_2 (l : Launch) (hfl : l.stackTraces = false) (D : va_G) (g : Nat → ClassId) (ad : Nat → Nat) (I : Nat → Nat → Int32) (L : Nat → Nat → Int64) (S : Nat → Nat) (ch : Nat) (x : Int32) (ao : Nat) (o : Int64) (v : Value) (hch : ch < 18) (hx : x.toInt < 0 ∨ 5 < x.toInt) : CTW l yL_ofChip cL_ofChip 5 (Option.some FieldType.int) [(0, 11, 14, 19), (0, 11, 18, 21)] ({ frames := 7, cells := 1, slots := 6, locals := 123 } : Room) [.ref (ad 0), .int (nI ch), .int x, .ref ao] D CL (TYS g) (WC ad g I L S ++ [OUT ao o v]) (S := Unit) (fun _ => some (.int (nI 2))) (fun _ => WC ad g I L S ++ [OUT ao o v]) (fun _ => True) 1 6 := by
  refine ctw_of (by decide +kernel) (Nat.le_of_ble_eq_true rfl) ?_
  intro p e s m below meth c A X hT hNC hr hSB hAf
  refine g_cs (ws' := WC ad g I L S ++ [OUT ao o v]) (lv' := [(0, .ref (ad 0)), (1, .int (nI ch)), (2, .int x), (3, .ref ao)]) rfl rfl ?_
  refine g_run X KL_ofChip_0_0 KL_ofChip_0_0_d 4 [(0, .ref (ad 0)), (1, .int (nI ch)), (2, .int x), (3, .ref ao)] [.int x, .int (nI ch), .ref (ad 0), .ref ao] rfl ?_
  refine gc_callV X hSB hAf hT srcW (hrc1 := (rfl : CL[4]? = some _)) (List.mem_append_left _ (wc_mem (k := 0) (by decide))) rfl (As := [.int (nI ch), .int x]) (n := 2) (x_X5_ofChip_2 l hfl D g ad I L S ch x (by assumption) (by assumption)) srcL w_404 w_742 w_402 w_403 w_1 (by decide +kernel) rfl ⟨Nat.le_of_ble_eq_true rfl, Nat.le_of_ble_eq_true rfl⟩ rfl rfl rfl (Nat.le_of_ble_eq_true rfl) ⟨Nat.le_of_ble_eq_true rfl, Nat.le_of_ble_eq_true rfl⟩ dL_ofChip_4 [⟨0, 11, 14, 19⟩] ⟨0, 11, 18, 21⟩ [] rfl (fun z hz => by cases List.mem_singleton.mp hz; exact ⟨by decide, _, w_499, hNC.1⟩) (by decide) (by decide) w_500 (nw_in n_335 rfl) (fun qx1 => ?_)
  refine g_af (ws' := WC ad g I L S ++ [OUT ao o v]) (st' := [.ref qx1]) (cells' := 1) (slots' := 6) (pc' := 18) rfl rfl rfl rfl rfl ?_
  refine g_run X KL_ofChip_18_4 KL_ofChip_18_4_d 21 [(4, .ref qx1), (0, .ref (ad 0)), (1, .int (nI ch)), (2, .int x), (3, .ref ao)] [.int (nI 2)] rfl ?_
  exact g_iret X hr () (rfl) (trivial) ((List.append_nil _).symm) (Nat.le_of_ble_eq_true rfl) (Nat.le_of_ble_eq_true rfl) dL_ofChip_21

def KL_stored_0_0 : List (Nat × Instr × Nat) := [(0, .aload_n 3, 1), (1, .aload_n 0, 1), (2, .iload_n 1, 1), (3, .iload_n 2, 1)]
theorem KL_stored_0_0_d : ∀ z ∈ KL_stored_0_0, decode cL_stored z.1 = .ok z.2 := by decide +kernel
def KL_stored_7_1 : List (Nat × Instr × Nat) := [(7, .i2l, 1)]
theorem KL_stored_7_1_d : ∀ z ∈ KL_stored_7_1, decode cL_stored z.1 = .ok z.2 := by decide +kernel
def KL_stored_11_2 : List (Nat × Instr × Nat) := [(11, .goto 7, 3), (18, .iconst 0, 1)]
theorem KL_stored_11_2_d : ∀ z ∈ KL_stored_11_2, decode cL_stored z.1 = .ok z.2 := by decide +kernel
set_option maxHeartbeats 4000000 in
set_option maxRecDepth 100000 in
theorem hc_stored (l : Launch) (D : va_G) (g : Nat → ClassId) (ad : Nat → Nat) (I : Nat → Nat → Int32) (L : Nat → Nat → Int64) (S : Nat → Nat) (ch : Nat) (q : Nat) (ao : Nat) (o : Int64) (v : Value) (hch : ch < 18) (hq : q < 16) : CTW l yL_stored cL_stored 5 (Option.some FieldType.int) [(0, 11, 14, 19)] ({ frames := 3, cells := 0, slots := 0, locals := 65 } : Room) [.ref (ad 0), .int (nI ch), .int (nI q), .ref ao] D CL (TYS g) (WC ad g I L S ++ [OUT ao o v]) (S := Unit) (fun _ => some (.int (nI 0))) (fun _ => WC ad g I L S ++ [OUT ao ((nI (nib (L 0 ch) q)).toInt64) v]) (fun _ => True) 0 0 := by
  refine ctw_of (by decide +kernel) (Nat.le_of_ble_eq_true rfl) ?_
  intro p e s m below meth c A X hT hNC hr hSB hAf
  refine g_cs (ws' := WC ad g I L S ++ [OUT ao o v]) (lv' := [(0, .ref (ad 0)), (1, .int (nI ch)), (2, .int (nI q)), (3, .ref ao)]) rfl rfl ?_
  refine g_run X KL_stored_0_0 KL_stored_0_0_d 4 [(0, .ref (ad 0)), (1, .int (nI ch)), (2, .int (nI q)), (3, .ref ao)] [.int (nI q), .int (nI ch), .ref (ad 0), .ref ao] rfl ?_
  refine g_callV X hSB hAf (srcW) (hrc1 := (rfl : CL[4]? = some _)) ((List.mem_append_left _ (wc_mem (k := 0) (by decide)))) rfl (As := [.int (nI ch), .int (nI q)]) (wr := WC ad g I L S ++ [OUT ao o v]) (n := 2) (c_X5_stored l D g ad I L S ch q (by assumption) (by assumption)) rfl srcL hrdC w_462 w_746 w_460 w_461 w_1 (by decide +kernel) rfl ⟨Nat.le_of_ble_eq_true rfl, Nat.le_of_ble_eq_true rfl⟩ rfl rfl rfl (Nat.le_of_ble_eq_true rfl) ⟨Nat.le_of_ble_eq_true rfl, Nat.le_of_ble_eq_true rfl⟩ dL_stored_4 (fun hu1 _ => ?_)
  refine g_af (ws' := WC ad g I L S ++ [OUT ao o v]) (st' := [.int (nI (nib (L 0 ch) q)), .ref ao]) (cells' := 0) (slots' := 0) (pc' := 7) rfl rfl rfl rfl rfl ?_
  refine g_run X KL_stored_7_1 KL_stored_7_1_d 8 [(0, .ref (ad 0)), (1, .int (nI ch)), (2, .int (nI q)), (3, .ref ao)] [.long ((nI (nib (L 0 ch) q)).toInt64), .ref ao] rfl ?_
  refine g_putN X (ws' := WC ad g I L S ++ [OUT ao ((nI (nib (L 0 ch) q)).toInt64) v]) hinX6 tyX6 tyX6_ok nmX6 rfl 0 (by decide) (nw_in n_489 rfl) rfl rfl (ty := .long) rfl rfl rfl (28) (wo_get) (Nat.le_of_ble_eq_true rfl) (wo_set) dL_stored_8 ?_
  refine g_run X KL_stored_11_2 KL_stored_11_2_d 19 [(0, .ref (ad 0)), (1, .int (nI ch)), (2, .int (nI q)), (3, .ref ao)] [.int (nI 0)] rfl ?_
  exact g_iret X hr () (rfl) (trivial) ((List.append_nil _).symm) (Nat.le_of_ble_eq_true rfl) (Nat.le_of_ble_eq_true rfl) dL_stored_19

def KL_stored_14_3 : List (Nat × Instr × Nat) := [(14, .astore 4, 2), (16, .iconst 1, 1)]
theorem KL_stored_14_3_d : ∀ z ∈ KL_stored_14_3, decode cL_stored z.1 = .ok z.2 := by decide +kernel
set_option maxHeartbeats 4000000 in
set_option maxRecDepth 100000 in
theorem hx_stored_1 (l : Launch) (hfl : l.stackTraces = false) (D : va_G) (g : Nat → ClassId) (ad : Nat → Nat) (I : Nat → Nat → Int32) (L : Nat → Nat → Int64) (S : Nat → Nat) (x : Int32) (y1 : Int32) (ao : Nat) (o : Int64) (v : Value) (hx : x < 0 ∨ ¬ x < nI 18) : CTW l yL_stored cL_stored 5 (Option.some FieldType.int) [(0, 11, 14, 19)] ({ frames := 8, cells := 1, slots := 6, locals := 142 } : Room) [.ref (ad 0), .int x, .int y1, .ref ao] D CL (TYS g) (WC ad g I L S ++ [OUT ao o v]) (S := Unit) (fun _ => some (.int (nI 1))) (fun _ => WC ad g I L S ++ [OUT ao o v]) (fun _ => True) 1 6 := by
  refine ctw_of (by decide +kernel) (Nat.le_of_ble_eq_true rfl) ?_
  intro p e s m below meth c A X hT hNC hr hSB hAf
  refine g_cs (ws' := WC ad g I L S ++ [OUT ao o v]) (lv' := [(0, .ref (ad 0)), (1, .int x), (2, .int y1), (3, .ref ao)]) rfl rfl ?_
  refine g_run X KL_stored_0_0 KL_stored_0_0_d 4 [(0, .ref (ad 0)), (1, .int x), (2, .int y1), (3, .ref ao)] [.int y1, .int x, .ref (ad 0), .ref ao] rfl ?_
  refine gc_callV X hSB hAf hT srcW (hrc1 := (rfl : CL[4]? = some _)) (List.mem_append_left _ (wc_mem (k := 0) (by decide))) rfl (As := [.int x, .int y1]) (n := 2) (x_X5_stored_1 l hfl D g ad I L S x y1 (by assumption)) srcL w_462 w_746 w_460 w_461 w_1 (by decide +kernel) rfl ⟨Nat.le_of_ble_eq_true rfl, Nat.le_of_ble_eq_true rfl⟩ rfl rfl rfl (Nat.le_of_ble_eq_true rfl) ⟨Nat.le_of_ble_eq_true rfl, Nat.le_of_ble_eq_true rfl⟩ dL_stored_4 [] ⟨0, 11, 14, 19⟩ [] rfl (fun _ h => absurd h List.not_mem_nil) (by decide) (by decide) w_499 (nw_in n_410 rfl) (fun qx1 => ?_)
  refine g_af (ws' := WC ad g I L S ++ [OUT ao o v]) (st' := [.ref qx1]) (cells' := 1) (slots' := 6) (pc' := 14) rfl rfl rfl rfl rfl ?_
  refine g_run X KL_stored_14_3 KL_stored_14_3_d 17 [(4, .ref qx1), (0, .ref (ad 0)), (1, .int x), (2, .int y1), (3, .ref ao)] [.int (nI 1)] rfl ?_
  exact g_iret X hr () (rfl) (trivial) ((List.append_nil _).symm) (Nat.le_of_ble_eq_true rfl) (Nat.le_of_ble_eq_true rfl) dL_stored_17

set_option maxHeartbeats 4000000 in
set_option maxRecDepth 100000 in
theorem hx_stored_2 (l : Launch) (hfl : l.stackTraces = false) (D : va_G) (g : Nat → ClassId) (ad : Nat → Nat) (I : Nat → Nat → Int32) (L : Nat → Nat → Int64) (S : Nat → Nat) (ch : Nat) (x : Int32) (ao : Nat) (o : Int64) (v : Value) (hch : ch < 18) (hx : x < 0 ∨ ¬ x < nI 16) : CTW l yL_stored cL_stored 5 (Option.some FieldType.int) [(0, 11, 14, 19)] ({ frames := 8, cells := 1, slots := 6, locals := 142 } : Room) [.ref (ad 0), .int (nI ch), .int x, .ref ao] D CL (TYS g) (WC ad g I L S ++ [OUT ao o v]) (S := Unit) (fun _ => some (.int (nI 1))) (fun _ => WC ad g I L S ++ [OUT ao o v]) (fun _ => True) 1 6 := by
  refine ctw_of (by decide +kernel) (Nat.le_of_ble_eq_true rfl) ?_
  intro p e s m below meth c A X hT hNC hr hSB hAf
  refine g_cs (ws' := WC ad g I L S ++ [OUT ao o v]) (lv' := [(0, .ref (ad 0)), (1, .int (nI ch)), (2, .int x), (3, .ref ao)]) rfl rfl ?_
  refine g_run X KL_stored_0_0 KL_stored_0_0_d 4 [(0, .ref (ad 0)), (1, .int (nI ch)), (2, .int x), (3, .ref ao)] [.int x, .int (nI ch), .ref (ad 0), .ref ao] rfl ?_
  refine gc_callV X hSB hAf hT srcW (hrc1 := (rfl : CL[4]? = some _)) (List.mem_append_left _ (wc_mem (k := 0) (by decide))) rfl (As := [.int (nI ch), .int x]) (n := 2) (x_X5_stored_2 l hfl D g ad I L S ch x (by assumption) (by assumption)) srcL w_462 w_746 w_460 w_461 w_1 (by decide +kernel) rfl ⟨Nat.le_of_ble_eq_true rfl, Nat.le_of_ble_eq_true rfl⟩ rfl rfl rfl (Nat.le_of_ble_eq_true rfl) ⟨Nat.le_of_ble_eq_true rfl, Nat.le_of_ble_eq_true rfl⟩ dL_stored_4 [] ⟨0, 11, 14, 19⟩ [] rfl (fun _ h => absurd h List.not_mem_nil) (by decide) (by decide) w_499 (nw_in n_410 rfl) (fun qx1 => ?_)
  refine g_af (ws' := WC ad g I L S ++ [OUT ao o v]) (st' := [.ref qx1]) (cells' := 1) (slots' := 6) (pc' := 14) rfl rfl rfl rfl rfl ?_
  refine g_run X KL_stored_14_3 KL_stored_14_3_d 17 [(4, .ref qx1), (0, .ref (ad 0)), (1, .int (nI ch)), (2, .int x), (3, .ref ao)] [.int (nI 1)] rfl ?_
  exact g_iret X hr () (rfl) (trivial) ((List.append_nil _).symm) (Nat.le_of_ble_eq_true rfl) (Nat.le_of_ble_eq_true rfl) dL_stored_17

def KL_ofFrame_0_0 : List (Nat × Instr × Nat) := [(0, .aload_n 3, 1), (1, .aload_n 0, 1), (2, .iload_n 1, 1), (3, .iload_n 2, 1)]
theorem KL_ofFrame_0_0_d : ∀ z ∈ KL_ofFrame_0_0, decode cL_ofFrame z.1 = .ok z.2 := by decide +kernel
def KL_ofFrame_7_1 : List (Nat × Instr × Nat) := [(7, .i2l, 1)]
theorem KL_ofFrame_7_1_d : ∀ z ∈ KL_ofFrame_7_1, decode cL_ofFrame z.1 = .ok z.2 := by decide +kernel
def KL_ofFrame_11_2 : List (Nat × Instr × Nat) := [(11, .goto 11, 3), (22, .iconst 0, 1)]
theorem KL_ofFrame_11_2_d : ∀ z ∈ KL_ofFrame_11_2, decode cL_ofFrame z.1 = .ok z.2 := by decide +kernel
set_option maxHeartbeats 4000000 in
set_option maxRecDepth 100000 in
theorem hc_ofFrame (l : Launch) (D : va_G) (g : Nat → ClassId) (ad : Nat → Nat) (I : Nat → Nat → Int32) (L : Nat → Nat → Int64) (S : Nat → Nat) (fk : Nat) (w : Nat) (ao : Nat) (o : Int64) (v : Value) (hk : fk < 4) (hw : w < 3) : CTW l yL_ofFrame cL_ofFrame 5 (Option.some FieldType.int) [(0, 11, 14, 19), (0, 11, 18, 21)] ({ frames := 2, cells := 0, slots := 0, locals := 43 } : Room) [.ref (ad 0), .int (nI fk), .int (nI w), .ref ao] D CL (TYS g) (WC ad g I L S ++ [OUT ao o v]) (S := Unit) (fun _ => some (.int (nI 0))) (fun _ => WC ad g I L S ++ [OUT ao ((ofV I fk w).toInt64) v]) (fun _ => True) 0 0 := by
  refine ctw_of (by decide +kernel) (Nat.le_of_ble_eq_true rfl) ?_
  intro p e s m below meth c A X hT hNC hr hSB hAf
  refine g_cs (ws' := WC ad g I L S ++ [OUT ao o v]) (lv' := [(0, .ref (ad 0)), (1, .int (nI fk)), (2, .int (nI w)), (3, .ref ao)]) rfl rfl ?_
  refine g_run X KL_ofFrame_0_0 KL_ofFrame_0_0_d 4 [(0, .ref (ad 0)), (1, .int (nI fk)), (2, .int (nI w)), (3, .ref ao)] [.int (nI w), .int (nI fk), .ref (ad 0), .ref ao] rfl ?_
  refine g_callV X hSB hAf (srcW) (hrc1 := (rfl : CL[4]? = some _)) ((List.mem_append_left _ (wc_mem (k := 0) (by decide)))) rfl (As := [.int (nI fk), .int (nI w)]) (wr := WC ad g I L S ++ [OUT ao o v]) (n := 2) (c_X5_ofFrame l D g ad I L S fk w (by assumption) (by assumption)) rfl srcL hrdC w_470 w_750 w_468 w_469 w_1 (by decide +kernel) rfl ⟨Nat.le_of_ble_eq_true rfl, Nat.le_of_ble_eq_true rfl⟩ rfl rfl rfl (Nat.le_of_ble_eq_true rfl) ⟨Nat.le_of_ble_eq_true rfl, Nat.le_of_ble_eq_true rfl⟩ dL_ofFrame_4 (fun hu1 _ => ?_)
  refine g_af (ws' := WC ad g I L S ++ [OUT ao o v]) (st' := [.int (ofV I fk w), .ref ao]) (cells' := 0) (slots' := 0) (pc' := 7) rfl rfl rfl rfl rfl ?_
  refine g_run X KL_ofFrame_7_1 KL_ofFrame_7_1_d 8 [(0, .ref (ad 0)), (1, .int (nI fk)), (2, .int (nI w)), (3, .ref ao)] [.long ((ofV I fk w).toInt64), .ref ao] rfl ?_
  refine g_putN X (ws' := WC ad g I L S ++ [OUT ao ((ofV I fk w).toInt64) v]) hinX6 tyX6 tyX6_ok nmX6 rfl 0 (by decide) (nw_in n_489 rfl) rfl rfl (ty := .long) rfl rfl rfl (28) (wo_get) (Nat.le_of_ble_eq_true rfl) (wo_set) dL_ofFrame_8 ?_
  refine g_run X KL_ofFrame_11_2 KL_ofFrame_11_2_d 23 [(0, .ref (ad 0)), (1, .int (nI fk)), (2, .int (nI w)), (3, .ref ao)] [.int (nI 0)] rfl ?_
  exact g_iret X hr () (rfl) (trivial) ((List.append_nil _).symm) (Nat.le_of_ble_eq_true rfl) (Nat.le_of_ble_eq_true rfl) dL_ofFrame_23

def KL_ofFrame_14_3 : List (Nat × Instr × Nat) := [(14, .astore 4, 2), (16, .iconst 1, 1)]
theorem KL_ofFrame_14_3_d : ∀ z ∈ KL_ofFrame_14_3, decode cL_ofFrame z.1 = .ok z.2 := by decide +kernel
set_option maxHeartbeats 4000000 in
set_option maxRecDepth 100000 in
theorem hx_ofFrame_1 (l : Launch) (hfl : l.stackTraces = false) (D : va_G) (g : Nat → ClassId) (ad : Nat → Nat) (I : Nat → Nat → Int32) (L : Nat → Nat → Int64) (S : Nat → Nat) (x : Int32) (y1 : Int32) (ao : Nat) (o : Int64) (v : Value) (hx : x < 0 ∨ ¬ x < nI 4) : CTW l yL_ofFrame cL_ofFrame 5 (Option.some FieldType.int) [(0, 11, 14, 19), (0, 11, 18, 21)] ({ frames := 8, cells := 1, slots := 6, locals := 143 } : Room) [.ref (ad 0), .int x, .int y1, .ref ao] D CL (TYS g) (WC ad g I L S ++ [OUT ao o v]) (S := Unit) (fun _ => some (.int (nI 1))) (fun _ => WC ad g I L S ++ [OUT ao o v]) (fun _ => True) 1 6 := by
  refine ctw_of (by decide +kernel) (Nat.le_of_ble_eq_true rfl) ?_
  intro p e s m below meth c A X hT hNC hr hSB hAf
  refine g_cs (ws' := WC ad g I L S ++ [OUT ao o v]) (lv' := [(0, .ref (ad 0)), (1, .int x), (2, .int y1), (3, .ref ao)]) rfl rfl ?_
  refine g_run X KL_ofFrame_0_0 KL_ofFrame_0_0_d 4 [(0, .ref (ad 0)), (1, .int x), (2, .int y1), (3, .ref ao)] [.int y1, .int x, .ref (ad 0), .ref ao] rfl ?_
  refine gc_callV X hSB hAf hT srcW (hrc1 := (rfl : CL[4]? = some _)) (List.mem_append_left _ (wc_mem (k := 0) (by decide))) rfl (As := [.int x, .int y1]) (n := 2) (x_X5_ofFrame_1 l hfl D g ad I L S x y1 (by assumption)) srcL w_470 w_750 w_468 w_469 w_1 (by decide +kernel) rfl ⟨Nat.le_of_ble_eq_true rfl, Nat.le_of_ble_eq_true rfl⟩ rfl rfl rfl (Nat.le_of_ble_eq_true rfl) ⟨Nat.le_of_ble_eq_true rfl, Nat.le_of_ble_eq_true rfl⟩ dL_ofFrame_4 [] ⟨0, 11, 14, 19⟩ [⟨0, 11, 18, 21⟩] rfl (fun _ h => absurd h List.not_mem_nil) (by decide) (by decide) w_499 (nw_in n_410 rfl) (fun qx1 => ?_)
  refine g_af (ws' := WC ad g I L S ++ [OUT ao o v]) (st' := [.ref qx1]) (cells' := 1) (slots' := 6) (pc' := 14) rfl rfl rfl rfl rfl ?_
  refine g_run X KL_ofFrame_14_3 KL_ofFrame_14_3_d 17 [(4, .ref qx1), (0, .ref (ad 0)), (1, .int x), (2, .int y1), (3, .ref ao)] [.int (nI 1)] rfl ?_
  exact g_iret X hr () (rfl) (trivial) ((List.append_nil _).symm) (Nat.le_of_ble_eq_true rfl) (Nat.le_of_ble_eq_true rfl) dL_ofFrame_17

def KL_ofFrame_18_4 : List (Nat × Instr × Nat) := [(18, .astore 4, 2), (20, .iconst 2, 1)]
theorem KL_ofFrame_18_4_d : ∀ z ∈ KL_ofFrame_18_4, decode cL_ofFrame z.1 = .ok z.2 := by decide +kernel
set_option maxHeartbeats 4000000 in
set_option maxRecDepth 100000 in
theorem hx_ofFrame_2 (l : Launch) (hfl : l.stackTraces = false) (D : va_G) (g : Nat → ClassId) (ad : Nat → Nat) (I : Nat → Nat → Int32) (L : Nat → Nat → Int64) (S : Nat → Nat) (fk : Nat) (x : Int32) (ao : Nat) (o : Int64) (v : Value) (hk : fk < 4) (hx : x.toInt < 0 ∨ 2 < x.toInt) : CTW l yL_ofFrame cL_ofFrame 5 (Option.some FieldType.int) [(0, 11, 14, 19), (0, 11, 18, 21)] ({ frames := 7, cells := 1, slots := 6, locals := 123 } : Room) [.ref (ad 0), .int (nI fk), .int x, .ref ao] D CL (TYS g) (WC ad g I L S ++ [OUT ao o v]) (S := Unit) (fun _ => some (.int (nI 2))) (fun _ => WC ad g I L S ++ [OUT ao o v]) (fun _ => True) 1 6 := by
  refine ctw_of (by decide +kernel) (Nat.le_of_ble_eq_true rfl) ?_
  intro p e s m below meth c A X hT hNC hr hSB hAf
  refine g_cs (ws' := WC ad g I L S ++ [OUT ao o v]) (lv' := [(0, .ref (ad 0)), (1, .int (nI fk)), (2, .int x), (3, .ref ao)]) rfl rfl ?_
  refine g_run X KL_ofFrame_0_0 KL_ofFrame_0_0_d 4 [(0, .ref (ad 0)), (1, .int (nI fk)), (2, .int x), (3, .ref ao)] [.int x, .int (nI fk), .ref (ad 0), .ref ao] rfl ?_
  refine gc_callV X hSB hAf hT srcW (hrc1 := (rfl : CL[4]? = some _)) (List.mem_append_left _ (wc_mem (k := 0) (by decide))) rfl (As := [.int (nI fk), .int x]) (n := 2) (x_X5_ofFrame_2 l hfl D g ad I L S fk x (by assumption) (by assumption)) srcL w_470 w_750 w_468 w_469 w_1 (by decide +kernel) rfl ⟨Nat.le_of_ble_eq_true rfl, Nat.le_of_ble_eq_true rfl⟩ rfl rfl rfl (Nat.le_of_ble_eq_true rfl) ⟨Nat.le_of_ble_eq_true rfl, Nat.le_of_ble_eq_true rfl⟩ dL_ofFrame_4 [⟨0, 11, 14, 19⟩] ⟨0, 11, 18, 21⟩ [] rfl (fun z hz => by cases List.mem_singleton.mp hz; exact ⟨by decide, _, w_499, hNC.1⟩) (by decide) (by decide) w_500 (nw_in n_335 rfl) (fun qx1 => ?_)
  refine g_af (ws' := WC ad g I L S ++ [OUT ao o v]) (st' := [.ref qx1]) (cells' := 1) (slots' := 6) (pc' := 18) rfl rfl rfl rfl rfl ?_
  refine g_run X KL_ofFrame_18_4 KL_ofFrame_18_4_d 21 [(4, .ref qx1), (0, .ref (ad 0)), (1, .int (nI fk)), (2, .int x), (3, .ref ao)] [.int (nI 2)] rfl ?_
  exact g_iret X hr () (rfl) (trivial) ((List.append_nil _).symm) (Nat.le_of_ble_eq_true rfl) (Nat.le_of_ble_eq_true rfl) dL_ofFrame_21

def KL_held_0_0 : List (Nat × Instr × Nat) := [(0, .aload_n 2, 1), (1, .aload_n 0, 1), (2, .iload_n 1, 1)]
theorem KL_held_0_0_d : ∀ z ∈ KL_held_0_0, decode cL_held z.1 = .ok z.2 := by decide +kernel
def KL_held_9_1 : List (Nat × Instr × Nat) := [(9, .goto 6, 3), (15, .iconst 0, 1)]
theorem KL_held_9_1_d : ∀ z ∈ KL_held_9_1, decode cL_held z.1 = .ok z.2 := by decide +kernel
set_option maxHeartbeats 4000000 in
set_option maxRecDepth 100000 in
theorem hc_held (l : Launch) (D : va_G) (g : Nat → ClassId) (ad : Nat → Nat) (I : Nat → Nat → Int32) (L : Nat → Nat → Int64) (S : Nat → Nat) (fk : Nat) (ao : Nat) (o : Int64) (v : Value) (hk : fk < 4) : CTW l yL_held cL_held 4 (Option.some FieldType.int) [(0, 9, 12, 19)] ({ frames := 3, cells := 0, slots := 0, locals := 63 } : Room) [.ref (ad 0), .int (nI fk), .ref ao] D CL (TYS g) (WC ad g I L S ++ [OUT ao o v]) (S := Unit) (fun _ => some (.int (nI 0))) (fun _ => WC ad g I L S ++ [OUT ao (dtO (L 3 fk)) v]) (fun _ => True) 0 0 := by
  refine ctw_of (by decide +kernel) (Nat.le_of_ble_eq_true rfl) ?_
  intro p e s m below meth c A X hT hNC hr hSB hAf
  refine g_cs (ws' := WC ad g I L S ++ [OUT ao o v]) (lv' := [(0, .ref (ad 0)), (1, .int (nI fk)), (2, .ref ao)]) rfl rfl ?_
  refine g_run X KL_held_0_0 KL_held_0_0_d 3 [(0, .ref (ad 0)), (1, .int (nI fk)), (2, .ref ao)] [.int (nI fk), .ref (ad 0), .ref ao] rfl ?_
  refine g_callV X hSB hAf (srcW) (hrc1 := (rfl : CL[4]? = some _)) ((List.mem_append_left _ (wc_mem (k := 0) (by decide)))) rfl (As := [.int (nI fk)]) (wr := WC ad g I L S ++ [OUT ao o v]) (n := 1) (c_X5_held l D g ad I L S fk (by assumption)) rfl srcL hrdC w_479 w_754 w_477 w_478 w_1 (by decide +kernel) rfl ⟨Nat.le_of_ble_eq_true rfl, Nat.le_of_ble_eq_true rfl⟩ rfl rfl rfl (Nat.le_of_ble_eq_true rfl) ⟨Nat.le_of_ble_eq_true rfl, Nat.le_of_ble_eq_true rfl⟩ dL_held_3 (fun hu1 _ => ?_)
  refine g_af (ws' := WC ad g I L S ++ [OUT ao o v]) (st' := [.long (dtO (L 3 fk)), .ref ao]) (cells' := 0) (slots' := 0) (pc' := 6) rfl rfl rfl rfl rfl ?_
  refine g_putN X (ws' := WC ad g I L S ++ [OUT ao (dtO (L 3 fk)) v]) hinX6 tyX6 tyX6_ok nmX6 rfl 0 (by decide) (nw_in n_489 rfl) rfl rfl (ty := .long) rfl rfl rfl (28) (wo_get) (Nat.le_of_ble_eq_true rfl) (wo_set) dL_held_6 ?_
  refine g_run X KL_held_9_1 KL_held_9_1_d 16 [(0, .ref (ad 0)), (1, .int (nI fk)), (2, .ref ao)] [.int (nI 0)] rfl ?_
  exact g_iret X hr () (rfl) (trivial) ((List.append_nil _).symm) (Nat.le_of_ble_eq_true rfl) (Nat.le_of_ble_eq_true rfl) dL_held_16

def KL_held_12_2 : List (Nat × Instr × Nat) := [(12, .astore_n 3, 1), (13, .iconst 1, 1)]
theorem KL_held_12_2_d : ∀ z ∈ KL_held_12_2, decode cL_held z.1 = .ok z.2 := by decide +kernel
set_option maxHeartbeats 4000000 in
set_option maxRecDepth 100000 in
theorem hx_held_1 (l : Launch) (hfl : l.stackTraces = false) (D : va_G) (g : Nat → ClassId) (ad : Nat → Nat) (I : Nat → Nat → Int32) (L : Nat → Nat → Int64) (S : Nat → Nat) (x : Int32) (ao : Nat) (o : Int64) (v : Value) (hx : x < 0 ∨ ¬ x < nI 4) : CTW l yL_held cL_held 4 (Option.some FieldType.int) [(0, 9, 12, 19)] ({ frames := 8, cells := 1, slots := 6, locals := 141 } : Room) [.ref (ad 0), .int x, .ref ao] D CL (TYS g) (WC ad g I L S ++ [OUT ao o v]) (S := Unit) (fun _ => some (.int (nI 1))) (fun _ => WC ad g I L S ++ [OUT ao o v]) (fun _ => True) 1 6 := by
  refine ctw_of (by decide +kernel) (Nat.le_of_ble_eq_true rfl) ?_
  intro p e s m below meth c A X hT hNC hr hSB hAf
  refine g_cs (ws' := WC ad g I L S ++ [OUT ao o v]) (lv' := [(0, .ref (ad 0)), (1, .int x), (2, .ref ao)]) rfl rfl ?_
  refine g_run X KL_held_0_0 KL_held_0_0_d 3 [(0, .ref (ad 0)), (1, .int x), (2, .ref ao)] [.int x, .ref (ad 0), .ref ao] rfl ?_
  refine gc_callV X hSB hAf hT srcW (hrc1 := (rfl : CL[4]? = some _)) (List.mem_append_left _ (wc_mem (k := 0) (by decide))) rfl (As := [.int x]) (n := 1) (x_X5_held_1 l hfl D g ad I L S x (by assumption)) srcL w_479 w_754 w_477 w_478 w_1 (by decide +kernel) rfl ⟨Nat.le_of_ble_eq_true rfl, Nat.le_of_ble_eq_true rfl⟩ rfl rfl rfl (Nat.le_of_ble_eq_true rfl) ⟨Nat.le_of_ble_eq_true rfl, Nat.le_of_ble_eq_true rfl⟩ dL_held_3 [] ⟨0, 9, 12, 19⟩ [] rfl (fun _ h => absurd h List.not_mem_nil) (by decide) (by decide) w_499 (nw_in n_410 rfl) (fun qx1 => ?_)
  refine g_af (ws' := WC ad g I L S ++ [OUT ao o v]) (st' := [.ref qx1]) (cells' := 1) (slots' := 6) (pc' := 12) rfl rfl rfl rfl rfl ?_
  refine g_run X KL_held_12_2 KL_held_12_2_d 14 [(3, .ref qx1), (0, .ref (ad 0)), (1, .int x), (2, .ref ao)] [.int (nI 1)] rfl ?_
  exact g_iret X hr () (rfl) (trivial) ((List.append_nil _).symm) (Nat.le_of_ble_eq_true rfl) (Nat.le_of_ble_eq_true rfl) dL_held_14

def KL_bank_0_0 : List (Nat × Instr × Nat) := [(0, .aload_n 2, 1), (1, .aload_n 0, 1), (2, .iload_n 1, 1)]
theorem KL_bank_0_0_d : ∀ z ∈ KL_bank_0_0, decode cL_bank z.1 = .ok z.2 := by decide +kernel
def KL_bank_6_1 : List (Nat × Instr × Nat) := [(6, .i2l, 1)]
theorem KL_bank_6_1_d : ∀ z ∈ KL_bank_6_1, decode cL_bank z.1 = .ok z.2 := by decide +kernel
def KL_bank_10_2 : List (Nat × Instr × Nat) := [(10, .goto 6, 3), (16, .iconst 0, 1)]
theorem KL_bank_10_2_d : ∀ z ∈ KL_bank_10_2, decode cL_bank z.1 = .ok z.2 := by decide +kernel
set_option maxHeartbeats 4000000 in
set_option maxRecDepth 100000 in
theorem hc_bank (l : Launch) (D : va_G) (g : Nat → ClassId) (ad : Nat → Nat) (I : Nat → Nat → Int32) (L : Nat → Nat → Int64) (S : Nat → Nat) (w : Nat) (ao : Nat) (o : Int64) (v : Value) (hS18 : ∀ p, p < 15 → S p < 18) (hw : w < 13) : CTW l yL_bank cL_bank 4 (Option.some FieldType.int) [(0, 10, 13, 21)] ({ frames := 6, cells := 0, slots := 0, locals := 152 } : Room) [.ref (ad 0), .int (nI w), .ref ao] D CL (TYS g) (WC ad g I L S ++ [OUT ao o v]) (S := Unit) (fun _ => some (.int (nI 0))) (fun _ => WC ad g I L S ++ [OUT ao ((bkV I L S w).toInt64) v]) (fun _ => True) 0 0 := by
  refine ctw_of (by decide +kernel) (Nat.le_of_ble_eq_true rfl) ?_
  intro p e s m below meth c A X hT hNC hr hSB hAf
  refine g_cs (ws' := WC ad g I L S ++ [OUT ao o v]) (lv' := [(0, .ref (ad 0)), (1, .int (nI w)), (2, .ref ao)]) rfl rfl ?_
  refine g_run X KL_bank_0_0 KL_bank_0_0_d 3 [(0, .ref (ad 0)), (1, .int (nI w)), (2, .ref ao)] [.int (nI w), .ref (ad 0), .ref ao] rfl ?_
  refine g_callV X hSB hAf (srcW) (hrc1 := (rfl : CL[4]? = some _)) ((List.mem_append_left _ (wc_mem (k := 0) (by decide)))) rfl (As := [.int (nI w)]) (wr := WC ad g I L S ++ [OUT ao o v]) (n := 1) (c_X5_bank l D g ad I L S w (by assumption) (by assumption)) rfl srcL hrdC w_323 w_758 w_321 w_322 w_1 (by decide +kernel) rfl ⟨Nat.le_of_ble_eq_true rfl, Nat.le_of_ble_eq_true rfl⟩ rfl rfl rfl (Nat.le_of_ble_eq_true rfl) ⟨Nat.le_of_ble_eq_true rfl, Nat.le_of_ble_eq_true rfl⟩ dL_bank_3 (fun hu1 _ => ?_)
  refine g_af (ws' := WC ad g I L S ++ [OUT ao o v]) (st' := [.int (bkV I L S w), .ref ao]) (cells' := 0) (slots' := 0) (pc' := 6) rfl rfl rfl rfl rfl ?_
  refine g_run X KL_bank_6_1 KL_bank_6_1_d 7 [(0, .ref (ad 0)), (1, .int (nI w)), (2, .ref ao)] [.long ((bkV I L S w).toInt64), .ref ao] rfl ?_
  refine g_putN X (ws' := WC ad g I L S ++ [OUT ao ((bkV I L S w).toInt64) v]) hinX6 tyX6 tyX6_ok nmX6 rfl 0 (by decide) (nw_in n_489 rfl) rfl rfl (ty := .long) rfl rfl rfl (28) (wo_get) (Nat.le_of_ble_eq_true rfl) (wo_set) dL_bank_7 ?_
  refine g_run X KL_bank_10_2 KL_bank_10_2_d 17 [(0, .ref (ad 0)), (1, .int (nI w)), (2, .ref ao)] [.int (nI 0)] rfl ?_
  exact g_iret X hr () (rfl) (trivial) ((List.append_nil _).symm) (Nat.le_of_ble_eq_true rfl) (Nat.le_of_ble_eq_true rfl) dL_bank_17

def KL_bank_13_3 : List (Nat × Instr × Nat) := [(13, .astore_n 3, 1), (14, .iconst 1, 1)]
theorem KL_bank_13_3_d : ∀ z ∈ KL_bank_13_3, decode cL_bank z.1 = .ok z.2 := by decide +kernel
set_option maxHeartbeats 4000000 in
set_option maxRecDepth 100000 in
theorem hx_bank_1 (l : Launch) (hfl : l.stackTraces = false) (D : va_G) (g : Nat → ClassId) (ad : Nat → Nat) (I : Nat → Nat → Int32) (L : Nat → Nat → Int64) (S : Nat → Nat) (x : Int32) (ao : Nat) (o : Int64) (v : Value) (hx : x.toInt < 0 ∨ 12 < x.toInt) : CTW l yL_bank cL_bank 4 (Option.some FieldType.int) [(0, 10, 13, 21)] ({ frames := 7, cells := 1, slots := 6, locals := 121 } : Room) [.ref (ad 0), .int x, .ref ao] D CL (TYS g) (WC ad g I L S ++ [OUT ao o v]) (S := Unit) (fun _ => some (.int (nI 1))) (fun _ => WC ad g I L S ++ [OUT ao o v]) (fun _ => True) 1 6 := by
  refine ctw_of (by decide +kernel) (Nat.le_of_ble_eq_true rfl) ?_
  intro p e s m below meth c A X hT hNC hr hSB hAf
  refine g_cs (ws' := WC ad g I L S ++ [OUT ao o v]) (lv' := [(0, .ref (ad 0)), (1, .int x), (2, .ref ao)]) rfl rfl ?_
  refine g_run X KL_bank_0_0 KL_bank_0_0_d 3 [(0, .ref (ad 0)), (1, .int x), (2, .ref ao)] [.int x, .ref (ad 0), .ref ao] rfl ?_
  refine gc_callV X hSB hAf hT srcW (hrc1 := (rfl : CL[4]? = some _)) (List.mem_append_left _ (wc_mem (k := 0) (by decide))) rfl (As := [.int x]) (n := 1) (x_X5_bank_1 l hfl D g ad I L S x (by assumption)) srcL w_323 w_758 w_321 w_322 w_1 (by decide +kernel) rfl ⟨Nat.le_of_ble_eq_true rfl, Nat.le_of_ble_eq_true rfl⟩ rfl rfl rfl (Nat.le_of_ble_eq_true rfl) ⟨Nat.le_of_ble_eq_true rfl, Nat.le_of_ble_eq_true rfl⟩ dL_bank_3 [] ⟨0, 10, 13, 21⟩ [] rfl (fun _ h => absurd h List.not_mem_nil) (by decide) (by decide) w_500 (nw_in n_335 rfl) (fun qx1 => ?_)
  refine g_af (ws' := WC ad g I L S ++ [OUT ao o v]) (st' := [.ref qx1]) (cells' := 1) (slots' := 6) (pc' := 13) rfl rfl rfl rfl rfl ?_
  refine g_run X KL_bank_13_3 KL_bank_13_3_d 15 [(3, .ref qx1), (0, .ref (ad 0)), (1, .int x), (2, .ref ao)] [.int (nI 1)] rfl ?_
  exact g_iret X hr () (rfl) (trivial) ((List.append_nil _).symm) (Nat.le_of_ble_eq_true rfl) (Nat.le_of_ble_eq_true rfl) dL_bank_15

def KL_row_0_0 : List (Nat × Instr × Nat) := [(0, .aload_n 2, 1), (1, .aload_n 0, 1), (2, .iload_n 1, 1)]
theorem KL_row_0_0_d : ∀ z ∈ KL_row_0_0, decode cL_row z.1 = .ok z.2 := by decide +kernel
def KL_row_12_1 : List (Nat × Instr × Nat) := [(12, .astore_n 3, 1), (13, .iconst 1, 1)]
theorem KL_row_12_1_d : ∀ z ∈ KL_row_12_1, decode cL_row z.1 = .ok z.2 := by decide +kernel
set_option maxHeartbeats 4000000 in
set_option maxRecDepth 100000 in
theorem hx_row_1 (l : Launch) (hfl : l.stackTraces = false) (D : va_G) (g : Nat → ClassId) (ad : Nat → Nat) (I : Nat → Nat → Int32) (L : Nat → Nat → Int64) (S : Nat → Nat) (x : Int32) (ao : Nat) (o : Int64) (v : Value) (hx : x < 0 ∨ ¬ x < nI 16) : CTW l yL_row cL_row 4 (Option.some FieldType.int) [(0, 9, 12, 19)] ({ frames := 8, cells := 1, slots := 6, locals := 144 } : Room) [.ref (ad 0), .int x, .ref ao] D CL (TYS g) (WC ad g I L S ++ [OUT ao o v]) (S := Unit) (fun _ => some (.int (nI 1))) (fun _ => WC ad g I L S ++ [OUT ao o v]) (fun _ => True) 1 6 := by
  refine ctw_of (by decide +kernel) (Nat.le_of_ble_eq_true rfl) ?_
  intro p e s m below meth c A X hT hNC hr hSB hAf
  refine g_cs (ws' := WC ad g I L S ++ [OUT ao o v]) (lv' := [(0, .ref (ad 0)), (1, .int x), (2, .ref ao)]) rfl rfl ?_
  refine g_run X KL_row_0_0 KL_row_0_0_d 3 [(0, .ref (ad 0)), (1, .int x), (2, .ref ao)] [.int x, .ref (ad 0), .ref ao] rfl ?_
  refine gc_callV X hSB hAf hT srcW (hrc1 := (rfl : CL[4]? = some _)) (List.mem_append_left _ (wc_mem (k := 0) (by decide))) rfl (As := [.int x]) (n := 1) (x_X5_row_1 l hfl D g ad I L S x (by assumption)) srcL w_765 w_762 w_763 w_764 w_1 (by decide +kernel) rfl ⟨Nat.le_of_ble_eq_true rfl, Nat.le_of_ble_eq_true rfl⟩ rfl rfl rfl (Nat.le_of_ble_eq_true rfl) ⟨Nat.le_of_ble_eq_true rfl, Nat.le_of_ble_eq_true rfl⟩ dL_row_3 [] ⟨0, 9, 12, 19⟩ [] rfl (fun _ h => absurd h List.not_mem_nil) (by decide) (by decide) w_499 (nw_in n_410 rfl) (fun qx1 => ?_)
  refine g_af (ws' := WC ad g I L S ++ [OUT ao o v]) (st' := [.ref qx1]) (cells' := 1) (slots' := 6) (pc' := 12) rfl rfl rfl rfl rfl ?_
  refine g_run X KL_row_12_1 KL_row_12_1_d 14 [(3, .ref qx1), (0, .ref (ad 0)), (1, .int x), (2, .ref ao)] [.int (nI 1)] rfl ?_
  exact g_iret X hr () (rfl) (trivial) ((List.append_nil _).symm) (Nat.le_of_ble_eq_true rfl) (Nat.le_of_ble_eq_true rfl) dL_row_14

def KL_row_9_2 : List (Nat × Instr × Nat) := [(9, .goto 6, 3), (15, .iconst 0, 1)]
theorem KL_row_9_2_d : ∀ z ∈ KL_row_9_2, decode cL_row z.1 = .ok z.2 := by decide +kernel
set_option maxHeartbeats 4000000 in
set_option maxRecDepth 100000 in
theorem hc_row_k (l : Launch) (D : va_G) (g : Nat → ClassId) (ad : Nat → Nat) (I : Nat → Nat → Int32) (L : Nat → Nat → Int64) (S : Nat → Nat) (q : Nat) (ao : Nat) (o : Int64) (v : Value) (hS18 : ∀ p, p < 15 → S p < 18) (hq : q < 16) : CTW l yL_row cL_row 4 (Option.some FieldType.int) [(0, 9, 12, 19)] ({ frames := 7, cells := 4, slots := 39, locals := 165 } : Room) [.ref (ad 0), .int (nI q), .ref ao] D CL (TYS g) (WC ad g I L S ++ [OUT ao o v]) (S := Nat × Nat) (fun _ => some (.int (nI 0))) (fun u => WC ad g I L S ++ [OUT ao o (.ref u.1)] ++ [(u.1, Sum.inr (11, [.ref u.2, .int (nI 0), .int 0, .int 0])), (u.2, Sum.inl (g 6, 15, .inl (txt (tsg I L S q))))]) (fun _ => True) 4 39 := by
  refine ctw_of (by decide +kernel) (Nat.le_of_ble_eq_true rfl) ?_
  intro p e s m below meth c A X hT hNC hr hSB hAf
  refine g_cs (ws' := WC ad g I L S ++ [OUT ao o v]) (lv' := [(0, .ref (ad 0)), (1, .int (nI q)), (2, .ref ao)]) rfl rfl ?_
  refine g_run X KL_row_0_0 KL_row_0_0_d 3 [(0, .ref (ad 0)), (1, .int (nI q)), (2, .ref ao)] [.int (nI q), .ref (ad 0), .ref ao] rfl ?_
  refine g_callV X hSB hAf (srcW) (hrc1 := (rfl : CL[4]? = some _)) ((List.mem_append_left _ (wc_mem (k := 0) (by decide)))) rfl (As := [.int (nI q)]) (wr := WC ad g I L S ++ [OUT ao o v]) (n := 1) (c_X5_row_k l D g ad I L S q (by assumption) (by assumption)) rfl srcL hrdC w_765 w_762 w_763 w_764 w_1 (by decide +kernel) rfl ⟨Nat.le_of_ble_eq_true rfl, Nat.le_of_ble_eq_true rfl⟩ rfl rfl rfl (Nat.le_of_ble_eq_true rfl) ⟨Nat.le_of_ble_eq_true rfl, Nat.le_of_ble_eq_true rfl⟩ dL_row_3 (fun hu1 _ => ?_)
  refine g_af (ws' := ([(hu1.1, Sum.inr (11, [.ref hu1.2, .int (nI 0), .int 0, .int 0])), (hu1.2, Sum.inl (g 6, 15, .inl (txt (tsg I L S q))))] : va_W) ++ (WC ad g I L S ++ [OUT ao o v])) (st' := [.ref hu1.1, .ref ao]) (cells' := 4) (slots' := 39) (pc' := 6) rfl rfl rfl rfl rfl ?_
  refine g_perm (ws' := WC ad g I L S ++ [OUT ao o v] ++ ([(hu1.1, Sum.inr (11, [.ref hu1.2, .int (nI 0), .int 0, .int 0])), (hu1.2, Sum.inl (g 6, 15, .inl (txt (tsg I L S q))))] : va_W)) (List.perm_append_comm (l₁ := WC ad g I L S ++ [OUT ao o v]) (l₂ := [(hu1.1, Sum.inr (11, [.ref hu1.2, .int (nI 0), .int 0, .int 0])), (hu1.2, Sum.inl (g 6, 15, .inl (txt (tsg I L S q))))])) ?_
  refine g_putN X (ws' := WC ad g I L S ++ [OUT ao o (.ref hu1.1)] ++ ([(hu1.1, Sum.inr (11, [.ref hu1.2, .int (nI 0), .int 0, .int 0])), (hu1.2, Sum.inl (g 6, 15, .inl (txt (tsg I L S q))))] : va_W)) hinX6 tyX6 tyX6_ok nmX6 rfl 1 (by decide) (nw_in n_490 rfl) rfl rfl (ty := .object "java/lang/String") rfl rfl rfl (28) (wo_getT) (Nat.le_of_ble_eq_true rfl) (wo_setT) dL_row_6 ?_
  refine g_run X KL_row_9_2 KL_row_9_2_d 16 [(0, .ref (ad 0)), (1, .int (nI q)), (2, .ref ao)] [.int (nI 0)] rfl ?_
  exact g_iret X hr hu1 (rfl) (trivial) ((List.append_nil _).symm) (Nat.le_of_ble_eq_true rfl) (Nat.le_of_ble_eq_true rfl) dL_row_16

def KL_wouldMend_0_0 : List (Nat × Instr × Nat) := [(0, .aload_n 3, 1), (1, .aload_n 0, 1), (2, .iload_n 1, 1), (3, .iload_n 2, 1)]
theorem KL_wouldMend_0_0_d : ∀ z ∈ KL_wouldMend_0_0, decode cL_wouldMend z.1 = .ok z.2 := by decide +kernel
def KL_wouldMend_7_1 : List (Nat × Instr × Nat) := [(7, .i2l, 1)]
theorem KL_wouldMend_7_1_d : ∀ z ∈ KL_wouldMend_7_1, decode cL_wouldMend z.1 = .ok z.2 := by decide +kernel
def KL_wouldMend_11_2 : List (Nat × Instr × Nat) := [(11, .goto 11, 3), (22, .iconst 0, 1)]
theorem KL_wouldMend_11_2_d : ∀ z ∈ KL_wouldMend_11_2, decode cL_wouldMend z.1 = .ok z.2 := by decide +kernel
set_option maxHeartbeats 4000000 in
set_option maxRecDepth 100000 in
theorem hc_wouldMend (l : Launch) (D : va_G) (g : Nat → ClassId) (ad : Nat → Nat) (I : Nat → Nat → Int32) (L : Nat → Nat → Int64) (S : Nat → Nat) (q : Nat) (b : Nat) (ao : Nat) (o : Int64) (v : Value) (hS18 : ∀ p, p < 15 → S p < 18) (hq : q < 16) (hb : b < 32768) : CTW l yL_wouldMend cL_wouldMend 5 (Option.some FieldType.int) [(0, 11, 14, 19), (0, 11, 18, 21)] ({ frames := 5, cells := 0, slots := 0, locals := 132 } : Room) [.ref (ad 0), .int (nI q), .int (nI b), .ref ao] D CL (TYS g) (WC ad g I L S ++ [OUT ao o v]) (S := Unit) (fun _ => some (.int (nI 0))) (fun _ => WC ad g I L S ++ [OUT ao ((wrO (rwd I L S q 15) (oL (mw (ers I S 15 ||| b) (rwd I L S q 15)))).toInt64) v]) (fun _ => True) 0 0 := by
  refine ctw_of (by decide +kernel) (Nat.le_of_ble_eq_true rfl) ?_
  intro p e s m below meth c A X hT hNC hr hSB hAf
  refine g_cs (ws' := WC ad g I L S ++ [OUT ao o v]) (lv' := [(0, .ref (ad 0)), (1, .int (nI q)), (2, .int (nI b)), (3, .ref ao)]) rfl rfl ?_
  refine g_run X KL_wouldMend_0_0 KL_wouldMend_0_0_d 4 [(0, .ref (ad 0)), (1, .int (nI q)), (2, .int (nI b)), (3, .ref ao)] [.int (nI b), .int (nI q), .ref (ad 0), .ref ao] rfl ?_
  refine g_callV X hSB hAf (srcW) (hrc1 := (rfl : CL[4]? = some _)) ((List.mem_append_left _ (wc_mem (k := 0) (by decide)))) rfl (As := [.int (nI q), .int (nI b)]) (wr := WC ad g I L S ++ [OUT ao o v]) (n := 2) (c_X5_wouldMend l D g ad I L S q b (by assumption) (by assumption) (by assumption)) rfl srcL hrdC w_1039 w_1036 w_1037 w_1038 w_1 (by decide +kernel) rfl ⟨Nat.le_of_ble_eq_true rfl, Nat.le_of_ble_eq_true rfl⟩ rfl rfl rfl (Nat.le_of_ble_eq_true rfl) ⟨Nat.le_of_ble_eq_true rfl, Nat.le_of_ble_eq_true rfl⟩ dL_wouldMend_4 (fun hu1 _ => ?_)
  refine g_af (ws' := WC ad g I L S ++ [OUT ao o v]) (st' := [.int (wrO (rwd I L S q 15) (oL (mw (ers I S 15 ||| b) (rwd I L S q 15)))), .ref ao]) (cells' := 0) (slots' := 0) (pc' := 7) rfl rfl rfl rfl rfl ?_
  refine g_run X KL_wouldMend_7_1 KL_wouldMend_7_1_d 8 [(0, .ref (ad 0)), (1, .int (nI q)), (2, .int (nI b)), (3, .ref ao)] [.long ((wrO (rwd I L S q 15) (oL (mw (ers I S 15 ||| b) (rwd I L S q 15)))).toInt64), .ref ao] rfl ?_
  refine g_putN X (ws' := WC ad g I L S ++ [OUT ao ((wrO (rwd I L S q 15) (oL (mw (ers I S 15 ||| b) (rwd I L S q 15)))).toInt64) v]) hinX6 tyX6 tyX6_ok nmX6 rfl 0 (by decide) (nw_in n_489 rfl) rfl rfl (ty := .long) rfl rfl rfl (28) (wo_get) (Nat.le_of_ble_eq_true rfl) (wo_set) dL_wouldMend_8 ?_
  refine g_run X KL_wouldMend_11_2 KL_wouldMend_11_2_d 23 [(0, .ref (ad 0)), (1, .int (nI q)), (2, .int (nI b)), (3, .ref ao)] [.int (nI 0)] rfl ?_
  exact g_iret X hr () (rfl) (trivial) ((List.append_nil _).symm) (Nat.le_of_ble_eq_true rfl) (Nat.le_of_ble_eq_true rfl) dL_wouldMend_23

def KL_wouldMend_14_3 : List (Nat × Instr × Nat) := [(14, .astore 4, 2), (16, .iconst 1, 1)]
theorem KL_wouldMend_14_3_d : ∀ z ∈ KL_wouldMend_14_3, decode cL_wouldMend z.1 = .ok z.2 := by decide +kernel
set_option maxHeartbeats 4000000 in
set_option maxRecDepth 100000 in
theorem hx_wouldMend_1 (l : Launch) (hfl : l.stackTraces = false) (D : va_G) (g : Nat → ClassId) (ad : Nat → Nat) (I : Nat → Nat → Int32) (L : Nat → Nat → Int64) (S : Nat → Nat) (x : Int32) (y1 : Int32) (ao : Nat) (o : Int64) (v : Value) (hx : x < 0 ∨ ¬ x < nI 16) : CTW l yL_wouldMend cL_wouldMend 5 (Option.some FieldType.int) [(0, 11, 14, 19), (0, 11, 18, 21)] ({ frames := 8, cells := 1, slots := 6, locals := 144 } : Room) [.ref (ad 0), .int x, .int y1, .ref ao] D CL (TYS g) (WC ad g I L S ++ [OUT ao o v]) (S := Unit) (fun _ => some (.int (nI 1))) (fun _ => WC ad g I L S ++ [OUT ao o v]) (fun _ => True) 1 6 := by
  refine ctw_of (by decide +kernel) (Nat.le_of_ble_eq_true rfl) ?_
  intro p e s m below meth c A X hT hNC hr hSB hAf
  refine g_cs (ws' := WC ad g I L S ++ [OUT ao o v]) (lv' := [(0, .ref (ad 0)), (1, .int x), (2, .int y1), (3, .ref ao)]) rfl rfl ?_
  refine g_run X KL_wouldMend_0_0 KL_wouldMend_0_0_d 4 [(0, .ref (ad 0)), (1, .int x), (2, .int y1), (3, .ref ao)] [.int y1, .int x, .ref (ad 0), .ref ao] rfl ?_
  refine gc_callV X hSB hAf hT srcW (hrc1 := (rfl : CL[4]? = some _)) (List.mem_append_left _ (wc_mem (k := 0) (by decide))) rfl (As := [.int x, .int y1]) (n := 2) (x_X5_wouldMend_1 l hfl D g ad I L S x y1 (by assumption)) srcL w_1039 w_1036 w_1037 w_1038 w_1 (by decide +kernel) rfl ⟨Nat.le_of_ble_eq_true rfl, Nat.le_of_ble_eq_true rfl⟩ rfl rfl rfl (Nat.le_of_ble_eq_true rfl) ⟨Nat.le_of_ble_eq_true rfl, Nat.le_of_ble_eq_true rfl⟩ dL_wouldMend_4 [] ⟨0, 11, 14, 19⟩ [⟨0, 11, 18, 21⟩] rfl (fun _ h => absurd h List.not_mem_nil) (by decide) (by decide) w_499 (nw_in n_410 rfl) (fun qx1 => ?_)
  refine g_af (ws' := WC ad g I L S ++ [OUT ao o v]) (st' := [.ref qx1]) (cells' := 1) (slots' := 6) (pc' := 14) rfl rfl rfl rfl rfl ?_
  refine g_run X KL_wouldMend_14_3 KL_wouldMend_14_3_d 17 [(4, .ref qx1), (0, .ref (ad 0)), (1, .int x), (2, .int y1), (3, .ref ao)] [.int (nI 1)] rfl ?_
  exact g_iret X hr () (rfl) (trivial) ((List.append_nil _).symm) (Nat.le_of_ble_eq_true rfl) (Nat.le_of_ble_eq_true rfl) dL_wouldMend_17

def KL_wouldMend_18_4 : List (Nat × Instr × Nat) := [(18, .astore 4, 2), (20, .iconst 2, 1)]
theorem KL_wouldMend_18_4_d : ∀ z ∈ KL_wouldMend_18_4, decode cL_wouldMend z.1 = .ok z.2 := by decide +kernel
set_option maxHeartbeats 4000000 in
set_option maxRecDepth 100000 in
theorem hx_wouldMend_2 (l : Launch) (hfl : l.stackTraces = false) (D : va_G) (g : Nat → ClassId) (ad : Nat → Nat) (I : Nat → Nat → Int32) (L : Nat → Nat → Int64) (S : Nat → Nat) (q : Nat) (x : Int32) (ao : Nat) (o : Int64) (v : Value) (hq : q < 16) (hx : x < 0 ∨ ¬ x ≤ nI 32767) : CTW l yL_wouldMend cL_wouldMend 5 (Option.some FieldType.int) [(0, 11, 14, 19), (0, 11, 18, 21)] ({ frames := 7, cells := 1, slots := 6, locals := 124 } : Room) [.ref (ad 0), .int (nI q), .int x, .ref ao] D CL (TYS g) (WC ad g I L S ++ [OUT ao o v]) (S := Unit) (fun _ => some (.int (nI 2))) (fun _ => WC ad g I L S ++ [OUT ao o v]) (fun _ => True) 1 6 := by
  refine ctw_of (by decide +kernel) (Nat.le_of_ble_eq_true rfl) ?_
  intro p e s m below meth c A X hT hNC hr hSB hAf
  refine g_cs (ws' := WC ad g I L S ++ [OUT ao o v]) (lv' := [(0, .ref (ad 0)), (1, .int (nI q)), (2, .int x), (3, .ref ao)]) rfl rfl ?_
  refine g_run X KL_wouldMend_0_0 KL_wouldMend_0_0_d 4 [(0, .ref (ad 0)), (1, .int (nI q)), (2, .int x), (3, .ref ao)] [.int x, .int (nI q), .ref (ad 0), .ref ao] rfl ?_
  refine gc_callV X hSB hAf hT srcW (hrc1 := (rfl : CL[4]? = some _)) (List.mem_append_left _ (wc_mem (k := 0) (by decide))) rfl (As := [.int (nI q), .int x]) (n := 2) (x_X5_wouldMend_2 l hfl D g ad I L S q x (by assumption) (by assumption)) srcL w_1039 w_1036 w_1037 w_1038 w_1 (by decide +kernel) rfl ⟨Nat.le_of_ble_eq_true rfl, Nat.le_of_ble_eq_true rfl⟩ rfl rfl rfl (Nat.le_of_ble_eq_true rfl) ⟨Nat.le_of_ble_eq_true rfl, Nat.le_of_ble_eq_true rfl⟩ dL_wouldMend_4 [⟨0, 11, 14, 19⟩] ⟨0, 11, 18, 21⟩ [] rfl (fun z hz => by cases List.mem_singleton.mp hz; exact ⟨by decide, _, w_499, hNC.1⟩) (by decide) (by decide) w_500 (nw_in n_335 rfl) (fun qx1 => ?_)
  refine g_af (ws' := WC ad g I L S ++ [OUT ao o v]) (st' := [.ref qx1]) (cells' := 1) (slots' := 6) (pc' := 18) rfl rfl rfl rfl rfl ?_
  refine g_run X KL_wouldMend_18_4 KL_wouldMend_18_4_d 21 [(4, .ref qx1), (0, .ref (ad 0)), (1, .int (nI q)), (2, .int x), (3, .ref ao)] [.int (nI 2)] rfl ?_
  exact g_iret X hr () (rfl) (trivial) ((List.append_nil _).symm) (Nat.le_of_ble_eq_true rfl) (Nat.le_of_ble_eq_true rfl) dL_wouldMend_21

def KL_spare_0_0 : List (Nat × Instr × Nat) := [(0, .aload_n 2, 1), (1, .aload_n 0, 1), (2, .iload_n 1, 1)]
theorem KL_spare_0_0_d : ∀ z ∈ KL_spare_0_0, decode cL_spare z.1 = .ok z.2 := by decide +kernel
def KL_spare_13_1 : List (Nat × Instr × Nat) := [(13, .astore_n 3, 1), (14, .iconst 1, 1)]
theorem KL_spare_13_1_d : ∀ z ∈ KL_spare_13_1, decode cL_spare z.1 = .ok z.2 := by decide +kernel
set_option maxHeartbeats 4000000 in
set_option maxRecDepth 100000 in
theorem hx_spare_1 (l : Launch) (hfl : l.stackTraces = false) (D : va_G) (g : Nat → ClassId) (ad : Nat → Nat) (I : Nat → Nat → Int32) (L : Nat → Nat → Int64) (S : Nat → Nat) (x : Int32) (ao : Nat) (o : Int64) (v : Value) (hx : x < 0 ∨ ¬ x < nI 16) : CTW l yL_spare cL_spare 4 (Option.some FieldType.int) [(0, 10, 13, 19)] ({ frames := 8, cells := 1, slots := 6, locals := 145 } : Room) [.ref (ad 0), .int x, .ref ao] D CL (TYS g) (WC ad g I L S ++ [OUT ao o v]) (S := Unit) (fun _ => some (.int (nI 1))) (fun _ => WC ad g I L S ++ [OUT ao o v]) (fun _ => True) 1 6 := by
  refine ctw_of (by decide +kernel) (Nat.le_of_ble_eq_true rfl) ?_
  intro p e s m below meth c A X hT hNC hr hSB hAf
  refine g_cs (ws' := WC ad g I L S ++ [OUT ao o v]) (lv' := [(0, .ref (ad 0)), (1, .int x), (2, .ref ao)]) rfl rfl ?_
  refine g_run X KL_spare_0_0 KL_spare_0_0_d 3 [(0, .ref (ad 0)), (1, .int x), (2, .ref ao)] [.int x, .ref (ad 0), .ref ao] rfl ?_
  refine gc_callV X hSB hAf hT srcW (hrc1 := (rfl : CL[4]? = some _)) (List.mem_append_left _ (wc_mem (k := 0) (by decide))) rfl (As := [.int x]) (n := 1) (x_X5_spare_1 l hfl D g ad I L S x (by assumption)) srcL w_458 w_1044 w_456 w_457 w_1 (by decide +kernel) rfl ⟨Nat.le_of_ble_eq_true rfl, Nat.le_of_ble_eq_true rfl⟩ rfl rfl rfl (Nat.le_of_ble_eq_true rfl) ⟨Nat.le_of_ble_eq_true rfl, Nat.le_of_ble_eq_true rfl⟩ dL_spare_3 [] ⟨0, 10, 13, 19⟩ [] rfl (fun _ h => absurd h List.not_mem_nil) (by decide) (by decide) w_499 (nw_in n_410 rfl) (fun qx1 => ?_)
  refine g_af (ws' := WC ad g I L S ++ [OUT ao o v]) (st' := [.ref qx1]) (cells' := 1) (slots' := 6) (pc' := 13) rfl rfl rfl rfl rfl ?_
  refine g_run X KL_spare_13_1 KL_spare_13_1_d 15 [(3, .ref qx1), (0, .ref (ad 0)), (1, .int x), (2, .ref ao)] [.int (nI 1)] rfl ?_
  exact g_iret X hr () (rfl) (trivial) ((List.append_nil _).symm) (Nat.le_of_ble_eq_true rfl) (Nat.le_of_ble_eq_true rfl) dL_spare_15

def KL_spare_6_2 : List (Nat × Instr × Nat) := [(6, .i2l, 1)]
theorem KL_spare_6_2_d : ∀ z ∈ KL_spare_6_2, decode cL_spare z.1 = .ok z.2 := by decide +kernel
def KL_spare_10_3 : List (Nat × Instr × Nat) := [(10, .goto 6, 3), (16, .iconst 0, 1)]
theorem KL_spare_10_3_d : ∀ z ∈ KL_spare_10_3, decode cL_spare z.1 = .ok z.2 := by decide +kernel
set_option maxHeartbeats 4000000 in
set_option maxRecDepth 100000 in
theorem hc_spare (l : Launch) (D : va_G) (g : Nat → ClassId) (ad : Nat → Nat) (I : Nat → Nat → Int32) (L : Nat → Nat → Int64) (S : Nat → Nat) (q : Nat) (ao : Nat) (o : Int64) (v : Value) (hS18 : ∀ p, p < 15 → S p < 18) (hq : q < 16) : CTW l yL_spare cL_spare 4 (Option.some FieldType.int) [(0, 10, 13, 19)] ({ frames := 6, cells := 0, slots := 0, locals := 154 } : Room) [.ref (ad 0), .int (nI q), .ref ao] D CL (TYS g) (WC ad g I L S ++ [OUT ao o v]) (S := Unit) (fun _ => some (.int (nI 0))) (fun _ => WC ad g I L S ++ [OUT ao ((spV I L S q).toInt64) v]) (fun _ => True) 0 0 := by
  refine ctw_of (by decide +kernel) (Nat.le_of_ble_eq_true rfl) ?_
  intro p e s m below meth c A X hT hNC hr hSB hAf
  refine g_cs (ws' := WC ad g I L S ++ [OUT ao o v]) (lv' := [(0, .ref (ad 0)), (1, .int (nI q)), (2, .ref ao)]) rfl rfl ?_
  refine g_run X KL_spare_0_0 KL_spare_0_0_d 3 [(0, .ref (ad 0)), (1, .int (nI q)), (2, .ref ao)] [.int (nI q), .ref (ad 0), .ref ao] rfl ?_
  refine g_callV X hSB hAf (srcW) (hrc1 := (rfl : CL[4]? = some _)) ((List.mem_append_left _ (wc_mem (k := 0) (by decide)))) rfl (As := [.int (nI q)]) (wr := WC ad g I L S ++ [OUT ao o v]) (n := 1) (c_X5_spare l D g ad I L S q (by assumption) (by assumption)) rfl srcL hrdC w_458 w_1044 w_456 w_457 w_1 (by decide +kernel) rfl ⟨Nat.le_of_ble_eq_true rfl, Nat.le_of_ble_eq_true rfl⟩ rfl rfl rfl (Nat.le_of_ble_eq_true rfl) ⟨Nat.le_of_ble_eq_true rfl, Nat.le_of_ble_eq_true rfl⟩ dL_spare_3 (fun hu1 _ => ?_)
  refine g_af (ws' := WC ad g I L S ++ [OUT ao o v]) (st' := [.int (spV I L S q), .ref ao]) (cells' := 0) (slots' := 0) (pc' := 6) rfl rfl rfl rfl rfl ?_
  refine g_run X KL_spare_6_2 KL_spare_6_2_d 7 [(0, .ref (ad 0)), (1, .int (nI q)), (2, .ref ao)] [.long ((spV I L S q).toInt64), .ref ao] rfl ?_
  refine g_putN X (ws' := WC ad g I L S ++ [OUT ao ((spV I L S q).toInt64) v]) hinX6 tyX6 tyX6_ok nmX6 rfl 0 (by decide) (nw_in n_489 rfl) rfl rfl (ty := .long) rfl rfl rfl (28) (wo_get) (Nat.le_of_ble_eq_true rfl) (wo_set) dL_spare_7 ?_
  refine g_run X KL_spare_10_3 KL_spare_10_3_d 17 [(0, .ref (ad 0)), (1, .int (nI q)), (2, .ref ao)] [.int (nI 0)] rfl ?_
  exact g_iret X hr () (rfl) (trivial) ((List.append_nil _).symm) (Nat.le_of_ble_eq_true rfl) (Nat.le_of_ble_eq_true rfl) dL_spare_17

def KL_wouldLose_0_0 : List (Nat × Instr × Nat) := [(0, .aload_n 3, 1), (1, .aload_n 0, 1), (2, .iload_n 1, 1), (3, .iload_n 2, 1)]
theorem KL_wouldLose_0_0_d : ∀ z ∈ KL_wouldLose_0_0, decode cL_wouldLose z.1 = .ok z.2 := by decide +kernel
def KL_wouldLose_7_1 : List (Nat × Instr × Nat) := [(7, .i2l, 1)]
theorem KL_wouldLose_7_1_d : ∀ z ∈ KL_wouldLose_7_1, decode cL_wouldLose z.1 = .ok z.2 := by decide +kernel
def KL_wouldLose_11_2 : List (Nat × Instr × Nat) := [(11, .goto 11, 3), (22, .iconst 0, 1)]
theorem KL_wouldLose_11_2_d : ∀ z ∈ KL_wouldLose_11_2, decode cL_wouldLose z.1 = .ok z.2 := by decide +kernel
set_option maxHeartbeats 4000000 in
set_option maxRecDepth 100000 in
theorem hc_wouldLose (l : Launch) (D : va_G) (g : Nat → ClassId) (ad : Nat → Nat) (I : Nat → Nat → Int32) (L : Nat → Nat → Int64) (S : Nat → Nat) (q : Nat) (k : Nat) (ao : Nat) (o : Int64) (v : Value) (hS18 : ∀ p, p < 15 → S p < 18) (hq : q < 15) (hk : k < 16) : CTW l yL_wouldLose cL_wouldLose 5 (Option.some FieldType.int) [(0, 11, 14, 19), (0, 11, 18, 21)] ({ frames := 5, cells := 0, slots := 0, locals := 135 } : Room) [.ref (ad 0), .int (nI q), .int (nI k), .ref ao] D CL (TYS g) (WC ad g I L S ++ [OUT ao o v]) (S := Unit) (fun _ => some (.int (nI 0))) (fun _ => WC ad g I L S ++ [OUT ao ((nI (wlV I L S q k 16)).toInt64) v]) (fun _ => True) 0 0 := by
  refine ctw_of (by decide +kernel) (Nat.le_of_ble_eq_true rfl) ?_
  intro p e s m below meth c A X hT hNC hr hSB hAf
  refine g_cs (ws' := WC ad g I L S ++ [OUT ao o v]) (lv' := [(0, .ref (ad 0)), (1, .int (nI q)), (2, .int (nI k)), (3, .ref ao)]) rfl rfl ?_
  refine g_run X KL_wouldLose_0_0 KL_wouldLose_0_0_d 4 [(0, .ref (ad 0)), (1, .int (nI q)), (2, .int (nI k)), (3, .ref ao)] [.int (nI k), .int (nI q), .ref (ad 0), .ref ao] rfl ?_
  refine g_callV X hSB hAf (srcW) (hrc1 := (rfl : CL[4]? = some _)) ((List.mem_append_left _ (wc_mem (k := 0) (by decide)))) rfl (As := [.int (nI q), .int (nI k)]) (wr := WC ad g I L S ++ [OUT ao o v]) (n := 2) (c_X5_wouldLose l D g ad I L S q k (by assumption) (by assumption) (by assumption)) rfl srcL hrdC w_1051 w_1048 w_1049 w_1050 w_1 (by decide +kernel) rfl ⟨Nat.le_of_ble_eq_true rfl, Nat.le_of_ble_eq_true rfl⟩ rfl rfl rfl (Nat.le_of_ble_eq_true rfl) ⟨Nat.le_of_ble_eq_true rfl, Nat.le_of_ble_eq_true rfl⟩ dL_wouldLose_4 (fun hu1 _ => ?_)
  refine g_af (ws' := WC ad g I L S ++ [OUT ao o v]) (st' := [.int (nI (wlV I L S q k 16)), .ref ao]) (cells' := 0) (slots' := 0) (pc' := 7) rfl rfl rfl rfl rfl ?_
  refine g_run X KL_wouldLose_7_1 KL_wouldLose_7_1_d 8 [(0, .ref (ad 0)), (1, .int (nI q)), (2, .int (nI k)), (3, .ref ao)] [.long ((nI (wlV I L S q k 16)).toInt64), .ref ao] rfl ?_
  refine g_putN X (ws' := WC ad g I L S ++ [OUT ao ((nI (wlV I L S q k 16)).toInt64) v]) hinX6 tyX6 tyX6_ok nmX6 rfl 0 (by decide) (nw_in n_489 rfl) rfl rfl (ty := .long) rfl rfl rfl (28) (wo_get) (Nat.le_of_ble_eq_true rfl) (wo_set) dL_wouldLose_8 ?_
  refine g_run X KL_wouldLose_11_2 KL_wouldLose_11_2_d 23 [(0, .ref (ad 0)), (1, .int (nI q)), (2, .int (nI k)), (3, .ref ao)] [.int (nI 0)] rfl ?_
  exact g_iret X hr () (rfl) (trivial) ((List.append_nil _).symm) (Nat.le_of_ble_eq_true rfl) (Nat.le_of_ble_eq_true rfl) dL_wouldLose_23

def KL_wouldLose_14_3 : List (Nat × Instr × Nat) := [(14, .astore 4, 2), (16, .iconst 1, 1)]
theorem KL_wouldLose_14_3_d : ∀ z ∈ KL_wouldLose_14_3, decode cL_wouldLose z.1 = .ok z.2 := by decide +kernel
set_option maxHeartbeats 4000000 in
set_option maxRecDepth 100000 in
theorem hx_wouldLose_1 (l : Launch) (hfl : l.stackTraces = false) (D : va_G) (g : Nat → ClassId) (ad : Nat → Nat) (I : Nat → Nat → Int32) (L : Nat → Nat → Int64) (S : Nat → Nat) (x : Int32) (y1 : Int32) (ao : Nat) (o : Int64) (v : Value) (hx : x < 0 ∨ ¬ x < nI 15) : CTW l yL_wouldLose cL_wouldLose 5 (Option.some FieldType.int) [(0, 11, 14, 19), (0, 11, 18, 21)] ({ frames := 8, cells := 1, slots := 6, locals := 147 } : Room) [.ref (ad 0), .int x, .int y1, .ref ao] D CL (TYS g) (WC ad g I L S ++ [OUT ao o v]) (S := Unit) (fun _ => some (.int (nI 1))) (fun _ => WC ad g I L S ++ [OUT ao o v]) (fun _ => True) 1 6 := by
  refine ctw_of (by decide +kernel) (Nat.le_of_ble_eq_true rfl) ?_
  intro p e s m below meth c A X hT hNC hr hSB hAf
  refine g_cs (ws' := WC ad g I L S ++ [OUT ao o v]) (lv' := [(0, .ref (ad 0)), (1, .int x), (2, .int y1), (3, .ref ao)]) rfl rfl ?_
  refine g_run X KL_wouldLose_0_0 KL_wouldLose_0_0_d 4 [(0, .ref (ad 0)), (1, .int x), (2, .int y1), (3, .ref ao)] [.int y1, .int x, .ref (ad 0), .ref ao] rfl ?_
  refine gc_callV X hSB hAf hT srcW (hrc1 := (rfl : CL[4]? = some _)) (List.mem_append_left _ (wc_mem (k := 0) (by decide))) rfl (As := [.int x, .int y1]) (n := 2) (x_X5_wouldLose_1 l hfl D g ad I L S x y1 (by assumption)) srcL w_1051 w_1048 w_1049 w_1050 w_1 (by decide +kernel) rfl ⟨Nat.le_of_ble_eq_true rfl, Nat.le_of_ble_eq_true rfl⟩ rfl rfl rfl (Nat.le_of_ble_eq_true rfl) ⟨Nat.le_of_ble_eq_true rfl, Nat.le_of_ble_eq_true rfl⟩ dL_wouldLose_4 [] ⟨0, 11, 14, 19⟩ [⟨0, 11, 18, 21⟩] rfl (fun _ h => absurd h List.not_mem_nil) (by decide) (by decide) w_499 (nw_in n_410 rfl) (fun qx1 => ?_)
  refine g_af (ws' := WC ad g I L S ++ [OUT ao o v]) (st' := [.ref qx1]) (cells' := 1) (slots' := 6) (pc' := 14) rfl rfl rfl rfl rfl ?_
  refine g_run X KL_wouldLose_14_3 KL_wouldLose_14_3_d 17 [(4, .ref qx1), (0, .ref (ad 0)), (1, .int x), (2, .int y1), (3, .ref ao)] [.int (nI 1)] rfl ?_
  exact g_iret X hr () (rfl) (trivial) ((List.append_nil _).symm) (Nat.le_of_ble_eq_true rfl) (Nat.le_of_ble_eq_true rfl) dL_wouldLose_17

def KL_wouldLose_18_4 : List (Nat × Instr × Nat) := [(18, .astore 4, 2), (20, .iconst 2, 1)]
theorem KL_wouldLose_18_4_d : ∀ z ∈ KL_wouldLose_18_4, decode cL_wouldLose z.1 = .ok z.2 := by decide +kernel
set_option maxHeartbeats 4000000 in
set_option maxRecDepth 100000 in
theorem hx_wouldLose_2 (l : Launch) (hfl : l.stackTraces = false) (D : va_G) (g : Nat → ClassId) (ad : Nat → Nat) (I : Nat → Nat → Int32) (L : Nat → Nat → Int64) (S : Nat → Nat) (q : Nat) (x : Int32) (ao : Nat) (o : Int64) (v : Value) (hq : q < 15) (hx : x < 0 ∨ ¬ x ≤ nI 15) : CTW l yL_wouldLose cL_wouldLose 5 (Option.some FieldType.int) [(0, 11, 14, 19), (0, 11, 18, 21)] ({ frames := 8, cells := 1, slots := 6, locals := 147 } : Room) [.ref (ad 0), .int (nI q), .int x, .ref ao] D CL (TYS g) (WC ad g I L S ++ [OUT ao o v]) (S := Unit) (fun _ => some (.int (nI 2))) (fun _ => WC ad g I L S ++ [OUT ao o v]) (fun _ => True) 1 6 := by
  refine ctw_of (by decide +kernel) (Nat.le_of_ble_eq_true rfl) ?_
  intro p e s m below meth c A X hT hNC hr hSB hAf
  refine g_cs (ws' := WC ad g I L S ++ [OUT ao o v]) (lv' := [(0, .ref (ad 0)), (1, .int (nI q)), (2, .int x), (3, .ref ao)]) rfl rfl ?_
  refine g_run X KL_wouldLose_0_0 KL_wouldLose_0_0_d 4 [(0, .ref (ad 0)), (1, .int (nI q)), (2, .int x), (3, .ref ao)] [.int x, .int (nI q), .ref (ad 0), .ref ao] rfl ?_
  refine gc_callV X hSB hAf hT srcW (hrc1 := (rfl : CL[4]? = some _)) (List.mem_append_left _ (wc_mem (k := 0) (by decide))) rfl (As := [.int (nI q), .int x]) (n := 2) (x_X5_wouldLose_2 l hfl D g ad I L S q x (by assumption) (by assumption)) srcL w_1051 w_1048 w_1049 w_1050 w_1 (by decide +kernel) rfl ⟨Nat.le_of_ble_eq_true rfl, Nat.le_of_ble_eq_true rfl⟩ rfl rfl rfl (Nat.le_of_ble_eq_true rfl) ⟨Nat.le_of_ble_eq_true rfl, Nat.le_of_ble_eq_true rfl⟩ dL_wouldLose_4 [⟨0, 11, 14, 19⟩] ⟨0, 11, 18, 21⟩ [] rfl (fun z hz => by cases List.mem_singleton.mp hz; exact ⟨by decide, _, w_499, hNC.1⟩) (by decide) (by decide) w_500 (nw_in n_335 rfl) (fun qx1 => ?_)
  refine g_af (ws' := WC ad g I L S ++ [OUT ao o v]) (st' := [.ref qx1]) (cells' := 1) (slots' := 6) (pc' := 18) rfl rfl rfl rfl rfl ?_
  refine g_run X KL_wouldLose_18_4 KL_wouldLose_18_4_d 21 [(4, .ref qx1), (0, .ref (ad 0)), (1, .int (nI q)), (2, .int x), (3, .ref ao)] [.int (nI 2)] rfl ?_
  exact g_iret X hr () (rfl) (trivial) ((List.append_nil _).symm) (Nat.le_of_ble_eq_true rfl) (Nat.le_of_ble_eq_true rfl) dL_wouldLose_21

