
/-- steps of the patrol: the line is n at first -/
def ptr (I : Nat → Nat → Int32) (L : Nat → Nat → Int64) (S : Nat → Nat) (n : Nat) : Nat → (Nat → Nat → Int32) × (Nat → Nat → Int64)
  | 0 => (I, L)
  | t + 1 => (ftA (u2 (ptr I L S n t).1 8 1 (nI (((n + t) % 16 + 1) % 16))) (ptr I L S n t).2 S ((n + t) % 16), ftL (u2 (ptr I L S n t).1 8 1 (nI (((n + t) % 16 + 1) % 16))) (ptr I L S n t).2 S ((n + t) % 16))
def ptm (I : Nat → Nat → Int32) (L : Nat → Nat → Int64) (S : Nat → Nat) (n t : Nat) : Int64 := oL (mwd (u2 (ptr I L S n t).1 8 1 (nI (((n + t) % 16 + 1) % 16))) (ptr I L S n t).2 S ((n + t) % 16))
def ptb (I : Nat → Nat → Int32) (L : Nat → Nat → Int64) (S : Nat → Nat) (n : Nat) : Nat → Nat
  | 0 => 0
  | t + 1 => if ptm I L S n t = -1 then ptb I L S n t + 1 else ptb I L S n t
theorem cmA_8 {I : Nat → Nat → Int32} {S : Nat → Nat} {b x : Nat} (h : x ≠ 4) : cmA I S b 8 x = I 8 x := by
  rw [cmA, cm_n (by decide), u2_m h]
theorem ftA_8 {I : Nat → Nat → Int32} {L : Nat → Nat → Int64} {S : Nat → Nat} {q x : Nat} (h2 : x ≠ 2) (h3 : x ≠ 3) (h4 : x ≠ 4) : ftA I L S q 8 x = I 8 x := by
  rw [ftA, erA, erb_n (by decide), ftI]
  split
  · rw [u2_m h3, u2_m h2]
  · split
    · rw [u2_m h2]
    · rw [cmA_8 h4, u2_m h2]
theorem ptr_s1 {I : Nat → Nat → Int32} {L : Nat → Nat → Int64} {S : Nat → Nat} {n : Nat} (t : Nat) : (ptr I L S n (t + 1)).1 = ftA (u2 (ptr I L S n t).1 8 1 (nI (((n + t) % 16 + 1) % 16))) (ptr I L S n t).2 S ((n + t) % 16) := by rw [ptr]
theorem ptr_s2 {I : Nat → Nat → Int32} {L : Nat → Nat → Int64} {S : Nat → Nat} {n : Nat} (t : Nat) : (ptr I L S n (t + 1)).2 = ftL (u2 (ptr I L S n t).1 8 1 (nI (((n + t) % 16 + 1) % 16))) (ptr I L S n t).2 S ((n + t) % 16) := by rw [ptr]
theorem ptr_81 {I : Nat → Nat → Int32} {L : Nat → Nat → Int64} {S : Nat → Nat} {n : Nat} (h : I 8 1 = nI n) (hn : n < 16) (t : Nat) : (ptr I L S n t).1 8 1 = nI ((n + t) % 16) := by
  cases t with
  | zero => show I 8 1 = _; rw [h, Nat.add_zero, Nat.mod_eq_of_lt hn]
  | succ t =>
    rw [ptr_s1, ftA_8 (by decide) (by decide) (by decide), u2_s]
    congr 1
    omega
/-- what is asked of a chip, of a frame, of the bank -/
def ocV (I : Nat → Nat → Int32) (L : Nat → Nat → Int64) (ch : Nat) : Nat → Int32
  | 0 => I 0 ch
  | 1 => I 1 ch
  | 2 => I 2 ch
  | 3 => if I 3 ch = 0 then nI 0 else nI 1
  | 4 => if I 4 ch = 0 then nI 0 else nI 1
  | _ => nI (stk L ch 16)
def ofV (I : Nat → Nat → Int32) (fk : Nat) : Nat → Int32
  | 0 => I 5 fk
  | 1 => if I 6 fk = 0 then nI 0 else nI 1
  | _ => I 7 fk
def bkV (I : Nat → Nat → Int32) (L : Nat → Nat → Int64) (S : Nat → Nat) : Nat → Int32
  | 0 => I 8 2
  | 1 => I 8 3
  | 2 => I 8 4
  | 3 => nI 18 - I 8 5
  | 4 => nI (pcn (ers I S 15) 15)
  | 5 => nI (outs I 18)
  | 6 => I 8 1
  | 7 => I 8 6
  | 8 => I 8 7
  | 9 => nI (dirt I 4)
  | 10 => nI (bdl I L S 16)
  | 11 => I 8 0
  | _ => I 8 9
def mdV (I : Nat → Nat → Int32) (L : Nat → Nat → Int64) (S : Nat → Nat) (q : Nat) : Int32 := if oL (mwd I L S q) = -1 then -nI 1 else nI (pl (rwd I L S q 15 ^^^ oL (mwd I L S q)) 15)
def spV (I : Nat → Nat → Int32) (L : Nat → Nat → Int64) (S : Nat → Nat) (q : Nat) : Int32 := if oL (mwd I L S q) = -1 then -nI 1 else (nI 4 - nI (pcn (ers I S 15) 15)) - nI (2 * pcn (pl (rwd I L S q 15 ^^^ oL (mwd I L S q)) 15 &&& (32767 ^^^ ers I S 15)) 15)
def wlW (I : Nat → Nat → Int32) (L : Nat → Nat → Int64) (S : Nat → Nat) (q k i : Nat) : Int64 := oL (mw (ers I S 15) (wn (rwd I L S i 15) q ((k + i) % 16)))
def wlV (I : Nat → Nat → Int32) (L : Nat → Nat → Int64) (S : Nat → Nat) (q k : Nat) : Nat → Nat
  | 0 => 0
  | i + 1 => if wlW I L S q k i = -1 then wlV I L S q k i + 1 else wlV I L S q k i
theorem bdl_le (I : Nat → Nat → Int32) (L : Nat → Nat → Int64) (S : Nat → Nat) (i : Nat) : bdl I L S i ≤ i := by
  induction i with
  | zero => exact Nat.le_refl _
  | succ i ih => rw [bdl]; split <;> omega
/-- health, of so many bad lines -/
def hlV (b : Nat) : UInt64 := FP.ddiv (FP.i2d (nI (16 - b))) 4625196817309499392
def snd (I : Nat → Nat → Int32) (S : Nat → Nat) : Prop := sok I S ∧ pcn (ers I S 15) 15 ≤ 4 ∧ fok I ∧ I 8 3 ≤ I 8 2
theorem pB_eq0 {P : Prop} : nI (pB P) = 0 ↔ ¬ P := by
  by_cases h : P
  · rw [pB_t h]; exact ⟨fun q => absurd q (by decide), fun q => absurd h q⟩
  · rw [pB_f h]; exact ⟨fun _ => h, fun _ => by decide⟩
/-- patterns that fool, the first i -/
def flW (a b d x y i : Nat) : Int64 := oL (mw 0 (wn (wn (wn (lN 0) a x) b y) d (i + 1)))
def flV (a b d x y : Nat) : Nat → Nat
  | 0 => 0
  | i + 1 => if flW a b d x y i = -1 then flV a b d x y i else flV a b d x y i + 1

def KX5_patrol_0_0 : List (Nat × Instr × Nat) := [(0, .iload_n 1, 1), (1, .iconst 1, 1)]
theorem KX5_patrol_0_0_d : ∀ z ∈ KX5_patrol_0_0, decode cX5_patrol z.1 = .ok z.2 := by decide +kernel
def KX5_patrol_5_1 : List (Nat × Instr × Nat) := [(5, .iload_n 1, 1), (6, .bipush 40, 2)]
theorem KX5_patrol_5_1_d : ∀ z ∈ KX5_patrol_5_1, decode cX5_patrol z.1 = .ok z.2 := by decide +kernel
def KX5_patrol_21_2 : List (Nat × Instr × Nat) := [(21, .iconst 0, 1), (22, .istore_n 2, 1), (23, .iconst 0, 1), (24, .istore_n 3, 1)]
theorem KX5_patrol_21_2_d : ∀ z ∈ KX5_patrol_21_2, decode cX5_patrol z.1 = .ok z.2 := by decide +kernel
def KX5_patrol_25_3 : List (Nat × Instr × Nat) := [(25, .iload_n 3, 1), (26, .iload_n 1, 1)]
theorem KX5_patrol_25_3_d : ∀ z ∈ KX5_patrol_25_3, decode cX5_patrol z.1 = .ok z.2 := by decide +kernel
def KX5_patrol_53_4 : List (Nat × Instr × Nat) := [(53, .iload_n 2, 1)]
theorem KX5_patrol_53_4_d : ∀ z ∈ KX5_patrol_53_4, decode cX5_patrol z.1 = .ok z.2 := by decide +kernel
def KX5_patrol_30_5 : List (Nat × Instr × Nat) := [(30, .aload_n 0, 1)]
theorem KX5_patrol_30_5_d : ∀ z ∈ KX5_patrol_30_5, decode cX5_patrol z.1 = .ok z.2 := by decide +kernel
def KX5_patrol_40_6 : List (Nat × Instr × Nat) := [(40, .lcmp, 1)]
theorem KX5_patrol_40_6_d : ∀ z ∈ KX5_patrol_40_6, decode cX5_patrol z.1 = .ok z.2 := by decide +kernel
def KX5_patrol_47_7 : List (Nat × Instr × Nat) := [(47, .iinc 3 1, 3), (50, .goto (-25), 3)]
theorem KX5_patrol_47_7_d : ∀ z ∈ KX5_patrol_47_7, decode cX5_patrol z.1 = .ok z.2 := by decide +kernel
def KX5_patrol_44_8 : List (Nat × Instr × Nat) := [(44, .iinc 2 1, 3), (47, .iinc 3 1, 3), (50, .goto (-25), 3)]
theorem KX5_patrol_44_8_d : ∀ z ∈ KX5_patrol_44_8, decode cX5_patrol z.1 = .ok z.2 := by decide +kernel
set_option maxHeartbeats 4000000 in
set_option maxRecDepth 100000 in
theorem c_X5_patrol (l : Launch) (D : va_G) (g : Nat → ClassId) (ad : Nat → Nat) (I : Nat → Nat → Int32) (L : Nat → Nat → Int64) (S : Nat → Nat) (v : Nat) (n : Nat) (hS18 : ∀ p, p < 15 → S p < 18) (hpt : I 8 1 = nI n) (hn : n < 16) (h1 : 1 ≤ v) (hv : v < 41) : CT l yX5_patrol cX5_patrol 4 ((Option.some FieldType.int)) ({ frames := 6, cells := 0, slots := 0, locals := 154 } : Room) [.ref (ad 0), .int (nI v)] D CL (TYS g) ([]) (WC ad g I L S) (S := Unit) (fun _ => some (.int (nI (ptb I L S n v)))) (fun _ => WC ad g ((ptr I L S n v).1) ((ptr I L S n v).2) S) (fun _ => True) 0 0 := by
  refine ct_of (by decide +kernel) (Nat.le_of_ble_eq_true rfl) ?_
  intro p e s m below meth c A X hr hnm hSB hRO hAf
  refine g_cs (ws' := WC ad g I L S) (lv' := [(0, .ref (ad 0)), (1, .int (nI v))]) rfl rfl ?_
  refine g_run X KX5_patrol_0_0 KX5_patrol_0_0_d 2 [(0, .ref (ad 0)), (1, .int (nI v))] [.int (nI 1), .int (nI v)] rfl ?_
  refine g_icmp_lt X 11 dX5_patrol_2 (by decide) (fun hc1 => ?_) (fun hc1 => ?_)
  · rw [nI_ltI (by omega) (by omega)] at hc1; first | omega | (simp at hc1)
  · refine g_run X KX5_patrol_5_1 KX5_patrol_5_1_d 8 [(0, .ref (ad 0)), (1, .int (nI v))] [.int (nI 40), .int (nI v)] rfl ?_
    refine g_icmp_le X 21 dX5_patrol_8 (by decide) (fun hc2 => ?_) (fun hc2 => ?_)
    · refine g_run X KX5_patrol_21_2 KX5_patrol_21_2_d 25 [(3, .int (nI 0)), (2, .int (nI 0)), (0, .ref (ad 0)), (1, .int (nI v))] [] rfl ?_
      refine g_lv (lv' := [(0, .ref (ad 0)), (1, .int (nI v)), (2, .int (nI 0)), (3, .int (nI 0))]) (lsub_c 2 rfl (lsub_c 3 rfl (lsub_c 1 rfl (lsub_c 0 rfl (lsub_n))))) ?_
      refine g_for v (fun i => WC ad g ((ptr I L S n i).1) ((ptr I L S n i).2) S) (fun i => [(0, .ref (ad 0)), (1, .int (nI v)), (2, .int (nI (ptb I L S n i))), (3, .int (nI i))]) (rfl) (rfl) ?_ ?_
      · refine g_run X KX5_patrol_25_3 KX5_patrol_25_3_d 27 [(0, .ref (ad 0)), (1, .int (nI v)), (2, .int (nI (ptb I L S n v))), (3, .int (nI v))] [.int (nI v), .int (nI v)] rfl ?_
        refine g_icmp_ge X 53 dX5_patrol_27 (by decide) (fun hc3 => ?_) (fun hc3 => ?_)
        · refine g_run X KX5_patrol_53_4 KX5_patrol_53_4_d 54 [(0, .ref (ad 0)), (1, .int (nI v)), (2, .int (nI (ptb I L S n v))), (3, .int (nI v))] [.int (nI (ptb I L S n v))] rfl ?_
          exact g_iret X hr () (rfl) (trivial) ((List.append_nil _).symm) (Nat.le_of_ble_eq_true rfl) (Nat.le_of_ble_eq_true rfl) dX5_patrol_54
        · rw [nI_leI (by omega) (by omega)] at hc3; first | omega | (simp at hc3)
      · intro i hi k25
        refine g_run X KX5_patrol_25_3 KX5_patrol_25_3_d 27 [(0, .ref (ad 0)), (1, .int (nI v)), (2, .int (nI (ptb I L S n i))), (3, .int (nI i))] [.int (nI v), .int (nI i)] rfl ?_
        refine g_icmp_ge X 53 dX5_patrol_27 (by decide) (fun hc4 => ?_) (fun hc4 => ?_)
        · rw [nI_leI (by omega) (by omega)] at hc4; first | omega | (simp at hc4)
        · refine g_run X KX5_patrol_30_5 KX5_patrol_30_5_d 31 [(0, .ref (ad 0)), (1, .int (nI v)), (2, .int (nI (ptb I L S n i))), (3, .int (nI i))] [.ref (ad 0)] rfl ?_
          refine g_get X srcW (v := .ref (ad 1)) hinX5 rfl 0 (by decide) w_183 rfl (wc_mem (k := 0) (by decide)) rfl dX5_patrol_31 ?_
          refine g_callV X hSB hAf (srcW) (hrc1 := (rfl : CL[3]? = some _)) (wc_mem (k := 1) (by decide)) rfl (As := []) (wr := []) (n := 0) (c_X4_stepPatrol l D g ad ((ptr I L S n i).1) ((ptr I L S n i).2) S ((n + i) % 16) (hS18) (ptr_81 hpt hn i) (Nat.mod_lt _ (by decide))) (List.append_nil _).symm srcN hrdN w_637 w_634 w_635 w_636 w_2 (by decide +kernel) rfl ⟨Nat.le_of_ble_eq_true rfl, Nat.le_of_ble_eq_true rfl⟩ rfl rfl rfl (Nat.le_of_ble_eq_true rfl) ⟨Nat.le_of_ble_eq_true rfl, Nat.le_of_ble_eq_true rfl⟩ dX5_patrol_34 (fun hu5 _ => ?_)
          refine g_af (ws' := WC ad g (ftA (u2 ((ptr I L S n i).1) 8 1 (nI ((((n + i) % 16) + 1) % 16))) ((ptr I L S n i).2) S ((n + i) % 16)) (ftL (u2 ((ptr I L S n i).1) 8 1 (nI ((((n + i) % 16) + 1) % 16))) ((ptr I L S n i).2) S ((n + i) % 16)) S) (st' := [.long (oL (mwd (u2 ((ptr I L S n i).1) 8 1 (nI ((((n + i) % 16) + 1) % 16))) ((ptr I L S n i).2) S ((n + i) % 16)))]) (cells' := 0) (slots' := 0) (pc' := 37) (List.append_nil _).symm rfl rfl rfl rfl ?_
          refine g_ldc2 X (v := (-1 : Int64)) w_224 dX5_patrol_37 ?_
          refine g_run X KX5_patrol_40_6 KX5_patrol_40_6_d 41 [(0, .ref (ad 0)), (1, .int (nI v)), (2, .int (nI (ptb I L S n i))), (3, .int (nI i))] [.int (lg_cmp (oL (mwd (u2 ((ptr I L S n i).1) 8 1 (nI ((((n + i) % 16) + 1) % 16))) ((ptr I L S n i).2) S ((n + i) % 16))) (-1 : Int64))] rfl ?_
          refine g_if_ne X 47 dX5_patrol_41 (by decide) (fun hc6 => ?_) (fun hc6 => ?_)
          · rw [lc0] at hc6; have hpm : ¬ ptm I L S n i = -1 := hc6
            refine g_run X KX5_patrol_47_7 KX5_patrol_47_7_d 25 [(3, .int ((nI i) + (nI 1))), (0, .ref (ad 0)), (1, .int (nI v)), (2, .int (nI (ptb I L S n i)))] [] rfl ?_
            refine g_nm (lv' := [(3, .int (nI (i + 1))), (0, .ref (ad 0)), (1, .int (nI v)), (2, .int (nI (ptb I L S n i)))]) (st' := []) (by simp only [nI_add]) (by simp only [nI_add]) ?_
            refine g_lv (lv' := [(0, .ref (ad 0)), (1, .int (nI v)), (2, .int (nI (ptb I L S n i))), (3, .int (nI (i + 1)))]) (lsub_c 1 rfl (lsub_c 2 rfl (lsub_c 3 rfl (lsub_c 0 rfl (lsub_n))))) ?_
            refine g_cs (ws' := WC ad g ((ptr I L S n (i + 1)).1) ((ptr I L S n (i + 1)).2) S) (lv' := [(0, .ref (ad 0)), (1, .int (nI v)), (2, .int (nI (ptb I L S n (i + 1)))), (3, .int (nI (i + 1)))]) (by rw [ptr_s1, ptr_s2]) (by first | rw [ptb, if_pos hpm] | rw [ptb, if_neg hpm]) ?_
            exact k25
          · rw [lc0] at hc6; have hpm : ptm I L S n i = -1 := hc6
            refine g_run X KX5_patrol_44_8 KX5_patrol_44_8_d 25 [(3, .int ((nI i) + (nI 1))), (2, .int ((nI (ptb I L S n i)) + (nI 1))), (0, .ref (ad 0)), (1, .int (nI v))] [] rfl ?_
            refine g_nm (lv' := [(3, .int (nI (i + 1))), (2, .int (nI ((ptb I L S n i) + 1))), (0, .ref (ad 0)), (1, .int (nI v))]) (st' := []) (by simp only [nI_add]) (by simp only [nI_add]) ?_
            refine g_lv (lv' := [(0, .ref (ad 0)), (1, .int (nI v)), (2, .int (nI ((ptb I L S n i) + 1))), (3, .int (nI (i + 1)))]) (lsub_c 2 rfl (lsub_c 3 rfl (lsub_c 1 rfl (lsub_c 0 rfl (lsub_n))))) ?_
            refine g_cs (ws' := WC ad g ((ptr I L S n (i + 1)).1) ((ptr I L S n (i + 1)).2) S) (lv' := [(0, .ref (ad 0)), (1, .int (nI v)), (2, .int (nI (ptb I L S n (i + 1)))), (3, .int (nI (i + 1)))]) (by rw [ptr_s1, ptr_s2]) (by first | rw [ptb, if_pos hpm] | rw [ptb, if_neg hpm]) ?_
            exact k25
    · rw [nI_leI (by omega) (by omega)] at hc2; first | omega | (simp at hc2)

set_option maxHeartbeats 4000000 in
set_option maxRecDepth 100000 in
theorem x_X5_patrol_1 (l : Launch) (hfl : l.stackTraces = false) (D : va_G) (g : Nat → ClassId) (ad : Nat → Nat) (I : Nat → Nat → Int32) (L : Nat → Nat → Int64) (S : Nat → Nat) (x : Int32) (hx : x < nI 1 ∨ ¬ x ≤ nI 40) : CX l yX5_patrol cX5_patrol 4 ((Option.some FieldType.int)) ({ frames := 6, cells := 1, slots := 6, locals := 100 } : Room) [.ref (ad 0), .int x] D CL (TYS g) (WC ad g I L S) xIA 1 6 := by
  refine cx_of (by decide +kernel) (Nat.le_of_ble_eq_true rfl) ?_
  intro p e s m below meth c A X hnt hSB hRO hAf
  refine g_cs (ws' := []) (lv' := [(0, .ref (ad 0)), (1, .int x)]) rfl rfl ?_
  refine g_run X KX5_patrol_0_0 KX5_patrol_0_0_d 2 [(0, .ref (ad 0)), (1, .int x)] [.int (nI 1), .int x] rfl ?_
  refine g_icmp_lt X 11 dX5_patrol_2 (by decide) (fun hc1 => ?_) (fun hc1 => ?_)
  · exact g_throwS (E := xIA) X hSB hfl hnt (text := "steps is not 1 to 40") (names := xNm) (by decide +kernel) (by decide +kernel) w_333 w_21 (by decide +kernel) hatIA hgdIA dX5_patrol_11 dX5_patrol_14 dX5_patrol_15 dX5_patrol_17 dX5_patrol_20 (Nat.le_of_ble_eq_true rfl) (Nat.le_of_ble_eq_true rfl) (Nat.le_of_ble_eq_true rfl) (Nat.le_of_ble_eq_true rfl) (Nat.le_of_ble_eq_true rfl) (Nat.le_of_ble_eq_true rfl)
  · refine g_run X KX5_patrol_5_1 KX5_patrol_5_1_d 8 [(0, .ref (ad 0)), (1, .int x)] [.int (nI 40), .int x] rfl ?_
    refine g_icmp_le X 21 dX5_patrol_8 (by decide) (fun hc2 => ?_) (fun hc2 => ?_)
    · exact (hx.elim (fun z => absurd z (by assumption)) (fun z => absurd hc2 z))
    · exact g_throwS (E := xIA) X hSB hfl hnt (text := "steps is not 1 to 40") (names := xNm) (by decide +kernel) (by decide +kernel) w_333 w_21 (by decide +kernel) hatIA hgdIA dX5_patrol_11 dX5_patrol_14 dX5_patrol_15 dX5_patrol_17 dX5_patrol_20 (Nat.le_of_ble_eq_true rfl) (Nat.le_of_ble_eq_true rfl) (Nat.le_of_ble_eq_true rfl) (Nat.le_of_ble_eq_true rfl) (Nat.le_of_ble_eq_true rfl) (Nat.le_of_ble_eq_true rfl)

def KX5_fooled_0_0 : List (Nat × Instr × Nat) := [(0, .iload_n 1, 1)]
theorem KX5_fooled_0_0_d : ∀ z ∈ KX5_fooled_0_0, decode cX5_fooled z.1 = .ok z.2 := by decide +kernel
def KX5_fooled_4_1 : List (Nat × Instr × Nat) := [(4, .iload_n 2, 1)]
theorem KX5_fooled_4_1_d : ∀ z ∈ KX5_fooled_4_1, decode cX5_fooled z.1 = .ok z.2 := by decide +kernel
def KX5_fooled_8_2 : List (Nat × Instr × Nat) := [(8, .iload_n 3, 1)]
theorem KX5_fooled_8_2_d : ∀ z ∈ KX5_fooled_8_2, decode cX5_fooled z.1 = .ok z.2 := by decide +kernel
def KX5_fooled_12_3 : List (Nat × Instr × Nat) := [(12, .iload_n 1, 1), (13, .iload_n 2, 1)]
theorem KX5_fooled_12_3_d : ∀ z ∈ KX5_fooled_12_3, decode cX5_fooled z.1 = .ok z.2 := by decide +kernel
def KX5_fooled_17_4 : List (Nat × Instr × Nat) := [(17, .iload_n 1, 1), (18, .iload_n 3, 1)]
theorem KX5_fooled_17_4_d : ∀ z ∈ KX5_fooled_17_4, decode cX5_fooled z.1 = .ok z.2 := by decide +kernel
def KX5_fooled_22_5 : List (Nat × Instr × Nat) := [(22, .iload_n 2, 1), (23, .iload_n 3, 1)]
theorem KX5_fooled_22_5_d : ∀ z ∈ KX5_fooled_22_5, decode cX5_fooled z.1 = .ok z.2 := by decide +kernel
def KX5_fooled_37_6 : List (Nat × Instr × Nat) := [(37, .iload 4, 2)]
theorem KX5_fooled_37_6_d : ∀ z ∈ KX5_fooled_37_6, decode cX5_fooled z.1 = .ok z.2 := by decide +kernel
def KX5_fooled_42_7 : List (Nat × Instr × Nat) := [(42, .iload 5, 2)]
theorem KX5_fooled_42_7_d : ∀ z ∈ KX5_fooled_42_7, decode cX5_fooled z.1 = .ok z.2 := by decide +kernel
def KX5_fooled_47_8 : List (Nat × Instr × Nat) := [(47, .lconst 0, 1), (48, .iload_n 1, 1), (49, .iload 4, 2)]
theorem KX5_fooled_47_8_d : ∀ z ∈ KX5_fooled_47_8, decode cX5_fooled z.1 = .ok z.2 := by decide +kernel
def KX5_fooled_54_9 : List (Nat × Instr × Nat) := [(54, .iload_n 2, 1), (55, .iload 5, 2)]
theorem KX5_fooled_54_9_d : ∀ z ∈ KX5_fooled_54_9, decode cX5_fooled z.1 = .ok z.2 := by decide +kernel
def KX5_fooled_60_10 : List (Nat × Instr × Nat) := [(60, .lstore 6, 2), (62, .iconst 0, 1), (63, .istore 8, 2), (65, .iconst 1, 1), (66, .istore 9, 2)]
theorem KX5_fooled_60_10_d : ∀ z ∈ KX5_fooled_60_10, decode cX5_fooled z.1 = .ok z.2 := by decide +kernel
def KX5_fooled_68_11 : List (Nat × Instr × Nat) := [(68, .iload 9, 2), (70, .bipush 15, 2)]
theorem KX5_fooled_68_11_d : ∀ z ∈ KX5_fooled_68_11, decode cX5_fooled z.1 = .ok z.2 := by decide +kernel
def KX5_fooled_103_12 : List (Nat × Instr × Nat) := [(103, .iload 8, 2)]
theorem KX5_fooled_103_12_d : ∀ z ∈ KX5_fooled_103_12, decode cX5_fooled z.1 = .ok z.2 := by decide +kernel
def KX5_fooled_75_13 : List (Nat × Instr × Nat) := [(75, .lload 6, 2), (77, .iload_n 3, 1), (78, .iload 9, 2)]
theorem KX5_fooled_75_13_d : ∀ z ∈ KX5_fooled_75_13, decode cX5_fooled z.1 = .ok z.2 := by decide +kernel
def KX5_fooled_83_14 : List (Nat × Instr × Nat) := [(83, .iconst 0, 1)]
theorem KX5_fooled_83_14_d : ∀ z ∈ KX5_fooled_83_14, decode cX5_fooled z.1 = .ok z.2 := by decide +kernel
def KX5_fooled_90_15 : List (Nat × Instr × Nat) := [(90, .lcmp, 1)]
theorem KX5_fooled_90_15_d : ∀ z ∈ KX5_fooled_90_15, decode cX5_fooled z.1 = .ok z.2 := by decide +kernel
def KX5_fooled_97_16 : List (Nat × Instr × Nat) := [(97, .iinc 9 1, 3), (100, .goto (-32), 3)]
theorem KX5_fooled_97_16_d : ∀ z ∈ KX5_fooled_97_16, decode cX5_fooled z.1 = .ok z.2 := by decide +kernel
def KX5_fooled_94_17 : List (Nat × Instr × Nat) := [(94, .iinc 8 1, 3), (97, .iinc 9 1, 3), (100, .goto (-32), 3)]
theorem KX5_fooled_94_17_d : ∀ z ∈ KX5_fooled_94_17, decode cX5_fooled z.1 = .ok z.2 := by decide +kernel
set_option maxHeartbeats 4000000 in
set_option maxRecDepth 100000 in
theorem c_X5_fooled (l : Launch) (D : va_G) (g : Nat → ClassId) (ad : Nat → Nat) (I : Nat → Nat → Int32) (L : Nat → Nat → Int64) (S : Nat → Nat) (a : Nat) (b : Nat) (d : Nat) (x : Nat) (y : Nat) (ha : a < 15) (hb : b < 15) (hd : d < 15) (hab : a ≠ b) (had : a ≠ d) (hbd : b ≠ d) (hx1 : 1 ≤ x) (hx : x < 16) (hy1 : 1 ≤ y) (hy : y < 16) : CT l yX5_fooled cX5_fooled 10 ((Option.some FieldType.int)) ({ frames := 4, cells := 0, slots := 0, locals := 108 } : Room) [.ref (ad 0), .int (nI a), .int (nI b), .int (nI d), .int (nI x), .int (nI y)] D CL (TYS g) (WC ad g I L S) ([]) (S := Unit) (fun _ => some (.int (nI (flV a b d x y 15)))) (fun _ => []) (fun _ => True) 0 0 := by
  refine ct_of (by decide +kernel) (Nat.le_of_ble_eq_true rfl) ?_
  intro p e s m below meth c A X hr hnm hSB hRO hAf
  refine g_cs (ws' := []) (lv' := [(0, .ref (ad 0)), (1, .int (nI a)), (2, .int (nI b)), (3, .int (nI d)), (4, .int (nI x)), (5, .int (nI y))]) rfl rfl ?_
  refine g_run X KX5_fooled_0_0 KX5_fooled_0_0_d 1 [(0, .ref (ad 0)), (1, .int (nI a)), (2, .int (nI b)), (3, .int (nI d)), (4, .int (nI x)), (5, .int (nI y))] [.int (nI a)] rfl ?_
  refine g_callS X hSB hAf (As := [.int (nI a)]) (wr := []) (n := 1) (c_X5_checkPlace l D g a (by omega)) rfl srcN hrdN w_559 w_557 w_558 w_1 (by decide +kernel) rfl ⟨Nat.le_of_ble_eq_true rfl, Nat.le_of_ble_eq_true rfl⟩ rfl rfl rfl (Nat.le_of_ble_eq_true rfl) ⟨Nat.le_of_ble_eq_true rfl, Nat.le_of_ble_eq_true rfl⟩ dX5_fooled_1 (fun hu1 _ => ?_)
  refine g_af (ws' := []) (st' := []) (cells' := 0) (slots' := 0) (pc' := 4) rfl rfl rfl rfl rfl ?_
  refine g_run X KX5_fooled_4_1 KX5_fooled_4_1_d 5 [(0, .ref (ad 0)), (1, .int (nI a)), (2, .int (nI b)), (3, .int (nI d)), (4, .int (nI x)), (5, .int (nI y))] [.int (nI b)] rfl ?_
  refine g_callS X hSB hAf (As := [.int (nI b)]) (wr := []) (n := 1) (c_X5_checkPlace l D g b (by omega)) rfl srcN hrdN w_559 w_557 w_558 w_1 (by decide +kernel) rfl ⟨Nat.le_of_ble_eq_true rfl, Nat.le_of_ble_eq_true rfl⟩ rfl rfl rfl (Nat.le_of_ble_eq_true rfl) ⟨Nat.le_of_ble_eq_true rfl, Nat.le_of_ble_eq_true rfl⟩ dX5_fooled_5 (fun hu2 _ => ?_)
  refine g_af (ws' := []) (st' := []) (cells' := 0) (slots' := 0) (pc' := 8) rfl rfl rfl rfl rfl ?_
  refine g_run X KX5_fooled_8_2 KX5_fooled_8_2_d 9 [(0, .ref (ad 0)), (1, .int (nI a)), (2, .int (nI b)), (3, .int (nI d)), (4, .int (nI x)), (5, .int (nI y))] [.int (nI d)] rfl ?_
  refine g_callS X hSB hAf (As := [.int (nI d)]) (wr := []) (n := 1) (c_X5_checkPlace l D g d (by omega)) rfl srcN hrdN w_559 w_557 w_558 w_1 (by decide +kernel) rfl ⟨Nat.le_of_ble_eq_true rfl, Nat.le_of_ble_eq_true rfl⟩ rfl rfl rfl (Nat.le_of_ble_eq_true rfl) ⟨Nat.le_of_ble_eq_true rfl, Nat.le_of_ble_eq_true rfl⟩ dX5_fooled_9 (fun hu3 _ => ?_)
  refine g_af (ws' := []) (st' := []) (cells' := 0) (slots' := 0) (pc' := 12) rfl rfl rfl rfl rfl ?_
  refine g_run X KX5_fooled_12_3 KX5_fooled_12_3_d 14 [(0, .ref (ad 0)), (1, .int (nI a)), (2, .int (nI b)), (3, .int (nI d)), (4, .int (nI x)), (5, .int (nI y))] [.int (nI b), .int (nI a)] rfl ?_
  refine g_icmp_eq X 27 dX5_fooled_14 (by decide) (fun hc4 => ?_) (fun hc4 => ?_)
  · rw [nI_eq (by omega) (by omega)] at hc4; first | omega | (simp at hc4)
  · refine g_run X KX5_fooled_17_4 KX5_fooled_17_4_d 19 [(0, .ref (ad 0)), (1, .int (nI a)), (2, .int (nI b)), (3, .int (nI d)), (4, .int (nI x)), (5, .int (nI y))] [.int (nI d), .int (nI a)] rfl ?_
    refine g_icmp_eq X 27 dX5_fooled_19 (by decide) (fun hc5 => ?_) (fun hc5 => ?_)
    · rw [nI_eq (by omega) (by omega)] at hc5; first | omega | (simp at hc5)
    · refine g_run X KX5_fooled_22_5 KX5_fooled_22_5_d 24 [(0, .ref (ad 0)), (1, .int (nI a)), (2, .int (nI b)), (3, .int (nI d)), (4, .int (nI x)), (5, .int (nI y))] [.int (nI d), .int (nI b)] rfl ?_
      refine g_icmp_ne X 37 dX5_fooled_24 (by decide) (fun hc6 => ?_) (fun hc6 => ?_)
      · refine g_run X KX5_fooled_37_6 KX5_fooled_37_6_d 39 [(0, .ref (ad 0)), (1, .int (nI a)), (2, .int (nI b)), (3, .int (nI d)), (4, .int (nI x)), (5, .int (nI y))] [.int (nI x)] rfl ?_
        refine g_callS X hSB hAf (As := [.int (nI x)]) (wr := []) (n := 1) (c_X5_checkElementNotZero l D g x (by omega) (by omega)) rfl srcN hrdN w_546 w_544 w_545 w_1 (by decide +kernel) rfl ⟨Nat.le_of_ble_eq_true rfl, Nat.le_of_ble_eq_true rfl⟩ rfl rfl rfl (Nat.le_of_ble_eq_true rfl) ⟨Nat.le_of_ble_eq_true rfl, Nat.le_of_ble_eq_true rfl⟩ dX5_fooled_39 (fun hu7 _ => ?_)
        refine g_af (ws' := []) (st' := []) (cells' := 0) (slots' := 0) (pc' := 42) rfl rfl rfl rfl rfl ?_
        refine g_run X KX5_fooled_42_7 KX5_fooled_42_7_d 44 [(0, .ref (ad 0)), (1, .int (nI a)), (2, .int (nI b)), (3, .int (nI d)), (4, .int (nI x)), (5, .int (nI y))] [.int (nI y)] rfl ?_
        refine g_callS X hSB hAf (As := [.int (nI y)]) (wr := []) (n := 1) (c_X5_checkElementNotZero l D g y (by omega) (by omega)) rfl srcN hrdN w_546 w_544 w_545 w_1 (by decide +kernel) rfl ⟨Nat.le_of_ble_eq_true rfl, Nat.le_of_ble_eq_true rfl⟩ rfl rfl rfl (Nat.le_of_ble_eq_true rfl) ⟨Nat.le_of_ble_eq_true rfl, Nat.le_of_ble_eq_true rfl⟩ dX5_fooled_44 (fun hu8 _ => ?_)
        refine g_af (ws' := []) (st' := []) (cells' := 0) (slots' := 0) (pc' := 47) rfl rfl rfl rfl rfl ?_
        refine g_run X KX5_fooled_47_8 KX5_fooled_47_8_d 51 [(0, .ref (ad 0)), (1, .int (nI a)), (2, .int (nI b)), (3, .int (nI d)), (4, .int (nI x)), (5, .int (nI y))] [.int (nI x), .int (nI a), .long (lN 0)] rfl ?_
        refine g_callS X hSB hAf (As := [.long (lN 0), .int (nI a), .int (nI x)]) (wr := []) (n := 3) (c_X5_withNumber l D g (lN 0) a x (by omega)) rfl srcN hrdN w_222 w_712 w_221 w_1 (by decide +kernel) rfl ⟨Nat.le_of_ble_eq_true rfl, Nat.le_of_ble_eq_true rfl⟩ rfl rfl rfl (Nat.le_of_ble_eq_true rfl) ⟨Nat.le_of_ble_eq_true rfl, Nat.le_of_ble_eq_true rfl⟩ dX5_fooled_51 (fun hu9 _ => ?_)
        refine g_af (ws' := []) (st' := [.long (wn (lN 0) a x)]) (cells' := 0) (slots' := 0) (pc' := 54) rfl rfl rfl rfl rfl ?_
        refine g_run X KX5_fooled_54_9 KX5_fooled_54_9_d 57 [(0, .ref (ad 0)), (1, .int (nI a)), (2, .int (nI b)), (3, .int (nI d)), (4, .int (nI x)), (5, .int (nI y))] [.int (nI y), .int (nI b), .long (wn (lN 0) a x)] rfl ?_
        refine g_callS X hSB hAf (As := [.long (wn (lN 0) a x), .int (nI b), .int (nI y)]) (wr := []) (n := 3) (c_X5_withNumber l D g (wn (lN 0) a x) b y (by omega)) rfl srcN hrdN w_222 w_712 w_221 w_1 (by decide +kernel) rfl ⟨Nat.le_of_ble_eq_true rfl, Nat.le_of_ble_eq_true rfl⟩ rfl rfl rfl (Nat.le_of_ble_eq_true rfl) ⟨Nat.le_of_ble_eq_true rfl, Nat.le_of_ble_eq_true rfl⟩ dX5_fooled_57 (fun hu10 _ => ?_)
        refine g_af (ws' := []) (st' := [.long (wn (wn (lN 0) a x) b y)]) (cells' := 0) (slots' := 0) (pc' := 60) rfl rfl rfl rfl rfl ?_
        refine g_run X KX5_fooled_60_10 KX5_fooled_60_10_d 68 [(9, .int (nI 1)), (8, .int (nI 0)), (6, .long (wn (wn (lN 0) a x) b y)), (0, .ref (ad 0)), (1, .int (nI a)), (2, .int (nI b)), (3, .int (nI d)), (4, .int (nI x)), (5, .int (nI y))] [] rfl ?_
        refine g_lv (lv' := [(0, .ref (ad 0)), (1, .int (nI a)), (2, .int (nI b)), (3, .int (nI d)), (4, .int (nI x)), (5, .int (nI y)), (6, .long (wn (wn (lN 0) a x) b y)), (8, .int (nI 0)), (9, .int (nI 1))]) (lsub_c 3 rfl (lsub_c 4 rfl (lsub_c 5 rfl (lsub_c 6 rfl (lsub_c 7 rfl (lsub_c 8 rfl (lsub_c 2 rfl (lsub_c 1 rfl (lsub_c 0 rfl (lsub_n)))))))))) ?_
        refine g_for 15 (fun _ => []) (fun i => [(0, .ref (ad 0)), (1, .int (nI a)), (2, .int (nI b)), (3, .int (nI d)), (4, .int (nI x)), (5, .int (nI y)), (6, .long (wn (wn (lN 0) a x) b y)), (8, .int (nI (flV a b d x y i))), (9, .int (nI (i + 1)))]) (rfl) (rfl) ?_ ?_
        · refine g_run X KX5_fooled_68_11 KX5_fooled_68_11_d 72 [(0, .ref (ad 0)), (1, .int (nI a)), (2, .int (nI b)), (3, .int (nI d)), (4, .int (nI x)), (5, .int (nI y)), (6, .long (wn (wn (lN 0) a x) b y)), (8, .int (nI (flV a b d x y 15))), (9, .int (nI (15 + 1)))] [.int (nI 15), .int (nI (15 + 1))] rfl ?_
          refine g_icmp_gt X 103 dX5_fooled_72 (by decide) (fun hc11 => ?_) (fun hc11 => ?_)
          · refine g_run X KX5_fooled_103_12 KX5_fooled_103_12_d 105 [(0, .ref (ad 0)), (1, .int (nI a)), (2, .int (nI b)), (3, .int (nI d)), (4, .int (nI x)), (5, .int (nI y)), (6, .long (wn (wn (lN 0) a x) b y)), (8, .int (nI (flV a b d x y 15))), (9, .int (nI (15 + 1)))] [.int (nI (flV a b d x y 15))] rfl ?_
            exact g_iret X hr () (rfl) (trivial) ((List.append_nil _).symm) (Nat.le_of_ble_eq_true rfl) (Nat.le_of_ble_eq_true rfl) dX5_fooled_105
          · rw [nI_ltI (by omega) (by omega)] at hc11; first | omega | (simp at hc11)
        · intro i hi k68
          refine g_run X KX5_fooled_68_11 KX5_fooled_68_11_d 72 [(0, .ref (ad 0)), (1, .int (nI a)), (2, .int (nI b)), (3, .int (nI d)), (4, .int (nI x)), (5, .int (nI y)), (6, .long (wn (wn (lN 0) a x) b y)), (8, .int (nI (flV a b d x y i))), (9, .int (nI (i + 1)))] [.int (nI 15), .int (nI (i + 1))] rfl ?_
          refine g_icmp_gt X 103 dX5_fooled_72 (by decide) (fun hc12 => ?_) (fun hc12 => ?_)
          · rw [nI_ltI (by omega) (by omega)] at hc12; first | omega | (simp at hc12)
          · refine g_run X KX5_fooled_75_13 KX5_fooled_75_13_d 80 [(0, .ref (ad 0)), (1, .int (nI a)), (2, .int (nI b)), (3, .int (nI d)), (4, .int (nI x)), (5, .int (nI y)), (6, .long (wn (wn (lN 0) a x) b y)), (8, .int (nI (flV a b d x y i))), (9, .int (nI (i + 1)))] [.int (nI (i + 1)), .int (nI d), .long (wn (wn (lN 0) a x) b y)] rfl ?_
            refine g_callS X hSB hAf (As := [.long (wn (wn (lN 0) a x) b y), .int (nI d), .int (nI (i + 1))]) (wr := []) (n := 3) (c_X5_withNumber l D g (wn (wn (lN 0) a x) b y) d (i + 1) (by omega)) rfl srcN hrdN w_222 w_712 w_221 w_1 (by decide +kernel) rfl ⟨Nat.le_of_ble_eq_true rfl, Nat.le_of_ble_eq_true rfl⟩ rfl rfl rfl (Nat.le_of_ble_eq_true rfl) ⟨Nat.le_of_ble_eq_true rfl, Nat.le_of_ble_eq_true rfl⟩ dX5_fooled_80 (fun hu13 _ => ?_)
            refine g_af (ws' := []) (st' := [.long (wn (wn (wn (lN 0) a x) b y) d (i + 1))]) (cells' := 0) (slots' := 0) (pc' := 83) rfl rfl rfl rfl rfl ?_
            refine g_run X KX5_fooled_83_14 KX5_fooled_83_14_d 84 [(0, .ref (ad 0)), (1, .int (nI a)), (2, .int (nI b)), (3, .int (nI d)), (4, .int (nI x)), (5, .int (nI y)), (6, .long (wn (wn (lN 0) a x) b y)), (8, .int (nI (flV a b d x y i))), (9, .int (nI (i + 1)))] [.int (nI 0), .long (wn (wn (wn (lN 0) a x) b y) d (i + 1))] rfl ?_
            refine g_callS X hSB hAf (As := [.long (wn (wn (wn (lN 0) a x) b y) d (i + 1)), .int (nI 0)]) (wr := []) (n := 2) (c_X2_mendedWord l D g (wn (wn (wn (lN 0) a x) b y) d (i + 1)) 0 (by decide)) rfl srcN hrdN w_256 w_713 w_255 w_22 (by decide +kernel) rfl ⟨Nat.le_of_ble_eq_true rfl, Nat.le_of_ble_eq_true rfl⟩ rfl rfl rfl (Nat.le_of_ble_eq_true rfl) ⟨Nat.le_of_ble_eq_true rfl, Nat.le_of_ble_eq_true rfl⟩ dX5_fooled_84 (fun hu14 _ => ?_)
            refine g_af (ws' := []) (st' := [.long (oL (mw 0 (wn (wn (wn (lN 0) a x) b y) d (i + 1))))]) (cells' := 0) (slots' := 0) (pc' := 87) rfl rfl rfl rfl rfl ?_
            refine g_ldc2 X (v := (-1 : Int64)) w_224 dX5_fooled_87 ?_
            refine g_run X KX5_fooled_90_15 KX5_fooled_90_15_d 91 [(0, .ref (ad 0)), (1, .int (nI a)), (2, .int (nI b)), (3, .int (nI d)), (4, .int (nI x)), (5, .int (nI y)), (6, .long (wn (wn (lN 0) a x) b y)), (8, .int (nI (flV a b d x y i))), (9, .int (nI (i + 1)))] [.int (lg_cmp (oL (mw 0 (wn (wn (wn (lN 0) a x) b y) d (i + 1)))) (-1 : Int64))] rfl ?_
            refine g_if_eq X 97 dX5_fooled_91 (by decide) (fun hc15 => ?_) (fun hc15 => ?_)
            · rw [lc0] at hc15; have hfw : flW a b d x y i = -1 := hc15
              refine g_run X KX5_fooled_97_16 KX5_fooled_97_16_d 68 [(9, .int ((nI (i + 1)) + (nI 1))), (0, .ref (ad 0)), (1, .int (nI a)), (2, .int (nI b)), (3, .int (nI d)), (4, .int (nI x)), (5, .int (nI y)), (6, .long (wn (wn (lN 0) a x) b y)), (8, .int (nI (flV a b d x y i)))] [] rfl ?_
              refine g_nm (lv' := [(9, .int (nI ((i + 1) + 1))), (0, .ref (ad 0)), (1, .int (nI a)), (2, .int (nI b)), (3, .int (nI d)), (4, .int (nI x)), (5, .int (nI y)), (6, .long (wn (wn (lN 0) a x) b y)), (8, .int (nI (flV a b d x y i)))]) (st' := []) (by simp only [nI_add]) (by simp only [nI_add]) ?_
              refine g_lv (lv' := [(0, .ref (ad 0)), (1, .int (nI a)), (2, .int (nI b)), (3, .int (nI d)), (4, .int (nI x)), (5, .int (nI y)), (6, .long (wn (wn (lN 0) a x) b y)), (8, .int (nI (flV a b d x y i))), (9, .int (nI ((i + 1) + 1)))]) (lsub_c 1 rfl (lsub_c 2 rfl (lsub_c 3 rfl (lsub_c 4 rfl (lsub_c 5 rfl (lsub_c 6 rfl (lsub_c 7 rfl (lsub_c 8 rfl (lsub_c 0 rfl (lsub_n)))))))))) ?_
              refine g_cs (ws' := []) (lv' := [(0, .ref (ad 0)), (1, .int (nI a)), (2, .int (nI b)), (3, .int (nI d)), (4, .int (nI x)), (5, .int (nI y)), (6, .long (wn (wn (lN 0) a x) b y)), (8, .int (nI (flV a b d x y (i + 1)))), (9, .int (nI ((i + 1) + 1)))]) (rfl) (by simp [flV, *]) ?_
              exact k68
            · rw [lc0] at hc15; have hfw : ¬ flW a b d x y i = -1 := hc15
              refine g_run X KX5_fooled_94_17 KX5_fooled_94_17_d 68 [(9, .int ((nI (i + 1)) + (nI 1))), (8, .int ((nI (flV a b d x y i)) + (nI 1))), (0, .ref (ad 0)), (1, .int (nI a)), (2, .int (nI b)), (3, .int (nI d)), (4, .int (nI x)), (5, .int (nI y)), (6, .long (wn (wn (lN 0) a x) b y))] [] rfl ?_
              refine g_nm (lv' := [(9, .int (nI ((i + 1) + 1))), (8, .int (nI ((flV a b d x y i) + 1))), (0, .ref (ad 0)), (1, .int (nI a)), (2, .int (nI b)), (3, .int (nI d)), (4, .int (nI x)), (5, .int (nI y)), (6, .long (wn (wn (lN 0) a x) b y))]) (st' := []) (by simp only [nI_add]) (by simp only [nI_add]) ?_
              refine g_lv (lv' := [(0, .ref (ad 0)), (1, .int (nI a)), (2, .int (nI b)), (3, .int (nI d)), (4, .int (nI x)), (5, .int (nI y)), (6, .long (wn (wn (lN 0) a x) b y)), (8, .int (nI ((flV a b d x y i) + 1))), (9, .int (nI ((i + 1) + 1)))]) (lsub_c 2 rfl (lsub_c 3 rfl (lsub_c 4 rfl (lsub_c 5 rfl (lsub_c 6 rfl (lsub_c 7 rfl (lsub_c 8 rfl (lsub_c 1 rfl (lsub_c 0 rfl (lsub_n)))))))))) ?_
              refine g_cs (ws' := []) (lv' := [(0, .ref (ad 0)), (1, .int (nI a)), (2, .int (nI b)), (3, .int (nI d)), (4, .int (nI x)), (5, .int (nI y)), (6, .long (wn (wn (lN 0) a x) b y)), (8, .int (nI (flV a b d x y (i + 1)))), (9, .int (nI ((i + 1) + 1)))]) (rfl) (by simp [flV, *]) ?_
              exact k68
      · rw [nI_eq (by omega) (by omega)] at hc6; first | omega | (simp at hc6)

set_option maxHeartbeats 4000000 in
set_option maxRecDepth 100000 in
theorem x_X5_fooled_1 (l : Launch) (hfl : l.stackTraces = false) (D : va_G) (g : Nat → ClassId) (ad : Nat → Nat) (I : Nat → Nat → Int32) (L : Nat → Nat → Int64) (S : Nat → Nat) (x : Int32) (y1 : Int32) (y2 : Int32) (y3 : Int32) (y4 : Int32) (hx : x < 0 ∨ ¬ x < nI 15) : CX l yX5_fooled cX5_fooled 10 ((Option.some FieldType.int)) ({ frames := 7, cells := 1, slots := 6, locals := 120 } : Room) [.ref (ad 0), .int x, .int y1, .int y2, .int y3, .int y4] D CL (TYS g) (WC ad g I L S) xIO 1 6 := by
  refine cx_of (by decide +kernel) (Nat.le_of_ble_eq_true rfl) ?_
  intro p e s m below meth c A X hnt hSB hRO hAf
  refine g_cs (ws' := []) (lv' := [(0, .ref (ad 0)), (1, .int x), (2, .int y1), (3, .int y2), (4, .int y3), (5, .int y4)]) rfl rfl ?_
  refine g_run X KX5_fooled_0_0 KX5_fooled_0_0_d 1 [(0, .ref (ad 0)), (1, .int x), (2, .int y1), (3, .int y2), (4, .int y3), (5, .int y4)] [.int x] rfl ?_
  exact gx_callS X hSB hAf hnt (As := [.int x]) (n := 1) (x_X5_checkPlace l hfl D g x (hx)) srcN w_559 w_557 w_558 w_1 (by decide +kernel) rfl ⟨Nat.le_of_ble_eq_true rfl, Nat.le_of_ble_eq_true rfl⟩ rfl rfl rfl (Nat.le_of_ble_eq_true rfl) ⟨Nat.le_of_ble_eq_true rfl, Nat.le_of_ble_eq_true rfl⟩ (Nat.le_of_ble_eq_true rfl) (Nat.le_of_ble_eq_true rfl) dX5_fooled_1

set_option maxHeartbeats 4000000 in
set_option maxRecDepth 100000 in
theorem x_X5_fooled_2 (l : Launch) (hfl : l.stackTraces = false) (D : va_G) (g : Nat → ClassId) (ad : Nat → Nat) (I : Nat → Nat → Int32) (L : Nat → Nat → Int64) (S : Nat → Nat) (a : Nat) (x : Int32) (y1 : Int32) (y2 : Int32) (y3 : Int32) (ha : a < 15) (hx : x < 0 ∨ ¬ x < nI 15) : CX l yX5_fooled cX5_fooled 10 ((Option.some FieldType.int)) ({ frames := 7, cells := 1, slots := 6, locals := 120 } : Room) [.ref (ad 0), .int (nI a), .int x, .int y1, .int y2, .int y3] D CL (TYS g) (WC ad g I L S) xIO 1 6 := by
  refine cx_of (by decide +kernel) (Nat.le_of_ble_eq_true rfl) ?_
  intro p e s m below meth c A X hnt hSB hRO hAf
  refine g_cs (ws' := []) (lv' := [(0, .ref (ad 0)), (1, .int (nI a)), (2, .int x), (3, .int y1), (4, .int y2), (5, .int y3)]) rfl rfl ?_
  refine g_run X KX5_fooled_0_0 KX5_fooled_0_0_d 1 [(0, .ref (ad 0)), (1, .int (nI a)), (2, .int x), (3, .int y1), (4, .int y2), (5, .int y3)] [.int (nI a)] rfl ?_
  refine g_callS X hSB hAf (As := [.int (nI a)]) (wr := []) (n := 1) (c_X5_checkPlace l D g a (by omega)) rfl srcN hrdN w_559 w_557 w_558 w_1 (by decide +kernel) rfl ⟨Nat.le_of_ble_eq_true rfl, Nat.le_of_ble_eq_true rfl⟩ rfl rfl rfl (Nat.le_of_ble_eq_true rfl) ⟨Nat.le_of_ble_eq_true rfl, Nat.le_of_ble_eq_true rfl⟩ dX5_fooled_1 (fun hu1 _ => ?_)
  refine g_af (ws' := []) (st' := []) (cells' := 0) (slots' := 0) (pc' := 4) rfl rfl rfl rfl rfl ?_
  refine g_run X KX5_fooled_4_1 KX5_fooled_4_1_d 5 [(0, .ref (ad 0)), (1, .int (nI a)), (2, .int x), (3, .int y1), (4, .int y2), (5, .int y3)] [.int x] rfl ?_
  exact gx_callS X hSB hAf hnt (As := [.int x]) (n := 1) (x_X5_checkPlace l hfl D g x (hx)) srcN w_559 w_557 w_558 w_1 (by decide +kernel) rfl ⟨Nat.le_of_ble_eq_true rfl, Nat.le_of_ble_eq_true rfl⟩ rfl rfl rfl (Nat.le_of_ble_eq_true rfl) ⟨Nat.le_of_ble_eq_true rfl, Nat.le_of_ble_eq_true rfl⟩ (Nat.le_of_ble_eq_true rfl) (Nat.le_of_ble_eq_true rfl) dX5_fooled_5

set_option maxHeartbeats 4000000 in
set_option maxRecDepth 100000 in
theorem x_X5_fooled_3 (l : Launch) (hfl : l.stackTraces = false) (D : va_G) (g : Nat → ClassId) (ad : Nat → Nat) (I : Nat → Nat → Int32) (L : Nat → Nat → Int64) (S : Nat → Nat) (a : Nat) (b : Nat) (x : Int32) (y1 : Int32) (y2 : Int32) (ha : a < 15) (hb : b < 15) (hx : x < 0 ∨ ¬ x < nI 15) : CX l yX5_fooled cX5_fooled 10 ((Option.some FieldType.int)) ({ frames := 7, cells := 1, slots := 6, locals := 120 } : Room) [.ref (ad 0), .int (nI a), .int (nI b), .int x, .int y1, .int y2] D CL (TYS g) (WC ad g I L S) xIO 1 6 := by
  refine cx_of (by decide +kernel) (Nat.le_of_ble_eq_true rfl) ?_
  intro p e s m below meth c A X hnt hSB hRO hAf
  refine g_cs (ws' := []) (lv' := [(0, .ref (ad 0)), (1, .int (nI a)), (2, .int (nI b)), (3, .int x), (4, .int y1), (5, .int y2)]) rfl rfl ?_
  refine g_run X KX5_fooled_0_0 KX5_fooled_0_0_d 1 [(0, .ref (ad 0)), (1, .int (nI a)), (2, .int (nI b)), (3, .int x), (4, .int y1), (5, .int y2)] [.int (nI a)] rfl ?_
  refine g_callS X hSB hAf (As := [.int (nI a)]) (wr := []) (n := 1) (c_X5_checkPlace l D g a (by omega)) rfl srcN hrdN w_559 w_557 w_558 w_1 (by decide +kernel) rfl ⟨Nat.le_of_ble_eq_true rfl, Nat.le_of_ble_eq_true rfl⟩ rfl rfl rfl (Nat.le_of_ble_eq_true rfl) ⟨Nat.le_of_ble_eq_true rfl, Nat.le_of_ble_eq_true rfl⟩ dX5_fooled_1 (fun hu1 _ => ?_)
  refine g_af (ws' := []) (st' := []) (cells' := 0) (slots' := 0) (pc' := 4) rfl rfl rfl rfl rfl ?_
  refine g_run X KX5_fooled_4_1 KX5_fooled_4_1_d 5 [(0, .ref (ad 0)), (1, .int (nI a)), (2, .int (nI b)), (3, .int x), (4, .int y1), (5, .int y2)] [.int (nI b)] rfl ?_
  refine g_callS X hSB hAf (As := [.int (nI b)]) (wr := []) (n := 1) (c_X5_checkPlace l D g b (by omega)) rfl srcN hrdN w_559 w_557 w_558 w_1 (by decide +kernel) rfl ⟨Nat.le_of_ble_eq_true rfl, Nat.le_of_ble_eq_true rfl⟩ rfl rfl rfl (Nat.le_of_ble_eq_true rfl) ⟨Nat.le_of_ble_eq_true rfl, Nat.le_of_ble_eq_true rfl⟩ dX5_fooled_5 (fun hu2 _ => ?_)
  refine g_af (ws' := []) (st' := []) (cells' := 0) (slots' := 0) (pc' := 8) rfl rfl rfl rfl rfl ?_
  refine g_run X KX5_fooled_8_2 KX5_fooled_8_2_d 9 [(0, .ref (ad 0)), (1, .int (nI a)), (2, .int (nI b)), (3, .int x), (4, .int y1), (5, .int y2)] [.int x] rfl ?_
  exact gx_callS X hSB hAf hnt (As := [.int x]) (n := 1) (x_X5_checkPlace l hfl D g x (hx)) srcN w_559 w_557 w_558 w_1 (by decide +kernel) rfl ⟨Nat.le_of_ble_eq_true rfl, Nat.le_of_ble_eq_true rfl⟩ rfl rfl rfl (Nat.le_of_ble_eq_true rfl) ⟨Nat.le_of_ble_eq_true rfl, Nat.le_of_ble_eq_true rfl⟩ (Nat.le_of_ble_eq_true rfl) (Nat.le_of_ble_eq_true rfl) dX5_fooled_9

set_option maxHeartbeats 4000000 in
set_option maxRecDepth 100000 in
theorem x_X5_fooled_4 (l : Launch) (hfl : l.stackTraces = false) (D : va_G) (g : Nat → ClassId) (ad : Nat → Nat) (I : Nat → Nat → Int32) (L : Nat → Nat → Int64) (S : Nat → Nat) (a : Nat) (b : Nat) (d : Nat) (y1 : Int32) (y2 : Int32) (ha : a < 15) (hb : b < 15) (hd : d < 15) (hx : a = b ∨ a = d ∨ b = d) : CX l yX5_fooled cX5_fooled 10 ((Option.some FieldType.int)) ({ frames := 6, cells := 1, slots := 6, locals := 100 } : Room) [.ref (ad 0), .int (nI a), .int (nI b), .int (nI d), .int y1, .int y2] D CL (TYS g) (WC ad g I L S) xIA 1 6 := by
  refine cx_of (by decide +kernel) (Nat.le_of_ble_eq_true rfl) ?_
  intro p e s m below meth c A X hnt hSB hRO hAf
  refine g_cs (ws' := []) (lv' := [(0, .ref (ad 0)), (1, .int (nI a)), (2, .int (nI b)), (3, .int (nI d)), (4, .int y1), (5, .int y2)]) rfl rfl ?_
  refine g_run X KX5_fooled_0_0 KX5_fooled_0_0_d 1 [(0, .ref (ad 0)), (1, .int (nI a)), (2, .int (nI b)), (3, .int (nI d)), (4, .int y1), (5, .int y2)] [.int (nI a)] rfl ?_
  refine g_callS X hSB hAf (As := [.int (nI a)]) (wr := []) (n := 1) (c_X5_checkPlace l D g a (by omega)) rfl srcN hrdN w_559 w_557 w_558 w_1 (by decide +kernel) rfl ⟨Nat.le_of_ble_eq_true rfl, Nat.le_of_ble_eq_true rfl⟩ rfl rfl rfl (Nat.le_of_ble_eq_true rfl) ⟨Nat.le_of_ble_eq_true rfl, Nat.le_of_ble_eq_true rfl⟩ dX5_fooled_1 (fun hu1 _ => ?_)
  refine g_af (ws' := []) (st' := []) (cells' := 0) (slots' := 0) (pc' := 4) rfl rfl rfl rfl rfl ?_
  refine g_run X KX5_fooled_4_1 KX5_fooled_4_1_d 5 [(0, .ref (ad 0)), (1, .int (nI a)), (2, .int (nI b)), (3, .int (nI d)), (4, .int y1), (5, .int y2)] [.int (nI b)] rfl ?_
  refine g_callS X hSB hAf (As := [.int (nI b)]) (wr := []) (n := 1) (c_X5_checkPlace l D g b (by omega)) rfl srcN hrdN w_559 w_557 w_558 w_1 (by decide +kernel) rfl ⟨Nat.le_of_ble_eq_true rfl, Nat.le_of_ble_eq_true rfl⟩ rfl rfl rfl (Nat.le_of_ble_eq_true rfl) ⟨Nat.le_of_ble_eq_true rfl, Nat.le_of_ble_eq_true rfl⟩ dX5_fooled_5 (fun hu2 _ => ?_)
  refine g_af (ws' := []) (st' := []) (cells' := 0) (slots' := 0) (pc' := 8) rfl rfl rfl rfl rfl ?_
  refine g_run X KX5_fooled_8_2 KX5_fooled_8_2_d 9 [(0, .ref (ad 0)), (1, .int (nI a)), (2, .int (nI b)), (3, .int (nI d)), (4, .int y1), (5, .int y2)] [.int (nI d)] rfl ?_
  refine g_callS X hSB hAf (As := [.int (nI d)]) (wr := []) (n := 1) (c_X5_checkPlace l D g d (by omega)) rfl srcN hrdN w_559 w_557 w_558 w_1 (by decide +kernel) rfl ⟨Nat.le_of_ble_eq_true rfl, Nat.le_of_ble_eq_true rfl⟩ rfl rfl rfl (Nat.le_of_ble_eq_true rfl) ⟨Nat.le_of_ble_eq_true rfl, Nat.le_of_ble_eq_true rfl⟩ dX5_fooled_9 (fun hu3 _ => ?_)
  refine g_af (ws' := []) (st' := []) (cells' := 0) (slots' := 0) (pc' := 12) rfl rfl rfl rfl rfl ?_
  refine g_run X KX5_fooled_12_3 KX5_fooled_12_3_d 14 [(0, .ref (ad 0)), (1, .int (nI a)), (2, .int (nI b)), (3, .int (nI d)), (4, .int y1), (5, .int y2)] [.int (nI b), .int (nI a)] rfl ?_
  refine g_icmp_eq X 27 dX5_fooled_14 (by decide) (fun hc4 => ?_) (fun hc4 => ?_)
  · rw [nI_eq (by omega) (by omega)] at hc4
    exact g_throwS (E := xIA) X hSB hfl hnt (text := "two places are the same") (names := xNm) (by decide +kernel) (by decide +kernel) w_333 w_21 (by decide +kernel) hatIA hgdIA dX5_fooled_27 dX5_fooled_30 dX5_fooled_31 dX5_fooled_33 dX5_fooled_36 (Nat.le_of_ble_eq_true rfl) (Nat.le_of_ble_eq_true rfl) (Nat.le_of_ble_eq_true rfl) (Nat.le_of_ble_eq_true rfl) (Nat.le_of_ble_eq_true rfl) (Nat.le_of_ble_eq_true rfl)
  · rw [nI_eq (by omega) (by omega)] at hc4
    refine g_run X KX5_fooled_17_4 KX5_fooled_17_4_d 19 [(0, .ref (ad 0)), (1, .int (nI a)), (2, .int (nI b)), (3, .int (nI d)), (4, .int y1), (5, .int y2)] [.int (nI d), .int (nI a)] rfl ?_
    refine g_icmp_eq X 27 dX5_fooled_19 (by decide) (fun hc5 => ?_) (fun hc5 => ?_)
    · rw [nI_eq (by omega) (by omega)] at hc5
      exact g_throwS (E := xIA) X hSB hfl hnt (text := "two places are the same") (names := xNm) (by decide +kernel) (by decide +kernel) w_333 w_21 (by decide +kernel) hatIA hgdIA dX5_fooled_27 dX5_fooled_30 dX5_fooled_31 dX5_fooled_33 dX5_fooled_36 (Nat.le_of_ble_eq_true rfl) (Nat.le_of_ble_eq_true rfl) (Nat.le_of_ble_eq_true rfl) (Nat.le_of_ble_eq_true rfl) (Nat.le_of_ble_eq_true rfl) (Nat.le_of_ble_eq_true rfl)
    · rw [nI_eq (by omega) (by omega)] at hc5
      refine g_run X KX5_fooled_22_5 KX5_fooled_22_5_d 24 [(0, .ref (ad 0)), (1, .int (nI a)), (2, .int (nI b)), (3, .int (nI d)), (4, .int y1), (5, .int y2)] [.int (nI d), .int (nI b)] rfl ?_
      refine g_icmp_ne X 37 dX5_fooled_24 (by decide) (fun hc6 => ?_) (fun hc6 => ?_)
      · rw [nI_eq (by omega) (by omega)] at hc6; first | omega | (simp at hc6)
      · exact g_throwS (E := xIA) X hSB hfl hnt (text := "two places are the same") (names := xNm) (by decide +kernel) (by decide +kernel) w_333 w_21 (by decide +kernel) hatIA hgdIA dX5_fooled_27 dX5_fooled_30 dX5_fooled_31 dX5_fooled_33 dX5_fooled_36 (Nat.le_of_ble_eq_true rfl) (Nat.le_of_ble_eq_true rfl) (Nat.le_of_ble_eq_true rfl) (Nat.le_of_ble_eq_true rfl) (Nat.le_of_ble_eq_true rfl) (Nat.le_of_ble_eq_true rfl)

set_option maxHeartbeats 4000000 in
set_option maxRecDepth 100000 in
theorem x_X5_fooled_5 (l : Launch) (hfl : l.stackTraces = false) (D : va_G) (g : Nat → ClassId) (ad : Nat → Nat) (I : Nat → Nat → Int32) (L : Nat → Nat → Int64) (S : Nat → Nat) (a : Nat) (b : Nat) (d : Nat) (x : Int32) (y1 : Int32) (ha : a < 15) (hb : b < 15) (hd : d < 15) (hab : a ≠ b) (had : a ≠ d) (hbd : b ≠ d) (hx : x < nI 1 ∨ ¬ x ≤ nI 15) : CX l yX5_fooled cX5_fooled 10 ((Option.some FieldType.int)) ({ frames := 7, cells := 1, slots := 6, locals := 120 } : Room) [.ref (ad 0), .int (nI a), .int (nI b), .int (nI d), .int x, .int y1] D CL (TYS g) (WC ad g I L S) xIA 1 6 := by
  refine cx_of (by decide +kernel) (Nat.le_of_ble_eq_true rfl) ?_
  intro p e s m below meth c A X hnt hSB hRO hAf
  refine g_cs (ws' := []) (lv' := [(0, .ref (ad 0)), (1, .int (nI a)), (2, .int (nI b)), (3, .int (nI d)), (4, .int x), (5, .int y1)]) rfl rfl ?_
  refine g_run X KX5_fooled_0_0 KX5_fooled_0_0_d 1 [(0, .ref (ad 0)), (1, .int (nI a)), (2, .int (nI b)), (3, .int (nI d)), (4, .int x), (5, .int y1)] [.int (nI a)] rfl ?_
  refine g_callS X hSB hAf (As := [.int (nI a)]) (wr := []) (n := 1) (c_X5_checkPlace l D g a (by omega)) rfl srcN hrdN w_559 w_557 w_558 w_1 (by decide +kernel) rfl ⟨Nat.le_of_ble_eq_true rfl, Nat.le_of_ble_eq_true rfl⟩ rfl rfl rfl (Nat.le_of_ble_eq_true rfl) ⟨Nat.le_of_ble_eq_true rfl, Nat.le_of_ble_eq_true rfl⟩ dX5_fooled_1 (fun hu1 _ => ?_)
  refine g_af (ws' := []) (st' := []) (cells' := 0) (slots' := 0) (pc' := 4) rfl rfl rfl rfl rfl ?_
  refine g_run X KX5_fooled_4_1 KX5_fooled_4_1_d 5 [(0, .ref (ad 0)), (1, .int (nI a)), (2, .int (nI b)), (3, .int (nI d)), (4, .int x), (5, .int y1)] [.int (nI b)] rfl ?_
  refine g_callS X hSB hAf (As := [.int (nI b)]) (wr := []) (n := 1) (c_X5_checkPlace l D g b (by omega)) rfl srcN hrdN w_559 w_557 w_558 w_1 (by decide +kernel) rfl ⟨Nat.le_of_ble_eq_true rfl, Nat.le_of_ble_eq_true rfl⟩ rfl rfl rfl (Nat.le_of_ble_eq_true rfl) ⟨Nat.le_of_ble_eq_true rfl, Nat.le_of_ble_eq_true rfl⟩ dX5_fooled_5 (fun hu2 _ => ?_)
  refine g_af (ws' := []) (st' := []) (cells' := 0) (slots' := 0) (pc' := 8) rfl rfl rfl rfl rfl ?_
  refine g_run X KX5_fooled_8_2 KX5_fooled_8_2_d 9 [(0, .ref (ad 0)), (1, .int (nI a)), (2, .int (nI b)), (3, .int (nI d)), (4, .int x), (5, .int y1)] [.int (nI d)] rfl ?_
  refine g_callS X hSB hAf (As := [.int (nI d)]) (wr := []) (n := 1) (c_X5_checkPlace l D g d (by omega)) rfl srcN hrdN w_559 w_557 w_558 w_1 (by decide +kernel) rfl ⟨Nat.le_of_ble_eq_true rfl, Nat.le_of_ble_eq_true rfl⟩ rfl rfl rfl (Nat.le_of_ble_eq_true rfl) ⟨Nat.le_of_ble_eq_true rfl, Nat.le_of_ble_eq_true rfl⟩ dX5_fooled_9 (fun hu3 _ => ?_)
  refine g_af (ws' := []) (st' := []) (cells' := 0) (slots' := 0) (pc' := 12) rfl rfl rfl rfl rfl ?_
  refine g_run X KX5_fooled_12_3 KX5_fooled_12_3_d 14 [(0, .ref (ad 0)), (1, .int (nI a)), (2, .int (nI b)), (3, .int (nI d)), (4, .int x), (5, .int y1)] [.int (nI b), .int (nI a)] rfl ?_
  refine g_icmp_eq X 27 dX5_fooled_14 (by decide) (fun hc4 => ?_) (fun hc4 => ?_)
  · rw [nI_eq (by omega) (by omega)] at hc4; first | omega | (simp at hc4)
  · refine g_run X KX5_fooled_17_4 KX5_fooled_17_4_d 19 [(0, .ref (ad 0)), (1, .int (nI a)), (2, .int (nI b)), (3, .int (nI d)), (4, .int x), (5, .int y1)] [.int (nI d), .int (nI a)] rfl ?_
    refine g_icmp_eq X 27 dX5_fooled_19 (by decide) (fun hc5 => ?_) (fun hc5 => ?_)
    · rw [nI_eq (by omega) (by omega)] at hc5; first | omega | (simp at hc5)
    · refine g_run X KX5_fooled_22_5 KX5_fooled_22_5_d 24 [(0, .ref (ad 0)), (1, .int (nI a)), (2, .int (nI b)), (3, .int (nI d)), (4, .int x), (5, .int y1)] [.int (nI d), .int (nI b)] rfl ?_
      refine g_icmp_ne X 37 dX5_fooled_24 (by decide) (fun hc6 => ?_) (fun hc6 => ?_)
      · refine g_run X KX5_fooled_37_6 KX5_fooled_37_6_d 39 [(0, .ref (ad 0)), (1, .int (nI a)), (2, .int (nI b)), (3, .int (nI d)), (4, .int x), (5, .int y1)] [.int x] rfl ?_
        exact gx_callS X hSB hAf hnt (As := [.int x]) (n := 1) (x_X5_checkElementNotZero l hfl D g x (hx)) srcN w_546 w_544 w_545 w_1 (by decide +kernel) rfl ⟨Nat.le_of_ble_eq_true rfl, Nat.le_of_ble_eq_true rfl⟩ rfl rfl rfl (Nat.le_of_ble_eq_true rfl) ⟨Nat.le_of_ble_eq_true rfl, Nat.le_of_ble_eq_true rfl⟩ (Nat.le_of_ble_eq_true rfl) (Nat.le_of_ble_eq_true rfl) dX5_fooled_39
      · rw [nI_eq (by omega) (by omega)] at hc6; first | omega | (simp at hc6)

set_option maxHeartbeats 4000000 in
set_option maxRecDepth 100000 in
theorem x_X5_fooled_6 (l : Launch) (hfl : l.stackTraces = false) (D : va_G) (g : Nat → ClassId) (ad : Nat → Nat) (I : Nat → Nat → Int32) (L : Nat → Nat → Int64) (S : Nat → Nat) (a : Nat) (b : Nat) (d : Nat) (v : Nat) (x : Int32) (ha : a < 15) (hb : b < 15) (hd : d < 15) (hab : a ≠ b) (had : a ≠ d) (hbd : b ≠ d) (hv1 : 1 ≤ v) (hv : v < 16) (hx : x < nI 1 ∨ ¬ x ≤ nI 15) : CX l yX5_fooled cX5_fooled 10 ((Option.some FieldType.int)) ({ frames := 7, cells := 1, slots := 6, locals := 120 } : Room) [.ref (ad 0), .int (nI a), .int (nI b), .int (nI d), .int (nI v), .int x] D CL (TYS g) (WC ad g I L S) xIA 1 6 := by
  refine cx_of (by decide +kernel) (Nat.le_of_ble_eq_true rfl) ?_
  intro p e s m below meth c A X hnt hSB hRO hAf
  refine g_cs (ws' := []) (lv' := [(0, .ref (ad 0)), (1, .int (nI a)), (2, .int (nI b)), (3, .int (nI d)), (4, .int (nI v)), (5, .int x)]) rfl rfl ?_
  refine g_run X KX5_fooled_0_0 KX5_fooled_0_0_d 1 [(0, .ref (ad 0)), (1, .int (nI a)), (2, .int (nI b)), (3, .int (nI d)), (4, .int (nI v)), (5, .int x)] [.int (nI a)] rfl ?_
  refine g_callS X hSB hAf (As := [.int (nI a)]) (wr := []) (n := 1) (c_X5_checkPlace l D g a (by omega)) rfl srcN hrdN w_559 w_557 w_558 w_1 (by decide +kernel) rfl ⟨Nat.le_of_ble_eq_true rfl, Nat.le_of_ble_eq_true rfl⟩ rfl rfl rfl (Nat.le_of_ble_eq_true rfl) ⟨Nat.le_of_ble_eq_true rfl, Nat.le_of_ble_eq_true rfl⟩ dX5_fooled_1 (fun hu1 _ => ?_)
  refine g_af (ws' := []) (st' := []) (cells' := 0) (slots' := 0) (pc' := 4) rfl rfl rfl rfl rfl ?_
  refine g_run X KX5_fooled_4_1 KX5_fooled_4_1_d 5 [(0, .ref (ad 0)), (1, .int (nI a)), (2, .int (nI b)), (3, .int (nI d)), (4, .int (nI v)), (5, .int x)] [.int (nI b)] rfl ?_
  refine g_callS X hSB hAf (As := [.int (nI b)]) (wr := []) (n := 1) (c_X5_checkPlace l D g b (by omega)) rfl srcN hrdN w_559 w_557 w_558 w_1 (by decide +kernel) rfl ⟨Nat.le_of_ble_eq_true rfl, Nat.le_of_ble_eq_true rfl⟩ rfl rfl rfl (Nat.le_of_ble_eq_true rfl) ⟨Nat.le_of_ble_eq_true rfl, Nat.le_of_ble_eq_true rfl⟩ dX5_fooled_5 (fun hu2 _ => ?_)
  refine g_af (ws' := []) (st' := []) (cells' := 0) (slots' := 0) (pc' := 8) rfl rfl rfl rfl rfl ?_
  refine g_run X KX5_fooled_8_2 KX5_fooled_8_2_d 9 [(0, .ref (ad 0)), (1, .int (nI a)), (2, .int (nI b)), (3, .int (nI d)), (4, .int (nI v)), (5, .int x)] [.int (nI d)] rfl ?_
  refine g_callS X hSB hAf (As := [.int (nI d)]) (wr := []) (n := 1) (c_X5_checkPlace l D g d (by omega)) rfl srcN hrdN w_559 w_557 w_558 w_1 (by decide +kernel) rfl ⟨Nat.le_of_ble_eq_true rfl, Nat.le_of_ble_eq_true rfl⟩ rfl rfl rfl (Nat.le_of_ble_eq_true rfl) ⟨Nat.le_of_ble_eq_true rfl, Nat.le_of_ble_eq_true rfl⟩ dX5_fooled_9 (fun hu3 _ => ?_)
  refine g_af (ws' := []) (st' := []) (cells' := 0) (slots' := 0) (pc' := 12) rfl rfl rfl rfl rfl ?_
  refine g_run X KX5_fooled_12_3 KX5_fooled_12_3_d 14 [(0, .ref (ad 0)), (1, .int (nI a)), (2, .int (nI b)), (3, .int (nI d)), (4, .int (nI v)), (5, .int x)] [.int (nI b), .int (nI a)] rfl ?_
  refine g_icmp_eq X 27 dX5_fooled_14 (by decide) (fun hc4 => ?_) (fun hc4 => ?_)
  · rw [nI_eq (by omega) (by omega)] at hc4; first | omega | (simp at hc4)
  · refine g_run X KX5_fooled_17_4 KX5_fooled_17_4_d 19 [(0, .ref (ad 0)), (1, .int (nI a)), (2, .int (nI b)), (3, .int (nI d)), (4, .int (nI v)), (5, .int x)] [.int (nI d), .int (nI a)] rfl ?_
    refine g_icmp_eq X 27 dX5_fooled_19 (by decide) (fun hc5 => ?_) (fun hc5 => ?_)
    · rw [nI_eq (by omega) (by omega)] at hc5; first | omega | (simp at hc5)
    · refine g_run X KX5_fooled_22_5 KX5_fooled_22_5_d 24 [(0, .ref (ad 0)), (1, .int (nI a)), (2, .int (nI b)), (3, .int (nI d)), (4, .int (nI v)), (5, .int x)] [.int (nI d), .int (nI b)] rfl ?_
      refine g_icmp_ne X 37 dX5_fooled_24 (by decide) (fun hc6 => ?_) (fun hc6 => ?_)
      · refine g_run X KX5_fooled_37_6 KX5_fooled_37_6_d 39 [(0, .ref (ad 0)), (1, .int (nI a)), (2, .int (nI b)), (3, .int (nI d)), (4, .int (nI v)), (5, .int x)] [.int (nI v)] rfl ?_
        refine g_callS X hSB hAf (As := [.int (nI v)]) (wr := []) (n := 1) (c_X5_checkElementNotZero l D g v (by omega) (by omega)) rfl srcN hrdN w_546 w_544 w_545 w_1 (by decide +kernel) rfl ⟨Nat.le_of_ble_eq_true rfl, Nat.le_of_ble_eq_true rfl⟩ rfl rfl rfl (Nat.le_of_ble_eq_true rfl) ⟨Nat.le_of_ble_eq_true rfl, Nat.le_of_ble_eq_true rfl⟩ dX5_fooled_39 (fun hu7 _ => ?_)
        refine g_af (ws' := []) (st' := []) (cells' := 0) (slots' := 0) (pc' := 42) rfl rfl rfl rfl rfl ?_
        refine g_run X KX5_fooled_42_7 KX5_fooled_42_7_d 44 [(0, .ref (ad 0)), (1, .int (nI a)), (2, .int (nI b)), (3, .int (nI d)), (4, .int (nI v)), (5, .int x)] [.int x] rfl ?_
        exact gx_callS X hSB hAf hnt (As := [.int x]) (n := 1) (x_X5_checkElementNotZero l hfl D g x (hx)) srcN w_546 w_544 w_545 w_1 (by decide +kernel) rfl ⟨Nat.le_of_ble_eq_true rfl, Nat.le_of_ble_eq_true rfl⟩ rfl rfl rfl (Nat.le_of_ble_eq_true rfl) ⟨Nat.le_of_ble_eq_true rfl, Nat.le_of_ble_eq_true rfl⟩ (Nat.le_of_ble_eq_true rfl) (Nat.le_of_ble_eq_true rfl) dX5_fooled_44
      · rw [nI_eq (by omega) (by omega)] at hc6; first | omega | (simp at hc6)

def KX5_seen_0_0 : List (Nat × Instr × Nat) := [(0, .iload_n 1, 1)]
theorem KX5_seen_0_0_d : ∀ z ∈ KX5_seen_0_0, decode cX5_seen z.1 = .ok z.2 := by decide +kernel
def KX5_seen_4_1 : List (Nat × Instr × Nat) := [(4, .iload_n 2, 1)]
theorem KX5_seen_4_1_d : ∀ z ∈ KX5_seen_4_1, decode cX5_seen z.1 = .ok z.2 := by decide +kernel
def KX5_seen_8_2 : List (Nat × Instr × Nat) := [(8, .aload_n 0, 1)]
theorem KX5_seen_8_2_d : ∀ z ∈ KX5_seen_8_2, decode cX5_seen z.1 = .ok z.2 := by decide +kernel
def KX5_seen_15_3 : List (Nat × Instr × Nat) := [(15, .iload_n 2, 1)]
theorem KX5_seen_15_3_d : ∀ z ∈ KX5_seen_15_3, decode cX5_seen z.1 = .ok z.2 := by decide +kernel
def KX5_seen_17_4 : List (Nat × Instr × Nat) := [(17, .iload_n 1, 1)]
theorem KX5_seen_17_4_d : ∀ z ∈ KX5_seen_17_4, decode cX5_seen z.1 = .ok z.2 := by decide +kernel
set_option maxHeartbeats 4000000 in
set_option maxRecDepth 100000 in
theorem c_X5_seen (l : Launch) (D : va_G) (g : Nat → ClassId) (ad : Nat → Nat) (I : Nat → Nat → Int32) (L : Nat → Nat → Int64) (S : Nat → Nat) (q : Nat) (r : Nat) (hS18 : ∀ p, p < 15 → S p < 18) (hq : q < 16) (hr : r < 15) : CT l yX5_seen cX5_seen 3 ((Option.some FieldType.int)) ({ frames := 2, cells := 0, slots := 0, locals := 44 } : Room) [.ref (ad 0), .int (nI q), .int (nI r)] D CL (TYS g) (WC ad g I L S) ([]) (S := Unit) (fun _ => some (.int (nI (rd I L (S r) q)))) (fun _ => []) (fun _ => True) 0 0 := by
  refine ct_of (by decide +kernel) (Nat.le_of_ble_eq_true rfl) ?_
  intro p e s m below meth c A X hr hnm hSB hRO hAf
  refine g_cs (ws' := []) (lv' := [(0, .ref (ad 0)), (1, .int (nI q)), (2, .int (nI r))]) rfl rfl ?_
  refine g_run X KX5_seen_0_0 KX5_seen_0_0_d 1 [(0, .ref (ad 0)), (1, .int (nI q)), (2, .int (nI r))] [.int (nI q)] rfl ?_
  refine g_callS X hSB hAf (As := [.int (nI q)]) (wr := []) (n := 1) (c_X5_checkLine l D g q (by omega)) rfl srcN hrdN w_435 w_433 w_434 w_1 (by decide +kernel) rfl ⟨Nat.le_of_ble_eq_true rfl, Nat.le_of_ble_eq_true rfl⟩ rfl rfl rfl (Nat.le_of_ble_eq_true rfl) ⟨Nat.le_of_ble_eq_true rfl, Nat.le_of_ble_eq_true rfl⟩ dX5_seen_1 (fun hu1 _ => ?_)
  refine g_af (ws' := []) (st' := []) (cells' := 0) (slots' := 0) (pc' := 4) rfl rfl rfl rfl rfl ?_
  refine g_run X KX5_seen_4_1 KX5_seen_4_1_d 5 [(0, .ref (ad 0)), (1, .int (nI q)), (2, .int (nI r))] [.int (nI r)] rfl ?_
  refine g_callS X hSB hAf (As := [.int (nI r)]) (wr := []) (n := 1) (c_X5_checkPlace l D g r (by omega)) rfl srcN hrdN w_559 w_557 w_558 w_1 (by decide +kernel) rfl ⟨Nat.le_of_ble_eq_true rfl, Nat.le_of_ble_eq_true rfl⟩ rfl rfl rfl (Nat.le_of_ble_eq_true rfl) ⟨Nat.le_of_ble_eq_true rfl, Nat.le_of_ble_eq_true rfl⟩ dX5_seen_5 (fun hu2 _ => ?_)
  refine g_af (ws' := []) (st' := []) (cells' := 0) (slots' := 0) (pc' := 8) rfl rfl rfl rfl rfl ?_
  refine g_run X KX5_seen_8_2 KX5_seen_8_2_d 9 [(0, .ref (ad 0)), (1, .int (nI q)), (2, .int (nI r))] [.ref (ad 0)] rfl ?_
  refine g_get X (srcR hRO) (v := .ref (ad 1)) hinX5 rfl 0 (by decide) w_183 rfl (wc_mem (k := 0) (by decide)) rfl dX5_seen_9 ?_
  refine g_get X (srcR hRO) (v := .ref (ad 3)) hinX4 rfl 1 (by decide) w_96 rfl (wc_mem (k := 1) (by decide)) rfl dX5_seen_12 ?_
  refine g_run X KX5_seen_15_3 KX5_seen_15_3_d 16 [(0, .ref (ad 0)), (1, .int (nI q)), (2, .int (nI r))] [.int (nI r), .ref (ad 3)] rfl ?_
  refine g_aald X (srcR hRO) (b := ad ((S r) + 10)) 1 rfl (wc_mem (k := 3) (by decide)) r rfl (by omega) (by decide) (rfl) dX5_seen_16 ?_
  refine g_run X KX5_seen_17_4 KX5_seen_17_4_d 18 [(0, .ref (ad 0)), (1, .int (nI q)), (2, .int (nI r))] [.int (nI q), .ref (ad ((S r) + 10))] rfl ?_
  refine g_callV X hSB hAf ((srcR hRO)) (hrc1 := (rfl : CL[1]? = some _)) (wc_chip (hS18 _ (by omega))) rfl (As := [.int (nI q)]) (wr := []) (n := 1) (c_X1_readAt l D g ad I L S (S r) q (hS18 _ (by omega)) (by omega)) rfl (srcR hRO) hrdC w_248 w_721 w_246 w_247 w_3 (by decide +kernel) rfl ⟨Nat.le_of_ble_eq_true rfl, Nat.le_of_ble_eq_true rfl⟩ rfl rfl rfl (Nat.le_of_ble_eq_true rfl) ⟨Nat.le_of_ble_eq_true rfl, Nat.le_of_ble_eq_true rfl⟩ dX5_seen_18 (fun hu3 _ => ?_)
  refine g_af (ws' := []) (st' := [.int (nI (rd I L (S r) q))]) (cells' := 0) (slots' := 0) (pc' := 21) rfl rfl rfl rfl rfl ?_
  exact g_iret X hr () (rfl) (trivial) ((List.append_nil _).symm) (Nat.le_of_ble_eq_true rfl) (Nat.le_of_ble_eq_true rfl) dX5_seen_21

set_option maxHeartbeats 4000000 in
set_option maxRecDepth 100000 in
theorem x_X5_seen_1 (l : Launch) (hfl : l.stackTraces = false) (D : va_G) (g : Nat → ClassId) (ad : Nat → Nat) (I : Nat → Nat → Int32) (L : Nat → Nat → Int64) (S : Nat → Nat) (x : Int32) (y1 : Int32) (hx : x < 0 ∨ ¬ x < nI 16) : CX l yX5_seen cX5_seen 3 ((Option.some FieldType.int)) ({ frames := 7, cells := 1, slots := 6, locals := 120 } : Room) [.ref (ad 0), .int x, .int y1] D CL (TYS g) (WC ad g I L S) xIO 1 6 := by
  refine cx_of (by decide +kernel) (Nat.le_of_ble_eq_true rfl) ?_
  intro p e s m below meth c A X hnt hSB hRO hAf
  refine g_cs (ws' := []) (lv' := [(0, .ref (ad 0)), (1, .int x), (2, .int y1)]) rfl rfl ?_
  refine g_run X KX5_seen_0_0 KX5_seen_0_0_d 1 [(0, .ref (ad 0)), (1, .int x), (2, .int y1)] [.int x] rfl ?_
  exact gx_callS X hSB hAf hnt (As := [.int x]) (n := 1) (x_X5_checkLine l hfl D g x (hx)) srcN w_435 w_433 w_434 w_1 (by decide +kernel) rfl ⟨Nat.le_of_ble_eq_true rfl, Nat.le_of_ble_eq_true rfl⟩ rfl rfl rfl (Nat.le_of_ble_eq_true rfl) ⟨Nat.le_of_ble_eq_true rfl, Nat.le_of_ble_eq_true rfl⟩ (Nat.le_of_ble_eq_true rfl) (Nat.le_of_ble_eq_true rfl) dX5_seen_1

set_option maxHeartbeats 4000000 in
set_option maxRecDepth 100000 in
theorem x_X5_seen_2 (l : Launch) (hfl : l.stackTraces = false) (D : va_G) (g : Nat → ClassId) (ad : Nat → Nat) (I : Nat → Nat → Int32) (L : Nat → Nat → Int64) (S : Nat → Nat) (q : Nat) (x : Int32) (hq : q < 16) (hx : x < 0 ∨ ¬ x < nI 15) : CX l yX5_seen cX5_seen 3 ((Option.some FieldType.int)) ({ frames := 7, cells := 1, slots := 6, locals := 120 } : Room) [.ref (ad 0), .int (nI q), .int x] D CL (TYS g) (WC ad g I L S) xIO 1 6 := by
  refine cx_of (by decide +kernel) (Nat.le_of_ble_eq_true rfl) ?_
  intro p e s m below meth c A X hnt hSB hRO hAf
  refine g_cs (ws' := []) (lv' := [(0, .ref (ad 0)), (1, .int (nI q)), (2, .int x)]) rfl rfl ?_
  refine g_run X KX5_seen_0_0 KX5_seen_0_0_d 1 [(0, .ref (ad 0)), (1, .int (nI q)), (2, .int x)] [.int (nI q)] rfl ?_
  refine g_callS X hSB hAf (As := [.int (nI q)]) (wr := []) (n := 1) (c_X5_checkLine l D g q (by omega)) rfl srcN hrdN w_435 w_433 w_434 w_1 (by decide +kernel) rfl ⟨Nat.le_of_ble_eq_true rfl, Nat.le_of_ble_eq_true rfl⟩ rfl rfl rfl (Nat.le_of_ble_eq_true rfl) ⟨Nat.le_of_ble_eq_true rfl, Nat.le_of_ble_eq_true rfl⟩ dX5_seen_1 (fun hu1 _ => ?_)
  refine g_af (ws' := []) (st' := []) (cells' := 0) (slots' := 0) (pc' := 4) rfl rfl rfl rfl rfl ?_
  refine g_run X KX5_seen_4_1 KX5_seen_4_1_d 5 [(0, .ref (ad 0)), (1, .int (nI q)), (2, .int x)] [.int x] rfl ?_
  exact gx_callS X hSB hAf hnt (As := [.int x]) (n := 1) (x_X5_checkPlace l hfl D g x (hx)) srcN w_559 w_557 w_558 w_1 (by decide +kernel) rfl ⟨Nat.le_of_ble_eq_true rfl, Nat.le_of_ble_eq_true rfl⟩ rfl rfl rfl (Nat.le_of_ble_eq_true rfl) ⟨Nat.le_of_ble_eq_true rfl, Nat.le_of_ble_eq_true rfl⟩ (Nat.le_of_ble_eq_true rfl) (Nat.le_of_ble_eq_true rfl) dX5_seen_5

def KX5_sum_0_0 : List (Nat × Instr × Nat) := [(0, .iload_n 1, 1)]
theorem KX5_sum_0_0_d : ∀ z ∈ KX5_sum_0_0, decode cX5_sum z.1 = .ok z.2 := by decide +kernel
def KX5_sum_4_1 : List (Nat × Instr × Nat) := [(4, .iload_n 2, 1), (5, .iconst 1, 1)]
theorem KX5_sum_4_1_d : ∀ z ∈ KX5_sum_4_1, decode cX5_sum z.1 = .ok z.2 := by decide +kernel
def KX5_sum_9_2 : List (Nat × Instr × Nat) := [(9, .iload_n 2, 1), (10, .iconst 4, 1)]
theorem KX5_sum_9_2_d : ∀ z ∈ KX5_sum_9_2, decode cX5_sum z.1 = .ok z.2 := by decide +kernel
def KX5_sum_24_3 : List (Nat × Instr × Nat) := [(24, .aload_n 0, 1)]
theorem KX5_sum_24_3_d : ∀ z ∈ KX5_sum_24_3, decode cX5_sum z.1 = .ok z.2 := by decide +kernel
def KX5_sum_28_4 : List (Nat × Instr × Nat) := [(28, .iload_n 1, 1)]
theorem KX5_sum_28_4_d : ∀ z ∈ KX5_sum_28_4, decode cX5_sum z.1 = .ok z.2 := by decide +kernel
def KX5_sum_32_5 : List (Nat × Instr × Nat) := [(32, .iload_n 2, 1)]
theorem KX5_sum_32_5_d : ∀ z ∈ KX5_sum_32_5, decode cX5_sum z.1 = .ok z.2 := by decide +kernel
set_option maxHeartbeats 4000000 in
set_option maxRecDepth 100000 in
theorem c_X5_sum (l : Launch) (D : va_G) (g : Nat → ClassId) (ad : Nat → Nat) (I : Nat → Nat → Int32) (L : Nat → Nat → Int64) (S : Nat → Nat) (q : Nat) (j : Nat) (hS18 : ∀ p, p < 15 → S p < 18) (hq : q < 16) (h1 : 1 ≤ j) (hj : j < 5) : CT l yX5_sum cX5_sum 3 ((Option.some FieldType.int)) ({ frames := 3, cells := 0, slots := 0, locals := 68 } : Room) [.ref (ad 0), .int (nI q), .int (nI j)] D CL (TYS g) (WC ad g I L S) ([]) (S := Unit) (fun _ => some (.int (nI (sm (rwd I L S q 15) j 15)))) (fun _ => []) (fun _ => True) 0 0 := by
  refine ct_of (by decide +kernel) (Nat.le_of_ble_eq_true rfl) ?_
  intro p e s m below meth c A X hr hnm hSB hRO hAf
  refine g_cs (ws' := []) (lv' := [(0, .ref (ad 0)), (1, .int (nI q)), (2, .int (nI j))]) rfl rfl ?_
  refine g_run X KX5_sum_0_0 KX5_sum_0_0_d 1 [(0, .ref (ad 0)), (1, .int (nI q)), (2, .int (nI j))] [.int (nI q)] rfl ?_
  refine g_callS X hSB hAf (As := [.int (nI q)]) (wr := []) (n := 1) (c_X5_checkLine l D g q (by omega)) rfl srcN hrdN w_435 w_433 w_434 w_1 (by decide +kernel) rfl ⟨Nat.le_of_ble_eq_true rfl, Nat.le_of_ble_eq_true rfl⟩ rfl rfl rfl (Nat.le_of_ble_eq_true rfl) ⟨Nat.le_of_ble_eq_true rfl, Nat.le_of_ble_eq_true rfl⟩ dX5_sum_1 (fun hu1 _ => ?_)
  refine g_af (ws' := []) (st' := []) (cells' := 0) (slots' := 0) (pc' := 4) rfl rfl rfl rfl rfl ?_
  refine g_run X KX5_sum_4_1 KX5_sum_4_1_d 6 [(0, .ref (ad 0)), (1, .int (nI q)), (2, .int (nI j))] [.int (nI 1), .int (nI j)] rfl ?_
  refine g_icmp_lt X 14 dX5_sum_6 (by decide) (fun hc2 => ?_) (fun hc2 => ?_)
  · rw [nI_ltI (by omega) (by omega)] at hc2; first | omega | (simp at hc2)
  · refine g_run X KX5_sum_9_2 KX5_sum_9_2_d 11 [(0, .ref (ad 0)), (1, .int (nI q)), (2, .int (nI j))] [.int (nI 4), .int (nI j)] rfl ?_
    refine g_icmp_le X 24 dX5_sum_11 (by decide) (fun hc3 => ?_) (fun hc3 => ?_)
    · refine g_run X KX5_sum_24_3 KX5_sum_24_3_d 25 [(0, .ref (ad 0)), (1, .int (nI q)), (2, .int (nI j))] [.ref (ad 0)] rfl ?_
      refine g_get X (srcR hRO) (v := .ref (ad 1)) hinX5 rfl 0 (by decide) w_183 rfl (wc_mem (k := 0) (by decide)) rfl dX5_sum_25 ?_
      refine g_run X KX5_sum_28_4 KX5_sum_28_4_d 29 [(0, .ref (ad 0)), (1, .int (nI q)), (2, .int (nI j))] [.int (nI q), .ref (ad 1)] rfl ?_
      refine g_callV X hSB hAf ((srcR hRO)) (hrc1 := (rfl : CL[3]? = some _)) (wc_mem (k := 1) (by decide)) rfl (As := [.int (nI q)]) (wr := []) (n := 1) (c_X4_readWord l D g ad I L S q (hS18) (by omega)) rfl (srcR hRO) hrdC w_244 w_441 w_242 w_243 w_2 (by decide +kernel) rfl ⟨Nat.le_of_ble_eq_true rfl, Nat.le_of_ble_eq_true rfl⟩ rfl rfl rfl (Nat.le_of_ble_eq_true rfl) ⟨Nat.le_of_ble_eq_true rfl, Nat.le_of_ble_eq_true rfl⟩ dX5_sum_29 (fun hu4 _ => ?_)
      refine g_af (ws' := []) (st' := [.long (rwd I L S q 15)]) (cells' := 0) (slots' := 0) (pc' := 32) rfl rfl rfl rfl rfl ?_
      refine g_run X KX5_sum_32_5 KX5_sum_32_5_d 33 [(0, .ref (ad 0)), (1, .int (nI q)), (2, .int (nI j))] [.int (nI j), .long (rwd I L S q 15)] rfl ?_
      refine g_callS X hSB hAf (As := [.long (rwd I L S q 15), .int (nI j)]) (wr := []) (n := 2) (c_X2_sumOf l D g (rwd I L S q 15) j (by omega)) rfl srcN hrdN w_266 w_730 w_265 w_22 (by decide +kernel) rfl ⟨Nat.le_of_ble_eq_true rfl, Nat.le_of_ble_eq_true rfl⟩ rfl rfl rfl (Nat.le_of_ble_eq_true rfl) ⟨Nat.le_of_ble_eq_true rfl, Nat.le_of_ble_eq_true rfl⟩ dX5_sum_33 (fun hu5 _ => ?_)
      refine g_af (ws' := []) (st' := [.int (nI (sm (rwd I L S q 15) j 15))]) (cells' := 0) (slots' := 0) (pc' := 36) rfl rfl rfl rfl rfl ?_
      exact g_iret X hr () (rfl) (trivial) ((List.append_nil _).symm) (Nat.le_of_ble_eq_true rfl) (Nat.le_of_ble_eq_true rfl) dX5_sum_36
    · rw [nI_leI (by omega) (by omega)] at hc3; first | omega | (simp at hc3)

set_option maxHeartbeats 4000000 in
set_option maxRecDepth 100000 in
theorem x_X5_sum_1 (l : Launch) (hfl : l.stackTraces = false) (D : va_G) (g : Nat → ClassId) (ad : Nat → Nat) (I : Nat → Nat → Int32) (L : Nat → Nat → Int64) (S : Nat → Nat) (x : Int32) (y1 : Int32) (hx : x < 0 ∨ ¬ x < nI 16) : CX l yX5_sum cX5_sum 3 ((Option.some FieldType.int)) ({ frames := 7, cells := 1, slots := 6, locals := 120 } : Room) [.ref (ad 0), .int x, .int y1] D CL (TYS g) (WC ad g I L S) xIO 1 6 := by
  refine cx_of (by decide +kernel) (Nat.le_of_ble_eq_true rfl) ?_
  intro p e s m below meth c A X hnt hSB hRO hAf
  refine g_cs (ws' := []) (lv' := [(0, .ref (ad 0)), (1, .int x), (2, .int y1)]) rfl rfl ?_
  refine g_run X KX5_sum_0_0 KX5_sum_0_0_d 1 [(0, .ref (ad 0)), (1, .int x), (2, .int y1)] [.int x] rfl ?_
  exact gx_callS X hSB hAf hnt (As := [.int x]) (n := 1) (x_X5_checkLine l hfl D g x (hx)) srcN w_435 w_433 w_434 w_1 (by decide +kernel) rfl ⟨Nat.le_of_ble_eq_true rfl, Nat.le_of_ble_eq_true rfl⟩ rfl rfl rfl (Nat.le_of_ble_eq_true rfl) ⟨Nat.le_of_ble_eq_true rfl, Nat.le_of_ble_eq_true rfl⟩ (Nat.le_of_ble_eq_true rfl) (Nat.le_of_ble_eq_true rfl) dX5_sum_1

set_option maxHeartbeats 4000000 in
set_option maxRecDepth 100000 in
theorem x_X5_sum_2 (l : Launch) (hfl : l.stackTraces = false) (D : va_G) (g : Nat → ClassId) (ad : Nat → Nat) (I : Nat → Nat → Int32) (L : Nat → Nat → Int64) (S : Nat → Nat) (q : Nat) (x : Int32) (hq : q < 16) (hx : x < nI 1 ∨ ¬ x ≤ nI 4) : CX l yX5_sum cX5_sum 3 ((Option.some FieldType.int)) ({ frames := 6, cells := 1, slots := 6, locals := 100 } : Room) [.ref (ad 0), .int (nI q), .int x] D CL (TYS g) (WC ad g I L S) xIA 1 6 := by
  refine cx_of (by decide +kernel) (Nat.le_of_ble_eq_true rfl) ?_
  intro p e s m below meth c A X hnt hSB hRO hAf
  refine g_cs (ws' := []) (lv' := [(0, .ref (ad 0)), (1, .int (nI q)), (2, .int x)]) rfl rfl ?_
  refine g_run X KX5_sum_0_0 KX5_sum_0_0_d 1 [(0, .ref (ad 0)), (1, .int (nI q)), (2, .int x)] [.int (nI q)] rfl ?_
  refine g_callS X hSB hAf (As := [.int (nI q)]) (wr := []) (n := 1) (c_X5_checkLine l D g q (by omega)) rfl srcN hrdN w_435 w_433 w_434 w_1 (by decide +kernel) rfl ⟨Nat.le_of_ble_eq_true rfl, Nat.le_of_ble_eq_true rfl⟩ rfl rfl rfl (Nat.le_of_ble_eq_true rfl) ⟨Nat.le_of_ble_eq_true rfl, Nat.le_of_ble_eq_true rfl⟩ dX5_sum_1 (fun hu1 _ => ?_)
  refine g_af (ws' := []) (st' := []) (cells' := 0) (slots' := 0) (pc' := 4) rfl rfl rfl rfl rfl ?_
  refine g_run X KX5_sum_4_1 KX5_sum_4_1_d 6 [(0, .ref (ad 0)), (1, .int (nI q)), (2, .int x)] [.int (nI 1), .int x] rfl ?_
  refine g_icmp_lt X 14 dX5_sum_6 (by decide) (fun hc2 => ?_) (fun hc2 => ?_)
  · exact g_throwS (E := xIA) X hSB hfl hnt (text := "j is not 1 to 4") (names := xNm) (by decide +kernel) (by decide +kernel) w_333 w_21 (by decide +kernel) hatIA hgdIA dX5_sum_14 dX5_sum_17 dX5_sum_18 dX5_sum_20 dX5_sum_23 (Nat.le_of_ble_eq_true rfl) (Nat.le_of_ble_eq_true rfl) (Nat.le_of_ble_eq_true rfl) (Nat.le_of_ble_eq_true rfl) (Nat.le_of_ble_eq_true rfl) (Nat.le_of_ble_eq_true rfl)
  · refine g_run X KX5_sum_9_2 KX5_sum_9_2_d 11 [(0, .ref (ad 0)), (1, .int (nI q)), (2, .int x)] [.int (nI 4), .int x] rfl ?_
    refine g_icmp_le X 24 dX5_sum_11 (by decide) (fun hc3 => ?_) (fun hc3 => ?_)
    · exact (hx.elim (fun z => absurd z (by assumption)) (fun z => absurd hc3 z))
    · exact g_throwS (E := xIA) X hSB hfl hnt (text := "j is not 1 to 4") (names := xNm) (by decide +kernel) (by decide +kernel) w_333 w_21 (by decide +kernel) hatIA hgdIA dX5_sum_14 dX5_sum_17 dX5_sum_18 dX5_sum_20 dX5_sum_23 (Nat.le_of_ble_eq_true rfl) (Nat.le_of_ble_eq_true rfl) (Nat.le_of_ble_eq_true rfl) (Nat.le_of_ble_eq_true rfl) (Nat.le_of_ble_eq_true rfl) (Nat.le_of_ble_eq_true rfl)

def KX5_mended_0_0 : List (Nat × Instr × Nat) := [(0, .iload_n 1, 1)]
theorem KX5_mended_0_0_d : ∀ z ∈ KX5_mended_0_0, decode cX5_mended z.1 = .ok z.2 := by decide +kernel
def KX5_mended_4_1 : List (Nat × Instr × Nat) := [(4, .aload_n 0, 1)]
theorem KX5_mended_4_1_d : ∀ z ∈ KX5_mended_4_1, decode cX5_mended z.1 = .ok z.2 := by decide +kernel
def KX5_mended_8_2 : List (Nat × Instr × Nat) := [(8, .iload_n 1, 1)]
theorem KX5_mended_8_2_d : ∀ z ∈ KX5_mended_8_2, decode cX5_mended z.1 = .ok z.2 := by decide +kernel
def KX5_mended_12_3 : List (Nat × Instr × Nat) := [(12, .lstore_n 2, 1), (13, .lload_n 2, 1)]
theorem KX5_mended_12_3_d : ∀ z ∈ KX5_mended_12_3, decode cX5_mended z.1 = .ok z.2 := by decide +kernel
def KX5_mended_17_4 : List (Nat × Instr × Nat) := [(17, .lcmp, 1)]
theorem KX5_mended_17_4_d : ∀ z ∈ KX5_mended_17_4, decode cX5_mended z.1 = .ok z.2 := by decide +kernel
def KX5_mended_25_5 : List (Nat × Instr × Nat) := [(25, .aload_n 0, 1)]
theorem KX5_mended_25_5_d : ∀ z ∈ KX5_mended_25_5, decode cX5_mended z.1 = .ok z.2 := by decide +kernel
def KX5_mended_29_6 : List (Nat × Instr × Nat) := [(29, .iload_n 1, 1)]
theorem KX5_mended_29_6_d : ∀ z ∈ KX5_mended_29_6, decode cX5_mended z.1 = .ok z.2 := by decide +kernel
def KX5_mended_33_7 : List (Nat × Instr × Nat) := [(33, .lload_n 2, 1), (34, .lxor, 1)]
theorem KX5_mended_33_7_d : ∀ z ∈ KX5_mended_33_7, decode cX5_mended z.1 = .ok z.2 := by decide +kernel
def KX5_mended_21_8 : List (Nat × Instr × Nat) := [(21, .iconst (-1), 1), (22, .goto 16, 3)]
theorem KX5_mended_21_8_d : ∀ z ∈ KX5_mended_21_8, decode cX5_mended z.1 = .ok z.2 := by decide +kernel
set_option maxHeartbeats 4000000 in
set_option maxRecDepth 100000 in
theorem c_X5_mended (l : Launch) (D : va_G) (g : Nat → ClassId) (ad : Nat → Nat) (I : Nat → Nat → Int32) (L : Nat → Nat → Int64) (S : Nat → Nat) (q : Nat) (hS18 : ∀ p, p < 15 → S p < 18) (hq : q < 16) : CT l yX5_mended cX5_mended 4 ((Option.some FieldType.int)) ({ frames := 5, cells := 0, slots := 0, locals := 129 } : Room) [.ref (ad 0), .int (nI q)] D CL (TYS g) (WC ad g I L S) ([]) (S := Unit) (fun _ => some (.int (mdV I L S q))) (fun _ => []) (fun _ => True) 0 0 := by
  refine ct_of (by decide +kernel) (Nat.le_of_ble_eq_true rfl) ?_
  intro p e s m below meth c A X hr hnm hSB hRO hAf
  refine g_cs (ws' := []) (lv' := [(0, .ref (ad 0)), (1, .int (nI q))]) rfl rfl ?_
  refine g_run X KX5_mended_0_0 KX5_mended_0_0_d 1 [(0, .ref (ad 0)), (1, .int (nI q))] [.int (nI q)] rfl ?_
  refine g_callS X hSB hAf (As := [.int (nI q)]) (wr := []) (n := 1) (c_X5_checkLine l D g q (by omega)) rfl srcN hrdN w_435 w_433 w_434 w_1 (by decide +kernel) rfl ⟨Nat.le_of_ble_eq_true rfl, Nat.le_of_ble_eq_true rfl⟩ rfl rfl rfl (Nat.le_of_ble_eq_true rfl) ⟨Nat.le_of_ble_eq_true rfl, Nat.le_of_ble_eq_true rfl⟩ dX5_mended_1 (fun hu1 _ => ?_)
  refine g_af (ws' := []) (st' := []) (cells' := 0) (slots' := 0) (pc' := 4) rfl rfl rfl rfl rfl ?_
  refine g_run X KX5_mended_4_1 KX5_mended_4_1_d 5 [(0, .ref (ad 0)), (1, .int (nI q))] [.ref (ad 0)] rfl ?_
  refine g_get X (srcR hRO) (v := .ref (ad 1)) hinX5 rfl 0 (by decide) w_183 rfl (wc_mem (k := 0) (by decide)) rfl dX5_mended_5 ?_
  refine g_run X KX5_mended_8_2 KX5_mended_8_2_d 9 [(0, .ref (ad 0)), (1, .int (nI q))] [.int (nI q), .ref (ad 1)] rfl ?_
  refine g_callV X hSB hAf ((srcR hRO)) (hrc1 := (rfl : CL[3]? = some _)) (wc_mem (k := 1) (by decide)) rfl (As := [.int (nI q)]) (wr := []) (n := 1) (c_X4_wordMendedTo l D g ad I L S q (hS18) (by omega)) rfl (srcR hRO) hrdC w_440 w_437 w_438 w_439 w_2 (by decide +kernel) rfl ⟨Nat.le_of_ble_eq_true rfl, Nat.le_of_ble_eq_true rfl⟩ rfl rfl rfl (Nat.le_of_ble_eq_true rfl) ⟨Nat.le_of_ble_eq_true rfl, Nat.le_of_ble_eq_true rfl⟩ dX5_mended_9 (fun hu2 _ => ?_)
  refine g_af (ws' := []) (st' := [.long (oL (mwd I L S q))]) (cells' := 0) (slots' := 0) (pc' := 12) rfl rfl rfl rfl rfl ?_
  refine g_run X KX5_mended_12_3 KX5_mended_12_3_d 14 [(2, .long (oL (mwd I L S q))), (0, .ref (ad 0)), (1, .int (nI q))] [.long (oL (mwd I L S q))] rfl ?_
  refine g_ldc2 X (v := (-1 : Int64)) w_224 dX5_mended_14 ?_
  refine g_run X KX5_mended_17_4 KX5_mended_17_4_d 18 [(2, .long (oL (mwd I L S q))), (0, .ref (ad 0)), (1, .int (nI q))] [.int (lg_cmp (oL (mwd I L S q)) (-1 : Int64))] rfl ?_
  refine g_if_ne X 25 dX5_mended_18 (by decide) (fun hc3 => ?_) (fun hc3 => ?_)
  · rw [lc0] at hc3; have hm := hc3
    refine g_run X KX5_mended_25_5 KX5_mended_25_5_d 26 [(2, .long (oL (mwd I L S q))), (0, .ref (ad 0)), (1, .int (nI q))] [.ref (ad 0)] rfl ?_
    refine g_get X (srcR hRO) (v := .ref (ad 1)) hinX5 rfl 0 (by decide) w_183 rfl (wc_mem (k := 0) (by decide)) rfl dX5_mended_26 ?_
    refine g_run X KX5_mended_29_6 KX5_mended_29_6_d 30 [(2, .long (oL (mwd I L S q))), (0, .ref (ad 0)), (1, .int (nI q))] [.int (nI q), .ref (ad 1)] rfl ?_
    refine g_callV X hSB hAf ((srcR hRO)) (hrc1 := (rfl : CL[3]? = some _)) (wc_mem (k := 1) (by decide)) rfl (As := [.int (nI q)]) (wr := []) (n := 1) (c_X4_readWord l D g ad I L S q (hS18) (by omega)) rfl (srcR hRO) hrdC w_244 w_441 w_242 w_243 w_2 (by decide +kernel) rfl ⟨Nat.le_of_ble_eq_true rfl, Nat.le_of_ble_eq_true rfl⟩ rfl rfl rfl (Nat.le_of_ble_eq_true rfl) ⟨Nat.le_of_ble_eq_true rfl, Nat.le_of_ble_eq_true rfl⟩ dX5_mended_30 (fun hu4 _ => ?_)
    refine g_af (ws' := []) (st' := [.long (rwd I L S q 15)]) (cells' := 0) (slots' := 0) (pc' := 33) rfl rfl rfl rfl rfl ?_
    refine g_run X KX5_mended_33_7 KX5_mended_33_7_d 35 [(2, .long (oL (mwd I L S q))), (0, .ref (ad 0)), (1, .int (nI q))] [.long ((rwd I L S q 15) ^^^ (oL (mwd I L S q)))] rfl ?_
    refine g_callS X hSB hAf (As := [.long ((rwd I L S q 15) ^^^ (oL (mwd I L S q)))]) (wr := []) (n := 1) (c_X2_placesIn l D g ((rwd I L S q 15) ^^^ (oL (mwd I L S q))) ) rfl srcN hrdN w_444 w_442 w_443 w_22 (by decide +kernel) rfl ⟨Nat.le_of_ble_eq_true rfl, Nat.le_of_ble_eq_true rfl⟩ rfl rfl rfl (Nat.le_of_ble_eq_true rfl) ⟨Nat.le_of_ble_eq_true rfl, Nat.le_of_ble_eq_true rfl⟩ dX5_mended_35 (fun hu5 _ => ?_)
    refine g_af (ws' := []) (st' := [.int (nI (pl ((rwd I L S q 15) ^^^ (oL (mwd I L S q))) 15))]) (cells' := 0) (slots' := 0) (pc' := 38) rfl rfl rfl rfl rfl ?_
    exact g_iret X hr () (by show some (Value.int _) = some (Value.int _); first | rw [mdV, if_neg hm] | rw [mdV, if_pos hm]) (trivial) ((List.append_nil _).symm) (Nat.le_of_ble_eq_true rfl) (Nat.le_of_ble_eq_true rfl) dX5_mended_38
  · rw [lc0] at hc3; have hm := hc3
    refine g_run X KX5_mended_21_8 KX5_mended_21_8_d 38 [(2, .long (oL (mwd I L S q))), (0, .ref (ad 0)), (1, .int (nI q))] [.int (-nI 1)] rfl ?_
    exact g_iret X hr () (by show some (Value.int _) = some (Value.int _); first | rw [mdV, if_neg hm] | rw [mdV, if_pos hm]) (trivial) ((List.append_nil _).symm) (Nat.le_of_ble_eq_true rfl) (Nat.le_of_ble_eq_true rfl) dX5_mended_38

def KX5_data_0_0 : List (Nat × Instr × Nat) := [(0, .iload_n 1, 1)]
theorem KX5_data_0_0_d : ∀ z ∈ KX5_data_0_0, decode cX5_data z.1 = .ok z.2 := by decide +kernel
def KX5_data_4_1 : List (Nat × Instr × Nat) := [(4, .aload_n 0, 1)]
theorem KX5_data_4_1_d : ∀ z ∈ KX5_data_4_1, decode cX5_data z.1 = .ok z.2 := by decide +kernel
def KX5_data_8_2 : List (Nat × Instr × Nat) := [(8, .iload_n 1, 1)]
theorem KX5_data_8_2_d : ∀ z ∈ KX5_data_8_2, decode cX5_data z.1 = .ok z.2 := by decide +kernel
set_option maxHeartbeats 4000000 in
set_option maxRecDepth 100000 in
theorem c_X5_data (l : Launch) (D : va_G) (g : Nat → ClassId) (ad : Nat → Nat) (I : Nat → Nat → Int32) (L : Nat → Nat → Int64) (S : Nat → Nat) (q : Nat) (hS18 : ∀ p, p < 15 → S p < 18) (hq : q < 16) : CT l yX5_data cX5_data 2 ((Option.some FieldType.long)) ({ frames := 5, cells := 0, slots := 0, locals := 129 } : Room) [.ref (ad 0), .int (nI q)] D CL (TYS g) (WC ad g I L S) ([]) (S := Unit) (fun _ => some (.long (dtO (oL (mwd I L S q))))) (fun _ => []) (fun _ => True) 0 0 := by
  refine ct_of (by decide +kernel) (Nat.le_of_ble_eq_true rfl) ?_
  intro p e s m below meth c A X hr hnm hSB hRO hAf
  refine g_cs (ws' := []) (lv' := [(0, .ref (ad 0)), (1, .int (nI q))]) rfl rfl ?_
  refine g_run X KX5_data_0_0 KX5_data_0_0_d 1 [(0, .ref (ad 0)), (1, .int (nI q))] [.int (nI q)] rfl ?_
  refine g_callS X hSB hAf (As := [.int (nI q)]) (wr := []) (n := 1) (c_X5_checkLine l D g q (by omega)) rfl srcN hrdN w_435 w_433 w_434 w_1 (by decide +kernel) rfl ⟨Nat.le_of_ble_eq_true rfl, Nat.le_of_ble_eq_true rfl⟩ rfl rfl rfl (Nat.le_of_ble_eq_true rfl) ⟨Nat.le_of_ble_eq_true rfl, Nat.le_of_ble_eq_true rfl⟩ dX5_data_1 (fun hu1 _ => ?_)
  refine g_af (ws' := []) (st' := []) (cells' := 0) (slots' := 0) (pc' := 4) rfl rfl rfl rfl rfl ?_
  refine g_run X KX5_data_4_1 KX5_data_4_1_d 5 [(0, .ref (ad 0)), (1, .int (nI q))] [.ref (ad 0)] rfl ?_
  refine g_get X (srcR hRO) (v := .ref (ad 1)) hinX5 rfl 0 (by decide) w_183 rfl (wc_mem (k := 0) (by decide)) rfl dX5_data_5 ?_
  refine g_run X KX5_data_8_2 KX5_data_8_2_d 9 [(0, .ref (ad 0)), (1, .int (nI q))] [.int (nI q), .ref (ad 1)] rfl ?_
  refine g_callV X hSB hAf ((srcR hRO)) (hrc1 := (rfl : CL[3]? = some _)) (wc_mem (k := 1) (by decide)) rfl (As := [.int (nI q)]) (wr := []) (n := 1) (c_X4_wordMendedTo l D g ad I L S q (hS18) (by omega)) rfl (srcR hRO) hrdC w_440 w_437 w_438 w_439 w_2 (by decide +kernel) rfl ⟨Nat.le_of_ble_eq_true rfl, Nat.le_of_ble_eq_true rfl⟩ rfl rfl rfl (Nat.le_of_ble_eq_true rfl) ⟨Nat.le_of_ble_eq_true rfl, Nat.le_of_ble_eq_true rfl⟩ dX5_data_9 (fun hu2 _ => ?_)
  refine g_af (ws' := []) (st' := [.long (oL (mwd I L S q))]) (cells' := 0) (slots' := 0) (pc' := 12) rfl rfl rfl rfl rfl ?_
  refine g_callS X hSB hAf (As := [.long (oL (mwd I L S q))]) (wr := []) (n := 1) (c_X5_dataOrNone l D g (oL (mwd I L S q)) ) rfl srcN hrdN w_451 w_449 w_450 w_1 (by decide +kernel) rfl ⟨Nat.le_of_ble_eq_true rfl, Nat.le_of_ble_eq_true rfl⟩ rfl rfl rfl (Nat.le_of_ble_eq_true rfl) ⟨Nat.le_of_ble_eq_true rfl, Nat.le_of_ble_eq_true rfl⟩ dX5_data_12 (fun hu3 _ => ?_)
  refine g_af (ws' := []) (st' := [.long (if (oL (mwd I L S q)) = -1 then -1 else ((oL (mwd I L S q)).toUInt64 >>> ((nI 16).toInt64.toUInt64 &&& Int64.toUInt64 63)).toInt64)]) (cells' := 0) (slots' := 0) (pc' := 15) rfl rfl rfl rfl rfl ?_
  exact g_lret X hr () (rfl) (trivial) ((List.append_nil _).symm) (Nat.le_of_ble_eq_true rfl) (Nat.le_of_ble_eq_true rfl) dX5_data_15

set_option maxHeartbeats 4000000 in
set_option maxRecDepth 100000 in
theorem x_X5_mended_1 (l : Launch) (hfl : l.stackTraces = false) (D : va_G) (g : Nat → ClassId) (ad : Nat → Nat) (I : Nat → Nat → Int32) (L : Nat → Nat → Int64) (S : Nat → Nat) (x : Int32) (hx : x < 0 ∨ ¬ x < nI 16) : CX l yX5_mended cX5_mended 4 ((Option.some FieldType.int)) ({ frames := 7, cells := 1, slots := 6, locals := 120 } : Room) [.ref (ad 0), .int x] D CL (TYS g) (WC ad g I L S) xIO 1 6 := by
  refine cx_of (by decide +kernel) (Nat.le_of_ble_eq_true rfl) ?_
  intro p e s m below meth c A X hnt hSB hRO hAf
  refine g_cs (ws' := []) (lv' := [(0, .ref (ad 0)), (1, .int x)]) rfl rfl ?_
  refine g_run X KX5_mended_0_0 KX5_mended_0_0_d 1 [(0, .ref (ad 0)), (1, .int x)] [.int x] rfl ?_
  exact gx_callS X hSB hAf hnt (As := [.int x]) (n := 1) (x_X5_checkLine l hfl D g x (hx)) srcN w_435 w_433 w_434 w_1 (by decide +kernel) rfl ⟨Nat.le_of_ble_eq_true rfl, Nat.le_of_ble_eq_true rfl⟩ rfl rfl rfl (Nat.le_of_ble_eq_true rfl) ⟨Nat.le_of_ble_eq_true rfl, Nat.le_of_ble_eq_true rfl⟩ (Nat.le_of_ble_eq_true rfl) (Nat.le_of_ble_eq_true rfl) dX5_mended_1

set_option maxHeartbeats 4000000 in
set_option maxRecDepth 100000 in
theorem x_X5_data_1 (l : Launch) (hfl : l.stackTraces = false) (D : va_G) (g : Nat → ClassId) (ad : Nat → Nat) (I : Nat → Nat → Int32) (L : Nat → Nat → Int64) (S : Nat → Nat) (x : Int32) (hx : x < 0 ∨ ¬ x < nI 16) : CX l yX5_data cX5_data 2 ((Option.some FieldType.long)) ({ frames := 7, cells := 1, slots := 6, locals := 120 } : Room) [.ref (ad 0), .int x] D CL (TYS g) (WC ad g I L S) xIO 1 6 := by
  refine cx_of (by decide +kernel) (Nat.le_of_ble_eq_true rfl) ?_
  intro p e s m below meth c A X hnt hSB hRO hAf
  refine g_cs (ws' := []) (lv' := [(0, .ref (ad 0)), (1, .int x)]) rfl rfl ?_
  refine g_run X KX5_data_0_0 KX5_data_0_0_d 1 [(0, .ref (ad 0)), (1, .int x)] [.int x] rfl ?_
  exact gx_callS X hSB hAf hnt (As := [.int x]) (n := 1) (x_X5_checkLine l hfl D g x (hx)) srcN w_435 w_433 w_434 w_1 (by decide +kernel) rfl ⟨Nat.le_of_ble_eq_true rfl, Nat.le_of_ble_eq_true rfl⟩ rfl rfl rfl (Nat.le_of_ble_eq_true rfl) ⟨Nat.le_of_ble_eq_true rfl, Nat.le_of_ble_eq_true rfl⟩ (Nat.le_of_ble_eq_true rfl) (Nat.le_of_ble_eq_true rfl) dX5_data_1

def KX5_spare_0_0 : List (Nat × Instr × Nat) := [(0, .iload_n 1, 1)]
theorem KX5_spare_0_0_d : ∀ z ∈ KX5_spare_0_0, decode cX5_spare z.1 = .ok z.2 := by decide +kernel
set_option maxHeartbeats 4000000 in
set_option maxRecDepth 100000 in
theorem x_X5_spare_1 (l : Launch) (hfl : l.stackTraces = false) (D : va_G) (g : Nat → ClassId) (ad : Nat → Nat) (I : Nat → Nat → Int32) (L : Nat → Nat → Int64) (S : Nat → Nat) (x : Int32) (hx : x < 0 ∨ ¬ x < nI 16) : CX l yX5_spare cX5_spare 6 ((Option.some FieldType.int)) ({ frames := 7, cells := 1, slots := 6, locals := 120 } : Room) [.ref (ad 0), .int x] D CL (TYS g) (WC ad g I L S) xIO 1 6 := by
  refine cx_of (by decide +kernel) (Nat.le_of_ble_eq_true rfl) ?_
  intro p e s m below meth c A X hnt hSB hRO hAf
  refine g_cs (ws' := []) (lv' := [(0, .ref (ad 0)), (1, .int x)]) rfl rfl ?_
  refine g_run X KX5_spare_0_0 KX5_spare_0_0_d 1 [(0, .ref (ad 0)), (1, .int x)] [.int x] rfl ?_
  exact gx_callS X hSB hAf hnt (As := [.int x]) (n := 1) (x_X5_checkLine l hfl D g x (hx)) srcN w_435 w_433 w_434 w_1 (by decide +kernel) rfl ⟨Nat.le_of_ble_eq_true rfl, Nat.le_of_ble_eq_true rfl⟩ rfl rfl rfl (Nat.le_of_ble_eq_true rfl) ⟨Nat.le_of_ble_eq_true rfl, Nat.le_of_ble_eq_true rfl⟩ (Nat.le_of_ble_eq_true rfl) (Nat.le_of_ble_eq_true rfl) dX5_spare_1

def KX5_ofChip_0_0 : List (Nat × Instr × Nat) := [(0, .iload_n 1, 1)]
theorem KX5_ofChip_0_0_d : ∀ z ∈ KX5_ofChip_0_0, decode cX5_ofChip z.1 = .ok z.2 := by decide +kernel
def KX5_ofChip_4_1 : List (Nat × Instr × Nat) := [(4, .aload_n 0, 1)]
theorem KX5_ofChip_4_1_d : ∀ z ∈ KX5_ofChip_4_1, decode cX5_ofChip z.1 = .ok z.2 := by decide +kernel
def KX5_ofChip_11_2 : List (Nat × Instr × Nat) := [(11, .iload_n 1, 1)]
theorem KX5_ofChip_11_2_d : ∀ z ∈ KX5_ofChip_11_2, decode cX5_ofChip z.1 = .ok z.2 := by decide +kernel
def KX5_ofChip_13_3 : List (Nat × Instr × Nat) := [(13, .astore_n 3, 1), (14, .iload_n 2, 1)]
theorem KX5_ofChip_13_3_d : ∀ z ∈ KX5_ofChip_13_3, decode cX5_ofChip z.1 = .ok z.2 := by decide +kernel
def KX5_ofChip_52_4 : List (Nat × Instr × Nat) := [(52, .aload_n 3, 1)]
theorem KX5_ofChip_52_4_d : ∀ z ∈ KX5_ofChip_52_4, decode cX5_ofChip z.1 = .ok z.2 := by decide +kernel
def KX5_ofChip_57_5 : List (Nat × Instr × Nat) := [(57, .aload_n 3, 1)]
theorem KX5_ofChip_57_5_d : ∀ z ∈ KX5_ofChip_57_5, decode cX5_ofChip z.1 = .ok z.2 := by decide +kernel
def KX5_ofChip_62_6 : List (Nat × Instr × Nat) := [(62, .aload_n 3, 1)]
theorem KX5_ofChip_62_6_d : ∀ z ∈ KX5_ofChip_62_6, decode cX5_ofChip z.1 = .ok z.2 := by decide +kernel
def KX5_ofChip_67_7 : List (Nat × Instr × Nat) := [(67, .aload_n 3, 1)]
theorem KX5_ofChip_67_7_d : ∀ z ∈ KX5_ofChip_67_7, decode cX5_ofChip z.1 = .ok z.2 := by decide +kernel
def KX5_ofChip_78_8 : List (Nat × Instr × Nat) := [(78, .iconst 0, 1)]
theorem KX5_ofChip_78_8_d : ∀ z ∈ KX5_ofChip_78_8, decode cX5_ofChip z.1 = .ok z.2 := by decide +kernel
def KX5_ofChip_74_9 : List (Nat × Instr × Nat) := [(74, .iconst 1, 1), (75, .goto 4, 3)]
theorem KX5_ofChip_74_9_d : ∀ z ∈ KX5_ofChip_74_9, decode cX5_ofChip z.1 = .ok z.2 := by decide +kernel
def KX5_ofChip_80_10 : List (Nat × Instr × Nat) := [(80, .aload_n 3, 1)]
theorem KX5_ofChip_80_10_d : ∀ z ∈ KX5_ofChip_80_10, decode cX5_ofChip z.1 = .ok z.2 := by decide +kernel
def KX5_ofChip_91_11 : List (Nat × Instr × Nat) := [(91, .iconst 0, 1)]
theorem KX5_ofChip_91_11_d : ∀ z ∈ KX5_ofChip_91_11, decode cX5_ofChip z.1 = .ok z.2 := by decide +kernel
def KX5_ofChip_87_12 : List (Nat × Instr × Nat) := [(87, .iconst 1, 1), (88, .goto 4, 3)]
theorem KX5_ofChip_87_12_d : ∀ z ∈ KX5_ofChip_87_12, decode cX5_ofChip z.1 = .ok z.2 := by decide +kernel
def KX5_ofChip_93_13 : List (Nat × Instr × Nat) := [(93, .aload_n 3, 1)]
theorem KX5_ofChip_93_13_d : ∀ z ∈ KX5_ofChip_93_13, decode cX5_ofChip z.1 = .ok z.2 := by decide +kernel
set_option maxHeartbeats 4000000 in
set_option maxRecDepth 100000 in
theorem c_X5_ofChip (l : Launch) (D : va_G) (g : Nat → ClassId) (ad : Nat → Nat) (I : Nat → Nat → Int32) (L : Nat → Nat → Int64) (S : Nat → Nat) (ch : Nat) (w : Nat) (hch : ch < 18) (hw : w < 6) : CT l yX5_ofChip cX5_ofChip 4 ((Option.some FieldType.int)) ({ frames := 2, cells := 0, slots := 0, locals := 44 } : Room) [.ref (ad 0), .int (nI ch), .int (nI w)] D CL (TYS g) (WC ad g I L S) ([]) (S := Unit) (fun _ => some (.int (ocV I L ch w))) (fun _ => []) (fun _ => True) 0 0 := by
  refine ct_of (by decide +kernel) (Nat.le_of_ble_eq_true rfl) ?_
  intro p e s m below meth c A X hr hnm hSB hRO hAf
  refine g_cs (ws' := []) (lv' := [(0, .ref (ad 0)), (1, .int (nI ch)), (2, .int (nI w))]) rfl rfl ?_
  refine g_run X KX5_ofChip_0_0 KX5_ofChip_0_0_d 1 [(0, .ref (ad 0)), (1, .int (nI ch)), (2, .int (nI w))] [.int (nI ch)] rfl ?_
  refine g_callS X hSB hAf (As := [.int (nI ch)]) (wr := []) (n := 1) (c_X5_checkChip l D g ch (by omega)) rfl srcN hrdN w_407 w_405 w_406 w_1 (by decide +kernel) rfl ⟨Nat.le_of_ble_eq_true rfl, Nat.le_of_ble_eq_true rfl⟩ rfl rfl rfl (Nat.le_of_ble_eq_true rfl) ⟨Nat.le_of_ble_eq_true rfl, Nat.le_of_ble_eq_true rfl⟩ dX5_ofChip_1 (fun hu1 _ => ?_)
  refine g_af (ws' := []) (st' := []) (cells' := 0) (slots' := 0) (pc' := 4) rfl rfl rfl rfl rfl ?_
  refine g_run X KX5_ofChip_4_1 KX5_ofChip_4_1_d 5 [(0, .ref (ad 0)), (1, .int (nI ch)), (2, .int (nI w))] [.ref (ad 0)] rfl ?_
  refine g_get X (srcR hRO) (v := .ref (ad 1)) hinX5 rfl 0 (by decide) w_183 rfl (wc_mem (k := 0) (by decide)) rfl dX5_ofChip_5 ?_
  refine g_get X (srcR hRO) (v := .ref (ad 2)) hinX4 rfl 0 (by decide) w_94 rfl (wc_mem (k := 1) (by decide)) rfl dX5_ofChip_8 ?_
  refine g_run X KX5_ofChip_11_2 KX5_ofChip_11_2_d 12 [(0, .ref (ad 0)), (1, .int (nI ch)), (2, .int (nI w))] [.int (nI ch), .ref (ad 2)] rfl ?_
  refine g_aald X (srcR hRO) (b := ad (ch + 10)) 1 rfl (wc_mem (k := 2) (by decide)) ch rfl (by omega) (by decide) (rfl) dX5_ofChip_12 ?_
  refine g_run X KX5_ofChip_13_3 KX5_ofChip_13_3_d 15 [(3, .ref (ad (ch + 10))), (0, .ref (ad 0)), (1, .int (nI ch)), (2, .int (nI w))] [.int (nI w)] rfl ?_
  rcases (show w = 0 ∨ w = 1 ∨ w = 2 ∨ w = 3 ∨ w = 4 ∨ w = 5 by omega) with rfl | rfl | rfl | rfl | rfl | rfl
  · refine g_swIn X 52 dX5_ofChip_15 (by decide +kernel) (by decide +kernel) (off := 37) (by decide +kernel) (by decide) ?_
    refine g_run X KX5_ofChip_52_4 KX5_ofChip_52_4_d 53 [(3, .ref (ad (ch + 10))), (0, .ref (ad 0)), (1, .int (nI ch)), (2, .int (nI 0))] [.ref (ad (ch + 10))] rfl ?_
    refine g_get X (srcR hRO) (v := .int (I 0 ch)) hinX1 rfl 1 (by decide) w_59 rfl (wc_chip (by omega)) rfl dX5_ofChip_53 ?_
    exact g_iret X hr () (by show some (Value.int _) = some (Value.int _); rw [ocV]) (trivial) ((List.append_nil _).symm) (Nat.le_of_ble_eq_true rfl) (Nat.le_of_ble_eq_true rfl) dX5_ofChip_56
  · refine g_swIn X 57 dX5_ofChip_15 (by decide +kernel) (by decide +kernel) (off := 42) (by decide +kernel) (by decide) ?_
    refine g_run X KX5_ofChip_57_5 KX5_ofChip_57_5_d 58 [(3, .ref (ad (ch + 10))), (0, .ref (ad 0)), (1, .int (nI ch)), (2, .int (nI 1))] [.ref (ad (ch + 10))] rfl ?_
    refine g_get X (srcR hRO) (v := .int (I 1 ch)) hinX1 rfl 2 (by decide) w_61 rfl (wc_chip (by omega)) rfl dX5_ofChip_58 ?_
    exact g_iret X hr () (by show some (Value.int _) = some (Value.int _); rw [ocV]) (trivial) ((List.append_nil _).symm) (Nat.le_of_ble_eq_true rfl) (Nat.le_of_ble_eq_true rfl) dX5_ofChip_61
  · refine g_swIn X 62 dX5_ofChip_15 (by decide +kernel) (by decide +kernel) (off := 47) (by decide +kernel) (by decide) ?_
    refine g_run X KX5_ofChip_62_6 KX5_ofChip_62_6_d 63 [(3, .ref (ad (ch + 10))), (0, .ref (ad 0)), (1, .int (nI ch)), (2, .int (nI 2))] [.ref (ad (ch + 10))] rfl ?_
    refine g_get X (srcR hRO) (v := .int (I 2 ch)) hinX1 rfl 3 (by decide) w_64 rfl (wc_chip (by omega)) rfl dX5_ofChip_63 ?_
    exact g_iret X hr () (by show some (Value.int _) = some (Value.int _); rw [ocV]) (trivial) ((List.append_nil _).symm) (Nat.le_of_ble_eq_true rfl) (Nat.le_of_ble_eq_true rfl) dX5_ofChip_66
  · refine g_swIn X 67 dX5_ofChip_15 (by decide +kernel) (by decide +kernel) (off := 52) (by decide +kernel) (by decide) ?_
    refine g_run X KX5_ofChip_67_7 KX5_ofChip_67_7_d 68 [(3, .ref (ad (ch + 10))), (0, .ref (ad 0)), (1, .int (nI ch)), (2, .int (nI 3))] [.ref (ad (ch + 10))] rfl ?_
    refine g_get X (srcR hRO) (v := .int (I 3 ch)) hinX1 rfl 4 (by decide) w_67 rfl (wc_chip (by omega)) rfl dX5_ofChip_68 ?_
    refine g_if_eq X 78 dX5_ofChip_71 (by decide) (fun hc2 => ?_) (fun hc2 => ?_)
    · refine g_run X KX5_ofChip_78_8 KX5_ofChip_78_8_d 79 [(3, .ref (ad (ch + 10))), (0, .ref (ad 0)), (1, .int (nI ch)), (2, .int (nI 3))] [.int (nI 0)] rfl ?_
      exact g_iret X hr () (by show some (Value.int _) = some (Value.int _); rw [ocV]; simp [*]) (trivial) ((List.append_nil _).symm) (Nat.le_of_ble_eq_true rfl) (Nat.le_of_ble_eq_true rfl) dX5_ofChip_79
    · refine g_run X KX5_ofChip_74_9 KX5_ofChip_74_9_d 79 [(3, .ref (ad (ch + 10))), (0, .ref (ad 0)), (1, .int (nI ch)), (2, .int (nI 3))] [.int (nI 1)] rfl ?_
      exact g_iret X hr () (by show some (Value.int _) = some (Value.int _); rw [ocV]; simp [*]) (trivial) ((List.append_nil _).symm) (Nat.le_of_ble_eq_true rfl) (Nat.le_of_ble_eq_true rfl) dX5_ofChip_79
  · refine g_swIn X 80 dX5_ofChip_15 (by decide +kernel) (by decide +kernel) (off := 65) (by decide +kernel) (by decide) ?_
    refine g_run X KX5_ofChip_80_10 KX5_ofChip_80_10_d 81 [(3, .ref (ad (ch + 10))), (0, .ref (ad 0)), (1, .int (nI ch)), (2, .int (nI 4))] [.ref (ad (ch + 10))] rfl ?_
    refine g_get X (srcR hRO) (v := .int (I 4 ch)) hinX1 rfl 5 (by decide) w_70 rfl (wc_chip (by omega)) rfl dX5_ofChip_81 ?_
    refine g_if_eq X 91 dX5_ofChip_84 (by decide) (fun hc3 => ?_) (fun hc3 => ?_)
    · refine g_run X KX5_ofChip_91_11 KX5_ofChip_91_11_d 92 [(3, .ref (ad (ch + 10))), (0, .ref (ad 0)), (1, .int (nI ch)), (2, .int (nI 4))] [.int (nI 0)] rfl ?_
      exact g_iret X hr () (by show some (Value.int _) = some (Value.int _); rw [ocV]; simp [*]) (trivial) ((List.append_nil _).symm) (Nat.le_of_ble_eq_true rfl) (Nat.le_of_ble_eq_true rfl) dX5_ofChip_92
    · refine g_run X KX5_ofChip_87_12 KX5_ofChip_87_12_d 92 [(3, .ref (ad (ch + 10))), (0, .ref (ad 0)), (1, .int (nI ch)), (2, .int (nI 4))] [.int (nI 1)] rfl ?_
      exact g_iret X hr () (by show some (Value.int _) = some (Value.int _); rw [ocV]; simp [*]) (trivial) ((List.append_nil _).symm) (Nat.le_of_ble_eq_true rfl) (Nat.le_of_ble_eq_true rfl) dX5_ofChip_92
  · refine g_swIn X 93 dX5_ofChip_15 (by decide +kernel) (by decide +kernel) (off := 78) (by decide +kernel) (by decide) ?_
    refine g_run X KX5_ofChip_93_13 KX5_ofChip_93_13_d 94 [(3, .ref (ad (ch + 10))), (0, .ref (ad 0)), (1, .int (nI ch)), (2, .int (nI 5))] [.ref (ad (ch + 10))] rfl ?_
    refine g_callV X hSB hAf ((srcR hRO)) (hrc1 := (rfl : CL[1]? = some _)) (wc_chip (by omega)) rfl (As := []) (wr := []) (n := 0) (c_X1_stuckCells l D g ad I L S ch (by omega)) rfl (srcR hRO) hrdC w_427 w_424 w_425 w_426 w_3 (by decide +kernel) rfl ⟨Nat.le_of_ble_eq_true rfl, Nat.le_of_ble_eq_true rfl⟩ rfl rfl rfl (Nat.le_of_ble_eq_true rfl) ⟨Nat.le_of_ble_eq_true rfl, Nat.le_of_ble_eq_true rfl⟩ dX5_ofChip_94 (fun hu4 _ => ?_)
    refine g_af (ws' := []) (st' := [.int (nI (stk L ch 16))]) (cells' := 0) (slots' := 0) (pc' := 97) rfl rfl rfl rfl rfl ?_
    exact g_iret X hr () (rfl) (trivial) ((List.append_nil _).symm) (Nat.le_of_ble_eq_true rfl) (Nat.le_of_ble_eq_true rfl) dX5_ofChip_97

set_option maxHeartbeats 4000000 in
set_option maxRecDepth 100000 in
theorem x_X5_ofChip_1 (l : Launch) (hfl : l.stackTraces = false) (D : va_G) (g : Nat → ClassId) (ad : Nat → Nat) (I : Nat → Nat → Int32) (L : Nat → Nat → Int64) (S : Nat → Nat) (x : Int32) (y1 : Int32) (hx : x < 0 ∨ ¬ x < nI 18) : CX l yX5_ofChip cX5_ofChip 4 ((Option.some FieldType.int)) ({ frames := 7, cells := 1, slots := 6, locals := 120 } : Room) [.ref (ad 0), .int x, .int y1] D CL (TYS g) (WC ad g I L S) xIO 1 6 := by
  refine cx_of (by decide +kernel) (Nat.le_of_ble_eq_true rfl) ?_
  intro p e s m below meth c A X hnt hSB hRO hAf
  refine g_cs (ws' := []) (lv' := [(0, .ref (ad 0)), (1, .int x), (2, .int y1)]) rfl rfl ?_
  refine g_run X KX5_ofChip_0_0 KX5_ofChip_0_0_d 1 [(0, .ref (ad 0)), (1, .int x), (2, .int y1)] [.int x] rfl ?_
  exact gx_callS X hSB hAf hnt (As := [.int x]) (n := 1) (x_X5_checkChip l hfl D g x (hx)) srcN w_407 w_405 w_406 w_1 (by decide +kernel) rfl ⟨Nat.le_of_ble_eq_true rfl, Nat.le_of_ble_eq_true rfl⟩ rfl rfl rfl (Nat.le_of_ble_eq_true rfl) ⟨Nat.le_of_ble_eq_true rfl, Nat.le_of_ble_eq_true rfl⟩ (Nat.le_of_ble_eq_true rfl) (Nat.le_of_ble_eq_true rfl) dX5_ofChip_1

set_option maxHeartbeats 4000000 in
set_option maxRecDepth 100000 in
theorem x_X5_ofChip_2 (l : Launch) (hfl : l.stackTraces = false) (D : va_G) (g : Nat → ClassId) (ad : Nat → Nat) (I : Nat → Nat → Int32) (L : Nat → Nat → Int64) (S : Nat → Nat) (ch : Nat) (x : Int32) (hch : ch < 18) (hx : x.toInt < 0 ∨ 5 < x.toInt) : CX l yX5_ofChip cX5_ofChip 4 ((Option.some FieldType.int)) ({ frames := 6, cells := 1, slots := 6, locals := 100 } : Room) [.ref (ad 0), .int (nI ch), .int x] D CL (TYS g) (WC ad g I L S) xIA 1 6 := by
  refine cx_of (by decide +kernel) (Nat.le_of_ble_eq_true rfl) ?_
  intro p e s m below meth c A X hnt hSB hRO hAf
  refine g_cs (ws' := []) (lv' := [(0, .ref (ad 0)), (1, .int (nI ch)), (2, .int x)]) rfl rfl ?_
  refine g_run X KX5_ofChip_0_0 KX5_ofChip_0_0_d 1 [(0, .ref (ad 0)), (1, .int (nI ch)), (2, .int x)] [.int (nI ch)] rfl ?_
  refine g_callS X hSB hAf (As := [.int (nI ch)]) (wr := []) (n := 1) (c_X5_checkChip l D g ch (by omega)) rfl srcN hrdN w_407 w_405 w_406 w_1 (by decide +kernel) rfl ⟨Nat.le_of_ble_eq_true rfl, Nat.le_of_ble_eq_true rfl⟩ rfl rfl rfl (Nat.le_of_ble_eq_true rfl) ⟨Nat.le_of_ble_eq_true rfl, Nat.le_of_ble_eq_true rfl⟩ dX5_ofChip_1 (fun hu1 _ => ?_)
  refine g_af (ws' := []) (st' := []) (cells' := 0) (slots' := 0) (pc' := 4) rfl rfl rfl rfl rfl ?_
  refine g_run X KX5_ofChip_4_1 KX5_ofChip_4_1_d 5 [(0, .ref (ad 0)), (1, .int (nI ch)), (2, .int x)] [.ref (ad 0)] rfl ?_
  refine g_get X (srcR hRO) (v := .ref (ad 1)) hinX5 rfl 0 (by decide) w_183 rfl (wc_mem (k := 0) (by decide)) rfl dX5_ofChip_5 ?_
  refine g_get X (srcR hRO) (v := .ref (ad 2)) hinX4 rfl 0 (by decide) w_94 rfl (wc_mem (k := 1) (by decide)) rfl dX5_ofChip_8 ?_
  refine g_run X KX5_ofChip_11_2 KX5_ofChip_11_2_d 12 [(0, .ref (ad 0)), (1, .int (nI ch)), (2, .int x)] [.int (nI ch), .ref (ad 2)] rfl ?_
  refine g_aald X (srcR hRO) (b := ad (ch + 10)) 1 rfl (wc_mem (k := 2) (by decide)) ch rfl (by omega) (by decide) (rfl) dX5_ofChip_12 ?_
  refine g_run X KX5_ofChip_13_3 KX5_ofChip_13_3_d 15 [(3, .ref (ad (ch + 10))), (0, .ref (ad 0)), (1, .int (nI ch)), (2, .int x)] [.int x] rfl ?_
  refine g_swOut X 98 dX5_ofChip_15 (hx) (by decide) ?_
  exact g_throwS (E := xIA) X hSB hfl hnt (text := "what is not 0 to 5") (names := xNm) (by decide +kernel) (by decide +kernel) w_333 w_21 (by decide +kernel) hatIA hgdIA dX5_ofChip_98 dX5_ofChip_101 dX5_ofChip_102 dX5_ofChip_104 dX5_ofChip_107 (Nat.le_of_ble_eq_true rfl) (Nat.le_of_ble_eq_true rfl) (Nat.le_of_ble_eq_true rfl) (Nat.le_of_ble_eq_true rfl) (Nat.le_of_ble_eq_true rfl) (Nat.le_of_ble_eq_true rfl)

def KX5_stored_0_0 : List (Nat × Instr × Nat) := [(0, .iload_n 1, 1)]
theorem KX5_stored_0_0_d : ∀ z ∈ KX5_stored_0_0, decode cX5_stored z.1 = .ok z.2 := by decide +kernel
def KX5_stored_4_1 : List (Nat × Instr × Nat) := [(4, .iload_n 2, 1)]
theorem KX5_stored_4_1_d : ∀ z ∈ KX5_stored_4_1, decode cX5_stored z.1 = .ok z.2 := by decide +kernel
def KX5_stored_8_2 : List (Nat × Instr × Nat) := [(8, .aload_n 0, 1)]
theorem KX5_stored_8_2_d : ∀ z ∈ KX5_stored_8_2, decode cX5_stored z.1 = .ok z.2 := by decide +kernel
def KX5_stored_15_3 : List (Nat × Instr × Nat) := [(15, .iload_n 1, 1)]
theorem KX5_stored_15_3_d : ∀ z ∈ KX5_stored_15_3, decode cX5_stored z.1 = .ok z.2 := by decide +kernel
def KX5_stored_17_4 : List (Nat × Instr × Nat) := [(17, .iload_n 2, 1)]
theorem KX5_stored_17_4_d : ∀ z ∈ KX5_stored_17_4, decode cX5_stored z.1 = .ok z.2 := by decide +kernel
set_option maxHeartbeats 4000000 in
set_option maxRecDepth 100000 in
theorem c_X5_stored (l : Launch) (D : va_G) (g : Nat → ClassId) (ad : Nat → Nat) (I : Nat → Nat → Int32) (L : Nat → Nat → Int64) (S : Nat → Nat) (ch : Nat) (q : Nat) (hch : ch < 18) (hq : q < 16) : CT l yX5_stored cX5_stored 3 ((Option.some FieldType.int)) ({ frames := 2, cells := 0, slots := 0, locals := 43 } : Room) [.ref (ad 0), .int (nI ch), .int (nI q)] D CL (TYS g) (WC ad g I L S) ([]) (S := Unit) (fun _ => some (.int (nI (nib (L 0 ch) q)))) (fun _ => []) (fun _ => True) 0 0 := by
  refine ct_of (by decide +kernel) (Nat.le_of_ble_eq_true rfl) ?_
  intro p e s m below meth c A X hr hnm hSB hRO hAf
  refine g_cs (ws' := []) (lv' := [(0, .ref (ad 0)), (1, .int (nI ch)), (2, .int (nI q))]) rfl rfl ?_
  refine g_run X KX5_stored_0_0 KX5_stored_0_0_d 1 [(0, .ref (ad 0)), (1, .int (nI ch)), (2, .int (nI q))] [.int (nI ch)] rfl ?_
  refine g_callS X hSB hAf (As := [.int (nI ch)]) (wr := []) (n := 1) (c_X5_checkChip l D g ch (by omega)) rfl srcN hrdN w_407 w_405 w_406 w_1 (by decide +kernel) rfl ⟨Nat.le_of_ble_eq_true rfl, Nat.le_of_ble_eq_true rfl⟩ rfl rfl rfl (Nat.le_of_ble_eq_true rfl) ⟨Nat.le_of_ble_eq_true rfl, Nat.le_of_ble_eq_true rfl⟩ dX5_stored_1 (fun hu1 _ => ?_)
  refine g_af (ws' := []) (st' := []) (cells' := 0) (slots' := 0) (pc' := 4) rfl rfl rfl rfl rfl ?_
  refine g_run X KX5_stored_4_1 KX5_stored_4_1_d 5 [(0, .ref (ad 0)), (1, .int (nI ch)), (2, .int (nI q))] [.int (nI q)] rfl ?_
  refine g_callS X hSB hAf (As := [.int (nI q)]) (wr := []) (n := 1) (c_X5_checkLine l D g q (by omega)) rfl srcN hrdN w_435 w_433 w_434 w_1 (by decide +kernel) rfl ⟨Nat.le_of_ble_eq_true rfl, Nat.le_of_ble_eq_true rfl⟩ rfl rfl rfl (Nat.le_of_ble_eq_true rfl) ⟨Nat.le_of_ble_eq_true rfl, Nat.le_of_ble_eq_true rfl⟩ dX5_stored_5 (fun hu2 _ => ?_)
  refine g_af (ws' := []) (st' := []) (cells' := 0) (slots' := 0) (pc' := 8) rfl rfl rfl rfl rfl ?_
  refine g_run X KX5_stored_8_2 KX5_stored_8_2_d 9 [(0, .ref (ad 0)), (1, .int (nI ch)), (2, .int (nI q))] [.ref (ad 0)] rfl ?_
  refine g_get X (srcR hRO) (v := .ref (ad 1)) hinX5 rfl 0 (by decide) w_183 rfl (wc_mem (k := 0) (by decide)) rfl dX5_stored_9 ?_
  refine g_get X (srcR hRO) (v := .ref (ad 2)) hinX4 rfl 0 (by decide) w_94 rfl (wc_mem (k := 1) (by decide)) rfl dX5_stored_12 ?_
  refine g_run X KX5_stored_15_3 KX5_stored_15_3_d 16 [(0, .ref (ad 0)), (1, .int (nI ch)), (2, .int (nI q))] [.int (nI ch), .ref (ad 2)] rfl ?_
  refine g_aald X (srcR hRO) (b := ad (ch + 10)) 1 rfl (wc_mem (k := 2) (by decide)) ch rfl (by omega) (by decide) (rfl) dX5_stored_16 ?_
  refine g_run X KX5_stored_17_4 KX5_stored_17_4_d 18 [(0, .ref (ad 0)), (1, .int (nI ch)), (2, .int (nI q))] [.int (nI q), .ref (ad (ch + 10))] rfl ?_
  refine g_callV X hSB hAf ((srcR hRO)) (hrc1 := (rfl : CL[1]? = some _)) (wc_chip (by omega)) rfl (As := [.int (nI q)]) (wr := []) (n := 1) (c_X1_storedAt l D g ad I L S ch q (by omega) (by omega)) rfl (srcR hRO) hrdC w_466 w_463 w_464 w_465 w_3 (by decide +kernel) rfl ⟨Nat.le_of_ble_eq_true rfl, Nat.le_of_ble_eq_true rfl⟩ rfl rfl rfl (Nat.le_of_ble_eq_true rfl) ⟨Nat.le_of_ble_eq_true rfl, Nat.le_of_ble_eq_true rfl⟩ dX5_stored_18 (fun hu3 _ => ?_)
  refine g_af (ws' := []) (st' := [.int (nI (nib (L 0 ch) q))]) (cells' := 0) (slots' := 0) (pc' := 21) rfl rfl rfl rfl rfl ?_
  exact g_iret X hr () (rfl) (trivial) ((List.append_nil _).symm) (Nat.le_of_ble_eq_true rfl) (Nat.le_of_ble_eq_true rfl) dX5_stored_21

set_option maxHeartbeats 4000000 in
set_option maxRecDepth 100000 in
theorem x_X5_stored_1 (l : Launch) (hfl : l.stackTraces = false) (D : va_G) (g : Nat → ClassId) (ad : Nat → Nat) (I : Nat → Nat → Int32) (L : Nat → Nat → Int64) (S : Nat → Nat) (x : Int32) (y1 : Int32) (hx : x < 0 ∨ ¬ x < nI 18) : CX l yX5_stored cX5_stored 3 ((Option.some FieldType.int)) ({ frames := 7, cells := 1, slots := 6, locals := 120 } : Room) [.ref (ad 0), .int x, .int y1] D CL (TYS g) (WC ad g I L S) xIO 1 6 := by
  refine cx_of (by decide +kernel) (Nat.le_of_ble_eq_true rfl) ?_
  intro p e s m below meth c A X hnt hSB hRO hAf
  refine g_cs (ws' := []) (lv' := [(0, .ref (ad 0)), (1, .int x), (2, .int y1)]) rfl rfl ?_
  refine g_run X KX5_stored_0_0 KX5_stored_0_0_d 1 [(0, .ref (ad 0)), (1, .int x), (2, .int y1)] [.int x] rfl ?_
  exact gx_callS X hSB hAf hnt (As := [.int x]) (n := 1) (x_X5_checkChip l hfl D g x (hx)) srcN w_407 w_405 w_406 w_1 (by decide +kernel) rfl ⟨Nat.le_of_ble_eq_true rfl, Nat.le_of_ble_eq_true rfl⟩ rfl rfl rfl (Nat.le_of_ble_eq_true rfl) ⟨Nat.le_of_ble_eq_true rfl, Nat.le_of_ble_eq_true rfl⟩ (Nat.le_of_ble_eq_true rfl) (Nat.le_of_ble_eq_true rfl) dX5_stored_1

set_option maxHeartbeats 4000000 in
set_option maxRecDepth 100000 in
theorem x_X5_stored_2 (l : Launch) (hfl : l.stackTraces = false) (D : va_G) (g : Nat → ClassId) (ad : Nat → Nat) (I : Nat → Nat → Int32) (L : Nat → Nat → Int64) (S : Nat → Nat) (ch : Nat) (x : Int32) (hch : ch < 18) (hx : x < 0 ∨ ¬ x < nI 16) : CX l yX5_stored cX5_stored 3 ((Option.some FieldType.int)) ({ frames := 7, cells := 1, slots := 6, locals := 120 } : Room) [.ref (ad 0), .int (nI ch), .int x] D CL (TYS g) (WC ad g I L S) xIO 1 6 := by
  refine cx_of (by decide +kernel) (Nat.le_of_ble_eq_true rfl) ?_
  intro p e s m below meth c A X hnt hSB hRO hAf
  refine g_cs (ws' := []) (lv' := [(0, .ref (ad 0)), (1, .int (nI ch)), (2, .int x)]) rfl rfl ?_
  refine g_run X KX5_stored_0_0 KX5_stored_0_0_d 1 [(0, .ref (ad 0)), (1, .int (nI ch)), (2, .int x)] [.int (nI ch)] rfl ?_
  refine g_callS X hSB hAf (As := [.int (nI ch)]) (wr := []) (n := 1) (c_X5_checkChip l D g ch (by omega)) rfl srcN hrdN w_407 w_405 w_406 w_1 (by decide +kernel) rfl ⟨Nat.le_of_ble_eq_true rfl, Nat.le_of_ble_eq_true rfl⟩ rfl rfl rfl (Nat.le_of_ble_eq_true rfl) ⟨Nat.le_of_ble_eq_true rfl, Nat.le_of_ble_eq_true rfl⟩ dX5_stored_1 (fun hu1 _ => ?_)
  refine g_af (ws' := []) (st' := []) (cells' := 0) (slots' := 0) (pc' := 4) rfl rfl rfl rfl rfl ?_
  refine g_run X KX5_stored_4_1 KX5_stored_4_1_d 5 [(0, .ref (ad 0)), (1, .int (nI ch)), (2, .int x)] [.int x] rfl ?_
  exact gx_callS X hSB hAf hnt (As := [.int x]) (n := 1) (x_X5_checkLine l hfl D g x (hx)) srcN w_435 w_433 w_434 w_1 (by decide +kernel) rfl ⟨Nat.le_of_ble_eq_true rfl, Nat.le_of_ble_eq_true rfl⟩ rfl rfl rfl (Nat.le_of_ble_eq_true rfl) ⟨Nat.le_of_ble_eq_true rfl, Nat.le_of_ble_eq_true rfl⟩ (Nat.le_of_ble_eq_true rfl) (Nat.le_of_ble_eq_true rfl) dX5_stored_5

def KX5_ofFrame_0_0 : List (Nat × Instr × Nat) := [(0, .iload_n 1, 1)]
theorem KX5_ofFrame_0_0_d : ∀ z ∈ KX5_ofFrame_0_0, decode cX5_ofFrame z.1 = .ok z.2 := by decide +kernel
def KX5_ofFrame_4_1 : List (Nat × Instr × Nat) := [(4, .aload_n 0, 1)]
theorem KX5_ofFrame_4_1_d : ∀ z ∈ KX5_ofFrame_4_1, decode cX5_ofFrame z.1 = .ok z.2 := by decide +kernel
def KX5_ofFrame_11_2 : List (Nat × Instr × Nat) := [(11, .iload_n 1, 1)]
theorem KX5_ofFrame_11_2_d : ∀ z ∈ KX5_ofFrame_11_2, decode cX5_ofFrame z.1 = .ok z.2 := by decide +kernel
def KX5_ofFrame_13_3 : List (Nat × Instr × Nat) := [(13, .astore_n 3, 1), (14, .iload_n 2, 1)]
theorem KX5_ofFrame_13_3_d : ∀ z ∈ KX5_ofFrame_13_3, decode cX5_ofFrame z.1 = .ok z.2 := by decide +kernel
def KX5_ofFrame_40_4 : List (Nat × Instr × Nat) := [(40, .aload_n 3, 1)]
theorem KX5_ofFrame_40_4_d : ∀ z ∈ KX5_ofFrame_40_4, decode cX5_ofFrame z.1 = .ok z.2 := by decide +kernel
def KX5_ofFrame_45_5 : List (Nat × Instr × Nat) := [(45, .aload_n 3, 1)]
theorem KX5_ofFrame_45_5_d : ∀ z ∈ KX5_ofFrame_45_5, decode cX5_ofFrame z.1 = .ok z.2 := by decide +kernel
def KX5_ofFrame_56_6 : List (Nat × Instr × Nat) := [(56, .iconst 0, 1)]
theorem KX5_ofFrame_56_6_d : ∀ z ∈ KX5_ofFrame_56_6, decode cX5_ofFrame z.1 = .ok z.2 := by decide +kernel
def KX5_ofFrame_52_7 : List (Nat × Instr × Nat) := [(52, .iconst 1, 1), (53, .goto 4, 3)]
theorem KX5_ofFrame_52_7_d : ∀ z ∈ KX5_ofFrame_52_7, decode cX5_ofFrame z.1 = .ok z.2 := by decide +kernel
def KX5_ofFrame_58_8 : List (Nat × Instr × Nat) := [(58, .aload_n 3, 1)]
theorem KX5_ofFrame_58_8_d : ∀ z ∈ KX5_ofFrame_58_8, decode cX5_ofFrame z.1 = .ok z.2 := by decide +kernel
set_option maxHeartbeats 4000000 in
set_option maxRecDepth 100000 in
theorem c_X5_ofFrame (l : Launch) (D : va_G) (g : Nat → ClassId) (ad : Nat → Nat) (I : Nat → Nat → Int32) (L : Nat → Nat → Int64) (S : Nat → Nat) (fk : Nat) (w : Nat) (hk : fk < 4) (hw : w < 3) : CT l yX5_ofFrame cX5_ofFrame 4 ((Option.some FieldType.int)) ({ frames := 1, cells := 0, slots := 0, locals := 20 } : Room) [.ref (ad 0), .int (nI fk), .int (nI w)] D CL (TYS g) (WC ad g I L S) ([]) (S := Unit) (fun _ => some (.int (ofV I fk w))) (fun _ => []) (fun _ => True) 0 0 := by
  refine ct_of (by decide +kernel) (Nat.le_of_ble_eq_true rfl) ?_
  intro p e s m below meth c A X hr hnm hSB hRO hAf
  refine g_cs (ws' := []) (lv' := [(0, .ref (ad 0)), (1, .int (nI fk)), (2, .int (nI w))]) rfl rfl ?_
  refine g_run X KX5_ofFrame_0_0 KX5_ofFrame_0_0_d 1 [(0, .ref (ad 0)), (1, .int (nI fk)), (2, .int (nI w))] [.int (nI fk)] rfl ?_
  refine g_callS X hSB hAf (As := [.int (nI fk)]) (wr := []) (n := 1) (c_X5_checkFrame l D g fk (by omega)) rfl srcN hrdN w_473 w_471 w_472 w_1 (by decide +kernel) rfl ⟨Nat.le_of_ble_eq_true rfl, Nat.le_of_ble_eq_true rfl⟩ rfl rfl rfl (Nat.le_of_ble_eq_true rfl) ⟨Nat.le_of_ble_eq_true rfl, Nat.le_of_ble_eq_true rfl⟩ dX5_ofFrame_1 (fun hu1 _ => ?_)
  refine g_af (ws' := []) (st' := []) (cells' := 0) (slots' := 0) (pc' := 4) rfl rfl rfl rfl rfl ?_
  refine g_run X KX5_ofFrame_4_1 KX5_ofFrame_4_1_d 5 [(0, .ref (ad 0)), (1, .int (nI fk)), (2, .int (nI w))] [.ref (ad 0)] rfl ?_
  refine g_get X (srcR hRO) (v := .ref (ad 4)) hinX5 rfl 1 (by decide) w_184 rfl (wc_mem (k := 0) (by decide)) rfl dX5_ofFrame_5 ?_
  refine g_get X (srcR hRO) (v := .ref (ad 5)) hinX0 rfl 0 (by decide) w_165 rfl (wc_mem (k := 4) (by decide)) rfl dX5_ofFrame_8 ?_
  refine g_run X KX5_ofFrame_11_2 KX5_ofFrame_11_2_d 12 [(0, .ref (ad 0)), (1, .int (nI fk)), (2, .int (nI w))] [.int (nI fk), .ref (ad 5)] rfl ?_
  refine g_aald X (srcR hRO) (b := ad (fk + 6)) 2 rfl (wc_mem (k := 5) (by decide)) fk rfl (by omega) (by decide) (rfl) dX5_ofFrame_12 ?_
  refine g_run X KX5_ofFrame_13_3 KX5_ofFrame_13_3_d 15 [(3, .ref (ad (fk + 6))), (0, .ref (ad 0)), (1, .int (nI fk)), (2, .int (nI w))] [.int (nI w)] rfl ?_
  rcases (show w = 0 ∨ w = 1 ∨ w = 2 by omega) with rfl | rfl | rfl
  · refine g_swIn X 40 dX5_ofFrame_15 (by decide +kernel) (by decide +kernel) (off := 25) (by decide +kernel) (by decide) ?_
    refine g_run X KX5_ofFrame_40_4 KX5_ofFrame_40_4_d 41 [(3, .ref (ad (fk + 6))), (0, .ref (ad 0)), (1, .int (nI fk)), (2, .int (nI 0))] [.ref (ad (fk + 6))] rfl ?_
    refine g_get X (srcR hRO) (v := .int (I 5 fk)) hinX3 rfl 1 (by decide) w_143 rfl (wc_fr (by omega)) rfl dX5_ofFrame_41 ?_
    exact g_iret X hr () (by show some (Value.int _) = some (Value.int _); rw [ofV]) (trivial) ((List.append_nil _).symm) (Nat.le_of_ble_eq_true rfl) (Nat.le_of_ble_eq_true rfl) dX5_ofFrame_44
  · refine g_swIn X 45 dX5_ofFrame_15 (by decide +kernel) (by decide +kernel) (off := 30) (by decide +kernel) (by decide) ?_
    refine g_run X KX5_ofFrame_45_5 KX5_ofFrame_45_5_d 46 [(3, .ref (ad (fk + 6))), (0, .ref (ad 0)), (1, .int (nI fk)), (2, .int (nI 1))] [.ref (ad (fk + 6))] rfl ?_
    refine g_get X (srcR hRO) (v := .int (I 6 fk)) hinX3 rfl 3 (by decide) w_149 rfl (wc_fr (by omega)) rfl dX5_ofFrame_46 ?_
    refine g_if_eq X 56 dX5_ofFrame_49 (by decide) (fun hc2 => ?_) (fun hc2 => ?_)
    · refine g_run X KX5_ofFrame_56_6 KX5_ofFrame_56_6_d 57 [(3, .ref (ad (fk + 6))), (0, .ref (ad 0)), (1, .int (nI fk)), (2, .int (nI 1))] [.int (nI 0)] rfl ?_
      exact g_iret X hr () (by show some (Value.int _) = some (Value.int _); rw [ofV]; simp [*]) (trivial) ((List.append_nil _).symm) (Nat.le_of_ble_eq_true rfl) (Nat.le_of_ble_eq_true rfl) dX5_ofFrame_57
    · refine g_run X KX5_ofFrame_52_7 KX5_ofFrame_52_7_d 57 [(3, .ref (ad (fk + 6))), (0, .ref (ad 0)), (1, .int (nI fk)), (2, .int (nI 1))] [.int (nI 1)] rfl ?_
      exact g_iret X hr () (by show some (Value.int _) = some (Value.int _); rw [ofV]; simp [*]) (trivial) ((List.append_nil _).symm) (Nat.le_of_ble_eq_true rfl) (Nat.le_of_ble_eq_true rfl) dX5_ofFrame_57
  · refine g_swIn X 58 dX5_ofFrame_15 (by decide +kernel) (by decide +kernel) (off := 43) (by decide +kernel) (by decide) ?_
    refine g_run X KX5_ofFrame_58_8 KX5_ofFrame_58_8_d 59 [(3, .ref (ad (fk + 6))), (0, .ref (ad 0)), (1, .int (nI fk)), (2, .int (nI 2))] [.ref (ad (fk + 6))] rfl ?_
    refine g_get X (srcR hRO) (v := .int (I 7 fk)) hinX3 rfl 4 (by decide) w_152 rfl (wc_fr (by omega)) rfl dX5_ofFrame_59 ?_
    exact g_iret X hr () (rfl) (trivial) ((List.append_nil _).symm) (Nat.le_of_ble_eq_true rfl) (Nat.le_of_ble_eq_true rfl) dX5_ofFrame_62

set_option maxHeartbeats 4000000 in
set_option maxRecDepth 100000 in
theorem x_X5_ofFrame_1 (l : Launch) (hfl : l.stackTraces = false) (D : va_G) (g : Nat → ClassId) (ad : Nat → Nat) (I : Nat → Nat → Int32) (L : Nat → Nat → Int64) (S : Nat → Nat) (x : Int32) (y1 : Int32) (hx : x < 0 ∨ ¬ x < nI 4) : CX l yX5_ofFrame cX5_ofFrame 4 ((Option.some FieldType.int)) ({ frames := 7, cells := 1, slots := 6, locals := 120 } : Room) [.ref (ad 0), .int x, .int y1] D CL (TYS g) (WC ad g I L S) xIO 1 6 := by
  refine cx_of (by decide +kernel) (Nat.le_of_ble_eq_true rfl) ?_
  intro p e s m below meth c A X hnt hSB hRO hAf
  refine g_cs (ws' := []) (lv' := [(0, .ref (ad 0)), (1, .int x), (2, .int y1)]) rfl rfl ?_
  refine g_run X KX5_ofFrame_0_0 KX5_ofFrame_0_0_d 1 [(0, .ref (ad 0)), (1, .int x), (2, .int y1)] [.int x] rfl ?_
  exact gx_callS X hSB hAf hnt (As := [.int x]) (n := 1) (x_X5_checkFrame l hfl D g x (hx)) srcN w_473 w_471 w_472 w_1 (by decide +kernel) rfl ⟨Nat.le_of_ble_eq_true rfl, Nat.le_of_ble_eq_true rfl⟩ rfl rfl rfl (Nat.le_of_ble_eq_true rfl) ⟨Nat.le_of_ble_eq_true rfl, Nat.le_of_ble_eq_true rfl⟩ (Nat.le_of_ble_eq_true rfl) (Nat.le_of_ble_eq_true rfl) dX5_ofFrame_1

set_option maxHeartbeats 4000000 in
set_option maxRecDepth 100000 in
theorem x_X5_ofFrame_2 (l : Launch) (hfl : l.stackTraces = false) (D : va_G) (g : Nat → ClassId) (ad : Nat → Nat) (I : Nat → Nat → Int32) (L : Nat → Nat → Int64) (S : Nat → Nat) (fk : Nat) (x : Int32) (hk : fk < 4) (hx : x.toInt < 0 ∨ 2 < x.toInt) : CX l yX5_ofFrame cX5_ofFrame 4 ((Option.some FieldType.int)) ({ frames := 6, cells := 1, slots := 6, locals := 100 } : Room) [.ref (ad 0), .int (nI fk), .int x] D CL (TYS g) (WC ad g I L S) xIA 1 6 := by
  refine cx_of (by decide +kernel) (Nat.le_of_ble_eq_true rfl) ?_
  intro p e s m below meth c A X hnt hSB hRO hAf
  refine g_cs (ws' := []) (lv' := [(0, .ref (ad 0)), (1, .int (nI fk)), (2, .int x)]) rfl rfl ?_
  refine g_run X KX5_ofFrame_0_0 KX5_ofFrame_0_0_d 1 [(0, .ref (ad 0)), (1, .int (nI fk)), (2, .int x)] [.int (nI fk)] rfl ?_
  refine g_callS X hSB hAf (As := [.int (nI fk)]) (wr := []) (n := 1) (c_X5_checkFrame l D g fk (by omega)) rfl srcN hrdN w_473 w_471 w_472 w_1 (by decide +kernel) rfl ⟨Nat.le_of_ble_eq_true rfl, Nat.le_of_ble_eq_true rfl⟩ rfl rfl rfl (Nat.le_of_ble_eq_true rfl) ⟨Nat.le_of_ble_eq_true rfl, Nat.le_of_ble_eq_true rfl⟩ dX5_ofFrame_1 (fun hu1 _ => ?_)
  refine g_af (ws' := []) (st' := []) (cells' := 0) (slots' := 0) (pc' := 4) rfl rfl rfl rfl rfl ?_
  refine g_run X KX5_ofFrame_4_1 KX5_ofFrame_4_1_d 5 [(0, .ref (ad 0)), (1, .int (nI fk)), (2, .int x)] [.ref (ad 0)] rfl ?_
  refine g_get X (srcR hRO) (v := .ref (ad 4)) hinX5 rfl 1 (by decide) w_184 rfl (wc_mem (k := 0) (by decide)) rfl dX5_ofFrame_5 ?_
  refine g_get X (srcR hRO) (v := .ref (ad 5)) hinX0 rfl 0 (by decide) w_165 rfl (wc_mem (k := 4) (by decide)) rfl dX5_ofFrame_8 ?_
  refine g_run X KX5_ofFrame_11_2 KX5_ofFrame_11_2_d 12 [(0, .ref (ad 0)), (1, .int (nI fk)), (2, .int x)] [.int (nI fk), .ref (ad 5)] rfl ?_
  refine g_aald X (srcR hRO) (b := ad (fk + 6)) 2 rfl (wc_mem (k := 5) (by decide)) fk rfl (by omega) (by decide) (rfl) dX5_ofFrame_12 ?_
  refine g_run X KX5_ofFrame_13_3 KX5_ofFrame_13_3_d 15 [(3, .ref (ad (fk + 6))), (0, .ref (ad 0)), (1, .int (nI fk)), (2, .int x)] [.int x] rfl ?_
  refine g_swOut X 63 dX5_ofFrame_15 (hx) (by decide) ?_
  exact g_throwS (E := xIA) X hSB hfl hnt (text := "what is not 0 to 2") (names := xNm) (by decide +kernel) (by decide +kernel) w_333 w_21 (by decide +kernel) hatIA hgdIA dX5_ofFrame_63 dX5_ofFrame_66 dX5_ofFrame_67 dX5_ofFrame_69 dX5_ofFrame_72 (Nat.le_of_ble_eq_true rfl) (Nat.le_of_ble_eq_true rfl) (Nat.le_of_ble_eq_true rfl) (Nat.le_of_ble_eq_true rfl) (Nat.le_of_ble_eq_true rfl) (Nat.le_of_ble_eq_true rfl)

def KX5_held_0_0 : List (Nat × Instr × Nat) := [(0, .iload_n 1, 1)]
theorem KX5_held_0_0_d : ∀ z ∈ KX5_held_0_0, decode cX5_held z.1 = .ok z.2 := by decide +kernel
def KX5_held_4_1 : List (Nat × Instr × Nat) := [(4, .aload_n 0, 1)]
theorem KX5_held_4_1_d : ∀ z ∈ KX5_held_4_1, decode cX5_held z.1 = .ok z.2 := by decide +kernel
def KX5_held_11_2 : List (Nat × Instr × Nat) := [(11, .iload_n 1, 1)]
theorem KX5_held_11_2_d : ∀ z ∈ KX5_held_11_2, decode cX5_held z.1 = .ok z.2 := by decide +kernel
set_option maxHeartbeats 4000000 in
set_option maxRecDepth 100000 in
theorem c_X5_held (l : Launch) (D : va_G) (g : Nat → ClassId) (ad : Nat → Nat) (I : Nat → Nat → Int32) (L : Nat → Nat → Int64) (S : Nat → Nat) (fk : Nat) (hk : fk < 4) : CT l yX5_held cX5_held 2 ((Option.some FieldType.long)) ({ frames := 2, cells := 0, slots := 0, locals := 42 } : Room) [.ref (ad 0), .int (nI fk)] D CL (TYS g) (WC ad g I L S) ([]) (S := Unit) (fun _ => some (.long (dtO (L 3 fk)))) (fun _ => []) (fun _ => True) 0 0 := by
  refine ct_of (by decide +kernel) (Nat.le_of_ble_eq_true rfl) ?_
  intro p e s m below meth c A X hr hnm hSB hRO hAf
  refine g_cs (ws' := []) (lv' := [(0, .ref (ad 0)), (1, .int (nI fk))]) rfl rfl ?_
  refine g_run X KX5_held_0_0 KX5_held_0_0_d 1 [(0, .ref (ad 0)), (1, .int (nI fk))] [.int (nI fk)] rfl ?_
  refine g_callS X hSB hAf (As := [.int (nI fk)]) (wr := []) (n := 1) (c_X5_checkFrame l D g fk (by omega)) rfl srcN hrdN w_473 w_471 w_472 w_1 (by decide +kernel) rfl ⟨Nat.le_of_ble_eq_true rfl, Nat.le_of_ble_eq_true rfl⟩ rfl rfl rfl (Nat.le_of_ble_eq_true rfl) ⟨Nat.le_of_ble_eq_true rfl, Nat.le_of_ble_eq_true rfl⟩ dX5_held_1 (fun hu1 _ => ?_)
  refine g_af (ws' := []) (st' := []) (cells' := 0) (slots' := 0) (pc' := 4) rfl rfl rfl rfl rfl ?_
  refine g_run X KX5_held_4_1 KX5_held_4_1_d 5 [(0, .ref (ad 0)), (1, .int (nI fk))] [.ref (ad 0)] rfl ?_
  refine g_get X (srcR hRO) (v := .ref (ad 4)) hinX5 rfl 1 (by decide) w_184 rfl (wc_mem (k := 0) (by decide)) rfl dX5_held_5 ?_
  refine g_get X (srcR hRO) (v := .ref (ad 5)) hinX0 rfl 0 (by decide) w_165 rfl (wc_mem (k := 4) (by decide)) rfl dX5_held_8 ?_
  refine g_run X KX5_held_11_2 KX5_held_11_2_d 12 [(0, .ref (ad 0)), (1, .int (nI fk))] [.int (nI fk), .ref (ad 5)] rfl ?_
  refine g_aald X (srcR hRO) (b := ad (fk + 6)) 2 rfl (wc_mem (k := 5) (by decide)) fk rfl (by omega) (by decide) (rfl) dX5_held_12 ?_
  refine g_get X (srcR hRO) (v := .long (L 3 fk)) hinX3 rfl 2 (by decide) w_146 rfl (wc_fr (by omega)) rfl dX5_held_13 ?_
  refine g_callS X hSB hAf (As := [.long (L 3 fk)]) (wr := []) (n := 1) (c_X5_dataOrNone l D g (L 3 fk) ) rfl srcN hrdN w_451 w_449 w_450 w_1 (by decide +kernel) rfl ⟨Nat.le_of_ble_eq_true rfl, Nat.le_of_ble_eq_true rfl⟩ rfl rfl rfl (Nat.le_of_ble_eq_true rfl) ⟨Nat.le_of_ble_eq_true rfl, Nat.le_of_ble_eq_true rfl⟩ dX5_held_16 (fun hu2 _ => ?_)
  refine g_af (ws' := []) (st' := [.long (if (L 3 fk) = -1 then -1 else ((L 3 fk).toUInt64 >>> ((nI 16).toInt64.toUInt64 &&& Int64.toUInt64 63)).toInt64)]) (cells' := 0) (slots' := 0) (pc' := 19) rfl rfl rfl rfl rfl ?_
  exact g_lret X hr () (rfl) (trivial) ((List.append_nil _).symm) (Nat.le_of_ble_eq_true rfl) (Nat.le_of_ble_eq_true rfl) dX5_held_19

set_option maxHeartbeats 4000000 in
set_option maxRecDepth 100000 in
theorem x_X5_held_1 (l : Launch) (hfl : l.stackTraces = false) (D : va_G) (g : Nat → ClassId) (ad : Nat → Nat) (I : Nat → Nat → Int32) (L : Nat → Nat → Int64) (S : Nat → Nat) (x : Int32) (hx : x < 0 ∨ ¬ x < nI 4) : CX l yX5_held cX5_held 2 ((Option.some FieldType.long)) ({ frames := 7, cells := 1, slots := 6, locals := 120 } : Room) [.ref (ad 0), .int x] D CL (TYS g) (WC ad g I L S) xIO 1 6 := by
  refine cx_of (by decide +kernel) (Nat.le_of_ble_eq_true rfl) ?_
  intro p e s m below meth c A X hnt hSB hRO hAf
  refine g_cs (ws' := []) (lv' := [(0, .ref (ad 0)), (1, .int x)]) rfl rfl ?_
  refine g_run X KX5_held_0_0 KX5_held_0_0_d 1 [(0, .ref (ad 0)), (1, .int x)] [.int x] rfl ?_
  exact gx_callS X hSB hAf hnt (As := [.int x]) (n := 1) (x_X5_checkFrame l hfl D g x (hx)) srcN w_473 w_471 w_472 w_1 (by decide +kernel) rfl ⟨Nat.le_of_ble_eq_true rfl, Nat.le_of_ble_eq_true rfl⟩ rfl rfl rfl (Nat.le_of_ble_eq_true rfl) ⟨Nat.le_of_ble_eq_true rfl, Nat.le_of_ble_eq_true rfl⟩ (Nat.le_of_ble_eq_true rfl) (Nat.le_of_ble_eq_true rfl) dX5_held_1

def KX5_bank_0_0 : List (Nat × Instr × Nat) := [(0, .iload_n 1, 1)]
theorem KX5_bank_0_0_d : ∀ z ∈ KX5_bank_0_0, decode cX5_bank z.1 = .ok z.2 := by decide +kernel
def KX5_bank_68_1 : List (Nat × Instr × Nat) := [(68, .aload_n 0, 1)]
theorem KX5_bank_68_1_d : ∀ z ∈ KX5_bank_68_1, decode cX5_bank z.1 = .ok z.2 := by decide +kernel
def KX5_bank_76_2 : List (Nat × Instr × Nat) := [(76, .aload_n 0, 1)]
theorem KX5_bank_76_2_d : ∀ z ∈ KX5_bank_76_2, decode cX5_bank z.1 = .ok z.2 := by decide +kernel
def KX5_bank_84_3 : List (Nat × Instr × Nat) := [(84, .aload_n 0, 1)]
theorem KX5_bank_84_3_d : ∀ z ∈ KX5_bank_84_3, decode cX5_bank z.1 = .ok z.2 := by decide +kernel
def KX5_bank_92_4 : List (Nat × Instr × Nat) := [(92, .aload_n 0, 1)]
theorem KX5_bank_92_4_d : ∀ z ∈ KX5_bank_92_4, decode cX5_bank z.1 = .ok z.2 := by decide +kernel
def KX5_bank_100_5 : List (Nat × Instr × Nat) := [(100, .aload_n 0, 1)]
theorem KX5_bank_100_5_d : ∀ z ∈ KX5_bank_100_5, decode cX5_bank z.1 = .ok z.2 := by decide +kernel
def KX5_bank_111_6 : List (Nat × Instr × Nat) := [(111, .aload_n 0, 1)]
theorem KX5_bank_111_6_d : ∀ z ∈ KX5_bank_111_6, decode cX5_bank z.1 = .ok z.2 := by decide +kernel
def KX5_bank_119_7 : List (Nat × Instr × Nat) := [(119, .aload_n 0, 1)]
theorem KX5_bank_119_7_d : ∀ z ∈ KX5_bank_119_7, decode cX5_bank z.1 = .ok z.2 := by decide +kernel
def KX5_bank_127_8 : List (Nat × Instr × Nat) := [(127, .aload_n 0, 1)]
theorem KX5_bank_127_8_d : ∀ z ∈ KX5_bank_127_8, decode cX5_bank z.1 = .ok z.2 := by decide +kernel
def KX5_bank_135_9 : List (Nat × Instr × Nat) := [(135, .aload_n 0, 1)]
theorem KX5_bank_135_9_d : ∀ z ∈ KX5_bank_135_9, decode cX5_bank z.1 = .ok z.2 := by decide +kernel
def KX5_bank_143_10 : List (Nat × Instr × Nat) := [(143, .aload_n 0, 1)]
theorem KX5_bank_143_10_d : ∀ z ∈ KX5_bank_143_10, decode cX5_bank z.1 = .ok z.2 := by decide +kernel
def KX5_bank_151_11 : List (Nat × Instr × Nat) := [(151, .aload_n 0, 1)]
theorem KX5_bank_151_11_d : ∀ z ∈ KX5_bank_151_11, decode cX5_bank z.1 = .ok z.2 := by decide +kernel
def KX5_bank_159_12 : List (Nat × Instr × Nat) := [(159, .aload_n 0, 1)]
theorem KX5_bank_159_12_d : ∀ z ∈ KX5_bank_159_12, decode cX5_bank z.1 = .ok z.2 := by decide +kernel
def KX5_bank_167_13 : List (Nat × Instr × Nat) := [(167, .aload_n 0, 1)]
theorem KX5_bank_167_13_d : ∀ z ∈ KX5_bank_167_13, decode cX5_bank z.1 = .ok z.2 := by decide +kernel
set_option maxHeartbeats 4000000 in
set_option maxRecDepth 100000 in
theorem c_X5_bank (l : Launch) (D : va_G) (g : Nat → ClassId) (ad : Nat → Nat) (I : Nat → Nat → Int32) (L : Nat → Nat → Int64) (S : Nat → Nat) (w : Nat) (hS18 : ∀ p, p < 15 → S p < 18) (hw : w < 13) : CT l yX5_bank cX5_bank 2 ((Option.some FieldType.int)) ({ frames := 5, cells := 0, slots := 0, locals := 131 } : Room) [.ref (ad 0), .int (nI w)] D CL (TYS g) (WC ad g I L S) ([]) (S := Unit) (fun _ => some (.int (bkV I L S w))) (fun _ => []) (fun _ => True) 0 0 := by
  refine ct_of (by decide +kernel) (Nat.le_of_ble_eq_true rfl) ?_
  intro p e s m below meth c A X hr hnm hSB hRO hAf
  refine g_cs (ws' := []) (lv' := [(0, .ref (ad 0)), (1, .int (nI w))]) rfl rfl ?_
  refine g_run X KX5_bank_0_0 KX5_bank_0_0_d 1 [(0, .ref (ad 0)), (1, .int (nI w))] [.int (nI w)] rfl ?_
  rcases (show w = 0 ∨ w = 1 ∨ w = 2 ∨ w = 3 ∨ w = 4 ∨ w = 5 ∨ w = 6 ∨ w = 7 ∨ w = 8 ∨ w = 9 ∨ w = 10 ∨ w = 11 ∨ w = 12 by omega) with rfl | rfl | rfl | rfl | rfl | rfl | rfl | rfl | rfl | rfl | rfl | rfl | rfl
  · refine g_swIn X 68 dX5_bank_1 (by decide +kernel) (by decide +kernel) (off := 67) (by decide +kernel) (by decide) ?_
    refine g_run X KX5_bank_68_1 KX5_bank_68_1_d 69 [(0, .ref (ad 0)), (1, .int (nI 0))] [.ref (ad 0)] rfl ?_
    refine g_get X (srcR hRO) (v := .ref (ad 1)) hinX5 rfl 0 (by decide) w_183 rfl (wc_mem (k := 0) (by decide)) rfl dX5_bank_69 ?_
    refine g_get X (srcR hRO) (v := .int (I 8 2)) hinX4 rfl 4 (by decide) w_102 rfl (wc_mem (k := 1) (by decide)) rfl dX5_bank_72 ?_
    exact g_iret X hr () (by show some (Value.int _) = some (Value.int _); rw [bkV]) (trivial) ((List.append_nil _).symm) (Nat.le_of_ble_eq_true rfl) (Nat.le_of_ble_eq_true rfl) dX5_bank_75
  · refine g_swIn X 76 dX5_bank_1 (by decide +kernel) (by decide +kernel) (off := 75) (by decide +kernel) (by decide) ?_
    refine g_run X KX5_bank_76_2 KX5_bank_76_2_d 77 [(0, .ref (ad 0)), (1, .int (nI 1))] [.ref (ad 0)] rfl ?_
    refine g_get X (srcR hRO) (v := .ref (ad 1)) hinX5 rfl 0 (by decide) w_183 rfl (wc_mem (k := 0) (by decide)) rfl dX5_bank_77 ?_
    refine g_get X (srcR hRO) (v := .int (I 8 3)) hinX4 rfl 5 (by decide) w_104 rfl (wc_mem (k := 1) (by decide)) rfl dX5_bank_80 ?_
    exact g_iret X hr () (by show some (Value.int _) = some (Value.int _); rw [bkV]) (trivial) ((List.append_nil _).symm) (Nat.le_of_ble_eq_true rfl) (Nat.le_of_ble_eq_true rfl) dX5_bank_83
  · refine g_swIn X 84 dX5_bank_1 (by decide +kernel) (by decide +kernel) (off := 83) (by decide +kernel) (by decide) ?_
    refine g_run X KX5_bank_84_3 KX5_bank_84_3_d 85 [(0, .ref (ad 0)), (1, .int (nI 2))] [.ref (ad 0)] rfl ?_
    refine g_get X (srcR hRO) (v := .ref (ad 1)) hinX5 rfl 0 (by decide) w_183 rfl (wc_mem (k := 0) (by decide)) rfl dX5_bank_85 ?_
    refine g_get X (srcR hRO) (v := .int (I 8 4)) hinX4 rfl 6 (by decide) w_106 rfl (wc_mem (k := 1) (by decide)) rfl dX5_bank_88 ?_
    exact g_iret X hr () (by show some (Value.int _) = some (Value.int _); rw [bkV]) (trivial) ((List.append_nil _).symm) (Nat.le_of_ble_eq_true rfl) (Nat.le_of_ble_eq_true rfl) dX5_bank_91
  · refine g_swIn X 92 dX5_bank_1 (by decide +kernel) (by decide +kernel) (off := 91) (by decide +kernel) (by decide) ?_
    refine g_run X KX5_bank_92_4 KX5_bank_92_4_d 93 [(0, .ref (ad 0)), (1, .int (nI 3))] [.ref (ad 0)] rfl ?_
    refine g_get X (srcR hRO) (v := .ref (ad 1)) hinX5 rfl 0 (by decide) w_183 rfl (wc_mem (k := 0) (by decide)) rfl dX5_bank_93 ?_
    refine g_callV X hSB hAf ((srcR hRO)) (hrc1 := (rfl : CL[3]? = some _)) (wc_mem (k := 1) (by decide)) rfl (As := []) (wr := []) (n := 0) (c_X4_sparesLeft l D g ad I L S ) rfl (srcR hRO) hrdC w_327 w_324 w_325 w_326 w_2 (by decide +kernel) rfl ⟨Nat.le_of_ble_eq_true rfl, Nat.le_of_ble_eq_true rfl⟩ rfl rfl rfl (Nat.le_of_ble_eq_true rfl) ⟨Nat.le_of_ble_eq_true rfl, Nat.le_of_ble_eq_true rfl⟩ dX5_bank_96 (fun hu1 _ => ?_)
    refine g_af (ws' := []) (st' := [.int (nI 18 - I 8 5)]) (cells' := 0) (slots' := 0) (pc' := 99) rfl rfl rfl rfl rfl ?_
    exact g_iret X hr () (by show some (Value.int _) = some (Value.int _); rw [bkV]) (trivial) ((List.append_nil _).symm) (Nat.le_of_ble_eq_true rfl) (Nat.le_of_ble_eq_true rfl) dX5_bank_99
  · refine g_swIn X 100 dX5_bank_1 (by decide +kernel) (by decide +kernel) (off := 99) (by decide +kernel) (by decide) ?_
    refine g_run X KX5_bank_100_5 KX5_bank_100_5_d 101 [(0, .ref (ad 0)), (1, .int (nI 4))] [.ref (ad 0)] rfl ?_
    refine g_get X (srcR hRO) (v := .ref (ad 1)) hinX5 rfl 0 (by decide) w_183 rfl (wc_mem (k := 0) (by decide)) rfl dX5_bank_101 ?_
    refine g_callV X hSB hAf ((srcR hRO)) (hrc1 := (rfl : CL[3]? = some _)) (wc_mem (k := 1) (by decide)) rfl (As := []) (wr := []) (n := 0) (c_X4_erasedPlaces l D g ad I L S (hS18)) rfl (srcR hRO) hrdC w_240 w_308 w_238 w_239 w_2 (by decide +kernel) rfl ⟨Nat.le_of_ble_eq_true rfl, Nat.le_of_ble_eq_true rfl⟩ rfl rfl rfl (Nat.le_of_ble_eq_true rfl) ⟨Nat.le_of_ble_eq_true rfl, Nat.le_of_ble_eq_true rfl⟩ dX5_bank_104 (fun hu2 _ => ?_)
    refine g_af (ws' := []) (st' := [.int (nI (ers I S 15))]) (cells' := 0) (slots' := 0) (pc' := 107) rfl rfl rfl rfl rfl ?_
    refine g_callS X hSB hAf (As := [.int (nI (ers I S 15))]) (wr := []) (n := 1) (c_J6_bitCount_0f7a4 l D g (ers I S 15) (ers_lt _ _ _)) rfl srcN hrdN w_259 w_309 w_258 w_24 (by decide +kernel) rfl ⟨Nat.le_of_ble_eq_true rfl, Nat.le_of_ble_eq_true rfl⟩ rfl rfl rfl (Nat.le_of_ble_eq_true rfl) ⟨Nat.le_of_ble_eq_true rfl, Nat.le_of_ble_eq_true rfl⟩ dX5_bank_107 (fun hu3 _ => ?_)
    refine g_af (ws' := []) (st' := [.int (nI (pcn (ers I S 15) 15))]) (cells' := 0) (slots' := 0) (pc' := 110) rfl rfl rfl rfl rfl ?_
    exact g_iret X hr () (by show some (Value.int _) = some (Value.int _); rw [bkV]) (trivial) ((List.append_nil _).symm) (Nat.le_of_ble_eq_true rfl) (Nat.le_of_ble_eq_true rfl) dX5_bank_110
  · refine g_swIn X 111 dX5_bank_1 (by decide +kernel) (by decide +kernel) (off := 110) (by decide +kernel) (by decide) ?_
    refine g_run X KX5_bank_111_6 KX5_bank_111_6_d 112 [(0, .ref (ad 0)), (1, .int (nI 5))] [.ref (ad 0)] rfl ?_
    refine g_get X (srcR hRO) (v := .ref (ad 1)) hinX5 rfl 0 (by decide) w_183 rfl (wc_mem (k := 0) (by decide)) rfl dX5_bank_112 ?_
    refine g_callV X hSB hAf ((srcR hRO)) (hrc1 := (rfl : CL[3]? = some _)) (wc_mem (k := 1) (by decide)) rfl (As := []) (wr := []) (n := 0) (c_X4_chipsOut l D g ad I L S ) rfl (srcR hRO) hrdC w_331 w_328 w_329 w_330 w_2 (by decide +kernel) rfl ⟨Nat.le_of_ble_eq_true rfl, Nat.le_of_ble_eq_true rfl⟩ rfl rfl rfl (Nat.le_of_ble_eq_true rfl) ⟨Nat.le_of_ble_eq_true rfl, Nat.le_of_ble_eq_true rfl⟩ dX5_bank_115 (fun hu4 _ => ?_)
    refine g_af (ws' := []) (st' := [.int (nI (outs I 18))]) (cells' := 0) (slots' := 0) (pc' := 118) rfl rfl rfl rfl rfl ?_
    exact g_iret X hr () (by show some (Value.int _) = some (Value.int _); rw [bkV]) (trivial) ((List.append_nil _).symm) (Nat.le_of_ble_eq_true rfl) (Nat.le_of_ble_eq_true rfl) dX5_bank_118
  · refine g_swIn X 119 dX5_bank_1 (by decide +kernel) (by decide +kernel) (off := 118) (by decide +kernel) (by decide) ?_
    refine g_run X KX5_bank_119_7 KX5_bank_119_7_d 120 [(0, .ref (ad 0)), (1, .int (nI 6))] [.ref (ad 0)] rfl ?_
    refine g_get X (srcR hRO) (v := .ref (ad 1)) hinX5 rfl 0 (by decide) w_183 rfl (wc_mem (k := 0) (by decide)) rfl dX5_bank_120 ?_
    refine g_get X (srcR hRO) (v := .int (I 8 1)) hinX4 rfl 3 (by decide) w_100 rfl (wc_mem (k := 1) (by decide)) rfl dX5_bank_123 ?_
    exact g_iret X hr () (by show some (Value.int _) = some (Value.int _); rw [bkV]) (trivial) ((List.append_nil _).symm) (Nat.le_of_ble_eq_true rfl) (Nat.le_of_ble_eq_true rfl) dX5_bank_126
  · refine g_swIn X 127 dX5_bank_1 (by decide +kernel) (by decide +kernel) (off := 126) (by decide +kernel) (by decide) ?_
    refine g_run X KX5_bank_127_8 KX5_bank_127_8_d 128 [(0, .ref (ad 0)), (1, .int (nI 7))] [.ref (ad 0)] rfl ?_
    refine g_get X (srcR hRO) (v := .ref (ad 4)) hinX5 rfl 1 (by decide) w_184 rfl (wc_mem (k := 0) (by decide)) rfl dX5_bank_128 ?_
    refine g_get X (srcR hRO) (v := .int (I 8 6)) hinX0 rfl 1 (by decide) w_167 rfl (wc_mem (k := 4) (by decide)) rfl dX5_bank_131 ?_
    exact g_iret X hr () (by show some (Value.int _) = some (Value.int _); rw [bkV]) (trivial) ((List.append_nil _).symm) (Nat.le_of_ble_eq_true rfl) (Nat.le_of_ble_eq_true rfl) dX5_bank_134
  · refine g_swIn X 135 dX5_bank_1 (by decide +kernel) (by decide +kernel) (off := 134) (by decide +kernel) (by decide) ?_
    refine g_run X KX5_bank_135_9 KX5_bank_135_9_d 136 [(0, .ref (ad 0)), (1, .int (nI 8))] [.ref (ad 0)] rfl ?_
    refine g_get X (srcR hRO) (v := .ref (ad 4)) hinX5 rfl 1 (by decide) w_184 rfl (wc_mem (k := 0) (by decide)) rfl dX5_bank_136 ?_
    refine g_get X (srcR hRO) (v := .int (I 8 7)) hinX0 rfl 2 (by decide) w_169 rfl (wc_mem (k := 4) (by decide)) rfl dX5_bank_139 ?_
    exact g_iret X hr () (by show some (Value.int _) = some (Value.int _); rw [bkV]) (trivial) ((List.append_nil _).symm) (Nat.le_of_ble_eq_true rfl) (Nat.le_of_ble_eq_true rfl) dX5_bank_142
  · refine g_swIn X 143 dX5_bank_1 (by decide +kernel) (by decide +kernel) (off := 142) (by decide +kernel) (by decide) ?_
    refine g_run X KX5_bank_143_10 KX5_bank_143_10_d 144 [(0, .ref (ad 0)), (1, .int (nI 9))] [.ref (ad 0)] rfl ?_
    refine g_get X (srcR hRO) (v := .ref (ad 4)) hinX5 rfl 1 (by decide) w_184 rfl (wc_mem (k := 0) (by decide)) rfl dX5_bank_144 ?_
    refine g_callV X hSB hAf ((srcR hRO)) (hrc1 := (rfl : CL[0]? = some _)) (wc_mem (k := 4) (by decide)) rfl (As := []) (wr := []) (n := 0) (c_X0_dirtyFrames l D g ad I L S ) rfl (srcR hRO) hrdC w_204 w_332 w_202 w_203 w_4 (by decide +kernel) rfl ⟨Nat.le_of_ble_eq_true rfl, Nat.le_of_ble_eq_true rfl⟩ rfl rfl rfl (Nat.le_of_ble_eq_true rfl) ⟨Nat.le_of_ble_eq_true rfl, Nat.le_of_ble_eq_true rfl⟩ dX5_bank_147 (fun hu5 _ => ?_)
    refine g_af (ws' := []) (st' := [.int (nI (dirt I 4))]) (cells' := 0) (slots' := 0) (pc' := 150) rfl rfl rfl rfl rfl ?_
    exact g_iret X hr () (by show some (Value.int _) = some (Value.int _); rw [bkV]) (trivial) ((List.append_nil _).symm) (Nat.le_of_ble_eq_true rfl) (Nat.le_of_ble_eq_true rfl) dX5_bank_150
  · refine g_swIn X 151 dX5_bank_1 (by decide +kernel) (by decide +kernel) (off := 150) (by decide +kernel) (by decide) ?_
    refine g_run X KX5_bank_151_11 KX5_bank_151_11_d 152 [(0, .ref (ad 0)), (1, .int (nI 10))] [.ref (ad 0)] rfl ?_
    refine g_get X (srcR hRO) (v := .ref (ad 1)) hinX5 rfl 0 (by decide) w_183 rfl (wc_mem (k := 0) (by decide)) rfl dX5_bank_152 ?_
    refine g_callV X hSB hAf ((srcR hRO)) (hrc1 := (rfl : CL[3]? = some _)) (wc_mem (k := 1) (by decide)) rfl (As := []) (wr := []) (n := 0) (c_X4_badLines l D g ad I L S (hS18)) rfl (srcR hRO) hrdC w_236 w_233 w_234 w_235 w_2 (by decide +kernel) rfl ⟨Nat.le_of_ble_eq_true rfl, Nat.le_of_ble_eq_true rfl⟩ rfl rfl rfl (Nat.le_of_ble_eq_true rfl) ⟨Nat.le_of_ble_eq_true rfl, Nat.le_of_ble_eq_true rfl⟩ dX5_bank_155 (fun hu6 _ => ?_)
    refine g_af (ws' := []) (st' := [.int (nI (bdl I L S 16))]) (cells' := 0) (slots' := 0) (pc' := 158) rfl rfl rfl rfl rfl ?_
    exact g_iret X hr () (by show some (Value.int _) = some (Value.int _); rw [bkV]) (trivial) ((List.append_nil _).symm) (Nat.le_of_ble_eq_true rfl) (Nat.le_of_ble_eq_true rfl) dX5_bank_158
  · refine g_swIn X 159 dX5_bank_1 (by decide +kernel) (by decide +kernel) (off := 158) (by decide +kernel) (by decide) ?_
    refine g_run X KX5_bank_159_12 KX5_bank_159_12_d 160 [(0, .ref (ad 0)), (1, .int (nI 11))] [.ref (ad 0)] rfl ?_
    refine g_get X (srcR hRO) (v := .ref (ad 1)) hinX5 rfl 0 (by decide) w_183 rfl (wc_mem (k := 0) (by decide)) rfl dX5_bank_160 ?_
    refine g_get X (srcR hRO) (v := .int (I 8 0)) hinX4 rfl 2 (by decide) w_98 rfl (wc_mem (k := 1) (by decide)) rfl dX5_bank_163 ?_
    exact g_iret X hr () (by show some (Value.int _) = some (Value.int _); rw [bkV]) (trivial) ((List.append_nil _).symm) (Nat.le_of_ble_eq_true rfl) (Nat.le_of_ble_eq_true rfl) dX5_bank_166
  · refine g_swIn X 167 dX5_bank_1 (by decide +kernel) (by decide +kernel) (off := 166) (by decide +kernel) (by decide) ?_
    refine g_run X KX5_bank_167_13 KX5_bank_167_13_d 168 [(0, .ref (ad 0)), (1, .int (nI 12))] [.ref (ad 0)] rfl ?_
    refine g_get X (srcR hRO) (v := .int (I 8 9)) hinX5 rfl 2 (by decide) w_185 rfl (wc_mem (k := 0) (by decide)) rfl dX5_bank_168 ?_
    exact g_iret X hr () (rfl) (trivial) ((List.append_nil _).symm) (Nat.le_of_ble_eq_true rfl) (Nat.le_of_ble_eq_true rfl) dX5_bank_171

set_option maxHeartbeats 4000000 in
set_option maxRecDepth 100000 in
theorem x_X5_bank_1 (l : Launch) (hfl : l.stackTraces = false) (D : va_G) (g : Nat → ClassId) (ad : Nat → Nat) (I : Nat → Nat → Int32) (L : Nat → Nat → Int64) (S : Nat → Nat) (x : Int32) (hx : x.toInt < 0 ∨ 12 < x.toInt) : CX l yX5_bank cX5_bank 2 ((Option.some FieldType.int)) ({ frames := 6, cells := 1, slots := 6, locals := 100 } : Room) [.ref (ad 0), .int x] D CL (TYS g) (WC ad g I L S) xIA 1 6 := by
  refine cx_of (by decide +kernel) (Nat.le_of_ble_eq_true rfl) ?_
  intro p e s m below meth c A X hnt hSB hRO hAf
  refine g_cs (ws' := []) (lv' := [(0, .ref (ad 0)), (1, .int x)]) rfl rfl ?_
  refine g_run X KX5_bank_0_0 KX5_bank_0_0_d 1 [(0, .ref (ad 0)), (1, .int x)] [.int x] rfl ?_
  refine g_swOut X 172 dX5_bank_1 (hx) (by decide) ?_
  exact g_throwSW (E := xIA) X hSB hfl hnt (text := "what is not 0 to 12") (names := xNm) (by decide +kernel) (by decide +kernel) w_333 w_21 (by decide +kernel) hatIA hgdIA dX5_bank_172 dX5_bank_175 dX5_bank_176 dX5_bank_179 dX5_bank_182 (Nat.le_of_ble_eq_true rfl) (Nat.le_of_ble_eq_true rfl) (Nat.le_of_ble_eq_true rfl) (Nat.le_of_ble_eq_true rfl) (Nat.le_of_ble_eq_true rfl) (Nat.le_of_ble_eq_true rfl)

def KX5_wouldMend_0_0 : List (Nat × Instr × Nat) := [(0, .iload_n 1, 1)]
theorem KX5_wouldMend_0_0_d : ∀ z ∈ KX5_wouldMend_0_0, decode cX5_wouldMend z.1 = .ok z.2 := by decide +kernel
def KX5_wouldMend_4_1 : List (Nat × Instr × Nat) := [(4, .iload_n 2, 1)]
theorem KX5_wouldMend_4_1_d : ∀ z ∈ KX5_wouldMend_4_1, decode cX5_wouldMend z.1 = .ok z.2 := by decide +kernel
def KX5_wouldMend_8_2 : List (Nat × Instr × Nat) := [(8, .iload_n 2, 1), (9, .sipush 32767, 3)]
theorem KX5_wouldMend_8_2_d : ∀ z ∈ KX5_wouldMend_8_2, decode cX5_wouldMend z.1 = .ok z.2 := by decide +kernel
def KX5_wouldMend_26_3 : List (Nat × Instr × Nat) := [(26, .aload_n 0, 1)]
theorem KX5_wouldMend_26_3_d : ∀ z ∈ KX5_wouldMend_26_3, decode cX5_wouldMend z.1 = .ok z.2 := by decide +kernel
def KX5_wouldMend_30_4 : List (Nat × Instr × Nat) := [(30, .iload_n 1, 1)]
theorem KX5_wouldMend_30_4_d : ∀ z ∈ KX5_wouldMend_30_4, decode cX5_wouldMend z.1 = .ok z.2 := by decide +kernel
def KX5_wouldMend_34_5 : List (Nat × Instr × Nat) := [(34, .lstore_n 3, 1), (35, .lload_n 3, 1), (36, .lload_n 3, 1), (37, .aload_n 0, 1)]
theorem KX5_wouldMend_34_5_d : ∀ z ∈ KX5_wouldMend_34_5, decode cX5_wouldMend z.1 = .ok z.2 := by decide +kernel
def KX5_wouldMend_44_6 : List (Nat × Instr × Nat) := [(44, .iload_n 2, 1), (45, .ior, 1)]
theorem KX5_wouldMend_44_6_d : ∀ z ∈ KX5_wouldMend_44_6, decode cX5_wouldMend z.1 = .ok z.2 := by decide +kernel
set_option maxHeartbeats 4000000 in
set_option maxRecDepth 100000 in
theorem c_X5_wouldMend (l : Launch) (D : va_G) (g : Nat → ClassId) (ad : Nat → Nat) (I : Nat → Nat → Int32) (L : Nat → Nat → Int64) (S : Nat → Nat) (q : Nat) (b : Nat) (hS18 : ∀ p, p < 15 → S p < 18) (hq : q < 16) (hb : b < 32768) : CT l yX5_wouldMend cX5_wouldMend 5 ((Option.some FieldType.int)) ({ frames := 4, cells := 0, slots := 0, locals := 108 } : Room) [.ref (ad 0), .int (nI q), .int (nI b)] D CL (TYS g) (WC ad g I L S) ([]) (S := Unit) (fun _ => some (.int (wrO (rwd I L S q 15) (oL (mw (ers I S 15 ||| b) (rwd I L S q 15)))))) (fun _ => []) (fun _ => True) 0 0 := by
  refine ct_of (by decide +kernel) (Nat.le_of_ble_eq_true rfl) ?_
  intro p e s m below meth c A X hr hnm hSB hRO hAf
  refine g_cs (ws' := []) (lv' := [(0, .ref (ad 0)), (1, .int (nI q)), (2, .int (nI b))]) rfl rfl ?_
  refine g_run X KX5_wouldMend_0_0 KX5_wouldMend_0_0_d 1 [(0, .ref (ad 0)), (1, .int (nI q)), (2, .int (nI b))] [.int (nI q)] rfl ?_
  refine g_callS X hSB hAf (As := [.int (nI q)]) (wr := []) (n := 1) (c_X5_checkLine l D g q (by omega)) rfl srcN hrdN w_435 w_433 w_434 w_1 (by decide +kernel) rfl ⟨Nat.le_of_ble_eq_true rfl, Nat.le_of_ble_eq_true rfl⟩ rfl rfl rfl (Nat.le_of_ble_eq_true rfl) ⟨Nat.le_of_ble_eq_true rfl, Nat.le_of_ble_eq_true rfl⟩ dX5_wouldMend_1 (fun hu1 _ => ?_)
  refine g_af (ws' := []) (st' := []) (cells' := 0) (slots' := 0) (pc' := 4) rfl rfl rfl rfl rfl ?_
  refine g_run X KX5_wouldMend_4_1 KX5_wouldMend_4_1_d 5 [(0, .ref (ad 0)), (1, .int (nI q)), (2, .int (nI b))] [.int (nI b)] rfl ?_
  refine g_if_lt X 15 dX5_wouldMend_5 (by decide) (fun hc2 => ?_) (fun hc2 => ?_)
  · rw [nz_lt (by omega)] at hc2; first | omega | (simp at hc2)
  · refine g_run X KX5_wouldMend_8_2 KX5_wouldMend_8_2_d 12 [(0, .ref (ad 0)), (1, .int (nI q)), (2, .int (nI b))] [.int (nI 32767), .int (nI b)] rfl ?_
    refine g_icmp_le X 26 dX5_wouldMend_12 (by decide) (fun hc3 => ?_) (fun hc3 => ?_)
    · refine g_run X KX5_wouldMend_26_3 KX5_wouldMend_26_3_d 27 [(0, .ref (ad 0)), (1, .int (nI q)), (2, .int (nI b))] [.ref (ad 0)] rfl ?_
      refine g_get X (srcR hRO) (v := .ref (ad 1)) hinX5 rfl 0 (by decide) w_183 rfl (wc_mem (k := 0) (by decide)) rfl dX5_wouldMend_27 ?_
      refine g_run X KX5_wouldMend_30_4 KX5_wouldMend_30_4_d 31 [(0, .ref (ad 0)), (1, .int (nI q)), (2, .int (nI b))] [.int (nI q), .ref (ad 1)] rfl ?_
      refine g_callV X hSB hAf ((srcR hRO)) (hrc1 := (rfl : CL[3]? = some _)) (wc_mem (k := 1) (by decide)) rfl (As := [.int (nI q)]) (wr := []) (n := 1) (c_X4_readWord l D g ad I L S q (hS18) (by omega)) rfl (srcR hRO) hrdC w_244 w_441 w_242 w_243 w_2 (by decide +kernel) rfl ⟨Nat.le_of_ble_eq_true rfl, Nat.le_of_ble_eq_true rfl⟩ rfl rfl rfl (Nat.le_of_ble_eq_true rfl) ⟨Nat.le_of_ble_eq_true rfl, Nat.le_of_ble_eq_true rfl⟩ dX5_wouldMend_31 (fun hu4 _ => ?_)
      refine g_af (ws' := []) (st' := [.long (rwd I L S q 15)]) (cells' := 0) (slots' := 0) (pc' := 34) rfl rfl rfl rfl rfl ?_
      refine g_run X KX5_wouldMend_34_5 KX5_wouldMend_34_5_d 38 [(3, .long (rwd I L S q 15)), (0, .ref (ad 0)), (1, .int (nI q)), (2, .int (nI b))] [.ref (ad 0), .long (rwd I L S q 15), .long (rwd I L S q 15)] rfl ?_
      refine g_get X (srcR hRO) (v := .ref (ad 1)) hinX5 rfl 0 (by decide) w_183 rfl (wc_mem (k := 0) (by decide)) rfl dX5_wouldMend_38 ?_
      refine g_callV X hSB hAf ((srcR hRO)) (hrc1 := (rfl : CL[3]? = some _)) (wc_mem (k := 1) (by decide)) rfl (As := []) (wr := []) (n := 0) (c_X4_erasedPlaces l D g ad I L S (hS18)) rfl (srcR hRO) hrdC w_240 w_308 w_238 w_239 w_2 (by decide +kernel) rfl ⟨Nat.le_of_ble_eq_true rfl, Nat.le_of_ble_eq_true rfl⟩ rfl rfl rfl (Nat.le_of_ble_eq_true rfl) ⟨Nat.le_of_ble_eq_true rfl, Nat.le_of_ble_eq_true rfl⟩ dX5_wouldMend_41 (fun hu5 _ => ?_)
      refine g_af (ws' := []) (st' := [.int (nI (ers I S 15)), .long (rwd I L S q 15), .long (rwd I L S q 15)]) (cells' := 0) (slots' := 0) (pc' := 44) rfl rfl rfl rfl rfl ?_
      refine g_run X KX5_wouldMend_44_6 KX5_wouldMend_44_6_d 46 [(3, .long (rwd I L S q 15)), (0, .ref (ad 0)), (1, .int (nI q)), (2, .int (nI b))] [.int ((nI (ers I S 15)) ||| (nI b)), .long (rwd I L S q 15), .long (rwd I L S q 15)] rfl ?_
      refine g_nm (lv' := [(3, .long (rwd I L S q 15)), (0, .ref (ad 0)), (1, .int (nI q)), (2, .int (nI b))]) (st' := [.int (nI ((ers I S 15) ||| b)), .long (rwd I L S q 15), .long (rwd I L S q 15)]) (by simp only [nx_or]) (by simp only [nx_or]) ?_
      refine g_callS X hSB hAf (As := [.long (rwd I L S q 15), .int (nI ((ers I S 15) ||| b))]) (wr := []) (n := 2) (c_X2_mendedWord l D g (rwd I L S q 15) ((ers I S 15) ||| b) (or_lt (n := 15) (ers_lt _ _ _) hb)) rfl srcN hrdN w_256 w_713 w_255 w_22 (by decide +kernel) rfl ⟨Nat.le_of_ble_eq_true rfl, Nat.le_of_ble_eq_true rfl⟩ rfl rfl rfl (Nat.le_of_ble_eq_true rfl) ⟨Nat.le_of_ble_eq_true rfl, Nat.le_of_ble_eq_true rfl⟩ dX5_wouldMend_46 (fun hu6 _ => ?_)
      refine g_af (ws' := []) (st' := [.long (oL (mw ((ers I S 15) ||| b) (rwd I L S q 15))), .long (rwd I L S q 15)]) (cells' := 0) (slots' := 0) (pc' := 49) rfl rfl rfl rfl rfl ?_
      refine g_callS X hSB hAf (As := [.long (rwd I L S q 15), .long (oL (mw ((ers I S 15) ||| b) (rwd I L S q 15)))]) (wr := []) (n := 2) (c_X5_wrongIn l D g (rwd I L S q 15) (oL (mw ((ers I S 15) ||| b) (rwd I L S q 15))) ) rfl srcN hrdN w_625 w_623 w_624 w_1 (by decide +kernel) rfl ⟨Nat.le_of_ble_eq_true rfl, Nat.le_of_ble_eq_true rfl⟩ rfl rfl rfl (Nat.le_of_ble_eq_true rfl) ⟨Nat.le_of_ble_eq_true rfl, Nat.le_of_ble_eq_true rfl⟩ dX5_wouldMend_49 (fun hu7 _ => ?_)
      refine g_af (ws' := []) (st' := [.int (if (oL (mw ((ers I S 15) ||| b) (rwd I L S q 15))) = -1 then -nI 1 else nI (pcn (pl ((rwd I L S q 15) ^^^ (oL (mw ((ers I S 15) ||| b) (rwd I L S q 15)))) 15) 15))]) (cells' := 0) (slots' := 0) (pc' := 52) rfl rfl rfl rfl rfl ?_
      exact g_iret X hr () (rfl) (trivial) ((List.append_nil _).symm) (Nat.le_of_ble_eq_true rfl) (Nat.le_of_ble_eq_true rfl) dX5_wouldMend_52
    · rw [nI_leI (by omega) (by omega)] at hc3; first | omega | (simp at hc3)

set_option maxHeartbeats 4000000 in
set_option maxRecDepth 100000 in
theorem x_X5_wouldMend_1 (l : Launch) (hfl : l.stackTraces = false) (D : va_G) (g : Nat → ClassId) (ad : Nat → Nat) (I : Nat → Nat → Int32) (L : Nat → Nat → Int64) (S : Nat → Nat) (x : Int32) (y1 : Int32) (hx : x < 0 ∨ ¬ x < nI 16) : CX l yX5_wouldMend cX5_wouldMend 5 ((Option.some FieldType.int)) ({ frames := 7, cells := 1, slots := 6, locals := 120 } : Room) [.ref (ad 0), .int x, .int y1] D CL (TYS g) (WC ad g I L S) xIO 1 6 := by
  refine cx_of (by decide +kernel) (Nat.le_of_ble_eq_true rfl) ?_
  intro p e s m below meth c A X hnt hSB hRO hAf
  refine g_cs (ws' := []) (lv' := [(0, .ref (ad 0)), (1, .int x), (2, .int y1)]) rfl rfl ?_
  refine g_run X KX5_wouldMend_0_0 KX5_wouldMend_0_0_d 1 [(0, .ref (ad 0)), (1, .int x), (2, .int y1)] [.int x] rfl ?_
  exact gx_callS X hSB hAf hnt (As := [.int x]) (n := 1) (x_X5_checkLine l hfl D g x (hx)) srcN w_435 w_433 w_434 w_1 (by decide +kernel) rfl ⟨Nat.le_of_ble_eq_true rfl, Nat.le_of_ble_eq_true rfl⟩ rfl rfl rfl (Nat.le_of_ble_eq_true rfl) ⟨Nat.le_of_ble_eq_true rfl, Nat.le_of_ble_eq_true rfl⟩ (Nat.le_of_ble_eq_true rfl) (Nat.le_of_ble_eq_true rfl) dX5_wouldMend_1

set_option maxHeartbeats 4000000 in
set_option maxRecDepth 100000 in
theorem x_X5_wouldMend_2 (l : Launch) (hfl : l.stackTraces = false) (D : va_G) (g : Nat → ClassId) (ad : Nat → Nat) (I : Nat → Nat → Int32) (L : Nat → Nat → Int64) (S : Nat → Nat) (q : Nat) (x : Int32) (hq : q < 16) (hx : x < 0 ∨ ¬ x ≤ nI 32767) : CX l yX5_wouldMend cX5_wouldMend 5 ((Option.some FieldType.int)) ({ frames := 6, cells := 1, slots := 6, locals := 100 } : Room) [.ref (ad 0), .int (nI q), .int x] D CL (TYS g) (WC ad g I L S) xIA 1 6 := by
  refine cx_of (by decide +kernel) (Nat.le_of_ble_eq_true rfl) ?_
  intro p e s m below meth c A X hnt hSB hRO hAf
  refine g_cs (ws' := []) (lv' := [(0, .ref (ad 0)), (1, .int (nI q)), (2, .int x)]) rfl rfl ?_
  refine g_run X KX5_wouldMend_0_0 KX5_wouldMend_0_0_d 1 [(0, .ref (ad 0)), (1, .int (nI q)), (2, .int x)] [.int (nI q)] rfl ?_
  refine g_callS X hSB hAf (As := [.int (nI q)]) (wr := []) (n := 1) (c_X5_checkLine l D g q (by omega)) rfl srcN hrdN w_435 w_433 w_434 w_1 (by decide +kernel) rfl ⟨Nat.le_of_ble_eq_true rfl, Nat.le_of_ble_eq_true rfl⟩ rfl rfl rfl (Nat.le_of_ble_eq_true rfl) ⟨Nat.le_of_ble_eq_true rfl, Nat.le_of_ble_eq_true rfl⟩ dX5_wouldMend_1 (fun hu1 _ => ?_)
  refine g_af (ws' := []) (st' := []) (cells' := 0) (slots' := 0) (pc' := 4) rfl rfl rfl rfl rfl ?_
  refine g_run X KX5_wouldMend_4_1 KX5_wouldMend_4_1_d 5 [(0, .ref (ad 0)), (1, .int (nI q)), (2, .int x)] [.int x] rfl ?_
  refine g_if_lt X 15 dX5_wouldMend_5 (by decide) (fun hc2 => ?_) (fun hc2 => ?_)
  · exact g_throwSW (E := xIA) X hSB hfl hnt (text := "erased is not 0 to 32767") (names := xNm) (by decide +kernel) (by decide +kernel) w_333 w_21 (by decide +kernel) hatIA hgdIA dX5_wouldMend_15 dX5_wouldMend_18 dX5_wouldMend_19 dX5_wouldMend_22 dX5_wouldMend_25 (Nat.le_of_ble_eq_true rfl) (Nat.le_of_ble_eq_true rfl) (Nat.le_of_ble_eq_true rfl) (Nat.le_of_ble_eq_true rfl) (Nat.le_of_ble_eq_true rfl) (Nat.le_of_ble_eq_true rfl)
  · refine g_run X KX5_wouldMend_8_2 KX5_wouldMend_8_2_d 12 [(0, .ref (ad 0)), (1, .int (nI q)), (2, .int x)] [.int (nI 32767), .int x] rfl ?_
    refine g_icmp_le X 26 dX5_wouldMend_12 (by decide) (fun hc3 => ?_) (fun hc3 => ?_)
    · exact (hx.elim (fun z => absurd z (by assumption)) (fun z => absurd hc3 z))
    · exact g_throwSW (E := xIA) X hSB hfl hnt (text := "erased is not 0 to 32767") (names := xNm) (by decide +kernel) (by decide +kernel) w_333 w_21 (by decide +kernel) hatIA hgdIA dX5_wouldMend_15 dX5_wouldMend_18 dX5_wouldMend_19 dX5_wouldMend_22 dX5_wouldMend_25 (Nat.le_of_ble_eq_true rfl) (Nat.le_of_ble_eq_true rfl) (Nat.le_of_ble_eq_true rfl) (Nat.le_of_ble_eq_true rfl) (Nat.le_of_ble_eq_true rfl) (Nat.le_of_ble_eq_true rfl)

def KX5_spare_4_1 : List (Nat × Instr × Nat) := [(4, .aload_n 0, 1)]
theorem KX5_spare_4_1_d : ∀ z ∈ KX5_spare_4_1, decode cX5_spare z.1 = .ok z.2 := by decide +kernel
def KX5_spare_8_2 : List (Nat × Instr × Nat) := [(8, .iload_n 1, 1)]
theorem KX5_spare_8_2_d : ∀ z ∈ KX5_spare_8_2, decode cX5_spare z.1 = .ok z.2 := by decide +kernel
def KX5_spare_12_3 : List (Nat × Instr × Nat) := [(12, .lstore_n 2, 1), (13, .lload_n 2, 1)]
theorem KX5_spare_12_3_d : ∀ z ∈ KX5_spare_12_3, decode cX5_spare z.1 = .ok z.2 := by decide +kernel
def KX5_spare_17_4 : List (Nat × Instr × Nat) := [(17, .lcmp, 1)]
theorem KX5_spare_17_4_d : ∀ z ∈ KX5_spare_17_4, decode cX5_spare z.1 = .ok z.2 := by decide +kernel
def KX5_spare_23_5 : List (Nat × Instr × Nat) := [(23, .aload_n 0, 1)]
theorem KX5_spare_23_5_d : ∀ z ∈ KX5_spare_23_5, decode cX5_spare z.1 = .ok z.2 := by decide +kernel
def KX5_spare_27_6 : List (Nat × Instr × Nat) := [(27, .iload_n 1, 1)]
theorem KX5_spare_27_6_d : ∀ z ∈ KX5_spare_27_6, decode cX5_spare z.1 = .ok z.2 := by decide +kernel
def KX5_spare_31_7 : List (Nat × Instr × Nat) := [(31, .lload_n 2, 1), (32, .lxor, 1)]
theorem KX5_spare_31_7_d : ∀ z ∈ KX5_spare_31_7, decode cX5_spare z.1 = .ok z.2 := by decide +kernel
def KX5_spare_36_8 : List (Nat × Instr × Nat) := [(36, .istore 4, 2), (38, .aload_n 0, 1)]
theorem KX5_spare_36_8_d : ∀ z ∈ KX5_spare_36_8, decode cX5_spare z.1 = .ok z.2 := by decide +kernel
def KX5_spare_45_9 : List (Nat × Instr × Nat) := [(45, .istore 5, 2), (47, .iconst 4, 1), (48, .iload 5, 2)]
theorem KX5_spare_45_9_d : ∀ z ∈ KX5_spare_45_9, decode cX5_spare z.1 = .ok z.2 := by decide +kernel
def KX5_spare_53_10 : List (Nat × Instr × Nat) := [(53, .isub, 1), (54, .iconst 2, 1), (55, .iload 4, 2), (57, .iload 5, 2), (59, .iconst (-1), 1), (60, .ixor, 1), (61, .iand, 1)]
theorem KX5_spare_53_10_d : ∀ z ∈ KX5_spare_53_10, decode cX5_spare z.1 = .ok z.2 := by decide +kernel
def KX5_spare_65_11 : List (Nat × Instr × Nat) := [(65, .imul, 1), (66, .isub, 1)]
theorem KX5_spare_65_11_d : ∀ z ∈ KX5_spare_65_11, decode cX5_spare z.1 = .ok z.2 := by decide +kernel
def KX5_spare_21_12 : List (Nat × Instr × Nat) := [(21, .iconst (-1), 1)]
theorem KX5_spare_21_12_d : ∀ z ∈ KX5_spare_21_12, decode cX5_spare z.1 = .ok z.2 := by decide +kernel
set_option maxHeartbeats 4000000 in
set_option maxRecDepth 100000 in
theorem c_X5_spare (l : Launch) (D : va_G) (g : Nat → ClassId) (ad : Nat → Nat) (I : Nat → Nat → Int32) (L : Nat → Nat → Int64) (S : Nat → Nat) (q : Nat) (hS18 : ∀ p, p < 15 → S p < 18) (hq : q < 16) : CT l yX5_spare cX5_spare 6 ((Option.some FieldType.int)) ({ frames := 5, cells := 0, slots := 0, locals := 129 } : Room) [.ref (ad 0), .int (nI q)] D CL (TYS g) (WC ad g I L S) ([]) (S := Unit) (fun _ => some (.int (spV I L S q))) (fun _ => []) (fun _ => True) 0 0 := by
  refine ct_of (by decide +kernel) (Nat.le_of_ble_eq_true rfl) ?_
  intro p e s m below meth c A X hr hnm hSB hRO hAf
  refine g_cs (ws' := []) (lv' := [(0, .ref (ad 0)), (1, .int (nI q))]) rfl rfl ?_
  refine g_run X KX5_spare_0_0 KX5_spare_0_0_d 1 [(0, .ref (ad 0)), (1, .int (nI q))] [.int (nI q)] rfl ?_
  refine g_callS X hSB hAf (As := [.int (nI q)]) (wr := []) (n := 1) (c_X5_checkLine l D g q (by omega)) rfl srcN hrdN w_435 w_433 w_434 w_1 (by decide +kernel) rfl ⟨Nat.le_of_ble_eq_true rfl, Nat.le_of_ble_eq_true rfl⟩ rfl rfl rfl (Nat.le_of_ble_eq_true rfl) ⟨Nat.le_of_ble_eq_true rfl, Nat.le_of_ble_eq_true rfl⟩ dX5_spare_1 (fun hu1 _ => ?_)
  refine g_af (ws' := []) (st' := []) (cells' := 0) (slots' := 0) (pc' := 4) rfl rfl rfl rfl rfl ?_
  refine g_run X KX5_spare_4_1 KX5_spare_4_1_d 5 [(0, .ref (ad 0)), (1, .int (nI q))] [.ref (ad 0)] rfl ?_
  refine g_get X (srcR hRO) (v := .ref (ad 1)) hinX5 rfl 0 (by decide) w_183 rfl (wc_mem (k := 0) (by decide)) rfl dX5_spare_5 ?_
  refine g_run X KX5_spare_8_2 KX5_spare_8_2_d 9 [(0, .ref (ad 0)), (1, .int (nI q))] [.int (nI q), .ref (ad 1)] rfl ?_
  refine g_callV X hSB hAf ((srcR hRO)) (hrc1 := (rfl : CL[3]? = some _)) (wc_mem (k := 1) (by decide)) rfl (As := [.int (nI q)]) (wr := []) (n := 1) (c_X4_wordMendedTo l D g ad I L S q (hS18) (by omega)) rfl (srcR hRO) hrdC w_440 w_437 w_438 w_439 w_2 (by decide +kernel) rfl ⟨Nat.le_of_ble_eq_true rfl, Nat.le_of_ble_eq_true rfl⟩ rfl rfl rfl (Nat.le_of_ble_eq_true rfl) ⟨Nat.le_of_ble_eq_true rfl, Nat.le_of_ble_eq_true rfl⟩ dX5_spare_9 (fun hu2 _ => ?_)
  refine g_af (ws' := []) (st' := [.long (oL (mwd I L S q))]) (cells' := 0) (slots' := 0) (pc' := 12) rfl rfl rfl rfl rfl ?_
  refine g_run X KX5_spare_12_3 KX5_spare_12_3_d 14 [(2, .long (oL (mwd I L S q))), (0, .ref (ad 0)), (1, .int (nI q))] [.long (oL (mwd I L S q))] rfl ?_
  refine g_ldc2 X (v := (-1 : Int64)) w_224 dX5_spare_14 ?_
  refine g_run X KX5_spare_17_4 KX5_spare_17_4_d 18 [(2, .long (oL (mwd I L S q))), (0, .ref (ad 0)), (1, .int (nI q))] [.int (lg_cmp (oL (mwd I L S q)) (-1 : Int64))] rfl ?_
  refine g_if_ne X 23 dX5_spare_18 (by decide) (fun hc3 => ?_) (fun hc3 => ?_)
  · rw [lc0] at hc3; have hm := hc3
    refine g_run X KX5_spare_23_5 KX5_spare_23_5_d 24 [(2, .long (oL (mwd I L S q))), (0, .ref (ad 0)), (1, .int (nI q))] [.ref (ad 0)] rfl ?_
    refine g_get X (srcR hRO) (v := .ref (ad 1)) hinX5 rfl 0 (by decide) w_183 rfl (wc_mem (k := 0) (by decide)) rfl dX5_spare_24 ?_
    refine g_run X KX5_spare_27_6 KX5_spare_27_6_d 28 [(2, .long (oL (mwd I L S q))), (0, .ref (ad 0)), (1, .int (nI q))] [.int (nI q), .ref (ad 1)] rfl ?_
    refine g_callV X hSB hAf ((srcR hRO)) (hrc1 := (rfl : CL[3]? = some _)) (wc_mem (k := 1) (by decide)) rfl (As := [.int (nI q)]) (wr := []) (n := 1) (c_X4_readWord l D g ad I L S q (hS18) (by omega)) rfl (srcR hRO) hrdC w_244 w_441 w_242 w_243 w_2 (by decide +kernel) rfl ⟨Nat.le_of_ble_eq_true rfl, Nat.le_of_ble_eq_true rfl⟩ rfl rfl rfl (Nat.le_of_ble_eq_true rfl) ⟨Nat.le_of_ble_eq_true rfl, Nat.le_of_ble_eq_true rfl⟩ dX5_spare_28 (fun hu4 _ => ?_)
    refine g_af (ws' := []) (st' := [.long (rwd I L S q 15)]) (cells' := 0) (slots' := 0) (pc' := 31) rfl rfl rfl rfl rfl ?_
    refine g_run X KX5_spare_31_7 KX5_spare_31_7_d 33 [(2, .long (oL (mwd I L S q))), (0, .ref (ad 0)), (1, .int (nI q))] [.long ((rwd I L S q 15) ^^^ (oL (mwd I L S q)))] rfl ?_
    refine g_callS X hSB hAf (As := [.long ((rwd I L S q 15) ^^^ (oL (mwd I L S q)))]) (wr := []) (n := 1) (c_X2_placesIn l D g ((rwd I L S q 15) ^^^ (oL (mwd I L S q))) ) rfl srcN hrdN w_444 w_442 w_443 w_22 (by decide +kernel) rfl ⟨Nat.le_of_ble_eq_true rfl, Nat.le_of_ble_eq_true rfl⟩ rfl rfl rfl (Nat.le_of_ble_eq_true rfl) ⟨Nat.le_of_ble_eq_true rfl, Nat.le_of_ble_eq_true rfl⟩ dX5_spare_33 (fun hu5 _ => ?_)
    refine g_af (ws' := []) (st' := [.int (nI (pl ((rwd I L S q 15) ^^^ (oL (mwd I L S q))) 15))]) (cells' := 0) (slots' := 0) (pc' := 36) rfl rfl rfl rfl rfl ?_
    refine g_run X KX5_spare_36_8 KX5_spare_36_8_d 39 [(4, .int (nI (pl ((rwd I L S q 15) ^^^ (oL (mwd I L S q))) 15))), (2, .long (oL (mwd I L S q))), (0, .ref (ad 0)), (1, .int (nI q))] [.ref (ad 0)] rfl ?_
    refine g_get X (srcR hRO) (v := .ref (ad 1)) hinX5 rfl 0 (by decide) w_183 rfl (wc_mem (k := 0) (by decide)) rfl dX5_spare_39 ?_
    refine g_callV X hSB hAf ((srcR hRO)) (hrc1 := (rfl : CL[3]? = some _)) (wc_mem (k := 1) (by decide)) rfl (As := []) (wr := []) (n := 0) (c_X4_erasedPlaces l D g ad I L S (hS18)) rfl (srcR hRO) hrdC w_240 w_308 w_238 w_239 w_2 (by decide +kernel) rfl ⟨Nat.le_of_ble_eq_true rfl, Nat.le_of_ble_eq_true rfl⟩ rfl rfl rfl (Nat.le_of_ble_eq_true rfl) ⟨Nat.le_of_ble_eq_true rfl, Nat.le_of_ble_eq_true rfl⟩ dX5_spare_42 (fun hu6 _ => ?_)
    refine g_af (ws' := []) (st' := [.int (nI (ers I S 15))]) (cells' := 0) (slots' := 0) (pc' := 45) rfl rfl rfl rfl rfl ?_
    refine g_run X KX5_spare_45_9 KX5_spare_45_9_d 50 [(5, .int (nI (ers I S 15))), (4, .int (nI (pl ((rwd I L S q 15) ^^^ (oL (mwd I L S q))) 15))), (2, .long (oL (mwd I L S q))), (0, .ref (ad 0)), (1, .int (nI q))] [.int (nI (ers I S 15)), .int (nI 4)] rfl ?_
    refine g_callS X hSB hAf (As := [.int (nI (ers I S 15))]) (wr := []) (n := 1) (c_J6_bitCount_0f7a4 l D g (ers I S 15) (ers_lt _ _ _)) rfl srcN hrdN w_259 w_309 w_258 w_24 (by decide +kernel) rfl ⟨Nat.le_of_ble_eq_true rfl, Nat.le_of_ble_eq_true rfl⟩ rfl rfl rfl (Nat.le_of_ble_eq_true rfl) ⟨Nat.le_of_ble_eq_true rfl, Nat.le_of_ble_eq_true rfl⟩ dX5_spare_50 (fun hu7 _ => ?_)
    refine g_af (ws' := []) (st' := [.int (nI (pcn (ers I S 15) 15)), .int (nI 4)]) (cells' := 0) (slots' := 0) (pc' := 53) rfl rfl rfl rfl rfl ?_
    refine g_run X KX5_spare_53_10 KX5_spare_53_10_d 62 [(5, .int (nI (ers I S 15))), (4, .int (nI (pl ((rwd I L S q 15) ^^^ (oL (mwd I L S q))) 15))), (2, .long (oL (mwd I L S q))), (0, .ref (ad 0)), (1, .int (nI q))] [.int ((nI (pl ((rwd I L S q 15) ^^^ (oL (mwd I L S q))) 15)) &&& ((nI (ers I S 15)) ^^^ (-nI 1))), .int (nI 2), .int ((nI 4) - (nI (pcn (ers I S 15) 15)))] rfl ?_
    refine g_st (st' := [.int (nI (pl (rwd I L S q 15 ^^^ oL (mwd I L S q)) 15 &&& (32767 ^^^ ers I S 15))), .int (nI 2), .int ((nI 4) - (nI (pcn (ers I S 15) 15)))]) (by rw [an15 (ers_lt _ _ _) (pl_lt _ _)]) ?_
    refine g_callS X hSB hAf (As := [.int (nI (pl (rwd I L S q 15 ^^^ oL (mwd I L S q)) 15 &&& (32767 ^^^ ers I S 15)))]) (wr := []) (n := 1) (c_J6_bitCount_0f7a4 l D g (pl (rwd I L S q 15 ^^^ oL (mwd I L S q)) 15 &&& (32767 ^^^ ers I S 15)) (an_lt (pl_lt _ _))) rfl srcN hrdN w_259 w_309 w_258 w_24 (by decide +kernel) rfl ⟨Nat.le_of_ble_eq_true rfl, Nat.le_of_ble_eq_true rfl⟩ rfl rfl rfl (Nat.le_of_ble_eq_true rfl) ⟨Nat.le_of_ble_eq_true rfl, Nat.le_of_ble_eq_true rfl⟩ dX5_spare_62 (fun hu8 _ => ?_)
    refine g_af (ws' := []) (st' := [.int (nI (pcn (pl (rwd I L S q 15 ^^^ oL (mwd I L S q)) 15 &&& (32767 ^^^ ers I S 15)) 15)), .int (nI 2), .int ((nI 4) - (nI (pcn (ers I S 15) 15)))]) (cells' := 0) (slots' := 0) (pc' := 65) rfl rfl rfl rfl rfl ?_
    refine g_run X KX5_spare_65_11 KX5_spare_65_11_d 67 [(5, .int (nI (ers I S 15))), (4, .int (nI (pl ((rwd I L S q 15) ^^^ (oL (mwd I L S q))) 15))), (2, .long (oL (mwd I L S q))), (0, .ref (ad 0)), (1, .int (nI q))] [.int (((nI 4) - (nI (pcn (ers I S 15) 15))) - ((nI 2) * (nI (pcn (pl (rwd I L S q 15 ^^^ oL (mwd I L S q)) 15 &&& (32767 ^^^ ers I S 15)) 15))))] rfl ?_
    exact g_iret X hr () (by show some (Value.int _) = some (Value.int _); first | rw [spV, if_neg hm, pk_mul] | rw [spV, if_pos hm]) (trivial) ((List.append_nil _).symm) (Nat.le_of_ble_eq_true rfl) (Nat.le_of_ble_eq_true rfl) dX5_spare_67
  · rw [lc0] at hc3; have hm := hc3
    refine g_run X KX5_spare_21_12 KX5_spare_21_12_d 22 [(2, .long (oL (mwd I L S q))), (0, .ref (ad 0)), (1, .int (nI q))] [.int (-nI 1)] rfl ?_
    exact g_iret X hr () (by show some (Value.int _) = some (Value.int _); first | rw [spV, if_neg hm, pk_mul] | rw [spV, if_pos hm]) (trivial) ((List.append_nil _).symm) (Nat.le_of_ble_eq_true rfl) (Nat.le_of_ble_eq_true rfl) dX5_spare_22

def KX5_wouldLose_0_0 : List (Nat × Instr × Nat) := [(0, .iload_n 1, 1)]
theorem KX5_wouldLose_0_0_d : ∀ z ∈ KX5_wouldLose_0_0, decode cX5_wouldLose z.1 = .ok z.2 := by decide +kernel
def KX5_wouldLose_4_1 : List (Nat × Instr × Nat) := [(4, .iload_n 2, 1)]
theorem KX5_wouldLose_4_1_d : ∀ z ∈ KX5_wouldLose_4_1, decode cX5_wouldLose z.1 = .ok z.2 := by decide +kernel
def KX5_wouldLose_8_2 : List (Nat × Instr × Nat) := [(8, .aload_n 0, 1)]
theorem KX5_wouldLose_8_2_d : ∀ z ∈ KX5_wouldLose_8_2, decode cX5_wouldLose z.1 = .ok z.2 := by decide +kernel
def KX5_wouldLose_15_3 : List (Nat × Instr × Nat) := [(15, .istore_n 3, 1), (16, .iconst 0, 1), (17, .istore 4, 2), (19, .iconst 0, 1), (20, .istore 5, 2)]
theorem KX5_wouldLose_15_3_d : ∀ z ∈ KX5_wouldLose_15_3, decode cX5_wouldLose z.1 = .ok z.2 := by decide +kernel
def KX5_wouldLose_22_4 : List (Nat × Instr × Nat) := [(22, .iload 5, 2), (24, .bipush 16, 2)]
theorem KX5_wouldLose_22_4_d : ∀ z ∈ KX5_wouldLose_22_4, decode cX5_wouldLose z.1 = .ok z.2 := by decide +kernel
def KX5_wouldLose_72_5 : List (Nat × Instr × Nat) := [(72, .iload 4, 2)]
theorem KX5_wouldLose_72_5_d : ∀ z ∈ KX5_wouldLose_72_5, decode cX5_wouldLose z.1 = .ok z.2 := by decide +kernel
def KX5_wouldLose_29_6 : List (Nat × Instr × Nat) := [(29, .aload_n 0, 1)]
theorem KX5_wouldLose_29_6_d : ∀ z ∈ KX5_wouldLose_29_6, decode cX5_wouldLose z.1 = .ok z.2 := by decide +kernel
def KX5_wouldLose_33_7 : List (Nat × Instr × Nat) := [(33, .iload 5, 2)]
theorem KX5_wouldLose_33_7_d : ∀ z ∈ KX5_wouldLose_33_7, decode cX5_wouldLose z.1 = .ok z.2 := by decide +kernel
def KX5_wouldLose_38_8 : List (Nat × Instr × Nat) := [(38, .iload_n 1, 1), (39, .iload_n 2, 1), (40, .iload 5, 2)]
theorem KX5_wouldLose_38_8_d : ∀ z ∈ KX5_wouldLose_38_8, decode cX5_wouldLose z.1 = .ok z.2 := by decide +kernel
def KX5_wouldLose_48_9 : List (Nat × Instr × Nat) := [(48, .lstore 6, 2), (50, .lload 6, 2), (52, .iload_n 3, 1)]
theorem KX5_wouldLose_48_9_d : ∀ z ∈ KX5_wouldLose_48_9, decode cX5_wouldLose z.1 = .ok z.2 := by decide +kernel
def KX5_wouldLose_59_10 : List (Nat × Instr × Nat) := [(59, .lcmp, 1)]
theorem KX5_wouldLose_59_10_d : ∀ z ∈ KX5_wouldLose_59_10, decode cX5_wouldLose z.1 = .ok z.2 := by decide +kernel
def KX5_wouldLose_66_11 : List (Nat × Instr × Nat) := [(66, .iinc 5 1, 3), (69, .goto (-47), 3)]
theorem KX5_wouldLose_66_11_d : ∀ z ∈ KX5_wouldLose_66_11, decode cX5_wouldLose z.1 = .ok z.2 := by decide +kernel
def KX5_wouldLose_63_12 : List (Nat × Instr × Nat) := [(63, .iinc 4 1, 3), (66, .iinc 5 1, 3), (69, .goto (-47), 3)]
theorem KX5_wouldLose_63_12_d : ∀ z ∈ KX5_wouldLose_63_12, decode cX5_wouldLose z.1 = .ok z.2 := by decide +kernel
set_option maxHeartbeats 4000000 in
set_option maxRecDepth 100000 in
theorem c_X5_wouldLose (l : Launch) (D : va_G) (g : Nat → ClassId) (ad : Nat → Nat) (I : Nat → Nat → Int32) (L : Nat → Nat → Int64) (S : Nat → Nat) (q : Nat) (k : Nat) (hS18 : ∀ p, p < 15 → S p < 18) (hq : q < 15) (hk : k < 16) : CT l yX5_wouldLose cX5_wouldLose 8 ((Option.some FieldType.int)) ({ frames := 4, cells := 0, slots := 0, locals := 108 } : Room) [.ref (ad 0), .int (nI q), .int (nI k)] D CL (TYS g) (WC ad g I L S) ([]) (S := Unit) (fun _ => some (.int (nI (wlV I L S q k 16)))) (fun _ => []) (fun _ => True) 0 0 := by
  refine ct_of (by decide +kernel) (Nat.le_of_ble_eq_true rfl) ?_
  intro p e s m below meth c A X hr hnm hSB hRO hAf
  refine g_cs (ws' := []) (lv' := [(0, .ref (ad 0)), (1, .int (nI q)), (2, .int (nI k))]) rfl rfl ?_
  refine g_run X KX5_wouldLose_0_0 KX5_wouldLose_0_0_d 1 [(0, .ref (ad 0)), (1, .int (nI q)), (2, .int (nI k))] [.int (nI q)] rfl ?_
  refine g_callS X hSB hAf (As := [.int (nI q)]) (wr := []) (n := 1) (c_X5_checkPlace l D g q (by omega)) rfl srcN hrdN w_559 w_557 w_558 w_1 (by decide +kernel) rfl ⟨Nat.le_of_ble_eq_true rfl, Nat.le_of_ble_eq_true rfl⟩ rfl rfl rfl (Nat.le_of_ble_eq_true rfl) ⟨Nat.le_of_ble_eq_true rfl, Nat.le_of_ble_eq_true rfl⟩ dX5_wouldLose_1 (fun hu1 _ => ?_)
  refine g_af (ws' := []) (st' := []) (cells' := 0) (slots' := 0) (pc' := 4) rfl rfl rfl rfl rfl ?_
  refine g_run X KX5_wouldLose_4_1 KX5_wouldLose_4_1_d 5 [(0, .ref (ad 0)), (1, .int (nI q)), (2, .int (nI k))] [.int (nI k)] rfl ?_
  refine g_callS X hSB hAf (As := [.int (nI k)]) (wr := []) (n := 1) (c_X5_checkElement l D g k (by omega)) rfl srcN hrdN w_524 w_522 w_523 w_1 (by decide +kernel) rfl ⟨Nat.le_of_ble_eq_true rfl, Nat.le_of_ble_eq_true rfl⟩ rfl rfl rfl (Nat.le_of_ble_eq_true rfl) ⟨Nat.le_of_ble_eq_true rfl, Nat.le_of_ble_eq_true rfl⟩ dX5_wouldLose_5 (fun hu2 _ => ?_)
  refine g_af (ws' := []) (st' := []) (cells' := 0) (slots' := 0) (pc' := 8) rfl rfl rfl rfl rfl ?_
  refine g_run X KX5_wouldLose_8_2 KX5_wouldLose_8_2_d 9 [(0, .ref (ad 0)), (1, .int (nI q)), (2, .int (nI k))] [.ref (ad 0)] rfl ?_
  refine g_get X (srcR hRO) (v := .ref (ad 1)) hinX5 rfl 0 (by decide) w_183 rfl (wc_mem (k := 0) (by decide)) rfl dX5_wouldLose_9 ?_
  refine g_callV X hSB hAf ((srcR hRO)) (hrc1 := (rfl : CL[3]? = some _)) (wc_mem (k := 1) (by decide)) rfl (As := []) (wr := []) (n := 0) (c_X4_erasedPlaces l D g ad I L S (hS18)) rfl (srcR hRO) hrdC w_240 w_308 w_238 w_239 w_2 (by decide +kernel) rfl ⟨Nat.le_of_ble_eq_true rfl, Nat.le_of_ble_eq_true rfl⟩ rfl rfl rfl (Nat.le_of_ble_eq_true rfl) ⟨Nat.le_of_ble_eq_true rfl, Nat.le_of_ble_eq_true rfl⟩ dX5_wouldLose_12 (fun hu3 _ => ?_)
  refine g_af (ws' := []) (st' := [.int (nI (ers I S 15))]) (cells' := 0) (slots' := 0) (pc' := 15) rfl rfl rfl rfl rfl ?_
  refine g_run X KX5_wouldLose_15_3 KX5_wouldLose_15_3_d 22 [(5, .int (nI 0)), (4, .int (nI 0)), (3, .int (nI (ers I S 15))), (0, .ref (ad 0)), (1, .int (nI q)), (2, .int (nI k))] [] rfl ?_
  refine g_lv (lv' := [(0, .ref (ad 0)), (1, .int (nI q)), (2, .int (nI k)), (3, .int (nI (ers I S 15))), (4, .int (nI 0)), (5, .int (nI 0))]) (lsub_c 3 rfl (lsub_c 4 rfl (lsub_c 5 rfl (lsub_c 2 rfl (lsub_c 1 rfl (lsub_c 0 rfl (lsub_n))))))) ?_
  refine g_for 16 (fun _ => []) (fun i => [(0, .ref (ad 0)), (1, .int (nI q)), (2, .int (nI k)), (3, .int (nI (ers I S 15))), (4, .int (nI (wlV I L S q k i))), (5, .int (nI i))]) (rfl) (rfl) ?_ ?_
  · refine g_run X KX5_wouldLose_22_4 KX5_wouldLose_22_4_d 26 [(0, .ref (ad 0)), (1, .int (nI q)), (2, .int (nI k)), (3, .int (nI (ers I S 15))), (4, .int (nI (wlV I L S q k 16))), (5, .int (nI 16))] [.int (nI 16), .int (nI 16)] rfl ?_
    refine g_icmp_ge X 72 dX5_wouldLose_26 (by decide) (fun hc4 => ?_) (fun hc4 => ?_)
    · refine g_run X KX5_wouldLose_72_5 KX5_wouldLose_72_5_d 74 [(0, .ref (ad 0)), (1, .int (nI q)), (2, .int (nI k)), (3, .int (nI (ers I S 15))), (4, .int (nI (wlV I L S q k 16))), (5, .int (nI 16))] [.int (nI (wlV I L S q k 16))] rfl ?_
      exact g_iret X hr () (rfl) (trivial) ((List.append_nil _).symm) (Nat.le_of_ble_eq_true rfl) (Nat.le_of_ble_eq_true rfl) dX5_wouldLose_74
    · rw [nI_leI (by omega) (by omega)] at hc4; first | omega | (simp at hc4)
  · intro i hi k22
    refine g_run X KX5_wouldLose_22_4 KX5_wouldLose_22_4_d 26 [(0, .ref (ad 0)), (1, .int (nI q)), (2, .int (nI k)), (3, .int (nI (ers I S 15))), (4, .int (nI (wlV I L S q k i))), (5, .int (nI i))] [.int (nI 16), .int (nI i)] rfl ?_
    refine g_icmp_ge X 72 dX5_wouldLose_26 (by decide) (fun hc5 => ?_) (fun hc5 => ?_)
    · rw [nI_leI (by omega) (by omega)] at hc5; first | omega | (simp at hc5)
    · refine g_run X KX5_wouldLose_29_6 KX5_wouldLose_29_6_d 30 [(0, .ref (ad 0)), (1, .int (nI q)), (2, .int (nI k)), (3, .int (nI (ers I S 15))), (4, .int (nI (wlV I L S q k i))), (5, .int (nI i))] [.ref (ad 0)] rfl ?_
      refine g_get X (srcR hRO) (v := .ref (ad 1)) hinX5 rfl 0 (by decide) w_183 rfl (wc_mem (k := 0) (by decide)) rfl dX5_wouldLose_30 ?_
      refine g_run X KX5_wouldLose_33_7 KX5_wouldLose_33_7_d 35 [(0, .ref (ad 0)), (1, .int (nI q)), (2, .int (nI k)), (3, .int (nI (ers I S 15))), (4, .int (nI (wlV I L S q k i))), (5, .int (nI i))] [.int (nI i), .ref (ad 1)] rfl ?_
      refine g_callV X hSB hAf ((srcR hRO)) (hrc1 := (rfl : CL[3]? = some _)) (wc_mem (k := 1) (by decide)) rfl (As := [.int (nI i)]) (wr := []) (n := 1) (c_X4_readWord l D g ad I L S i (hS18) (by omega)) rfl (srcR hRO) hrdC w_244 w_441 w_242 w_243 w_2 (by decide +kernel) rfl ⟨Nat.le_of_ble_eq_true rfl, Nat.le_of_ble_eq_true rfl⟩ rfl rfl rfl (Nat.le_of_ble_eq_true rfl) ⟨Nat.le_of_ble_eq_true rfl, Nat.le_of_ble_eq_true rfl⟩ dX5_wouldLose_35 (fun hu6 _ => ?_)
      refine g_af (ws' := []) (st' := [.long (rwd I L S i 15)]) (cells' := 0) (slots' := 0) (pc' := 38) rfl rfl rfl rfl rfl ?_
      refine g_run X KX5_wouldLose_38_8 KX5_wouldLose_38_8_d 42 [(0, .ref (ad 0)), (1, .int (nI q)), (2, .int (nI k)), (3, .int (nI (ers I S 15))), (4, .int (nI (wlV I L S q k i))), (5, .int (nI i))] [.int (nI i), .int (nI k), .int (nI q), .long (rwd I L S i 15)] rfl ?_
      refine g_callS X hSB hAf (As := [.int (nI k), .int (nI i)]) (wr := []) (n := 2) (c_X1_madSymbol l D g (nI k) i ) rfl srcN hrdN w_251 w_1052 w_250 w_3 (by decide +kernel) rfl ⟨Nat.le_of_ble_eq_true rfl, Nat.le_of_ble_eq_true rfl⟩ rfl rfl rfl (Nat.le_of_ble_eq_true rfl) ⟨Nat.le_of_ble_eq_true rfl, Nat.le_of_ble_eq_true rfl⟩ dX5_wouldLose_42 (fun hu7 _ => ?_)
      refine g_af (ws' := []) (st' := [.int (((nI k) + nI i) &&& nI 15), .int (nI q), .long (rwd I L S i 15)]) (cells' := 0) (slots' := 0) (pc' := 45) rfl rfl rfl rfl rfl ?_
      refine g_st (st' := [.int (nI ((k + i) % 16)), .int (nI q), .long (rwd I L S i 15)]) (by rw [nI_add, nx_and, show (15 : Nat) = 2 ^ 4 - 1 from rfl, Nat.and_two_pow_sub_one_eq_mod]) ?_
      refine g_callS X hSB hAf (As := [.long (rwd I L S i 15), .int (nI q), .int (nI ((k + i) % 16))]) (wr := []) (n := 3) (c_X5_withNumber l D g (rwd I L S i 15) q ((k + i) % 16) (by omega)) rfl srcN hrdN w_222 w_712 w_221 w_1 (by decide +kernel) rfl ⟨Nat.le_of_ble_eq_true rfl, Nat.le_of_ble_eq_true rfl⟩ rfl rfl rfl (Nat.le_of_ble_eq_true rfl) ⟨Nat.le_of_ble_eq_true rfl, Nat.le_of_ble_eq_true rfl⟩ dX5_wouldLose_45 (fun hu8 _ => ?_)
      refine g_af (ws' := []) (st' := [.long (wn (rwd I L S i 15) q ((k + i) % 16))]) (cells' := 0) (slots' := 0) (pc' := 48) rfl rfl rfl rfl rfl ?_
      refine g_run X KX5_wouldLose_48_9 KX5_wouldLose_48_9_d 53 [(6, .long (wn (rwd I L S i 15) q ((k + i) % 16))), (0, .ref (ad 0)), (1, .int (nI q)), (2, .int (nI k)), (3, .int (nI (ers I S 15))), (4, .int (nI (wlV I L S q k i))), (5, .int (nI i))] [.int (nI (ers I S 15)), .long (wn (rwd I L S i 15) q ((k + i) % 16))] rfl ?_
      refine g_callS X hSB hAf (As := [.long (wn (rwd I L S i 15) q ((k + i) % 16)), .int (nI (ers I S 15))]) (wr := []) (n := 2) (c_X2_mendedWord l D g (wn (rwd I L S i 15) q ((k + i) % 16)) (ers I S 15) (ers_lt _ _ _)) rfl srcN hrdN w_256 w_713 w_255 w_22 (by decide +kernel) rfl ⟨Nat.le_of_ble_eq_true rfl, Nat.le_of_ble_eq_true rfl⟩ rfl rfl rfl (Nat.le_of_ble_eq_true rfl) ⟨Nat.le_of_ble_eq_true rfl, Nat.le_of_ble_eq_true rfl⟩ dX5_wouldLose_53 (fun hu9 _ => ?_)
      refine g_af (ws' := []) (st' := [.long (oL (mw (ers I S 15) (wn (rwd I L S i 15) q ((k + i) % 16))))]) (cells' := 0) (slots' := 0) (pc' := 56) rfl rfl rfl rfl rfl ?_
      refine g_ldc2 X (v := (-1 : Int64)) w_224 dX5_wouldLose_56 ?_
      refine g_run X KX5_wouldLose_59_10 KX5_wouldLose_59_10_d 60 [(6, .long (wn (rwd I L S i 15) q ((k + i) % 16))), (0, .ref (ad 0)), (1, .int (nI q)), (2, .int (nI k)), (3, .int (nI (ers I S 15))), (4, .int (nI (wlV I L S q k i))), (5, .int (nI i))] [.int (lg_cmp (oL (mw (ers I S 15) (wn (rwd I L S i 15) q ((k + i) % 16)))) (-1 : Int64))] rfl ?_
      refine g_if_ne X 66 dX5_wouldLose_60 (by decide) (fun hc10 => ?_) (fun hc10 => ?_)
      · rw [lc0] at hc10; have hw : ¬ wlW I L S q k i = -1 := hc10
        refine g_run X KX5_wouldLose_66_11 KX5_wouldLose_66_11_d 22 [(5, .int ((nI i) + (nI 1))), (6, .long (wn (rwd I L S i 15) q ((k + i) % 16))), (0, .ref (ad 0)), (1, .int (nI q)), (2, .int (nI k)), (3, .int (nI (ers I S 15))), (4, .int (nI (wlV I L S q k i)))] [] rfl ?_
        refine g_nm (lv' := [(5, .int (nI (i + 1))), (6, .long (wn (rwd I L S i 15) q ((k + i) % 16))), (0, .ref (ad 0)), (1, .int (nI q)), (2, .int (nI k)), (3, .int (nI (ers I S 15))), (4, .int (nI (wlV I L S q k i)))]) (st' := []) (by simp only [nI_add]) (by simp only [nI_add]) ?_
        refine g_lv (lv' := [(0, .ref (ad 0)), (1, .int (nI q)), (2, .int (nI k)), (3, .int (nI (ers I S 15))), (4, .int (nI (wlV I L S q k i))), (5, .int (nI (i + 1)))]) (lsub_c 2 rfl (lsub_c 3 rfl (lsub_c 4 rfl (lsub_c 5 rfl (lsub_c 6 rfl (lsub_c 0 rfl (lsub_n))))))) ?_
        refine g_cs (ws' := []) (lv' := [(0, .ref (ad 0)), (1, .int (nI q)), (2, .int (nI k)), (3, .int (nI (ers I S 15))), (4, .int (nI (wlV I L S q k (i + 1)))), (5, .int (nI (i + 1)))]) (rfl) (by simp [wlV, *]) ?_
        exact k22
      · rw [lc0] at hc10; have hw : wlW I L S q k i = -1 := hc10
        refine g_run X KX5_wouldLose_63_12 KX5_wouldLose_63_12_d 22 [(5, .int ((nI i) + (nI 1))), (4, .int ((nI (wlV I L S q k i)) + (nI 1))), (6, .long (wn (rwd I L S i 15) q ((k + i) % 16))), (0, .ref (ad 0)), (1, .int (nI q)), (2, .int (nI k)), (3, .int (nI (ers I S 15)))] [] rfl ?_
        refine g_nm (lv' := [(5, .int (nI (i + 1))), (4, .int (nI ((wlV I L S q k i) + 1))), (6, .long (wn (rwd I L S i 15) q ((k + i) % 16))), (0, .ref (ad 0)), (1, .int (nI q)), (2, .int (nI k)), (3, .int (nI (ers I S 15)))]) (st' := []) (by simp only [nI_add]) (by simp only [nI_add]) ?_
        refine g_lv (lv' := [(0, .ref (ad 0)), (1, .int (nI q)), (2, .int (nI k)), (3, .int (nI (ers I S 15))), (4, .int (nI ((wlV I L S q k i) + 1))), (5, .int (nI (i + 1)))]) (lsub_c 3 rfl (lsub_c 4 rfl (lsub_c 5 rfl (lsub_c 6 rfl (lsub_c 1 rfl (lsub_c 0 rfl (lsub_n))))))) ?_
        refine g_cs (ws' := []) (lv' := [(0, .ref (ad 0)), (1, .int (nI q)), (2, .int (nI k)), (3, .int (nI (ers I S 15))), (4, .int (nI (wlV I L S q k (i + 1)))), (5, .int (nI (i + 1)))]) (rfl) (by simp [wlV, *]) ?_
        exact k22

set_option maxHeartbeats 4000000 in
set_option maxRecDepth 100000 in
theorem x_X5_wouldLose_1 (l : Launch) (hfl : l.stackTraces = false) (D : va_G) (g : Nat → ClassId) (ad : Nat → Nat) (I : Nat → Nat → Int32) (L : Nat → Nat → Int64) (S : Nat → Nat) (x : Int32) (y1 : Int32) (hx : x < 0 ∨ ¬ x < nI 15) : CX l yX5_wouldLose cX5_wouldLose 8 ((Option.some FieldType.int)) ({ frames := 7, cells := 1, slots := 6, locals := 120 } : Room) [.ref (ad 0), .int x, .int y1] D CL (TYS g) (WC ad g I L S) xIO 1 6 := by
  refine cx_of (by decide +kernel) (Nat.le_of_ble_eq_true rfl) ?_
  intro p e s m below meth c A X hnt hSB hRO hAf
  refine g_cs (ws' := []) (lv' := [(0, .ref (ad 0)), (1, .int x), (2, .int y1)]) rfl rfl ?_
  refine g_run X KX5_wouldLose_0_0 KX5_wouldLose_0_0_d 1 [(0, .ref (ad 0)), (1, .int x), (2, .int y1)] [.int x] rfl ?_
  exact gx_callS X hSB hAf hnt (As := [.int x]) (n := 1) (x_X5_checkPlace l hfl D g x (hx)) srcN w_559 w_557 w_558 w_1 (by decide +kernel) rfl ⟨Nat.le_of_ble_eq_true rfl, Nat.le_of_ble_eq_true rfl⟩ rfl rfl rfl (Nat.le_of_ble_eq_true rfl) ⟨Nat.le_of_ble_eq_true rfl, Nat.le_of_ble_eq_true rfl⟩ (Nat.le_of_ble_eq_true rfl) (Nat.le_of_ble_eq_true rfl) dX5_wouldLose_1

set_option maxHeartbeats 4000000 in
set_option maxRecDepth 100000 in
theorem x_X5_wouldLose_2 (l : Launch) (hfl : l.stackTraces = false) (D : va_G) (g : Nat → ClassId) (ad : Nat → Nat) (I : Nat → Nat → Int32) (L : Nat → Nat → Int64) (S : Nat → Nat) (q : Nat) (x : Int32) (hq : q < 15) (hx : x < 0 ∨ ¬ x ≤ nI 15) : CX l yX5_wouldLose cX5_wouldLose 8 ((Option.some FieldType.int)) ({ frames := 7, cells := 1, slots := 6, locals := 120 } : Room) [.ref (ad 0), .int (nI q), .int x] D CL (TYS g) (WC ad g I L S) xIA 1 6 := by
  refine cx_of (by decide +kernel) (Nat.le_of_ble_eq_true rfl) ?_
  intro p e s m below meth c A X hnt hSB hRO hAf
  refine g_cs (ws' := []) (lv' := [(0, .ref (ad 0)), (1, .int (nI q)), (2, .int x)]) rfl rfl ?_
  refine g_run X KX5_wouldLose_0_0 KX5_wouldLose_0_0_d 1 [(0, .ref (ad 0)), (1, .int (nI q)), (2, .int x)] [.int (nI q)] rfl ?_
  refine g_callS X hSB hAf (As := [.int (nI q)]) (wr := []) (n := 1) (c_X5_checkPlace l D g q (by omega)) rfl srcN hrdN w_559 w_557 w_558 w_1 (by decide +kernel) rfl ⟨Nat.le_of_ble_eq_true rfl, Nat.le_of_ble_eq_true rfl⟩ rfl rfl rfl (Nat.le_of_ble_eq_true rfl) ⟨Nat.le_of_ble_eq_true rfl, Nat.le_of_ble_eq_true rfl⟩ dX5_wouldLose_1 (fun hu1 _ => ?_)
  refine g_af (ws' := []) (st' := []) (cells' := 0) (slots' := 0) (pc' := 4) rfl rfl rfl rfl rfl ?_
  refine g_run X KX5_wouldLose_4_1 KX5_wouldLose_4_1_d 5 [(0, .ref (ad 0)), (1, .int (nI q)), (2, .int x)] [.int x] rfl ?_
  exact gx_callS X hSB hAf hnt (As := [.int x]) (n := 1) (x_X5_checkElement l hfl D g x (hx)) srcN w_524 w_522 w_523 w_1 (by decide +kernel) rfl ⟨Nat.le_of_ble_eq_true rfl, Nat.le_of_ble_eq_true rfl⟩ rfl rfl rfl (Nat.le_of_ble_eq_true rfl) ⟨Nat.le_of_ble_eq_true rfl, Nat.le_of_ble_eq_true rfl⟩ (Nat.le_of_ble_eq_true rfl) (Nat.le_of_ble_eq_true rfl) dX5_wouldLose_5

def KX5_isSound_0_0 : List (Nat × Instr × Nat) := [(0, .aload_n 0, 1)]
theorem KX5_isSound_0_0_d : ∀ z ∈ KX5_isSound_0_0, decode cX5_isSound z.1 = .ok z.2 := by decide +kernel
def KX5_isSound_55_1 : List (Nat × Instr × Nat) := [(55, .iconst 0, 1)]
theorem KX5_isSound_55_1_d : ∀ z ∈ KX5_isSound_55_1, decode cX5_isSound z.1 = .ok z.2 := by decide +kernel
def KX5_isSound_10_2 : List (Nat × Instr × Nat) := [(10, .aload_n 0, 1)]
theorem KX5_isSound_10_2_d : ∀ z ∈ KX5_isSound_10_2, decode cX5_isSound z.1 = .ok z.2 := by decide +kernel
def KX5_isSound_20_3 : List (Nat × Instr × Nat) := [(20, .iconst 4, 1)]
theorem KX5_isSound_20_3_d : ∀ z ∈ KX5_isSound_20_3, decode cX5_isSound z.1 = .ok z.2 := by decide +kernel
def KX5_isSound_24_4 : List (Nat × Instr × Nat) := [(24, .aload_n 0, 1)]
theorem KX5_isSound_24_4_d : ∀ z ∈ KX5_isSound_24_4, decode cX5_isSound z.1 = .ok z.2 := by decide +kernel
def KX5_isSound_34_5 : List (Nat × Instr × Nat) := [(34, .aload_n 0, 1)]
theorem KX5_isSound_34_5_d : ∀ z ∈ KX5_isSound_34_5, decode cX5_isSound z.1 = .ok z.2 := by decide +kernel
def KX5_isSound_41_6 : List (Nat × Instr × Nat) := [(41, .aload_n 0, 1)]
theorem KX5_isSound_41_6_d : ∀ z ∈ KX5_isSound_41_6, decode cX5_isSound z.1 = .ok z.2 := by decide +kernel
def KX5_isSound_51_7 : List (Nat × Instr × Nat) := [(51, .iconst 1, 1), (52, .goto 4, 3)]
theorem KX5_isSound_51_7_d : ∀ z ∈ KX5_isSound_51_7, decode cX5_isSound z.1 = .ok z.2 := by decide +kernel
set_option maxHeartbeats 4000000 in
set_option maxRecDepth 100000 in
theorem c_X5_isSound (l : Launch) (D : va_G) (g : Nat → ClassId) (ad : Nat → Nat) (I : Nat → Nat → Int32) (L : Nat → Nat → Int64) (S : Nat → Nat) (hS18 : ∀ p, p < 15 → S p < 18) : CT l yX5_isSound cX5_isSound 1 ((Option.some FieldType.boolean)) ({ frames := 2, cells := 0, slots := 0, locals := 44 } : Room) [.ref (ad 0)] D CL (TYS g) (WC ad g I L S) ([]) (S := Unit) (fun _ => some (.int (nI (pB (snd I S))))) (fun _ => []) (fun _ => True) 0 0 := by
  refine ct_of (by decide +kernel) (Nat.le_of_ble_eq_true rfl) ?_
  intro p e s m below meth c A X hr hnm hSB hRO hAf
  refine g_cs (ws' := []) (lv' := [(0, .ref (ad 0))]) rfl rfl ?_
  refine g_run X KX5_isSound_0_0 KX5_isSound_0_0_d 1 [(0, .ref (ad 0))] [.ref (ad 0)] rfl ?_
  refine g_get X (srcR hRO) (v := .ref (ad 1)) hinX5 rfl 0 (by decide) w_183 rfl (wc_mem (k := 0) (by decide)) rfl dX5_isSound_1 ?_
  refine g_callV X hSB hAf ((srcR hRO)) (hrc1 := (rfl : CL[3]? = some _)) (wc_mem (k := 1) (by decide)) rfl (As := []) (wr := []) (n := 0) (c_X4_areSeatsSound l D g ad I L S (hS18)) rfl (srcR hRO) hrdC w_306 w_303 w_304 w_305 w_2 (by decide +kernel) rfl ⟨Nat.le_of_ble_eq_true rfl, Nat.le_of_ble_eq_true rfl⟩ rfl rfl rfl (Nat.le_of_ble_eq_true rfl) ⟨Nat.le_of_ble_eq_true rfl, Nat.le_of_ble_eq_true rfl⟩ dX5_isSound_4 (fun hu1 _ => ?_)
  refine g_af (ws' := []) (st' := [.int (nI (pB (sok I S)))]) (cells' := 0) (slots' := 0) (pc' := 7) rfl rfl rfl rfl rfl ?_
  refine g_if_eq X 55 dX5_isSound_7 (by decide) (fun hc2 => ?_) (fun hc2 => ?_)
  · rw [pB_eq0] at hc2; have hno : ¬ snd I S := fun z => hc2 z.1
    refine g_run X KX5_isSound_55_1 KX5_isSound_55_1_d 56 [(0, .ref (ad 0))] [.int (nI 0)] rfl ?_
    exact g_zret X hr (by decide +kernel) () (by show some (Value.int _) = some (Value.int _); rw [pB_f hno]) (trivial) ((List.append_nil _).symm) (Nat.le_of_ble_eq_true rfl) (Nat.le_of_ble_eq_true rfl) dX5_isSound_56
  · rw [pB_eq0, Classical.not_not] at hc2; have h1 := hc2
    refine g_run X KX5_isSound_10_2 KX5_isSound_10_2_d 11 [(0, .ref (ad 0))] [.ref (ad 0)] rfl ?_
    refine g_get X (srcR hRO) (v := .ref (ad 1)) hinX5 rfl 0 (by decide) w_183 rfl (wc_mem (k := 0) (by decide)) rfl dX5_isSound_11 ?_
    refine g_callV X hSB hAf ((srcR hRO)) (hrc1 := (rfl : CL[3]? = some _)) (wc_mem (k := 1) (by decide)) rfl (As := []) (wr := []) (n := 0) (c_X4_erasedPlaces l D g ad I L S (hS18)) rfl (srcR hRO) hrdC w_240 w_308 w_238 w_239 w_2 (by decide +kernel) rfl ⟨Nat.le_of_ble_eq_true rfl, Nat.le_of_ble_eq_true rfl⟩ rfl rfl rfl (Nat.le_of_ble_eq_true rfl) ⟨Nat.le_of_ble_eq_true rfl, Nat.le_of_ble_eq_true rfl⟩ dX5_isSound_14 (fun hu3 _ => ?_)
    refine g_af (ws' := []) (st' := [.int (nI (ers I S 15))]) (cells' := 0) (slots' := 0) (pc' := 17) rfl rfl rfl rfl rfl ?_
    have hp15 := pcn_15 (ers I S 15)
    refine g_callS X hSB hAf (As := [.int (nI (ers I S 15))]) (wr := []) (n := 1) (c_J6_bitCount_0f7a4 l D g (ers I S 15) (ers_lt _ _ _)) rfl srcN hrdN w_259 w_309 w_258 w_24 (by decide +kernel) rfl ⟨Nat.le_of_ble_eq_true rfl, Nat.le_of_ble_eq_true rfl⟩ rfl rfl rfl (Nat.le_of_ble_eq_true rfl) ⟨Nat.le_of_ble_eq_true rfl, Nat.le_of_ble_eq_true rfl⟩ dX5_isSound_17 (fun hu4 _ => ?_)
    refine g_af (ws' := []) (st' := [.int (nI (pcn (ers I S 15) 15))]) (cells' := 0) (slots' := 0) (pc' := 20) rfl rfl rfl rfl rfl ?_
    refine g_run X KX5_isSound_20_3 KX5_isSound_20_3_d 21 [(0, .ref (ad 0))] [.int (nI 4), .int (nI (pcn (ers I S 15) 15))] rfl ?_
    refine g_icmp_gt X 55 dX5_isSound_21 (by decide) (fun hc5 => ?_) (fun hc5 => ?_)
    · rw [nI_ltI (by omega) (by omega)] at hc5; have hno : ¬ snd I S := fun z => by have := z.2.1; omega
      refine g_run X KX5_isSound_55_1 KX5_isSound_55_1_d 56 [(0, .ref (ad 0))] [.int (nI 0)] rfl ?_
      exact g_zret X hr (by decide +kernel) () (by show some (Value.int _) = some (Value.int _); rw [pB_f hno]) (trivial) ((List.append_nil _).symm) (Nat.le_of_ble_eq_true rfl) (Nat.le_of_ble_eq_true rfl) dX5_isSound_56
    · rw [nI_ltI (by omega) (by omega)] at hc5; have h2 := Nat.le_of_not_lt hc5
      refine g_run X KX5_isSound_24_4 KX5_isSound_24_4_d 25 [(0, .ref (ad 0))] [.ref (ad 0)] rfl ?_
      refine g_get X (srcR hRO) (v := .ref (ad 4)) hinX5 rfl 1 (by decide) w_184 rfl (wc_mem (k := 0) (by decide)) rfl dX5_isSound_25 ?_
      refine g_callV X hSB hAf ((srcR hRO)) (hrc1 := (rfl : CL[0]? = some _)) (wc_mem (k := 4) (by decide)) rfl (As := []) (wr := []) (n := 0) (c_X0_areFramesSound l D g ad I L S ) rfl (srcR hRO) hrdC w_313 w_310 w_311 w_312 w_4 (by decide +kernel) rfl ⟨Nat.le_of_ble_eq_true rfl, Nat.le_of_ble_eq_true rfl⟩ rfl rfl rfl (Nat.le_of_ble_eq_true rfl) ⟨Nat.le_of_ble_eq_true rfl, Nat.le_of_ble_eq_true rfl⟩ dX5_isSound_28 (fun hu6 _ => ?_)
      refine g_af (ws' := []) (st' := [.int (nI (pB (fok I)))]) (cells' := 0) (slots' := 0) (pc' := 31) rfl rfl rfl rfl rfl ?_
      refine g_if_eq X 55 dX5_isSound_31 (by decide) (fun hc7 => ?_) (fun hc7 => ?_)
      · rw [pB_eq0] at hc7; have hno : ¬ snd I S := fun z => hc7 z.2.2.1
        refine g_run X KX5_isSound_55_1 KX5_isSound_55_1_d 56 [(0, .ref (ad 0))] [.int (nI 0)] rfl ?_
        exact g_zret X hr (by decide +kernel) () (by show some (Value.int _) = some (Value.int _); rw [pB_f hno]) (trivial) ((List.append_nil _).symm) (Nat.le_of_ble_eq_true rfl) (Nat.le_of_ble_eq_true rfl) dX5_isSound_56
      · rw [pB_eq0, Classical.not_not] at hc7; have h3 := hc7
        refine g_run X KX5_isSound_34_5 KX5_isSound_34_5_d 35 [(0, .ref (ad 0))] [.ref (ad 0)] rfl ?_
        refine g_get X (srcR hRO) (v := .ref (ad 1)) hinX5 rfl 0 (by decide) w_183 rfl (wc_mem (k := 0) (by decide)) rfl dX5_isSound_35 ?_
        refine g_get X (srcR hRO) (v := .int (I 8 3)) hinX4 rfl 5 (by decide) w_104 rfl (wc_mem (k := 1) (by decide)) rfl dX5_isSound_38 ?_
        refine g_run X KX5_isSound_41_6 KX5_isSound_41_6_d 42 [(0, .ref (ad 0))] [.ref (ad 0), .int (I 8 3)] rfl ?_
        refine g_get X (srcR hRO) (v := .ref (ad 1)) hinX5 rfl 0 (by decide) w_183 rfl (wc_mem (k := 0) (by decide)) rfl dX5_isSound_42 ?_
        refine g_get X (srcR hRO) (v := .int (I 8 2)) hinX4 rfl 4 (by decide) w_102 rfl (wc_mem (k := 1) (by decide)) rfl dX5_isSound_45 ?_
        refine g_icmp_gt X 55 dX5_isSound_48 (by decide) (fun hc8 => ?_) (fun hc8 => ?_)
        · have hno : ¬ snd I S := fun z => absurd z.2.2.2 (Int32.not_le.mpr hc8)
          refine g_run X KX5_isSound_55_1 KX5_isSound_55_1_d 56 [(0, .ref (ad 0))] [.int (nI 0)] rfl ?_
          exact g_zret X hr (by decide +kernel) () (by show some (Value.int _) = some (Value.int _); rw [pB_f hno]) (trivial) ((List.append_nil _).symm) (Nat.le_of_ble_eq_true rfl) (Nat.le_of_ble_eq_true rfl) dX5_isSound_56
        · have hyes : snd I S := ⟨h1, h2, h3, Int32.not_lt.mp hc8⟩
          refine g_run X KX5_isSound_51_7 KX5_isSound_51_7_d 56 [(0, .ref (ad 0))] [.int (nI 1)] rfl ?_
          exact g_zret X hr (by decide +kernel) () (by show some (Value.int _) = some (Value.int _); rw [pB_t hyes]) (trivial) ((List.append_nil _).symm) (Nat.le_of_ble_eq_true rfl) (Nat.le_of_ble_eq_true rfl) dX5_isSound_56

