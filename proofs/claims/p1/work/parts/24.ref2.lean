
theorem lc_ge {x y : Int64} : 0 ≤ lg_cmp x y ↔ ¬ x < y := by rw [← lc_lt]; exact ⟨fun h => Int32.not_lt.mpr h, fun h => Int32.not_lt.mp h⟩
theorem d44 {x : Int64} : x < (17592186044416 : Int64) ↔ x ≤ (17592186044415 : Int64) := by
  rw [Int64.lt_iff_toInt_lt, Int64.le_iff_toInt_le, show (17592186044416 : Int64).toInt = 17592186044416 from by decide +kernel, show (17592186044415 : Int64).toInt = 17592186044415 from by decide +kernel]
  omega
theorem in_1 {b : Bool} : nI (bN b) = nI 1 ↔ b = true := by cases b <;> decide
/-- keys that chips may have -/
def kOK (I : Nat → Nat → Int32) : Prop := ∀ c, c < 18 → I 1 c = -nI 1 ∨ ∃ k, k < 16 ∧ I 1 c = nI k
theorem rd_key {I : Nat → Nat → Int32} {L : Nat → Nat → Int64} {c q k : Nat} (h : ¬ I 1 c = -nI 1) (hk : k < 16) (e : I 1 c = nI k) : rd I L c q = (k + q) % 16 := by
  rw [rd, if_neg h, e, pk_tn (by omega)]
theorem nib_big {x : Int64} {p : Nat} (h : 16 ≤ p) : nib x p = 0 := by
  unfold nib
  have h1 : x.toBitVec.toNat < 16 ^ p := Nat.lt_of_lt_of_le (show x.toBitVec.toNat < 16 ^ 16 from x.toBitVec.isLt) (Nat.pow_le_pow_right (by decide) h)
  rw [Nat.div_eq_of_lt h1]
/-- a word as fifteen numbers -/
def wA (x : Int64) (p : Nat) : Int32 := nI (nib x p)
theorem wA_0 : wA (lN 0) = fun _ => 0 := by
  funext p; unfold wA; rw [nib_0]; rfl
theorem wA_up {x : Int64} {p v : Nat} (hp : p < 15) (hv : v < 16) : upd (wA x) p (nI v) = wA (wn x p v) := by
  funext j
  unfold upd wA
  by_cases h : j < 16
  · rw [nib_wn (by omega) hv h]
    by_cases e : j = p
    · rw [if_pos e, if_pos e]
    · rw [if_neg e, if_neg e]
  · rw [if_neg (by omega), nib_big (by omega), nib_big (by omega)]
theorem gmp' : ∀ m, m < 15 → ∀ a, a < 16 → gm a (pw m) = tp a m := by decide +kernel
theorem gmp {a : Nat} (n : Nat) (ha : a < 16) : gm a (pw (n % 15)) = tp a n := by rw [gmp' _ (Nat.mod_lt _ (by decide)) _ ha, tp_mod]
/-- spares left, of the first i chips -/
def spn (I : Nat → Nat → Int32) : Nat → Nat
  | 0 => 0
  | i + 1 => if I 0 i = -nI 1 ∧ I 4 i = 0 then spn I i + 1 else spn I i
theorem hrdRO {D : va_G} {cl : List vw_C} {A : Nat → Prop} {s : State} {ws wc wr ro : va_W} (hR : RO D cl A s ro) (hw : ws = wc ++ wr) : va_D A ws → ∀ x ∈ ro, ∀ y ∈ wc, x.1 ≠ y.1 := by
  intro hD x hx y hy e
  subst hw
  exact hR.2 x hx (by rw [e]; exact D_mem hD (List.mem_append_left _ hy))

def KX9_isData_0_0 : List (Nat × Instr × Nat) := [(0, .lload_n 0, 1), (1, .lconst 0, 1), (2, .lcmp, 1)]
theorem KX9_isData_0_0_d : ∀ z ∈ KX9_isData_0_0, decode cX9_isData z.1 = .ok z.2 := by decide +kernel
def KX9_isData_6_1 : List (Nat × Instr × Nat) := [(6, .lload_n 0, 1)]
theorem KX9_isData_6_1_d : ∀ z ∈ KX9_isData_6_1, decode cX9_isData z.1 = .ok z.2 := by decide +kernel
def KX9_isData_10_2 : List (Nat × Instr × Nat) := [(10, .lcmp, 1)]
theorem KX9_isData_10_2_d : ∀ z ∈ KX9_isData_10_2, decode cX9_isData z.1 = .ok z.2 := by decide +kernel
def KX9_isData_14_3 : List (Nat × Instr × Nat) := [(14, .iconst 1, 1), (15, .goto 4, 3)]
theorem KX9_isData_14_3_d : ∀ z ∈ KX9_isData_14_3, decode cX9_isData z.1 = .ok z.2 := by decide +kernel
set_option maxHeartbeats 4000000 in
set_option maxRecDepth 100000 in
theorem c_X9_isData_t (l : Launch) (D : va_G) (g : Nat → ClassId) (x : Int64) (hx : dOK x) : CT l yX9_isData cX9_isData 2 ((Option.some FieldType.boolean)) ({ frames := 0, cells := 0, slots := 0, locals := 0 } : Room) [.long x] D CL (TYS g) ([]) ([]) (S := Unit) (fun _ => some (.int (nI 1))) (fun _ => []) (fun _ => True) 0 0 := by
  refine ct_of (by decide +kernel) (Nat.le_of_ble_eq_true rfl) ?_
  intro p e s m below meth c A X hr hnm hSB hRO hAf
  refine g_cs (ws' := []) (lv' := [(0, .long x)]) rfl rfl ?_
  refine g_run X KX9_isData_0_0 KX9_isData_0_0_d 3 [(0, .long x)] [.int (lg_cmp x (lN 0))] rfl ?_
  refine g_if_lt X 18 dX9_isData_3 (by decide) (fun hc1 => ?_) (fun hc1 => ?_)
  · rw [lc_lt] at hc1; exact (hx.1 hc1).elim
  · refine g_run X KX9_isData_6_1 KX9_isData_6_1_d 7 [(0, .long x)] [.long x] rfl ?_
    refine g_ldc2 X (v := (17592186044416 : Int64)) w_1268 dX9_isData_7 ?_
    refine g_run X KX9_isData_10_2 KX9_isData_10_2_d 11 [(0, .long x)] [.int (lg_cmp x (17592186044416 : Int64))] rfl ?_
    refine g_if_ge X 18 dX9_isData_11 (by decide) (fun hc2 => ?_) (fun hc2 => ?_)
    · rw [lc_ge, d44] at hc2; exact (hc2 hx.2).elim
    · refine g_run X KX9_isData_14_3 KX9_isData_14_3_d 19 [(0, .long x)] [.int (nI 1)] rfl ?_
      exact g_zret X hr (by decide +kernel) () (rfl) (trivial) ((List.append_nil _).symm) (Nat.le_of_ble_eq_true rfl) (Nat.le_of_ble_eq_true rfl) dX9_isData_19

def KX9_isData_18_4 : List (Nat × Instr × Nat) := [(18, .iconst 0, 1)]
theorem KX9_isData_18_4_d : ∀ z ∈ KX9_isData_18_4, decode cX9_isData z.1 = .ok z.2 := by decide +kernel
set_option maxHeartbeats 4000000 in
set_option maxRecDepth 100000 in
theorem c_X9_isData_f (l : Launch) (D : va_G) (g : Nat → ClassId) (x : Int64) (hx : ¬ dOK x) : CT l yX9_isData cX9_isData 2 ((Option.some FieldType.boolean)) ({ frames := 0, cells := 0, slots := 0, locals := 0 } : Room) [.long x] D CL (TYS g) ([]) ([]) (S := Unit) (fun _ => some (.int (nI 0))) (fun _ => []) (fun _ => True) 0 0 := by
  refine ct_of (by decide +kernel) (Nat.le_of_ble_eq_true rfl) ?_
  intro p e s m below meth c A X hr hnm hSB hRO hAf
  refine g_cs (ws' := []) (lv' := [(0, .long x)]) rfl rfl ?_
  refine g_run X KX9_isData_0_0 KX9_isData_0_0_d 3 [(0, .long x)] [.int (lg_cmp x (lN 0))] rfl ?_
  refine g_if_lt X 18 dX9_isData_3 (by decide) (fun hc1 => ?_) (fun hc1 => ?_)
  · refine g_run X KX9_isData_18_4 KX9_isData_18_4_d 19 [(0, .long x)] [.int (nI 0)] rfl ?_
    exact g_zret X hr (by decide +kernel) () (rfl) (trivial) ((List.append_nil _).symm) (Nat.le_of_ble_eq_true rfl) (Nat.le_of_ble_eq_true rfl) dX9_isData_19
  · rw [lc_lt] at hc1; have h0 := hc1
    refine g_run X KX9_isData_6_1 KX9_isData_6_1_d 7 [(0, .long x)] [.long x] rfl ?_
    refine g_ldc2 X (v := (17592186044416 : Int64)) w_1268 dX9_isData_7 ?_
    refine g_run X KX9_isData_10_2 KX9_isData_10_2_d 11 [(0, .long x)] [.int (lg_cmp x (17592186044416 : Int64))] rfl ?_
    refine g_if_ge X 18 dX9_isData_11 (by decide) (fun hc2 => ?_) (fun hc2 => ?_)
    · refine g_run X KX9_isData_18_4 KX9_isData_18_4_d 19 [(0, .long x)] [.int (nI 0)] rfl ?_
      exact g_zret X hr (by decide +kernel) () (rfl) (trivial) ((List.append_nil _).symm) (Nat.le_of_ble_eq_true rfl) (Nat.le_of_ble_eq_true rfl) dX9_isData_19
    · rw [lc_ge, d44, Classical.not_not] at hc2; exact (hx ⟨h0, hc2⟩).elim

def KX9_isIn_0_0 : List (Nat × Instr × Nat) := [(0, .iload_n 0, 1), (1, .iload_n 1, 1), (2, .ishr, 1), (3, .iconst 1, 1), (4, .iand, 1), (5, .iconst 1, 1)]
theorem KX9_isIn_0_0_d : ∀ z ∈ KX9_isIn_0_0, decode cX9_isIn z.1 = .ok z.2 := by decide +kernel
def KX9_isIn_13_1 : List (Nat × Instr × Nat) := [(13, .iconst 0, 1)]
theorem KX9_isIn_13_1_d : ∀ z ∈ KX9_isIn_13_1, decode cX9_isIn z.1 = .ok z.2 := by decide +kernel
def KX9_isIn_9_2 : List (Nat × Instr × Nat) := [(9, .iconst 1, 1), (10, .goto 4, 3)]
theorem KX9_isIn_9_2_d : ∀ z ∈ KX9_isIn_9_2, decode cX9_isIn z.1 = .ok z.2 := by decide +kernel
set_option maxHeartbeats 4000000 in
set_option maxRecDepth 100000 in
theorem c_X9_isIn (l : Launch) (D : va_G) (g : Nat → ClassId) (b : Nat) (q : Nat) (hb : b < 2 ^ 31) (hq : q < 31) : CT l yX9_isIn cX9_isIn 2 ((Option.some FieldType.boolean)) ({ frames := 0, cells := 0, slots := 0, locals := 0 } : Room) [.int (nI b), .int (nI q)] D CL (TYS g) ([]) ([]) (S := Unit) (fun _ => some (.int (nI (bN (b.testBit q))))) (fun _ => []) (fun _ => True) 0 0 := by
  refine ct_of (by decide +kernel) (Nat.le_of_ble_eq_true rfl) ?_
  intro p e s m below meth c A X hr hnm hSB hRO hAf
  refine g_cs (ws' := []) (lv' := [(0, .int (nI b)), (1, .int (nI q))]) rfl rfl ?_
  refine g_run X KX9_isIn_0_0 KX9_isIn_0_0_d 6 [(0, .int (nI b)), (1, .int (nI q))] [.int (nI 1), .int (((nI b) >>> ((nI q) &&& 31)) &&& (nI 1))] rfl ?_
  refine g_icmp_ne X 13 dX9_isIn_6 (by decide) (fun hc1 => ?_) (fun hc1 => ?_)
  · rw [in_eq hb hq, in_1] at hc1
    refine g_run X KX9_isIn_13_1 KX9_isIn_13_1_d 14 [(0, .int (nI b)), (1, .int (nI q))] [.int (nI 0)] rfl ?_
    exact g_zret X hr (by decide +kernel) () (by show some (Value.int _) = some (Value.int _); simp [bN, *]) (trivial) ((List.append_nil _).symm) (Nat.le_of_ble_eq_true rfl) (Nat.le_of_ble_eq_true rfl) dX9_isIn_14
  · rw [in_eq hb hq, in_1] at hc1
    refine g_run X KX9_isIn_9_2 KX9_isIn_9_2_d 14 [(0, .int (nI b)), (1, .int (nI q))] [.int (nI 1)] rfl ?_
    exact g_zret X hr (by decide +kernel) () (by show some (Value.int _) = some (Value.int _); simp [bN, *]) (trivial) ((List.append_nil _).symm) (Nat.le_of_ble_eq_true rfl) (Nat.le_of_ble_eq_true rfl) dX9_isIn_14

def KX9_stuck_0_0 : List (Nat × Instr × Nat) := [(0, .iconst 0, 1), (1, .istore_n 2, 1), (2, .iconst 0, 1), (3, .istore_n 3, 1)]
theorem KX9_stuck_0_0_d : ∀ z ∈ KX9_stuck_0_0, decode cX9_stuck z.1 = .ok z.2 := by decide +kernel
def KX9_stuck_4_1 : List (Nat × Instr × Nat) := [(4, .iload_n 3, 1), (5, .bipush 16, 2)]
theorem KX9_stuck_4_1_d : ∀ z ∈ KX9_stuck_4_1, decode cX9_stuck z.1 = .ok z.2 := by decide +kernel
def KX9_stuck_38_2 : List (Nat × Instr × Nat) := [(38, .iload_n 2, 1)]
theorem KX9_stuck_38_2_d : ∀ z ∈ KX9_stuck_38_2, decode cX9_stuck z.1 = .ok z.2 := by decide +kernel
def KX9_stuck_10_3 : List (Nat × Instr × Nat) := [(10, .iload_n 2, 1), (11, .aload_n 0, 1)]
theorem KX9_stuck_10_3_d : ∀ z ∈ KX9_stuck_10_3, decode cX9_stuck z.1 = .ok z.2 := by decide +kernel
def KX9_stuck_15_4 : List (Nat × Instr × Nat) := [(15, .iload_n 1, 1), (16, .bipush 16, 2), (18, .imul, 1), (19, .iload_n 3, 1), (20, .iadd, 1)]
theorem KX9_stuck_15_4_d : ∀ z ∈ KX9_stuck_15_4, decode cX9_stuck z.1 = .ok z.2 := by decide +kernel
def KX9_stuck_29_5 : List (Nat × Instr × Nat) := [(29, .iconst 1, 1), (30, .iadd, 1), (31, .istore_n 2, 1), (32, .iinc 3 1, 3), (35, .goto (-31), 3)]
theorem KX9_stuck_29_5_d : ∀ z ∈ KX9_stuck_29_5, decode cX9_stuck z.1 = .ok z.2 := by decide +kernel
def KX9_stuck_25_6 : List (Nat × Instr × Nat) := [(25, .iconst 0, 1), (26, .goto 4, 3), (30, .iadd, 1), (31, .istore_n 2, 1), (32, .iinc 3 1, 3), (35, .goto (-31), 3)]
theorem KX9_stuck_25_6_d : ∀ z ∈ KX9_stuck_25_6, decode cX9_stuck z.1 = .ok z.2 := by decide +kernel
set_option maxHeartbeats 4000000 in
set_option maxRecDepth 100000 in
theorem c_X9_stuck (l : Launch) (D : va_G) (g : Nat → ClassId) (ad : Nat → Nat) (I : Nat → Nat → Int32) (L : Nat → Nat → Int64) (S : Nat → Nat) (Z : Nat → Nat → Int32) (Y : Int64) (ch : Nat) (hch : ch < 18) : CT l yX9_stuck cX9_stuck 4 ((Option.some FieldType.int)) ({ frames := 0, cells := 0, slots := 0, locals := 0 } : Room) [.ref (ad 0), .int (nI ch)] D CL (TYS g) ([]) (WM ad g I L S Z Y) (S := Unit) (fun _ => some (.int (nI (stk L ch 16)))) (fun _ => WM ad g I L S Z Y) (fun _ => True) 0 0 := by
  refine ct_of (by decide +kernel) (Nat.le_of_ble_eq_true rfl) ?_
  intro p e s m below meth c A X hr hnm hSB hRO hAf
  refine g_cs (ws' := WM ad g I L S Z Y ++ []) (lv' := [(0, .ref (ad 0)), (1, .int (nI ch))]) (List.append_nil _) rfl ?_
  refine g_run X KX9_stuck_0_0 KX9_stuck_0_0_d 4 [(3, .int (nI 0)), (2, .int (nI 0)), (0, .ref (ad 0)), (1, .int (nI ch))] [] rfl ?_
  refine g_lv (lv' := [(0, .ref (ad 0)), (1, .int (nI ch)), (2, .int (nI 0)), (3, .int (nI 0))]) (lsub_c 2 rfl (lsub_c 3 rfl (lsub_c 1 rfl (lsub_c 0 rfl (lsub_n))))) ?_
  refine g_for 16 (fun _ => WM ad g I L S Z Y ++ []) (fun i => [(0, .ref (ad 0)), (1, .int (nI ch)), (2, .int (nI (stk L ch i))), (3, .int (nI i))]) (rfl) (rfl) ?_ ?_
  · refine g_run X KX9_stuck_4_1 KX9_stuck_4_1_d 7 [(0, .ref (ad 0)), (1, .int (nI ch)), (2, .int (nI (stk L ch 16))), (3, .int (nI 16))] [.int (nI 16), .int (nI 16)] rfl ?_
    refine g_icmp_ge X 38 dX9_stuck_7 (by decide) (fun hc1 => ?_) (fun hc1 => ?_)
    · refine g_run X KX9_stuck_38_2 KX9_stuck_38_2_d 39 [(0, .ref (ad 0)), (1, .int (nI ch)), (2, .int (nI (stk L ch 16))), (3, .int (nI 16))] [.int (nI (stk L ch 16))] rfl ?_
      exact g_iret X hr () (rfl) (trivial) (rfl) (Nat.le_of_ble_eq_true rfl) (Nat.le_of_ble_eq_true rfl) dX9_stuck_39
    · rw [nI_leI (by omega) (by omega)] at hc1; first | omega | (simp at hc1)
  · intro i hi k4
    refine g_run X KX9_stuck_4_1 KX9_stuck_4_1_d 7 [(0, .ref (ad 0)), (1, .int (nI ch)), (2, .int (nI (stk L ch i))), (3, .int (nI i))] [.int (nI 16), .int (nI i)] rfl ?_
    refine g_icmp_ge X 38 dX9_stuck_7 (by decide) (fun hc2 => ?_) (fun hc2 => ?_)
    · rw [nI_leI (by omega) (by omega)] at hc2; first | omega | (simp at hc2)
    · refine g_run X KX9_stuck_10_3 KX9_stuck_10_3_d 12 [(0, .ref (ad 0)), (1, .int (nI ch)), (2, .int (nI (stk L ch i))), (3, .int (nI i))] [.ref (ad 0), .int (nI (stk L ch i))] rfl ?_
      refine g_get X srcW (v := .ref (ad 4)) hinX9 rfl 4 (by decide) w_1184 rfl (wm_mem (k := 0) (by decide)) rfl dX9_stuck_12 ?_
      refine g_run X KX9_stuck_15_4 KX9_stuck_15_4_d 21 [(0, .ref (ad 0)), (1, .int (nI ch)), (2, .int (nI (stk L ch i))), (3, .int (nI i))] [.int (((nI ch) * (nI 16)) + (nI i)), .ref (ad 4), .int (nI (stk L ch i))] rfl ?_
      refine g_nm (lv' := [(0, .ref (ad 0)), (1, .int (nI ch)), (2, .int (nI (stk L ch i))), (3, .int (nI i))]) (st' := [.int (nI ((ch * 16) + i)), .ref (ad 4), .int (nI (stk L ch i))]) (by simp only [nI_add, pk_mul]) (by simp only [nI_add, pk_mul]) ?_
      refine g_iald X srcW (v := nI (nib (L 1 ch) i)) 0 rfl (wm_mem (k := 4) (by decide)) ((ch * 16) + i) rfl (by omega) (by decide) (ar_at (c := ch) (q := i) (by omega)) dX9_stuck_21 ?_
      refine g_if_ne X 29 dX9_stuck_22 (by decide) (fun hc3 => ?_) (fun hc3 => ?_)
      · rw [nz_eq (by have := nib_lt (L 1 ch) i; omega)] at hc3
        refine g_run X KX9_stuck_29_5 KX9_stuck_29_5_d 4 [(3, .int ((nI i) + (nI 1))), (2, .int ((nI (stk L ch i)) + (nI 1))), (0, .ref (ad 0)), (1, .int (nI ch))] [] rfl ?_
        refine g_nm (lv' := [(3, .int (nI (i + 1))), (2, .int (nI ((stk L ch i) + 1))), (0, .ref (ad 0)), (1, .int (nI ch))]) (st' := []) (by simp only [nI_add]) (by simp only [nI_add]) ?_
        refine g_lv (lv' := [(0, .ref (ad 0)), (1, .int (nI ch)), (2, .int (nI ((stk L ch i) + 1))), (3, .int (nI (i + 1)))]) (lsub_c 2 rfl (lsub_c 3 rfl (lsub_c 1 rfl (lsub_c 0 rfl (lsub_n))))) ?_
        refine g_cs (ws' := WM ad g I L S Z Y ++ []) (lv' := [(0, .ref (ad 0)), (1, .int (nI ch)), (2, .int (nI (stk L ch (i + 1)))), (3, .int (nI (i + 1)))]) (rfl) (by simp [stk, *]) ?_
        exact k4
      · rw [nz_eq (by have := nib_lt (L 1 ch) i; omega)] at hc3
        refine g_run X KX9_stuck_25_6 KX9_stuck_25_6_d 4 [(3, .int ((nI i) + (nI 1))), (2, .int ((nI (stk L ch i)) + (nI 0))), (0, .ref (ad 0)), (1, .int (nI ch))] [] rfl ?_
        refine g_nm (lv' := [(3, .int (nI (i + 1))), (2, .int (nI ((stk L ch i) + 0))), (0, .ref (ad 0)), (1, .int (nI ch))]) (st' := []) (by simp only [nI_add]) (by simp only [nI_add]) ?_
        refine g_lv (lv' := [(0, .ref (ad 0)), (1, .int (nI ch)), (2, .int (nI ((stk L ch i) + 0))), (3, .int (nI (i + 1)))]) (lsub_c 2 rfl (lsub_c 3 rfl (lsub_c 1 rfl (lsub_c 0 rfl (lsub_n))))) ?_
        refine g_cs (ws' := WM ad g I L S Z Y ++ []) (lv' := [(0, .ref (ad 0)), (1, .int (nI ch)), (2, .int (nI (stk L ch (i + 1)))), (3, .int (nI (i + 1)))]) (rfl) (by simp [stk, *]) ?_
        exact k4

def KX9_stick_0_0 : List (Nat × Instr × Nat) := [(0, .aload_n 0, 1), (1, .iconst 0, 1)]
theorem KX9_stick_0_0_d : ∀ z ∈ KX9_stick_0_0, decode cX9_stick z.1 = .ok z.2 := by decide +kernel
def KX9_stick_5_1 : List (Nat × Instr × Nat) := [(5, .iload_n 1, 1)]
theorem KX9_stick_5_1_d : ∀ z ∈ KX9_stick_5_1, decode cX9_stick z.1 = .ok z.2 := by decide +kernel
def KX9_stick_12_2 : List (Nat × Instr × Nat) := [(12, .iload_n 2, 1)]
theorem KX9_stick_12_2_d : ∀ z ∈ KX9_stick_12_2, decode cX9_stick z.1 = .ok z.2 := by decide +kernel
def KX9_stick_25_3 : List (Nat × Instr × Nat) := [(25, .iload_n 3, 1), (26, .iconst 0, 1), (27, .bipush 15, 2)]
theorem KX9_stick_25_3_d : ∀ z ∈ KX9_stick_25_3, decode cX9_stick z.1 = .ok z.2 := by decide +kernel
def KX9_stick_35_4 : List (Nat × Instr × Nat) := [(35, .iload 4, 2), (37, .iconst 0, 1), (38, .bipush 15, 2)]
theorem KX9_stick_35_4_d : ∀ z ∈ KX9_stick_35_4, decode cX9_stick z.1 = .ok z.2 := by decide +kernel
def KX9_stick_52_5 : List (Nat × Instr × Nat) := [(52, .aload_n 0, 1)]
theorem KX9_stick_52_5_d : ∀ z ∈ KX9_stick_52_5, decode cX9_stick z.1 = .ok z.2 := by decide +kernel
def KX9_stick_56_6 : List (Nat × Instr × Nat) := [(56, .iload_n 1, 1), (57, .bipush 16, 2), (59, .imul, 1), (60, .iload_n 2, 1), (61, .iadd, 1), (62, .iload_n 3, 1)]
theorem KX9_stick_56_6_d : ∀ z ∈ KX9_stick_56_6, decode cX9_stick z.1 = .ok z.2 := by decide +kernel
def KX9_stick_64_7 : List (Nat × Instr × Nat) := [(64, .aload_n 0, 1)]
theorem KX9_stick_64_7_d : ∀ z ∈ KX9_stick_64_7, decode cX9_stick z.1 = .ok z.2 := by decide +kernel
def KX9_stick_68_8 : List (Nat × Instr × Nat) := [(68, .iload_n 1, 1), (69, .bipush 16, 2), (71, .imul, 1), (72, .iload_n 2, 1), (73, .iadd, 1), (74, .iload 4, 2)]
theorem KX9_stick_68_8_d : ∀ z ∈ KX9_stick_68_8, decode cX9_stick z.1 = .ok z.2 := by decide +kernel
def KX9_stick_77_9 : List (Nat × Instr × Nat) := [(77, .aload_n 0, 1), (78, .iload_n 1, 1)]
theorem KX9_stick_77_9_d : ∀ z ∈ KX9_stick_77_9, decode cX9_stick z.1 = .ok z.2 := by decide +kernel
set_option maxHeartbeats 4000000 in
set_option maxRecDepth 100000 in
theorem c_X9_stick (l : Launch) (D : va_G) (g : Nat → ClassId) (ad : Nat → Nat) (I : Nat → Nat → Int32) (L : Nat → Nat → Int64) (S : Nat → Nat) (Z : Nat → Nat → Int32) (Y : Int64) (ch : Nat) (q : Nat) (v : Nat) (z : Nat) (hch : ch < 18) (hq : q < 16) (hv : v < 16) (hz : z < 16) : CT l yX9_stick cX9_stick 5 ((Option.some FieldType.int)) ({ frames := 2, cells := 0, slots := 0, locals := 42 } : Room) [.ref (ad 0), .int (nI ch), .int (nI q), .int (nI v), .int (nI z)] D CL (TYS g) ([]) (WM ad g I L S Z Y) (S := Unit) (fun _ => some (.int (nI (stk (u2 (u2 L 1 ch (wn (L 1 ch) q v)) 2 ch (wn (L 2 ch) q z)) ch 16)))) (fun _ => WM ad g I (u2 (u2 L 1 ch (wn (L 1 ch) q v)) 2 ch (wn (L 2 ch) q z)) S (u2 Z 3 0 (nI 0)) Y) (fun _ => True) 0 0 := by
  refine ct_of (by decide +kernel) (Nat.le_of_ble_eq_true rfl) ?_
  intro p e s m below meth c A X hr hnm hSB hRO hAf
  refine g_cs (ws' := WM ad g I L S Z Y ++ []) (lv' := [(0, .ref (ad 0)), (1, .int (nI ch)), (2, .int (nI q)), (3, .int (nI v)), (4, .int (nI z))]) (List.append_nil _) rfl ?_
  refine g_run X KX9_stick_0_0 KX9_stick_0_0_d 2 [(0, .ref (ad 0)), (1, .int (nI ch)), (2, .int (nI q)), (3, .int (nI v)), (4, .int (nI z))] [.int (nI 0), .ref (ad 0)] rfl ?_
  refine g_put X (ws' := WM ad g I L S (u2 Z 3 0 (nI 0)) Y ++ []) hinX9 tyX9 tyX9_ok nmX9 rfl 0 (by decide) w_1180 rfl rfl (ty := .int) rfl rfl rfl (0) (wm_get (k := 0) (by decide)) (Nat.le_of_ble_eq_true rfl) (wm_mo0) dX9_stick_2 ?_
  refine g_run X KX9_stick_5_1 KX9_stick_5_1_d 6 [(0, .ref (ad 0)), (1, .int (nI ch)), (2, .int (nI q)), (3, .int (nI v)), (4, .int (nI z))] [.int (nI ch)] rfl ?_
  refine g_callS X hSB hAf (As := [.int (nI ch)]) (wr := WM ad g I L S (u2 Z 3 0 (nI 0)) Y ++ []) (n := 1) (c_X9_isChip_t l D g ch (by omega)) rfl srcN hrdN w_1316 w_1314 w_1315 w_6 (by decide +kernel) rfl ⟨Nat.le_of_ble_eq_true rfl, Nat.le_of_ble_eq_true rfl⟩ rfl rfl rfl (Nat.le_of_ble_eq_true rfl) ⟨Nat.le_of_ble_eq_true rfl, Nat.le_of_ble_eq_true rfl⟩ dX9_stick_6 (fun hu1 _ => ?_)
  refine g_af (ws' := WM ad g I L S (u2 Z 3 0 (nI 0)) Y ++ []) (st' := [.int (nI 1)]) (cells' := 0) (slots' := 0) (pc' := 9) rfl rfl rfl rfl rfl ?_
  refine g_if_eq X 19 dX9_stick_9 (by decide) (fun hc2 => ?_) (fun hc2 => ?_)
  · rw [nz_eq (by omega)] at hc2; first | omega | (simp at hc2)
  · refine g_run X KX9_stick_12_2 KX9_stick_12_2_d 13 [(0, .ref (ad 0)), (1, .int (nI ch)), (2, .int (nI q)), (3, .int (nI v)), (4, .int (nI z))] [.int (nI q)] rfl ?_
    refine g_callS X hSB hAf (As := [.int (nI q)]) (wr := WM ad g I L S (u2 Z 3 0 (nI 0)) Y ++ []) (n := 1) (c_X9_isLine_t l D g q (by omega)) rfl srcN hrdN w_1257 w_1255 w_1256 w_6 (by decide +kernel) rfl ⟨Nat.le_of_ble_eq_true rfl, Nat.le_of_ble_eq_true rfl⟩ rfl rfl rfl (Nat.le_of_ble_eq_true rfl) ⟨Nat.le_of_ble_eq_true rfl, Nat.le_of_ble_eq_true rfl⟩ dX9_stick_13 (fun hu3 _ => ?_)
    refine g_af (ws' := WM ad g I L S (u2 Z 3 0 (nI 0)) Y ++ []) (st' := [.int (nI 1)]) (cells' := 0) (slots' := 0) (pc' := 16) rfl rfl rfl rfl rfl ?_
    refine g_if_ne X 25 dX9_stick_16 (by decide) (fun hc4 => ?_) (fun hc4 => ?_)
    · refine g_run X KX9_stick_25_3 KX9_stick_25_3_d 29 [(0, .ref (ad 0)), (1, .int (nI ch)), (2, .int (nI q)), (3, .int (nI v)), (4, .int (nI z))] [.int (nI 15), .int (nI 0), .int (nI v)] rfl ?_
      refine g_callS X hSB hAf (As := [.int (nI v), .int (nI 0), .int (nI 15)]) (wr := WM ad g I L S (u2 Z 3 0 (nI 0)) Y ++ []) (n := 3) (c_X9_is_t l D g v 0 15 (by omega) (by omega) (by omega)) rfl srcN hrdN w_1260 w_1258 w_1259 w_6 (by decide +kernel) rfl ⟨Nat.le_of_ble_eq_true rfl, Nat.le_of_ble_eq_true rfl⟩ rfl rfl rfl (Nat.le_of_ble_eq_true rfl) ⟨Nat.le_of_ble_eq_true rfl, Nat.le_of_ble_eq_true rfl⟩ dX9_stick_29 (fun hu5 _ => ?_)
      refine g_af (ws' := WM ad g I L S (u2 Z 3 0 (nI 0)) Y ++ []) (st' := [.int (nI 1)]) (cells' := 0) (slots' := 0) (pc' := 32) rfl rfl rfl rfl rfl ?_
      refine g_if_eq X 46 dX9_stick_32 (by decide) (fun hc6 => ?_) (fun hc6 => ?_)
      · rw [nz_eq (by omega)] at hc6; first | omega | (simp at hc6)
      · refine g_run X KX9_stick_35_4 KX9_stick_35_4_d 40 [(0, .ref (ad 0)), (1, .int (nI ch)), (2, .int (nI q)), (3, .int (nI v)), (4, .int (nI z))] [.int (nI 15), .int (nI 0), .int (nI z)] rfl ?_
        refine g_callS X hSB hAf (As := [.int (nI z), .int (nI 0), .int (nI 15)]) (wr := WM ad g I L S (u2 Z 3 0 (nI 0)) Y ++ []) (n := 3) (c_X9_is_t l D g z 0 15 (by omega) (by omega) (by omega)) rfl srcN hrdN w_1260 w_1258 w_1259 w_6 (by decide +kernel) rfl ⟨Nat.le_of_ble_eq_true rfl, Nat.le_of_ble_eq_true rfl⟩ rfl rfl rfl (Nat.le_of_ble_eq_true rfl) ⟨Nat.le_of_ble_eq_true rfl, Nat.le_of_ble_eq_true rfl⟩ dX9_stick_40 (fun hu7 _ => ?_)
        refine g_af (ws' := WM ad g I L S (u2 Z 3 0 (nI 0)) Y ++ []) (st' := [.int (nI 1)]) (cells' := 0) (slots' := 0) (pc' := 43) rfl rfl rfl rfl rfl ?_
        refine g_if_ne X 52 dX9_stick_43 (by decide) (fun hc8 => ?_) (fun hc8 => ?_)
        · refine g_run X KX9_stick_52_5 KX9_stick_52_5_d 53 [(0, .ref (ad 0)), (1, .int (nI ch)), (2, .int (nI q)), (3, .int (nI v)), (4, .int (nI z))] [.ref (ad 0)] rfl ?_
          refine g_get X srcW (v := .ref (ad 4)) hinX9 rfl 4 (by decide) w_1184 rfl (wm_mem (k := 0) (by decide)) rfl dX9_stick_53 ?_
          refine g_run X KX9_stick_56_6 KX9_stick_56_6_d 63 [(0, .ref (ad 0)), (1, .int (nI ch)), (2, .int (nI q)), (3, .int (nI v)), (4, .int (nI z))] [.int (nI v), .int (((nI ch) * (nI 16)) + (nI q)), .ref (ad 4)] rfl ?_
          refine g_nm (lv' := [(0, .ref (ad 0)), (1, .int (nI ch)), (2, .int (nI q)), (3, .int (nI v)), (4, .int (nI z))]) (st' := [.int (nI v), .int (nI ((ch * 16) + q)), .ref (ad 4)]) (by simp only [nI_add, pk_mul]) (by simp only [nI_add, pk_mul]) ?_
          refine g_iast X (ws' := WM ad g I (u2 L 1 ch (wn (L 1 ch) q v)) S (u2 Z 3 0 (nI 0)) Y ++ []) 0 rfl 4 (wm_get (k := 4) (by decide)) ((ch * 16) + q) rfl (by omega) (by decide) (wm_ar1 (c := ch) (q := q) (by omega) (by omega)) dX9_stick_63 ?_
          refine g_run X KX9_stick_64_7 KX9_stick_64_7_d 65 [(0, .ref (ad 0)), (1, .int (nI ch)), (2, .int (nI q)), (3, .int (nI v)), (4, .int (nI z))] [.ref (ad 0)] rfl ?_
          refine g_get X srcW (v := .ref (ad 5)) hinX9 rfl 5 (by decide) w_1185 rfl (wm_mem (k := 0) (by decide)) rfl dX9_stick_65 ?_
          refine g_run X KX9_stick_68_8 KX9_stick_68_8_d 76 [(0, .ref (ad 0)), (1, .int (nI ch)), (2, .int (nI q)), (3, .int (nI v)), (4, .int (nI z))] [.int (nI z), .int (((nI ch) * (nI 16)) + (nI q)), .ref (ad 5)] rfl ?_
          refine g_nm (lv' := [(0, .ref (ad 0)), (1, .int (nI ch)), (2, .int (nI q)), (3, .int (nI v)), (4, .int (nI z))]) (st' := [.int (nI z), .int (nI ((ch * 16) + q)), .ref (ad 5)]) (by simp only [nI_add, pk_mul]) (by simp only [nI_add, pk_mul]) ?_
          refine g_iast X (ws' := WM ad g I (u2 (u2 L 1 ch (wn (L 1 ch) q v)) 2 ch (wn (L 2 ch) q z)) S (u2 Z 3 0 (nI 0)) Y ++ []) 0 rfl 5 (wm_get (k := 5) (by decide)) ((ch * 16) + q) rfl (by omega) (by decide) (wm_ar2 (c := ch) (q := q) (by omega) (by omega)) dX9_stick_76 ?_
          refine g_run X KX9_stick_77_9 KX9_stick_77_9_d 79 [(0, .ref (ad 0)), (1, .int (nI ch)), (2, .int (nI q)), (3, .int (nI v)), (4, .int (nI z))] [.int (nI ch), .ref (ad 0)] rfl ?_
          refine g_callV X hSB hAf (srcW) (hrc1 := (rfl : CL[8]? = some _)) (wm_mem (k := 0) (by decide)) rfl (As := [.int (nI ch)]) (wr := []) (n := 1) (c_X9_stuck l D g ad I (u2 (u2 L 1 ch (wn (L 1 ch) q v)) 2 ch (wn (L 2 ch) q z)) S (u2 Z 3 0 (nI 0)) Y ch (by omega)) rfl srcN hrdN w_1320 w_1317 w_1319 w_s22 w_6 (by decide +kernel) rfl ⟨Nat.le_of_ble_eq_true rfl, Nat.le_of_ble_eq_true rfl⟩ rfl rfl rfl (Nat.le_of_ble_eq_true rfl) ⟨Nat.le_of_ble_eq_true rfl, Nat.le_of_ble_eq_true rfl⟩ dX9_stick_79 (fun hu9 _ => ?_)
          refine g_af (ws' := WM ad g I (u2 (u2 L 1 ch (wn (L 1 ch) q v)) 2 ch (wn (L 2 ch) q z)) S (u2 Z 3 0 (nI 0)) Y ++ []) (st' := [.int (nI (stk (u2 (u2 L 1 ch (wn (L 1 ch) q v)) 2 ch (wn (L 2 ch) q z)) ch 16))]) (cells' := 0) (slots' := 0) (pc' := 82) rfl rfl rfl rfl rfl ?_
          exact g_iret X hr () (rfl) (trivial) (rfl) (Nat.le_of_ble_eq_true rfl) (Nat.le_of_ble_eq_true rfl) dX9_stick_82
        · rw [nz_eq (by omega)] at hc8; first | omega | (simp at hc8)
    · rw [nz_eq (by omega)] at hc4; first | omega | (simp at hc4)

def KX9_stick_19_10 : List (Nat × Instr × Nat) := [(19, .aload_n 0, 1), (20, .iconst 1, 1)]
theorem KX9_stick_19_10_d : ∀ z ∈ KX9_stick_19_10, decode cX9_stick z.1 = .ok z.2 := by decide +kernel
set_option maxHeartbeats 4000000 in
set_option maxRecDepth 100000 in
theorem c_X9_stick_1 (l : Launch) (D : va_G) (g : Nat → ClassId) (ad : Nat → Nat) (I : Nat → Nat → Int32) (L : Nat → Nat → Int64) (S : Nat → Nat) (Z : Nat → Nat → Int32) (Y : Int64) (x : Int32) (y1 : Int32) (y2 : Int32) (y3 : Int32) (hx : x < 0 ∨ ¬ x ≤ nI 17) : CT l yX9_stick cX9_stick 5 ((Option.some FieldType.int)) ({ frames := 2, cells := 0, slots := 0, locals := 42 } : Room) [.ref (ad 0), .int x, .int y1, .int y2, .int y3] D CL (TYS g) ([]) (WM ad g I L S Z Y) (S := Unit) (fun _ => some (.int (nI 0))) (fun _ => WM ad g I L S (u2 (u2 Z 3 0 (nI 0)) 3 0 (nI 1)) Y) (fun _ => True) 0 0 := by
  refine ct_of (by decide +kernel) (Nat.le_of_ble_eq_true rfl) ?_
  intro p e s m below meth c A X hr hnm hSB hRO hAf
  refine g_cs (ws' := WM ad g I L S Z Y ++ []) (lv' := [(0, .ref (ad 0)), (1, .int x), (2, .int y1), (3, .int y2), (4, .int y3)]) (List.append_nil _) rfl ?_
  refine g_run X KX9_stick_0_0 KX9_stick_0_0_d 2 [(0, .ref (ad 0)), (1, .int x), (2, .int y1), (3, .int y2), (4, .int y3)] [.int (nI 0), .ref (ad 0)] rfl ?_
  refine g_put X (ws' := WM ad g I L S (u2 Z 3 0 (nI 0)) Y ++ []) hinX9 tyX9 tyX9_ok nmX9 rfl 0 (by decide) w_1180 rfl rfl (ty := .int) rfl rfl rfl (0) (wm_get (k := 0) (by decide)) (Nat.le_of_ble_eq_true rfl) (wm_mo0) dX9_stick_2 ?_
  refine g_run X KX9_stick_5_1 KX9_stick_5_1_d 6 [(0, .ref (ad 0)), (1, .int x), (2, .int y1), (3, .int y2), (4, .int y3)] [.int x] rfl ?_
  refine g_callS X hSB hAf (As := [.int x]) (wr := WM ad g I L S (u2 Z 3 0 (nI 0)) Y ++ []) (n := 1) (c_X9_isChip_f l D g x (hx)) rfl srcN hrdN w_1316 w_1314 w_1315 w_6 (by decide +kernel) rfl ⟨Nat.le_of_ble_eq_true rfl, Nat.le_of_ble_eq_true rfl⟩ rfl rfl rfl (Nat.le_of_ble_eq_true rfl) ⟨Nat.le_of_ble_eq_true rfl, Nat.le_of_ble_eq_true rfl⟩ dX9_stick_6 (fun hu1 _ => ?_)
  refine g_af (ws' := WM ad g I L S (u2 Z 3 0 (nI 0)) Y ++ []) (st' := [.int (nI 0)]) (cells' := 0) (slots' := 0) (pc' := 9) rfl rfl rfl rfl rfl ?_
  refine g_if_eq X 19 dX9_stick_9 (by decide) (fun hc2 => ?_) (fun hc2 => ?_)
  · refine g_run X KX9_stick_19_10 KX9_stick_19_10_d 21 [(0, .ref (ad 0)), (1, .int x), (2, .int y1), (3, .int y2), (4, .int y3)] [.int (nI 1), .ref (ad 0)] rfl ?_
    refine g_callV X hSB hAf (srcW) (hrc1 := (rfl : CL[8]? = some _)) (wm_mem (k := 0) (by decide)) rfl (As := [.int (nI 1)]) (wr := []) (n := 1) (c_X9_refuse l D g ad I L S (u2 Z 3 0 (nI 0)) Y 1 ) rfl srcN hrdN w_1264 w_1261 w_1263 w_s12 w_6 (by decide +kernel) rfl ⟨Nat.le_of_ble_eq_true rfl, Nat.le_of_ble_eq_true rfl⟩ rfl rfl rfl (Nat.le_of_ble_eq_true rfl) ⟨Nat.le_of_ble_eq_true rfl, Nat.le_of_ble_eq_true rfl⟩ dX9_stick_21 (fun hu3 _ => ?_)
    refine g_af (ws' := WM ad g I L S (u2 (u2 Z 3 0 (nI 0)) 3 0 (nI 1)) Y ++ []) (st' := [.int (nI 0)]) (cells' := 0) (slots' := 0) (pc' := 24) rfl rfl rfl rfl rfl ?_
    exact g_iret X hr () (rfl) (trivial) (rfl) (Nat.le_of_ble_eq_true rfl) (Nat.le_of_ble_eq_true rfl) dX9_stick_24
  · rw [nz_eq (by omega)] at hc2; first | omega | (simp at hc2)

set_option maxHeartbeats 4000000 in
set_option maxRecDepth 100000 in
theorem c_X9_stick_2 (l : Launch) (D : va_G) (g : Nat → ClassId) (ad : Nat → Nat) (I : Nat → Nat → Int32) (L : Nat → Nat → Int64) (S : Nat → Nat) (Z : Nat → Nat → Int32) (Y : Int64) (ch : Nat) (x : Int32) (y1 : Int32) (y2 : Int32) (hch : ch < 18) (hx : x < 0 ∨ ¬ x ≤ nI 15) : CT l yX9_stick cX9_stick 5 ((Option.some FieldType.int)) ({ frames := 2, cells := 0, slots := 0, locals := 42 } : Room) [.ref (ad 0), .int (nI ch), .int x, .int y1, .int y2] D CL (TYS g) ([]) (WM ad g I L S Z Y) (S := Unit) (fun _ => some (.int (nI 0))) (fun _ => WM ad g I L S (u2 (u2 Z 3 0 (nI 0)) 3 0 (nI 1)) Y) (fun _ => True) 0 0 := by
  refine ct_of (by decide +kernel) (Nat.le_of_ble_eq_true rfl) ?_
  intro p e s m below meth c A X hr hnm hSB hRO hAf
  refine g_cs (ws' := WM ad g I L S Z Y ++ []) (lv' := [(0, .ref (ad 0)), (1, .int (nI ch)), (2, .int x), (3, .int y1), (4, .int y2)]) (List.append_nil _) rfl ?_
  refine g_run X KX9_stick_0_0 KX9_stick_0_0_d 2 [(0, .ref (ad 0)), (1, .int (nI ch)), (2, .int x), (3, .int y1), (4, .int y2)] [.int (nI 0), .ref (ad 0)] rfl ?_
  refine g_put X (ws' := WM ad g I L S (u2 Z 3 0 (nI 0)) Y ++ []) hinX9 tyX9 tyX9_ok nmX9 rfl 0 (by decide) w_1180 rfl rfl (ty := .int) rfl rfl rfl (0) (wm_get (k := 0) (by decide)) (Nat.le_of_ble_eq_true rfl) (wm_mo0) dX9_stick_2 ?_
  refine g_run X KX9_stick_5_1 KX9_stick_5_1_d 6 [(0, .ref (ad 0)), (1, .int (nI ch)), (2, .int x), (3, .int y1), (4, .int y2)] [.int (nI ch)] rfl ?_
  refine g_callS X hSB hAf (As := [.int (nI ch)]) (wr := WM ad g I L S (u2 Z 3 0 (nI 0)) Y ++ []) (n := 1) (c_X9_isChip_t l D g ch (by omega)) rfl srcN hrdN w_1316 w_1314 w_1315 w_6 (by decide +kernel) rfl ⟨Nat.le_of_ble_eq_true rfl, Nat.le_of_ble_eq_true rfl⟩ rfl rfl rfl (Nat.le_of_ble_eq_true rfl) ⟨Nat.le_of_ble_eq_true rfl, Nat.le_of_ble_eq_true rfl⟩ dX9_stick_6 (fun hu1 _ => ?_)
  refine g_af (ws' := WM ad g I L S (u2 Z 3 0 (nI 0)) Y ++ []) (st' := [.int (nI 1)]) (cells' := 0) (slots' := 0) (pc' := 9) rfl rfl rfl rfl rfl ?_
  refine g_if_eq X 19 dX9_stick_9 (by decide) (fun hc2 => ?_) (fun hc2 => ?_)
  · rw [nz_eq (by omega)] at hc2; first | omega | (simp at hc2)
  · refine g_run X KX9_stick_12_2 KX9_stick_12_2_d 13 [(0, .ref (ad 0)), (1, .int (nI ch)), (2, .int x), (3, .int y1), (4, .int y2)] [.int x] rfl ?_
    refine g_callS X hSB hAf (As := [.int x]) (wr := WM ad g I L S (u2 Z 3 0 (nI 0)) Y ++ []) (n := 1) (c_X9_isLine_f l D g x (hx)) rfl srcN hrdN w_1257 w_1255 w_1256 w_6 (by decide +kernel) rfl ⟨Nat.le_of_ble_eq_true rfl, Nat.le_of_ble_eq_true rfl⟩ rfl rfl rfl (Nat.le_of_ble_eq_true rfl) ⟨Nat.le_of_ble_eq_true rfl, Nat.le_of_ble_eq_true rfl⟩ dX9_stick_13 (fun hu3 _ => ?_)
    refine g_af (ws' := WM ad g I L S (u2 Z 3 0 (nI 0)) Y ++ []) (st' := [.int (nI 0)]) (cells' := 0) (slots' := 0) (pc' := 16) rfl rfl rfl rfl rfl ?_
    refine g_if_ne X 25 dX9_stick_16 (by decide) (fun hc4 => ?_) (fun hc4 => ?_)
    · rw [nz_eq (by omega)] at hc4; first | omega | (simp at hc4)
    · refine g_run X KX9_stick_19_10 KX9_stick_19_10_d 21 [(0, .ref (ad 0)), (1, .int (nI ch)), (2, .int x), (3, .int y1), (4, .int y2)] [.int (nI 1), .ref (ad 0)] rfl ?_
      refine g_callV X hSB hAf (srcW) (hrc1 := (rfl : CL[8]? = some _)) (wm_mem (k := 0) (by decide)) rfl (As := [.int (nI 1)]) (wr := []) (n := 1) (c_X9_refuse l D g ad I L S (u2 Z 3 0 (nI 0)) Y 1 ) rfl srcN hrdN w_1264 w_1261 w_1263 w_s12 w_6 (by decide +kernel) rfl ⟨Nat.le_of_ble_eq_true rfl, Nat.le_of_ble_eq_true rfl⟩ rfl rfl rfl (Nat.le_of_ble_eq_true rfl) ⟨Nat.le_of_ble_eq_true rfl, Nat.le_of_ble_eq_true rfl⟩ dX9_stick_21 (fun hu5 _ => ?_)
      refine g_af (ws' := WM ad g I L S (u2 (u2 Z 3 0 (nI 0)) 3 0 (nI 1)) Y ++ []) (st' := [.int (nI 0)]) (cells' := 0) (slots' := 0) (pc' := 24) rfl rfl rfl rfl rfl ?_
      exact g_iret X hr () (rfl) (trivial) (rfl) (Nat.le_of_ble_eq_true rfl) (Nat.le_of_ble_eq_true rfl) dX9_stick_24

def KX9_stick_46_11 : List (Nat × Instr × Nat) := [(46, .aload_n 0, 1), (47, .iconst 2, 1)]
theorem KX9_stick_46_11_d : ∀ z ∈ KX9_stick_46_11, decode cX9_stick z.1 = .ok z.2 := by decide +kernel
set_option maxHeartbeats 4000000 in
set_option maxRecDepth 100000 in
theorem c_X9_stick_3 (l : Launch) (D : va_G) (g : Nat → ClassId) (ad : Nat → Nat) (I : Nat → Nat → Int32) (L : Nat → Nat → Int64) (S : Nat → Nat) (Z : Nat → Nat → Int32) (Y : Int64) (ch : Nat) (q : Nat) (x : Int32) (y1 : Int32) (hch : ch < 18) (hq : q < 16) (hx : x < nI 0 ∨ ¬ x ≤ nI 15) : CT l yX9_stick cX9_stick 5 ((Option.some FieldType.int)) ({ frames := 2, cells := 0, slots := 0, locals := 42 } : Room) [.ref (ad 0), .int (nI ch), .int (nI q), .int x, .int y1] D CL (TYS g) ([]) (WM ad g I L S Z Y) (S := Unit) (fun _ => some (.int (nI 0))) (fun _ => WM ad g I L S (u2 (u2 Z 3 0 (nI 0)) 3 0 (nI 2)) Y) (fun _ => True) 0 0 := by
  refine ct_of (by decide +kernel) (Nat.le_of_ble_eq_true rfl) ?_
  intro p e s m below meth c A X hr hnm hSB hRO hAf
  refine g_cs (ws' := WM ad g I L S Z Y ++ []) (lv' := [(0, .ref (ad 0)), (1, .int (nI ch)), (2, .int (nI q)), (3, .int x), (4, .int y1)]) (List.append_nil _) rfl ?_
  refine g_run X KX9_stick_0_0 KX9_stick_0_0_d 2 [(0, .ref (ad 0)), (1, .int (nI ch)), (2, .int (nI q)), (3, .int x), (4, .int y1)] [.int (nI 0), .ref (ad 0)] rfl ?_
  refine g_put X (ws' := WM ad g I L S (u2 Z 3 0 (nI 0)) Y ++ []) hinX9 tyX9 tyX9_ok nmX9 rfl 0 (by decide) w_1180 rfl rfl (ty := .int) rfl rfl rfl (0) (wm_get (k := 0) (by decide)) (Nat.le_of_ble_eq_true rfl) (wm_mo0) dX9_stick_2 ?_
  refine g_run X KX9_stick_5_1 KX9_stick_5_1_d 6 [(0, .ref (ad 0)), (1, .int (nI ch)), (2, .int (nI q)), (3, .int x), (4, .int y1)] [.int (nI ch)] rfl ?_
  refine g_callS X hSB hAf (As := [.int (nI ch)]) (wr := WM ad g I L S (u2 Z 3 0 (nI 0)) Y ++ []) (n := 1) (c_X9_isChip_t l D g ch (by omega)) rfl srcN hrdN w_1316 w_1314 w_1315 w_6 (by decide +kernel) rfl ⟨Nat.le_of_ble_eq_true rfl, Nat.le_of_ble_eq_true rfl⟩ rfl rfl rfl (Nat.le_of_ble_eq_true rfl) ⟨Nat.le_of_ble_eq_true rfl, Nat.le_of_ble_eq_true rfl⟩ dX9_stick_6 (fun hu1 _ => ?_)
  refine g_af (ws' := WM ad g I L S (u2 Z 3 0 (nI 0)) Y ++ []) (st' := [.int (nI 1)]) (cells' := 0) (slots' := 0) (pc' := 9) rfl rfl rfl rfl rfl ?_
  refine g_if_eq X 19 dX9_stick_9 (by decide) (fun hc2 => ?_) (fun hc2 => ?_)
  · rw [nz_eq (by omega)] at hc2; first | omega | (simp at hc2)
  · refine g_run X KX9_stick_12_2 KX9_stick_12_2_d 13 [(0, .ref (ad 0)), (1, .int (nI ch)), (2, .int (nI q)), (3, .int x), (4, .int y1)] [.int (nI q)] rfl ?_
    refine g_callS X hSB hAf (As := [.int (nI q)]) (wr := WM ad g I L S (u2 Z 3 0 (nI 0)) Y ++ []) (n := 1) (c_X9_isLine_t l D g q (by omega)) rfl srcN hrdN w_1257 w_1255 w_1256 w_6 (by decide +kernel) rfl ⟨Nat.le_of_ble_eq_true rfl, Nat.le_of_ble_eq_true rfl⟩ rfl rfl rfl (Nat.le_of_ble_eq_true rfl) ⟨Nat.le_of_ble_eq_true rfl, Nat.le_of_ble_eq_true rfl⟩ dX9_stick_13 (fun hu3 _ => ?_)
    refine g_af (ws' := WM ad g I L S (u2 Z 3 0 (nI 0)) Y ++ []) (st' := [.int (nI 1)]) (cells' := 0) (slots' := 0) (pc' := 16) rfl rfl rfl rfl rfl ?_
    refine g_if_ne X 25 dX9_stick_16 (by decide) (fun hc4 => ?_) (fun hc4 => ?_)
    · refine g_run X KX9_stick_25_3 KX9_stick_25_3_d 29 [(0, .ref (ad 0)), (1, .int (nI ch)), (2, .int (nI q)), (3, .int x), (4, .int y1)] [.int (nI 15), .int (nI 0), .int x] rfl ?_
      refine g_callS X hSB hAf (As := [.int x, .int (nI 0), .int (nI 15)]) (wr := WM ad g I L S (u2 Z 3 0 (nI 0)) Y ++ []) (n := 3) (c_X9_is_f l D g x (nI 0) (nI 15) (hx)) rfl srcN hrdN w_1260 w_1258 w_1259 w_6 (by decide +kernel) rfl ⟨Nat.le_of_ble_eq_true rfl, Nat.le_of_ble_eq_true rfl⟩ rfl rfl rfl (Nat.le_of_ble_eq_true rfl) ⟨Nat.le_of_ble_eq_true rfl, Nat.le_of_ble_eq_true rfl⟩ dX9_stick_29 (fun hu5 _ => ?_)
      refine g_af (ws' := WM ad g I L S (u2 Z 3 0 (nI 0)) Y ++ []) (st' := [.int (nI 0)]) (cells' := 0) (slots' := 0) (pc' := 32) rfl rfl rfl rfl rfl ?_
      refine g_if_eq X 46 dX9_stick_32 (by decide) (fun hc6 => ?_) (fun hc6 => ?_)
      · refine g_run X KX9_stick_46_11 KX9_stick_46_11_d 48 [(0, .ref (ad 0)), (1, .int (nI ch)), (2, .int (nI q)), (3, .int x), (4, .int y1)] [.int (nI 2), .ref (ad 0)] rfl ?_
        refine g_callV X hSB hAf (srcW) (hrc1 := (rfl : CL[8]? = some _)) (wm_mem (k := 0) (by decide)) rfl (As := [.int (nI 2)]) (wr := []) (n := 1) (c_X9_refuse l D g ad I L S (u2 Z 3 0 (nI 0)) Y 2 ) rfl srcN hrdN w_1264 w_1261 w_1263 w_s12 w_6 (by decide +kernel) rfl ⟨Nat.le_of_ble_eq_true rfl, Nat.le_of_ble_eq_true rfl⟩ rfl rfl rfl (Nat.le_of_ble_eq_true rfl) ⟨Nat.le_of_ble_eq_true rfl, Nat.le_of_ble_eq_true rfl⟩ dX9_stick_48 (fun hu7 _ => ?_)
        refine g_af (ws' := WM ad g I L S (u2 (u2 Z 3 0 (nI 0)) 3 0 (nI 2)) Y ++ []) (st' := [.int (nI 0)]) (cells' := 0) (slots' := 0) (pc' := 51) rfl rfl rfl rfl rfl ?_
        exact g_iret X hr () (rfl) (trivial) (rfl) (Nat.le_of_ble_eq_true rfl) (Nat.le_of_ble_eq_true rfl) dX9_stick_51
      · rw [nz_eq (by omega)] at hc6; first | omega | (simp at hc6)
    · rw [nz_eq (by omega)] at hc4; first | omega | (simp at hc4)

set_option maxHeartbeats 4000000 in
set_option maxRecDepth 100000 in
theorem c_X9_stick_4 (l : Launch) (D : va_G) (g : Nat → ClassId) (ad : Nat → Nat) (I : Nat → Nat → Int32) (L : Nat → Nat → Int64) (S : Nat → Nat) (Z : Nat → Nat → Int32) (Y : Int64) (ch : Nat) (q : Nat) (v : Nat) (x : Int32) (hch : ch < 18) (hq : q < 16) (hv : v < 16) (hx : x < nI 0 ∨ ¬ x ≤ nI 15) : CT l yX9_stick cX9_stick 5 ((Option.some FieldType.int)) ({ frames := 2, cells := 0, slots := 0, locals := 42 } : Room) [.ref (ad 0), .int (nI ch), .int (nI q), .int (nI v), .int x] D CL (TYS g) ([]) (WM ad g I L S Z Y) (S := Unit) (fun _ => some (.int (nI 0))) (fun _ => WM ad g I L S (u2 (u2 Z 3 0 (nI 0)) 3 0 (nI 2)) Y) (fun _ => True) 0 0 := by
  refine ct_of (by decide +kernel) (Nat.le_of_ble_eq_true rfl) ?_
  intro p e s m below meth c A X hr hnm hSB hRO hAf
  refine g_cs (ws' := WM ad g I L S Z Y ++ []) (lv' := [(0, .ref (ad 0)), (1, .int (nI ch)), (2, .int (nI q)), (3, .int (nI v)), (4, .int x)]) (List.append_nil _) rfl ?_
  refine g_run X KX9_stick_0_0 KX9_stick_0_0_d 2 [(0, .ref (ad 0)), (1, .int (nI ch)), (2, .int (nI q)), (3, .int (nI v)), (4, .int x)] [.int (nI 0), .ref (ad 0)] rfl ?_
  refine g_put X (ws' := WM ad g I L S (u2 Z 3 0 (nI 0)) Y ++ []) hinX9 tyX9 tyX9_ok nmX9 rfl 0 (by decide) w_1180 rfl rfl (ty := .int) rfl rfl rfl (0) (wm_get (k := 0) (by decide)) (Nat.le_of_ble_eq_true rfl) (wm_mo0) dX9_stick_2 ?_
  refine g_run X KX9_stick_5_1 KX9_stick_5_1_d 6 [(0, .ref (ad 0)), (1, .int (nI ch)), (2, .int (nI q)), (3, .int (nI v)), (4, .int x)] [.int (nI ch)] rfl ?_
  refine g_callS X hSB hAf (As := [.int (nI ch)]) (wr := WM ad g I L S (u2 Z 3 0 (nI 0)) Y ++ []) (n := 1) (c_X9_isChip_t l D g ch (by omega)) rfl srcN hrdN w_1316 w_1314 w_1315 w_6 (by decide +kernel) rfl ⟨Nat.le_of_ble_eq_true rfl, Nat.le_of_ble_eq_true rfl⟩ rfl rfl rfl (Nat.le_of_ble_eq_true rfl) ⟨Nat.le_of_ble_eq_true rfl, Nat.le_of_ble_eq_true rfl⟩ dX9_stick_6 (fun hu1 _ => ?_)
  refine g_af (ws' := WM ad g I L S (u2 Z 3 0 (nI 0)) Y ++ []) (st' := [.int (nI 1)]) (cells' := 0) (slots' := 0) (pc' := 9) rfl rfl rfl rfl rfl ?_
  refine g_if_eq X 19 dX9_stick_9 (by decide) (fun hc2 => ?_) (fun hc2 => ?_)
  · rw [nz_eq (by omega)] at hc2; first | omega | (simp at hc2)
  · refine g_run X KX9_stick_12_2 KX9_stick_12_2_d 13 [(0, .ref (ad 0)), (1, .int (nI ch)), (2, .int (nI q)), (3, .int (nI v)), (4, .int x)] [.int (nI q)] rfl ?_
    refine g_callS X hSB hAf (As := [.int (nI q)]) (wr := WM ad g I L S (u2 Z 3 0 (nI 0)) Y ++ []) (n := 1) (c_X9_isLine_t l D g q (by omega)) rfl srcN hrdN w_1257 w_1255 w_1256 w_6 (by decide +kernel) rfl ⟨Nat.le_of_ble_eq_true rfl, Nat.le_of_ble_eq_true rfl⟩ rfl rfl rfl (Nat.le_of_ble_eq_true rfl) ⟨Nat.le_of_ble_eq_true rfl, Nat.le_of_ble_eq_true rfl⟩ dX9_stick_13 (fun hu3 _ => ?_)
    refine g_af (ws' := WM ad g I L S (u2 Z 3 0 (nI 0)) Y ++ []) (st' := [.int (nI 1)]) (cells' := 0) (slots' := 0) (pc' := 16) rfl rfl rfl rfl rfl ?_
    refine g_if_ne X 25 dX9_stick_16 (by decide) (fun hc4 => ?_) (fun hc4 => ?_)
    · refine g_run X KX9_stick_25_3 KX9_stick_25_3_d 29 [(0, .ref (ad 0)), (1, .int (nI ch)), (2, .int (nI q)), (3, .int (nI v)), (4, .int x)] [.int (nI 15), .int (nI 0), .int (nI v)] rfl ?_
      refine g_callS X hSB hAf (As := [.int (nI v), .int (nI 0), .int (nI 15)]) (wr := WM ad g I L S (u2 Z 3 0 (nI 0)) Y ++ []) (n := 3) (c_X9_is_t l D g v 0 15 (by omega) (by omega) (by omega)) rfl srcN hrdN w_1260 w_1258 w_1259 w_6 (by decide +kernel) rfl ⟨Nat.le_of_ble_eq_true rfl, Nat.le_of_ble_eq_true rfl⟩ rfl rfl rfl (Nat.le_of_ble_eq_true rfl) ⟨Nat.le_of_ble_eq_true rfl, Nat.le_of_ble_eq_true rfl⟩ dX9_stick_29 (fun hu5 _ => ?_)
      refine g_af (ws' := WM ad g I L S (u2 Z 3 0 (nI 0)) Y ++ []) (st' := [.int (nI 1)]) (cells' := 0) (slots' := 0) (pc' := 32) rfl rfl rfl rfl rfl ?_
      refine g_if_eq X 46 dX9_stick_32 (by decide) (fun hc6 => ?_) (fun hc6 => ?_)
      · rw [nz_eq (by omega)] at hc6; first | omega | (simp at hc6)
      · refine g_run X KX9_stick_35_4 KX9_stick_35_4_d 40 [(0, .ref (ad 0)), (1, .int (nI ch)), (2, .int (nI q)), (3, .int (nI v)), (4, .int x)] [.int (nI 15), .int (nI 0), .int x] rfl ?_
        refine g_callS X hSB hAf (As := [.int x, .int (nI 0), .int (nI 15)]) (wr := WM ad g I L S (u2 Z 3 0 (nI 0)) Y ++ []) (n := 3) (c_X9_is_f l D g x (nI 0) (nI 15) (hx)) rfl srcN hrdN w_1260 w_1258 w_1259 w_6 (by decide +kernel) rfl ⟨Nat.le_of_ble_eq_true rfl, Nat.le_of_ble_eq_true rfl⟩ rfl rfl rfl (Nat.le_of_ble_eq_true rfl) ⟨Nat.le_of_ble_eq_true rfl, Nat.le_of_ble_eq_true rfl⟩ dX9_stick_40 (fun hu7 _ => ?_)
        refine g_af (ws' := WM ad g I L S (u2 Z 3 0 (nI 0)) Y ++ []) (st' := [.int (nI 0)]) (cells' := 0) (slots' := 0) (pc' := 43) rfl rfl rfl rfl rfl ?_
        refine g_if_ne X 52 dX9_stick_43 (by decide) (fun hc8 => ?_) (fun hc8 => ?_)
        · rw [nz_eq (by omega)] at hc8; first | omega | (simp at hc8)
        · refine g_run X KX9_stick_46_11 KX9_stick_46_11_d 48 [(0, .ref (ad 0)), (1, .int (nI ch)), (2, .int (nI q)), (3, .int (nI v)), (4, .int x)] [.int (nI 2), .ref (ad 0)] rfl ?_
          refine g_callV X hSB hAf (srcW) (hrc1 := (rfl : CL[8]? = some _)) (wm_mem (k := 0) (by decide)) rfl (As := [.int (nI 2)]) (wr := []) (n := 1) (c_X9_refuse l D g ad I L S (u2 Z 3 0 (nI 0)) Y 2 ) rfl srcN hrdN w_1264 w_1261 w_1263 w_s12 w_6 (by decide +kernel) rfl ⟨Nat.le_of_ble_eq_true rfl, Nat.le_of_ble_eq_true rfl⟩ rfl rfl rfl (Nat.le_of_ble_eq_true rfl) ⟨Nat.le_of_ble_eq_true rfl, Nat.le_of_ble_eq_true rfl⟩ dX9_stick_48 (fun hu9 _ => ?_)
          refine g_af (ws' := WM ad g I L S (u2 (u2 Z 3 0 (nI 0)) 3 0 (nI 2)) Y ++ []) (st' := [.int (nI 0)]) (cells' := 0) (slots' := 0) (pc' := 51) rfl rfl rfl rfl rfl ?_
          exact g_iret X hr () (rfl) (trivial) (rfl) (Nat.le_of_ble_eq_true rfl) (Nat.le_of_ble_eq_true rfl) dX9_stick_51
    · rw [nz_eq (by omega)] at hc4; first | omega | (simp at hc4)

def KX9_ray_0_0 : List (Nat × Instr × Nat) := [(0, .aload_n 0, 1), (1, .iconst 0, 1)]
theorem KX9_ray_0_0_d : ∀ z ∈ KX9_ray_0_0, decode cX9_ray z.1 = .ok z.2 := by decide +kernel
def KX9_ray_5_1 : List (Nat × Instr × Nat) := [(5, .iload_n 1, 1)]
theorem KX9_ray_5_1_d : ∀ z ∈ KX9_ray_5_1, decode cX9_ray z.1 = .ok z.2 := by decide +kernel
def KX9_ray_12_2 : List (Nat × Instr × Nat) := [(12, .iload_n 2, 1)]
theorem KX9_ray_12_2_d : ∀ z ∈ KX9_ray_12_2, decode cX9_ray z.1 = .ok z.2 := by decide +kernel
def KX9_ray_25_3 : List (Nat × Instr × Nat) := [(25, .iload_n 3, 1), (26, .iconst 1, 1), (27, .bipush 15, 2)]
theorem KX9_ray_25_3_d : ∀ z ∈ KX9_ray_25_3, decode cX9_ray z.1 = .ok z.2 := by decide +kernel
def KX9_ray_41_4 : List (Nat × Instr × Nat) := [(41, .iload_n 1, 1), (42, .bipush 16, 2), (44, .imul, 1), (45, .iload_n 2, 1), (46, .iadd, 1), (47, .istore 4, 2), (49, .aload_n 0, 1)]
theorem KX9_ray_41_4_d : ∀ z ∈ KX9_ray_41_4, decode cX9_ray z.1 = .ok z.2 := by decide +kernel
def KX9_ray_53_5 : List (Nat × Instr × Nat) := [(53, .iload 4, 2), (55, .dup2, 1)]
theorem KX9_ray_53_5_d : ∀ z ∈ KX9_ray_53_5, decode cX9_ray z.1 = .ok z.2 := by decide +kernel
def KX9_ray_57_6 : List (Nat × Instr × Nat) := [(57, .iload_n 3, 1), (58, .ixor, 1)]
theorem KX9_ray_57_6_d : ∀ z ∈ KX9_ray_57_6, decode cX9_ray z.1 = .ok z.2 := by decide +kernel
def KX9_ray_60_7 : List (Nat × Instr × Nat) := [(60, .aload_n 0, 1)]
theorem KX9_ray_60_7_d : ∀ z ∈ KX9_ray_60_7, decode cX9_ray z.1 = .ok z.2 := by decide +kernel
def KX9_ray_64_8 : List (Nat × Instr × Nat) := [(64, .iload 4, 2)]
theorem KX9_ray_64_8_d : ∀ z ∈ KX9_ray_64_8, decode cX9_ray z.1 = .ok z.2 := by decide +kernel
set_option maxHeartbeats 4000000 in
set_option maxRecDepth 100000 in
theorem c_X9_ray (l : Launch) (D : va_G) (g : Nat → ClassId) (ad : Nat → Nat) (I : Nat → Nat → Int32) (L : Nat → Nat → Int64) (S : Nat → Nat) (Z : Nat → Nat → Int32) (Y : Int64) (ch : Nat) (q : Nat) (v : Nat) (hch : ch < 18) (hq : q < 16) (h1 : 1 ≤ v) (hv : v < 16) : CT l yX9_ray cX9_ray 5 ((Option.some FieldType.int)) ({ frames := 2, cells := 0, slots := 0, locals := 42 } : Room) [.ref (ad 0), .int (nI ch), .int (nI q), .int (nI v)] D CL (TYS g) ([]) (WM ad g I L S Z Y) (S := Unit) (fun _ => some (.int (nI (nib (wn (L 0 ch) q (nib (L 0 ch) q ^^^ v)) q)))) (fun _ => WM ad g I (u2 L 0 ch (wn (L 0 ch) q (nib (L 0 ch) q ^^^ v))) S (u2 Z 3 0 (nI 0)) Y) (fun _ => True) 0 0 := by
  refine ct_of (by decide +kernel) (Nat.le_of_ble_eq_true rfl) ?_
  intro p e s m below meth c A X hr hnm hSB hRO hAf
  refine g_cs (ws' := WM ad g I L S Z Y ++ []) (lv' := [(0, .ref (ad 0)), (1, .int (nI ch)), (2, .int (nI q)), (3, .int (nI v))]) (List.append_nil _) rfl ?_
  refine g_run X KX9_ray_0_0 KX9_ray_0_0_d 2 [(0, .ref (ad 0)), (1, .int (nI ch)), (2, .int (nI q)), (3, .int (nI v))] [.int (nI 0), .ref (ad 0)] rfl ?_
  refine g_put X (ws' := WM ad g I L S (u2 Z 3 0 (nI 0)) Y ++ []) hinX9 tyX9 tyX9_ok nmX9 rfl 0 (by decide) w_1180 rfl rfl (ty := .int) rfl rfl rfl (0) (wm_get (k := 0) (by decide)) (Nat.le_of_ble_eq_true rfl) (wm_mo0) dX9_ray_2 ?_
  refine g_run X KX9_ray_5_1 KX9_ray_5_1_d 6 [(0, .ref (ad 0)), (1, .int (nI ch)), (2, .int (nI q)), (3, .int (nI v))] [.int (nI ch)] rfl ?_
  refine g_callS X hSB hAf (As := [.int (nI ch)]) (wr := WM ad g I L S (u2 Z 3 0 (nI 0)) Y ++ []) (n := 1) (c_X9_isChip_t l D g ch (by omega)) rfl srcN hrdN w_1316 w_1314 w_1315 w_6 (by decide +kernel) rfl ⟨Nat.le_of_ble_eq_true rfl, Nat.le_of_ble_eq_true rfl⟩ rfl rfl rfl (Nat.le_of_ble_eq_true rfl) ⟨Nat.le_of_ble_eq_true rfl, Nat.le_of_ble_eq_true rfl⟩ dX9_ray_6 (fun hu1 _ => ?_)
  refine g_af (ws' := WM ad g I L S (u2 Z 3 0 (nI 0)) Y ++ []) (st' := [.int (nI 1)]) (cells' := 0) (slots' := 0) (pc' := 9) rfl rfl rfl rfl rfl ?_
  refine g_if_eq X 19 dX9_ray_9 (by decide) (fun hc2 => ?_) (fun hc2 => ?_)
  · rw [nz_eq (by omega)] at hc2; first | omega | (simp at hc2)
  · refine g_run X KX9_ray_12_2 KX9_ray_12_2_d 13 [(0, .ref (ad 0)), (1, .int (nI ch)), (2, .int (nI q)), (3, .int (nI v))] [.int (nI q)] rfl ?_
    refine g_callS X hSB hAf (As := [.int (nI q)]) (wr := WM ad g I L S (u2 Z 3 0 (nI 0)) Y ++ []) (n := 1) (c_X9_isLine_t l D g q (by omega)) rfl srcN hrdN w_1257 w_1255 w_1256 w_6 (by decide +kernel) rfl ⟨Nat.le_of_ble_eq_true rfl, Nat.le_of_ble_eq_true rfl⟩ rfl rfl rfl (Nat.le_of_ble_eq_true rfl) ⟨Nat.le_of_ble_eq_true rfl, Nat.le_of_ble_eq_true rfl⟩ dX9_ray_13 (fun hu3 _ => ?_)
    refine g_af (ws' := WM ad g I L S (u2 Z 3 0 (nI 0)) Y ++ []) (st' := [.int (nI 1)]) (cells' := 0) (slots' := 0) (pc' := 16) rfl rfl rfl rfl rfl ?_
    refine g_if_ne X 25 dX9_ray_16 (by decide) (fun hc4 => ?_) (fun hc4 => ?_)
    · refine g_run X KX9_ray_25_3 KX9_ray_25_3_d 29 [(0, .ref (ad 0)), (1, .int (nI ch)), (2, .int (nI q)), (3, .int (nI v))] [.int (nI 15), .int (nI 1), .int (nI v)] rfl ?_
      refine g_callS X hSB hAf (As := [.int (nI v), .int (nI 1), .int (nI 15)]) (wr := WM ad g I L S (u2 Z 3 0 (nI 0)) Y ++ []) (n := 3) (c_X9_is_t l D g v 1 15 (by omega) (by omega) (by omega)) rfl srcN hrdN w_1260 w_1258 w_1259 w_6 (by decide +kernel) rfl ⟨Nat.le_of_ble_eq_true rfl, Nat.le_of_ble_eq_true rfl⟩ rfl rfl rfl (Nat.le_of_ble_eq_true rfl) ⟨Nat.le_of_ble_eq_true rfl, Nat.le_of_ble_eq_true rfl⟩ dX9_ray_29 (fun hu5 _ => ?_)
      refine g_af (ws' := WM ad g I L S (u2 Z 3 0 (nI 0)) Y ++ []) (st' := [.int (nI 1)]) (cells' := 0) (slots' := 0) (pc' := 32) rfl rfl rfl rfl rfl ?_
      refine g_if_ne X 41 dX9_ray_32 (by decide) (fun hc6 => ?_) (fun hc6 => ?_)
      · refine g_run X KX9_ray_41_4 KX9_ray_41_4_d 50 [(4, .int (((nI ch) * (nI 16)) + (nI q))), (0, .ref (ad 0)), (1, .int (nI ch)), (2, .int (nI q)), (3, .int (nI v))] [.ref (ad 0)] rfl ?_
        refine g_nm (lv' := [(4, .int (nI ((ch * 16) + q))), (0, .ref (ad 0)), (1, .int (nI ch)), (2, .int (nI q)), (3, .int (nI v))]) (st' := [.ref (ad 0)]) (by simp only [nI_add, pk_mul]) (by simp only [nI_add, pk_mul]) ?_
        refine g_get X srcW (v := .ref (ad 3)) hinX9 rfl 3 (by decide) w_1183 rfl (wm_mem (k := 0) (by decide)) rfl dX9_ray_50 ?_
        refine g_run X KX9_ray_53_5 KX9_ray_53_5_d 56 [(4, .int (nI ((ch * 16) + q))), (0, .ref (ad 0)), (1, .int (nI ch)), (2, .int (nI q)), (3, .int (nI v))] [.int (nI ((ch * 16) + q)), .ref (ad 3), .int (nI ((ch * 16) + q)), .ref (ad 3)] rfl ?_
        refine g_iald X srcW (v := nI (nib (L 0 ch) q)) 0 rfl (wm_mem (k := 3) (by decide)) ((ch * 16) + q) rfl (by omega) (by decide) (ar_at (c := ch) (q := q) (by omega)) dX9_ray_56 ?_
        refine g_run X KX9_ray_57_6 KX9_ray_57_6_d 59 [(4, .int (nI ((ch * 16) + q))), (0, .ref (ad 0)), (1, .int (nI ch)), (2, .int (nI q)), (3, .int (nI v))] [.int ((nI (nib (L 0 ch) q)) ^^^ (nI v)), .int (nI ((ch * 16) + q)), .ref (ad 3)] rfl ?_
        refine g_nm (lv' := [(4, .int (nI ((ch * 16) + q))), (0, .ref (ad 0)), (1, .int (nI ch)), (2, .int (nI q)), (3, .int (nI v))]) (st' := [.int (nI ((nib (L 0 ch) q) ^^^ v)), .int (nI ((ch * 16) + q)), .ref (ad 3)]) (by simp only [nx_xor]) (by simp only [nx_xor]) ?_
        refine g_iast X (ws' := WM ad g I (u2 L 0 ch (wn (L 0 ch) q ((nib (L 0 ch) q) ^^^ v))) S (u2 Z 3 0 (nI 0)) Y ++ []) 0 rfl 3 (wm_get (k := 3) (by decide)) ((ch * 16) + q) rfl (by omega) (by decide) (wm_ar0 (c := ch) (q := q) (by omega) (xor_lt16 (nib_lt _ _) hv)) dX9_ray_59 ?_
        refine g_run X KX9_ray_60_7 KX9_ray_60_7_d 61 [(4, .int (nI ((ch * 16) + q))), (0, .ref (ad 0)), (1, .int (nI ch)), (2, .int (nI q)), (3, .int (nI v))] [.ref (ad 0)] rfl ?_
        refine g_get X srcW (v := .ref (ad 3)) hinX9 rfl 3 (by decide) w_1183 rfl (wm_mem (k := 0) (by decide)) rfl dX9_ray_61 ?_
        refine g_run X KX9_ray_64_8 KX9_ray_64_8_d 66 [(4, .int (nI ((ch * 16) + q))), (0, .ref (ad 0)), (1, .int (nI ch)), (2, .int (nI q)), (3, .int (nI v))] [.int (nI ((ch * 16) + q)), .ref (ad 3)] rfl ?_
        refine g_iald X srcW (v := nI (nib ((u2 L 0 ch (wn (L 0 ch) q ((nib (L 0 ch) q) ^^^ v))) 0 ch) q)) 0 rfl (wm_mem (k := 3) (by decide)) ((ch * 16) + q) rfl (by omega) (by decide) (ar_at (c := ch) (q := q) (by omega)) dX9_ray_66 ?_
        exact g_iret X hr () (by show some (Value.int _) = some (Value.int _); rw [u2_s]) (trivial) (rfl) (Nat.le_of_ble_eq_true rfl) (Nat.le_of_ble_eq_true rfl) dX9_ray_67
      · rw [nz_eq (by omega)] at hc6; first | omega | (simp at hc6)
    · rw [nz_eq (by omega)] at hc4; first | omega | (simp at hc4)

def KX9_ray_19_9 : List (Nat × Instr × Nat) := [(19, .aload_n 0, 1), (20, .iconst 1, 1)]
theorem KX9_ray_19_9_d : ∀ z ∈ KX9_ray_19_9, decode cX9_ray z.1 = .ok z.2 := by decide +kernel
set_option maxHeartbeats 4000000 in
set_option maxRecDepth 100000 in
theorem c_X9_ray_1 (l : Launch) (D : va_G) (g : Nat → ClassId) (ad : Nat → Nat) (I : Nat → Nat → Int32) (L : Nat → Nat → Int64) (S : Nat → Nat) (Z : Nat → Nat → Int32) (Y : Int64) (x : Int32) (y1 : Int32) (y2 : Int32) (hx : x < 0 ∨ ¬ x ≤ nI 17) : CT l yX9_ray cX9_ray 5 ((Option.some FieldType.int)) ({ frames := 2, cells := 0, slots := 0, locals := 42 } : Room) [.ref (ad 0), .int x, .int y1, .int y2] D CL (TYS g) ([]) (WM ad g I L S Z Y) (S := Unit) (fun _ => some (.int (nI 0))) (fun _ => WM ad g I L S (u2 (u2 Z 3 0 (nI 0)) 3 0 (nI 1)) Y) (fun _ => True) 0 0 := by
  refine ct_of (by decide +kernel) (Nat.le_of_ble_eq_true rfl) ?_
  intro p e s m below meth c A X hr hnm hSB hRO hAf
  refine g_cs (ws' := WM ad g I L S Z Y ++ []) (lv' := [(0, .ref (ad 0)), (1, .int x), (2, .int y1), (3, .int y2)]) (List.append_nil _) rfl ?_
  refine g_run X KX9_ray_0_0 KX9_ray_0_0_d 2 [(0, .ref (ad 0)), (1, .int x), (2, .int y1), (3, .int y2)] [.int (nI 0), .ref (ad 0)] rfl ?_
  refine g_put X (ws' := WM ad g I L S (u2 Z 3 0 (nI 0)) Y ++ []) hinX9 tyX9 tyX9_ok nmX9 rfl 0 (by decide) w_1180 rfl rfl (ty := .int) rfl rfl rfl (0) (wm_get (k := 0) (by decide)) (Nat.le_of_ble_eq_true rfl) (wm_mo0) dX9_ray_2 ?_
  refine g_run X KX9_ray_5_1 KX9_ray_5_1_d 6 [(0, .ref (ad 0)), (1, .int x), (2, .int y1), (3, .int y2)] [.int x] rfl ?_
  refine g_callS X hSB hAf (As := [.int x]) (wr := WM ad g I L S (u2 Z 3 0 (nI 0)) Y ++ []) (n := 1) (c_X9_isChip_f l D g x (hx)) rfl srcN hrdN w_1316 w_1314 w_1315 w_6 (by decide +kernel) rfl ⟨Nat.le_of_ble_eq_true rfl, Nat.le_of_ble_eq_true rfl⟩ rfl rfl rfl (Nat.le_of_ble_eq_true rfl) ⟨Nat.le_of_ble_eq_true rfl, Nat.le_of_ble_eq_true rfl⟩ dX9_ray_6 (fun hu1 _ => ?_)
  refine g_af (ws' := WM ad g I L S (u2 Z 3 0 (nI 0)) Y ++ []) (st' := [.int (nI 0)]) (cells' := 0) (slots' := 0) (pc' := 9) rfl rfl rfl rfl rfl ?_
  refine g_if_eq X 19 dX9_ray_9 (by decide) (fun hc2 => ?_) (fun hc2 => ?_)
  · refine g_run X KX9_ray_19_9 KX9_ray_19_9_d 21 [(0, .ref (ad 0)), (1, .int x), (2, .int y1), (3, .int y2)] [.int (nI 1), .ref (ad 0)] rfl ?_
    refine g_callV X hSB hAf (srcW) (hrc1 := (rfl : CL[8]? = some _)) (wm_mem (k := 0) (by decide)) rfl (As := [.int (nI 1)]) (wr := []) (n := 1) (c_X9_refuse l D g ad I L S (u2 Z 3 0 (nI 0)) Y 1 ) rfl srcN hrdN w_1264 w_1261 w_1263 w_s12 w_6 (by decide +kernel) rfl ⟨Nat.le_of_ble_eq_true rfl, Nat.le_of_ble_eq_true rfl⟩ rfl rfl rfl (Nat.le_of_ble_eq_true rfl) ⟨Nat.le_of_ble_eq_true rfl, Nat.le_of_ble_eq_true rfl⟩ dX9_ray_21 (fun hu3 _ => ?_)
    refine g_af (ws' := WM ad g I L S (u2 (u2 Z 3 0 (nI 0)) 3 0 (nI 1)) Y ++ []) (st' := [.int (nI 0)]) (cells' := 0) (slots' := 0) (pc' := 24) rfl rfl rfl rfl rfl ?_
    exact g_iret X hr () (rfl) (trivial) (rfl) (Nat.le_of_ble_eq_true rfl) (Nat.le_of_ble_eq_true rfl) dX9_ray_24
  · rw [nz_eq (by omega)] at hc2; first | omega | (simp at hc2)

set_option maxHeartbeats 4000000 in
set_option maxRecDepth 100000 in
theorem c_X9_ray_2 (l : Launch) (D : va_G) (g : Nat → ClassId) (ad : Nat → Nat) (I : Nat → Nat → Int32) (L : Nat → Nat → Int64) (S : Nat → Nat) (Z : Nat → Nat → Int32) (Y : Int64) (ch : Nat) (x : Int32) (y1 : Int32) (hch : ch < 18) (hx : x < 0 ∨ ¬ x ≤ nI 15) : CT l yX9_ray cX9_ray 5 ((Option.some FieldType.int)) ({ frames := 2, cells := 0, slots := 0, locals := 42 } : Room) [.ref (ad 0), .int (nI ch), .int x, .int y1] D CL (TYS g) ([]) (WM ad g I L S Z Y) (S := Unit) (fun _ => some (.int (nI 0))) (fun _ => WM ad g I L S (u2 (u2 Z 3 0 (nI 0)) 3 0 (nI 1)) Y) (fun _ => True) 0 0 := by
  refine ct_of (by decide +kernel) (Nat.le_of_ble_eq_true rfl) ?_
  intro p e s m below meth c A X hr hnm hSB hRO hAf
  refine g_cs (ws' := WM ad g I L S Z Y ++ []) (lv' := [(0, .ref (ad 0)), (1, .int (nI ch)), (2, .int x), (3, .int y1)]) (List.append_nil _) rfl ?_
  refine g_run X KX9_ray_0_0 KX9_ray_0_0_d 2 [(0, .ref (ad 0)), (1, .int (nI ch)), (2, .int x), (3, .int y1)] [.int (nI 0), .ref (ad 0)] rfl ?_
  refine g_put X (ws' := WM ad g I L S (u2 Z 3 0 (nI 0)) Y ++ []) hinX9 tyX9 tyX9_ok nmX9 rfl 0 (by decide) w_1180 rfl rfl (ty := .int) rfl rfl rfl (0) (wm_get (k := 0) (by decide)) (Nat.le_of_ble_eq_true rfl) (wm_mo0) dX9_ray_2 ?_
  refine g_run X KX9_ray_5_1 KX9_ray_5_1_d 6 [(0, .ref (ad 0)), (1, .int (nI ch)), (2, .int x), (3, .int y1)] [.int (nI ch)] rfl ?_
  refine g_callS X hSB hAf (As := [.int (nI ch)]) (wr := WM ad g I L S (u2 Z 3 0 (nI 0)) Y ++ []) (n := 1) (c_X9_isChip_t l D g ch (by omega)) rfl srcN hrdN w_1316 w_1314 w_1315 w_6 (by decide +kernel) rfl ⟨Nat.le_of_ble_eq_true rfl, Nat.le_of_ble_eq_true rfl⟩ rfl rfl rfl (Nat.le_of_ble_eq_true rfl) ⟨Nat.le_of_ble_eq_true rfl, Nat.le_of_ble_eq_true rfl⟩ dX9_ray_6 (fun hu1 _ => ?_)
  refine g_af (ws' := WM ad g I L S (u2 Z 3 0 (nI 0)) Y ++ []) (st' := [.int (nI 1)]) (cells' := 0) (slots' := 0) (pc' := 9) rfl rfl rfl rfl rfl ?_
  refine g_if_eq X 19 dX9_ray_9 (by decide) (fun hc2 => ?_) (fun hc2 => ?_)
  · rw [nz_eq (by omega)] at hc2; first | omega | (simp at hc2)
  · refine g_run X KX9_ray_12_2 KX9_ray_12_2_d 13 [(0, .ref (ad 0)), (1, .int (nI ch)), (2, .int x), (3, .int y1)] [.int x] rfl ?_
    refine g_callS X hSB hAf (As := [.int x]) (wr := WM ad g I L S (u2 Z 3 0 (nI 0)) Y ++ []) (n := 1) (c_X9_isLine_f l D g x (hx)) rfl srcN hrdN w_1257 w_1255 w_1256 w_6 (by decide +kernel) rfl ⟨Nat.le_of_ble_eq_true rfl, Nat.le_of_ble_eq_true rfl⟩ rfl rfl rfl (Nat.le_of_ble_eq_true rfl) ⟨Nat.le_of_ble_eq_true rfl, Nat.le_of_ble_eq_true rfl⟩ dX9_ray_13 (fun hu3 _ => ?_)
    refine g_af (ws' := WM ad g I L S (u2 Z 3 0 (nI 0)) Y ++ []) (st' := [.int (nI 0)]) (cells' := 0) (slots' := 0) (pc' := 16) rfl rfl rfl rfl rfl ?_
    refine g_if_ne X 25 dX9_ray_16 (by decide) (fun hc4 => ?_) (fun hc4 => ?_)
    · rw [nz_eq (by omega)] at hc4; first | omega | (simp at hc4)
    · refine g_run X KX9_ray_19_9 KX9_ray_19_9_d 21 [(0, .ref (ad 0)), (1, .int (nI ch)), (2, .int x), (3, .int y1)] [.int (nI 1), .ref (ad 0)] rfl ?_
      refine g_callV X hSB hAf (srcW) (hrc1 := (rfl : CL[8]? = some _)) (wm_mem (k := 0) (by decide)) rfl (As := [.int (nI 1)]) (wr := []) (n := 1) (c_X9_refuse l D g ad I L S (u2 Z 3 0 (nI 0)) Y 1 ) rfl srcN hrdN w_1264 w_1261 w_1263 w_s12 w_6 (by decide +kernel) rfl ⟨Nat.le_of_ble_eq_true rfl, Nat.le_of_ble_eq_true rfl⟩ rfl rfl rfl (Nat.le_of_ble_eq_true rfl) ⟨Nat.le_of_ble_eq_true rfl, Nat.le_of_ble_eq_true rfl⟩ dX9_ray_21 (fun hu5 _ => ?_)
      refine g_af (ws' := WM ad g I L S (u2 (u2 Z 3 0 (nI 0)) 3 0 (nI 1)) Y ++ []) (st' := [.int (nI 0)]) (cells' := 0) (slots' := 0) (pc' := 24) rfl rfl rfl rfl rfl ?_
      exact g_iret X hr () (rfl) (trivial) (rfl) (Nat.le_of_ble_eq_true rfl) (Nat.le_of_ble_eq_true rfl) dX9_ray_24

def KX9_ray_35_10 : List (Nat × Instr × Nat) := [(35, .aload_n 0, 1), (36, .iconst 2, 1)]
theorem KX9_ray_35_10_d : ∀ z ∈ KX9_ray_35_10, decode cX9_ray z.1 = .ok z.2 := by decide +kernel
set_option maxHeartbeats 4000000 in
set_option maxRecDepth 100000 in
theorem c_X9_ray_3 (l : Launch) (D : va_G) (g : Nat → ClassId) (ad : Nat → Nat) (I : Nat → Nat → Int32) (L : Nat → Nat → Int64) (S : Nat → Nat) (Z : Nat → Nat → Int32) (Y : Int64) (ch : Nat) (q : Nat) (x : Int32) (hch : ch < 18) (hq : q < 16) (hx : x < nI 1 ∨ ¬ x ≤ nI 15) : CT l yX9_ray cX9_ray 5 ((Option.some FieldType.int)) ({ frames := 2, cells := 0, slots := 0, locals := 42 } : Room) [.ref (ad 0), .int (nI ch), .int (nI q), .int x] D CL (TYS g) ([]) (WM ad g I L S Z Y) (S := Unit) (fun _ => some (.int (nI 0))) (fun _ => WM ad g I L S (u2 (u2 Z 3 0 (nI 0)) 3 0 (nI 2)) Y) (fun _ => True) 0 0 := by
  refine ct_of (by decide +kernel) (Nat.le_of_ble_eq_true rfl) ?_
  intro p e s m below meth c A X hr hnm hSB hRO hAf
  refine g_cs (ws' := WM ad g I L S Z Y ++ []) (lv' := [(0, .ref (ad 0)), (1, .int (nI ch)), (2, .int (nI q)), (3, .int x)]) (List.append_nil _) rfl ?_
  refine g_run X KX9_ray_0_0 KX9_ray_0_0_d 2 [(0, .ref (ad 0)), (1, .int (nI ch)), (2, .int (nI q)), (3, .int x)] [.int (nI 0), .ref (ad 0)] rfl ?_
  refine g_put X (ws' := WM ad g I L S (u2 Z 3 0 (nI 0)) Y ++ []) hinX9 tyX9 tyX9_ok nmX9 rfl 0 (by decide) w_1180 rfl rfl (ty := .int) rfl rfl rfl (0) (wm_get (k := 0) (by decide)) (Nat.le_of_ble_eq_true rfl) (wm_mo0) dX9_ray_2 ?_
  refine g_run X KX9_ray_5_1 KX9_ray_5_1_d 6 [(0, .ref (ad 0)), (1, .int (nI ch)), (2, .int (nI q)), (3, .int x)] [.int (nI ch)] rfl ?_
  refine g_callS X hSB hAf (As := [.int (nI ch)]) (wr := WM ad g I L S (u2 Z 3 0 (nI 0)) Y ++ []) (n := 1) (c_X9_isChip_t l D g ch (by omega)) rfl srcN hrdN w_1316 w_1314 w_1315 w_6 (by decide +kernel) rfl ⟨Nat.le_of_ble_eq_true rfl, Nat.le_of_ble_eq_true rfl⟩ rfl rfl rfl (Nat.le_of_ble_eq_true rfl) ⟨Nat.le_of_ble_eq_true rfl, Nat.le_of_ble_eq_true rfl⟩ dX9_ray_6 (fun hu1 _ => ?_)
  refine g_af (ws' := WM ad g I L S (u2 Z 3 0 (nI 0)) Y ++ []) (st' := [.int (nI 1)]) (cells' := 0) (slots' := 0) (pc' := 9) rfl rfl rfl rfl rfl ?_
  refine g_if_eq X 19 dX9_ray_9 (by decide) (fun hc2 => ?_) (fun hc2 => ?_)
  · rw [nz_eq (by omega)] at hc2; first | omega | (simp at hc2)
  · refine g_run X KX9_ray_12_2 KX9_ray_12_2_d 13 [(0, .ref (ad 0)), (1, .int (nI ch)), (2, .int (nI q)), (3, .int x)] [.int (nI q)] rfl ?_
    refine g_callS X hSB hAf (As := [.int (nI q)]) (wr := WM ad g I L S (u2 Z 3 0 (nI 0)) Y ++ []) (n := 1) (c_X9_isLine_t l D g q (by omega)) rfl srcN hrdN w_1257 w_1255 w_1256 w_6 (by decide +kernel) rfl ⟨Nat.le_of_ble_eq_true rfl, Nat.le_of_ble_eq_true rfl⟩ rfl rfl rfl (Nat.le_of_ble_eq_true rfl) ⟨Nat.le_of_ble_eq_true rfl, Nat.le_of_ble_eq_true rfl⟩ dX9_ray_13 (fun hu3 _ => ?_)
    refine g_af (ws' := WM ad g I L S (u2 Z 3 0 (nI 0)) Y ++ []) (st' := [.int (nI 1)]) (cells' := 0) (slots' := 0) (pc' := 16) rfl rfl rfl rfl rfl ?_
    refine g_if_ne X 25 dX9_ray_16 (by decide) (fun hc4 => ?_) (fun hc4 => ?_)
    · refine g_run X KX9_ray_25_3 KX9_ray_25_3_d 29 [(0, .ref (ad 0)), (1, .int (nI ch)), (2, .int (nI q)), (3, .int x)] [.int (nI 15), .int (nI 1), .int x] rfl ?_
      refine g_callS X hSB hAf (As := [.int x, .int (nI 1), .int (nI 15)]) (wr := WM ad g I L S (u2 Z 3 0 (nI 0)) Y ++ []) (n := 3) (c_X9_is_f l D g x (nI 1) (nI 15) (hx)) rfl srcN hrdN w_1260 w_1258 w_1259 w_6 (by decide +kernel) rfl ⟨Nat.le_of_ble_eq_true rfl, Nat.le_of_ble_eq_true rfl⟩ rfl rfl rfl (Nat.le_of_ble_eq_true rfl) ⟨Nat.le_of_ble_eq_true rfl, Nat.le_of_ble_eq_true rfl⟩ dX9_ray_29 (fun hu5 _ => ?_)
      refine g_af (ws' := WM ad g I L S (u2 Z 3 0 (nI 0)) Y ++ []) (st' := [.int (nI 0)]) (cells' := 0) (slots' := 0) (pc' := 32) rfl rfl rfl rfl rfl ?_
      refine g_if_ne X 41 dX9_ray_32 (by decide) (fun hc6 => ?_) (fun hc6 => ?_)
      · rw [nz_eq (by omega)] at hc6; first | omega | (simp at hc6)
      · refine g_run X KX9_ray_35_10 KX9_ray_35_10_d 37 [(0, .ref (ad 0)), (1, .int (nI ch)), (2, .int (nI q)), (3, .int x)] [.int (nI 2), .ref (ad 0)] rfl ?_
        refine g_callV X hSB hAf (srcW) (hrc1 := (rfl : CL[8]? = some _)) (wm_mem (k := 0) (by decide)) rfl (As := [.int (nI 2)]) (wr := []) (n := 1) (c_X9_refuse l D g ad I L S (u2 Z 3 0 (nI 0)) Y 2 ) rfl srcN hrdN w_1264 w_1261 w_1263 w_s12 w_6 (by decide +kernel) rfl ⟨Nat.le_of_ble_eq_true rfl, Nat.le_of_ble_eq_true rfl⟩ rfl rfl rfl (Nat.le_of_ble_eq_true rfl) ⟨Nat.le_of_ble_eq_true rfl, Nat.le_of_ble_eq_true rfl⟩ dX9_ray_37 (fun hu7 _ => ?_)
        refine g_af (ws' := WM ad g I L S (u2 (u2 Z 3 0 (nI 0)) 3 0 (nI 2)) Y ++ []) (st' := [.int (nI 0)]) (cells' := 0) (slots' := 0) (pc' := 40) rfl rfl rfl rfl rfl ?_
        exact g_iret X hr () (rfl) (trivial) (rfl) (Nat.le_of_ble_eq_true rfl) (Nat.le_of_ble_eq_true rfl) dX9_ray_40
    · rw [nz_eq (by omega)] at hc4; first | omega | (simp at hc4)

def KX9_times_0_0 : List (Nat × Instr × Nat) := [(0, .aload_n 0, 1), (1, .iconst 0, 1)]
theorem KX9_times_0_0_d : ∀ z ∈ KX9_times_0_0, decode cX9_times z.1 = .ok z.2 := by decide +kernel
def KX9_times_5_1 : List (Nat × Instr × Nat) := [(5, .iload_n 1, 1), (6, .iconst 0, 1), (7, .bipush 15, 2)]
theorem KX9_times_5_1_d : ∀ z ∈ KX9_times_5_1, decode cX9_times z.1 = .ok z.2 := by decide +kernel
def KX9_times_15_2 : List (Nat × Instr × Nat) := [(15, .iload_n 2, 1), (16, .iconst 0, 1), (17, .bipush 15, 2)]
theorem KX9_times_15_2_d : ∀ z ∈ KX9_times_15_2, decode cX9_times z.1 = .ok z.2 := by decide +kernel
def KX9_times_25_3 : List (Nat × Instr × Nat) := [(25, .aload_n 0, 1), (26, .iload_n 1, 1), (27, .iload_n 2, 1)]
theorem KX9_times_25_3_d : ∀ z ∈ KX9_times_25_3, decode cX9_times z.1 = .ok z.2 := by decide +kernel
def KX9_times_31_4 : List (Nat × Instr × Nat) := [(31, .goto 8, 3)]
theorem KX9_times_31_4_d : ∀ z ∈ KX9_times_31_4, decode cX9_times z.1 = .ok z.2 := by decide +kernel
set_option maxHeartbeats 4000000 in
set_option maxRecDepth 100000 in
theorem c_X9_times (l : Launch) (D : va_G) (g : Nat → ClassId) (ad : Nat → Nat) (I : Nat → Nat → Int32) (L : Nat → Nat → Int64) (S : Nat → Nat) (Z : Nat → Nat → Int32) (Y : Int64) (a : Nat) (b : Nat) (ha : a < 16) (hb : b < 16) : CT l yX9_times cX9_times 3 ((Option.some FieldType.int)) ({ frames := 1, cells := 0, slots := 0, locals := 22 } : Room) [.ref (ad 0), .int (nI a), .int (nI b)] D CL (TYS g) ([]) (WM ad g I L S Z Y) (S := Unit) (fun _ => some (.int (nI (gm a b)))) (fun _ => WM ad g I L S (u2 Z 3 0 (nI 0)) Y) (fun _ => True) 0 0 := by
  refine ct_of (by decide +kernel) (Nat.le_of_ble_eq_true rfl) ?_
  intro p e s m below meth c A X hr hnm hSB hRO hAf
  refine g_cs (ws' := WM ad g I L S Z Y ++ []) (lv' := [(0, .ref (ad 0)), (1, .int (nI a)), (2, .int (nI b))]) (List.append_nil _) rfl ?_
  refine g_run X KX9_times_0_0 KX9_times_0_0_d 2 [(0, .ref (ad 0)), (1, .int (nI a)), (2, .int (nI b))] [.int (nI 0), .ref (ad 0)] rfl ?_
  refine g_put X (ws' := WM ad g I L S (u2 Z 3 0 (nI 0)) Y ++ []) hinX9 tyX9 tyX9_ok nmX9 rfl 0 (by decide) w_1180 rfl rfl (ty := .int) rfl rfl rfl (0) (wm_get (k := 0) (by decide)) (Nat.le_of_ble_eq_true rfl) (wm_mo0) dX9_times_2 ?_
  refine g_run X KX9_times_5_1 KX9_times_5_1_d 9 [(0, .ref (ad 0)), (1, .int (nI a)), (2, .int (nI b))] [.int (nI 15), .int (nI 0), .int (nI a)] rfl ?_
  refine g_callS X hSB hAf (As := [.int (nI a), .int (nI 0), .int (nI 15)]) (wr := WM ad g I L S (u2 Z 3 0 (nI 0)) Y ++ []) (n := 3) (c_X9_is_t l D g a 0 15 (by omega) (by omega) (by omega)) rfl srcN hrdN w_1260 w_1258 w_1259 w_6 (by decide +kernel) rfl ⟨Nat.le_of_ble_eq_true rfl, Nat.le_of_ble_eq_true rfl⟩ rfl rfl rfl (Nat.le_of_ble_eq_true rfl) ⟨Nat.le_of_ble_eq_true rfl, Nat.le_of_ble_eq_true rfl⟩ dX9_times_9 (fun hu1 _ => ?_)
  refine g_af (ws' := WM ad g I L S (u2 Z 3 0 (nI 0)) Y ++ []) (st' := [.int (nI 1)]) (cells' := 0) (slots' := 0) (pc' := 12) rfl rfl rfl rfl rfl ?_
  refine g_if_eq X 34 dX9_times_12 (by decide) (fun hc2 => ?_) (fun hc2 => ?_)
  · rw [nz_eq (by omega)] at hc2; first | omega | (simp at hc2)
  · refine g_run X KX9_times_15_2 KX9_times_15_2_d 19 [(0, .ref (ad 0)), (1, .int (nI a)), (2, .int (nI b))] [.int (nI 15), .int (nI 0), .int (nI b)] rfl ?_
    refine g_callS X hSB hAf (As := [.int (nI b), .int (nI 0), .int (nI 15)]) (wr := WM ad g I L S (u2 Z 3 0 (nI 0)) Y ++ []) (n := 3) (c_X9_is_t l D g b 0 15 (by omega) (by omega) (by omega)) rfl srcN hrdN w_1260 w_1258 w_1259 w_6 (by decide +kernel) rfl ⟨Nat.le_of_ble_eq_true rfl, Nat.le_of_ble_eq_true rfl⟩ rfl rfl rfl (Nat.le_of_ble_eq_true rfl) ⟨Nat.le_of_ble_eq_true rfl, Nat.le_of_ble_eq_true rfl⟩ dX9_times_19 (fun hu3 _ => ?_)
    refine g_af (ws' := WM ad g I L S (u2 Z 3 0 (nI 0)) Y ++ []) (st' := [.int (nI 1)]) (cells' := 0) (slots' := 0) (pc' := 22) rfl rfl rfl rfl rfl ?_
    refine g_if_eq X 34 dX9_times_22 (by decide) (fun hc4 => ?_) (fun hc4 => ?_)
    · rw [nz_eq (by omega)] at hc4; first | omega | (simp at hc4)
    · refine g_run X KX9_times_25_3 KX9_times_25_3_d 28 [(0, .ref (ad 0)), (1, .int (nI a)), (2, .int (nI b))] [.int (nI b), .int (nI a), .ref (ad 0)] rfl ?_
      refine g_callV X hSB hAf (srcW) (hrc1 := (rfl : CL[8]? = some _)) (wm_mem (k := 0) (by decide)) rfl (As := [.int (nI a), .int (nI b)]) (wr := []) (n := 2) (c_X9_by l D g ad I L S (u2 Z 3 0 (nI 0)) Y a b (by omega) (by omega)) rfl srcN hrdN w_1300 w_1297 w_1299 w_s19 w_6 (by decide +kernel) rfl ⟨Nat.le_of_ble_eq_true rfl, Nat.le_of_ble_eq_true rfl⟩ rfl rfl rfl (Nat.le_of_ble_eq_true rfl) ⟨Nat.le_of_ble_eq_true rfl, Nat.le_of_ble_eq_true rfl⟩ dX9_times_28 (fun hu5 _ => ?_)
      refine g_af (ws' := WM ad g I L S (u2 Z 3 0 (nI 0)) Y ++ []) (st' := [.int (nI (gm a b))]) (cells' := 0) (slots' := 0) (pc' := 31) rfl rfl rfl rfl rfl ?_
      refine g_run X KX9_times_31_4 KX9_times_31_4_d 39 [(0, .ref (ad 0)), (1, .int (nI a)), (2, .int (nI b))] [.int (nI (gm a b))] rfl ?_
      exact g_iret X hr () (rfl) (trivial) (rfl) (Nat.le_of_ble_eq_true rfl) (Nat.le_of_ble_eq_true rfl) dX9_times_39

def KX9_times_34_5 : List (Nat × Instr × Nat) := [(34, .aload_n 0, 1), (35, .iconst 1, 1)]
theorem KX9_times_34_5_d : ∀ z ∈ KX9_times_34_5, decode cX9_times z.1 = .ok z.2 := by decide +kernel
set_option maxHeartbeats 4000000 in
set_option maxRecDepth 100000 in
theorem c_X9_times_1 (l : Launch) (D : va_G) (g : Nat → ClassId) (ad : Nat → Nat) (I : Nat → Nat → Int32) (L : Nat → Nat → Int64) (S : Nat → Nat) (Z : Nat → Nat → Int32) (Y : Int64) (x : Int32) (y1 : Int32) (hx : x < nI 0 ∨ ¬ x ≤ nI 15) : CT l yX9_times cX9_times 3 ((Option.some FieldType.int)) ({ frames := 1, cells := 0, slots := 0, locals := 22 } : Room) [.ref (ad 0), .int x, .int y1] D CL (TYS g) ([]) (WM ad g I L S Z Y) (S := Unit) (fun _ => some (.int (nI 0))) (fun _ => WM ad g I L S (u2 (u2 Z 3 0 (nI 0)) 3 0 (nI 1)) Y) (fun _ => True) 0 0 := by
  refine ct_of (by decide +kernel) (Nat.le_of_ble_eq_true rfl) ?_
  intro p e s m below meth c A X hr hnm hSB hRO hAf
  refine g_cs (ws' := WM ad g I L S Z Y ++ []) (lv' := [(0, .ref (ad 0)), (1, .int x), (2, .int y1)]) (List.append_nil _) rfl ?_
  refine g_run X KX9_times_0_0 KX9_times_0_0_d 2 [(0, .ref (ad 0)), (1, .int x), (2, .int y1)] [.int (nI 0), .ref (ad 0)] rfl ?_
  refine g_put X (ws' := WM ad g I L S (u2 Z 3 0 (nI 0)) Y ++ []) hinX9 tyX9 tyX9_ok nmX9 rfl 0 (by decide) w_1180 rfl rfl (ty := .int) rfl rfl rfl (0) (wm_get (k := 0) (by decide)) (Nat.le_of_ble_eq_true rfl) (wm_mo0) dX9_times_2 ?_
  refine g_run X KX9_times_5_1 KX9_times_5_1_d 9 [(0, .ref (ad 0)), (1, .int x), (2, .int y1)] [.int (nI 15), .int (nI 0), .int x] rfl ?_
  refine g_callS X hSB hAf (As := [.int x, .int (nI 0), .int (nI 15)]) (wr := WM ad g I L S (u2 Z 3 0 (nI 0)) Y ++ []) (n := 3) (c_X9_is_f l D g x (nI 0) (nI 15) (hx)) rfl srcN hrdN w_1260 w_1258 w_1259 w_6 (by decide +kernel) rfl ⟨Nat.le_of_ble_eq_true rfl, Nat.le_of_ble_eq_true rfl⟩ rfl rfl rfl (Nat.le_of_ble_eq_true rfl) ⟨Nat.le_of_ble_eq_true rfl, Nat.le_of_ble_eq_true rfl⟩ dX9_times_9 (fun hu1 _ => ?_)
  refine g_af (ws' := WM ad g I L S (u2 Z 3 0 (nI 0)) Y ++ []) (st' := [.int (nI 0)]) (cells' := 0) (slots' := 0) (pc' := 12) rfl rfl rfl rfl rfl ?_
  refine g_if_eq X 34 dX9_times_12 (by decide) (fun hc2 => ?_) (fun hc2 => ?_)
  · refine g_run X KX9_times_34_5 KX9_times_34_5_d 36 [(0, .ref (ad 0)), (1, .int x), (2, .int y1)] [.int (nI 1), .ref (ad 0)] rfl ?_
    refine g_callV X hSB hAf (srcW) (hrc1 := (rfl : CL[8]? = some _)) (wm_mem (k := 0) (by decide)) rfl (As := [.int (nI 1)]) (wr := []) (n := 1) (c_X9_refuse l D g ad I L S (u2 Z 3 0 (nI 0)) Y 1 ) rfl srcN hrdN w_1264 w_1261 w_1263 w_s12 w_6 (by decide +kernel) rfl ⟨Nat.le_of_ble_eq_true rfl, Nat.le_of_ble_eq_true rfl⟩ rfl rfl rfl (Nat.le_of_ble_eq_true rfl) ⟨Nat.le_of_ble_eq_true rfl, Nat.le_of_ble_eq_true rfl⟩ dX9_times_36 (fun hu3 _ => ?_)
    refine g_af (ws' := WM ad g I L S (u2 (u2 Z 3 0 (nI 0)) 3 0 (nI 1)) Y ++ []) (st' := [.int (nI 0)]) (cells' := 0) (slots' := 0) (pc' := 39) rfl rfl rfl rfl rfl ?_
    exact g_iret X hr () (rfl) (trivial) (rfl) (Nat.le_of_ble_eq_true rfl) (Nat.le_of_ble_eq_true rfl) dX9_times_39
  · rw [nz_eq (by omega)] at hc2; first | omega | (simp at hc2)

set_option maxHeartbeats 4000000 in
set_option maxRecDepth 100000 in
theorem c_X9_times_2 (l : Launch) (D : va_G) (g : Nat → ClassId) (ad : Nat → Nat) (I : Nat → Nat → Int32) (L : Nat → Nat → Int64) (S : Nat → Nat) (Z : Nat → Nat → Int32) (Y : Int64) (a : Nat) (x : Int32) (ha : a < 16) (hx : x < nI 0 ∨ ¬ x ≤ nI 15) : CT l yX9_times cX9_times 3 ((Option.some FieldType.int)) ({ frames := 1, cells := 0, slots := 0, locals := 22 } : Room) [.ref (ad 0), .int (nI a), .int x] D CL (TYS g) ([]) (WM ad g I L S Z Y) (S := Unit) (fun _ => some (.int (nI 0))) (fun _ => WM ad g I L S (u2 (u2 Z 3 0 (nI 0)) 3 0 (nI 1)) Y) (fun _ => True) 0 0 := by
  refine ct_of (by decide +kernel) (Nat.le_of_ble_eq_true rfl) ?_
  intro p e s m below meth c A X hr hnm hSB hRO hAf
  refine g_cs (ws' := WM ad g I L S Z Y ++ []) (lv' := [(0, .ref (ad 0)), (1, .int (nI a)), (2, .int x)]) (List.append_nil _) rfl ?_
  refine g_run X KX9_times_0_0 KX9_times_0_0_d 2 [(0, .ref (ad 0)), (1, .int (nI a)), (2, .int x)] [.int (nI 0), .ref (ad 0)] rfl ?_
  refine g_put X (ws' := WM ad g I L S (u2 Z 3 0 (nI 0)) Y ++ []) hinX9 tyX9 tyX9_ok nmX9 rfl 0 (by decide) w_1180 rfl rfl (ty := .int) rfl rfl rfl (0) (wm_get (k := 0) (by decide)) (Nat.le_of_ble_eq_true rfl) (wm_mo0) dX9_times_2 ?_
  refine g_run X KX9_times_5_1 KX9_times_5_1_d 9 [(0, .ref (ad 0)), (1, .int (nI a)), (2, .int x)] [.int (nI 15), .int (nI 0), .int (nI a)] rfl ?_
  refine g_callS X hSB hAf (As := [.int (nI a), .int (nI 0), .int (nI 15)]) (wr := WM ad g I L S (u2 Z 3 0 (nI 0)) Y ++ []) (n := 3) (c_X9_is_t l D g a 0 15 (by omega) (by omega) (by omega)) rfl srcN hrdN w_1260 w_1258 w_1259 w_6 (by decide +kernel) rfl ⟨Nat.le_of_ble_eq_true rfl, Nat.le_of_ble_eq_true rfl⟩ rfl rfl rfl (Nat.le_of_ble_eq_true rfl) ⟨Nat.le_of_ble_eq_true rfl, Nat.le_of_ble_eq_true rfl⟩ dX9_times_9 (fun hu1 _ => ?_)
  refine g_af (ws' := WM ad g I L S (u2 Z 3 0 (nI 0)) Y ++ []) (st' := [.int (nI 1)]) (cells' := 0) (slots' := 0) (pc' := 12) rfl rfl rfl rfl rfl ?_
  refine g_if_eq X 34 dX9_times_12 (by decide) (fun hc2 => ?_) (fun hc2 => ?_)
  · rw [nz_eq (by omega)] at hc2; first | omega | (simp at hc2)
  · refine g_run X KX9_times_15_2 KX9_times_15_2_d 19 [(0, .ref (ad 0)), (1, .int (nI a)), (2, .int x)] [.int (nI 15), .int (nI 0), .int x] rfl ?_
    refine g_callS X hSB hAf (As := [.int x, .int (nI 0), .int (nI 15)]) (wr := WM ad g I L S (u2 Z 3 0 (nI 0)) Y ++ []) (n := 3) (c_X9_is_f l D g x (nI 0) (nI 15) (hx)) rfl srcN hrdN w_1260 w_1258 w_1259 w_6 (by decide +kernel) rfl ⟨Nat.le_of_ble_eq_true rfl, Nat.le_of_ble_eq_true rfl⟩ rfl rfl rfl (Nat.le_of_ble_eq_true rfl) ⟨Nat.le_of_ble_eq_true rfl, Nat.le_of_ble_eq_true rfl⟩ dX9_times_19 (fun hu3 _ => ?_)
    refine g_af (ws' := WM ad g I L S (u2 Z 3 0 (nI 0)) Y ++ []) (st' := [.int (nI 0)]) (cells' := 0) (slots' := 0) (pc' := 22) rfl rfl rfl rfl rfl ?_
    refine g_if_eq X 34 dX9_times_22 (by decide) (fun hc4 => ?_) (fun hc4 => ?_)
    · refine g_run X KX9_times_34_5 KX9_times_34_5_d 36 [(0, .ref (ad 0)), (1, .int (nI a)), (2, .int x)] [.int (nI 1), .ref (ad 0)] rfl ?_
      refine g_callV X hSB hAf (srcW) (hrc1 := (rfl : CL[8]? = some _)) (wm_mem (k := 0) (by decide)) rfl (As := [.int (nI 1)]) (wr := []) (n := 1) (c_X9_refuse l D g ad I L S (u2 Z 3 0 (nI 0)) Y 1 ) rfl srcN hrdN w_1264 w_1261 w_1263 w_s12 w_6 (by decide +kernel) rfl ⟨Nat.le_of_ble_eq_true rfl, Nat.le_of_ble_eq_true rfl⟩ rfl rfl rfl (Nat.le_of_ble_eq_true rfl) ⟨Nat.le_of_ble_eq_true rfl, Nat.le_of_ble_eq_true rfl⟩ dX9_times_36 (fun hu5 _ => ?_)
      refine g_af (ws' := WM ad g I L S (u2 (u2 Z 3 0 (nI 0)) 3 0 (nI 1)) Y ++ []) (st' := [.int (nI 0)]) (cells' := 0) (slots' := 0) (pc' := 39) rfl rfl rfl rfl rfl ?_
      exact g_iret X hr () (rfl) (trivial) (rfl) (Nat.le_of_ble_eq_true rfl) (Nat.le_of_ble_eq_true rfl) dX9_times_39
    · rw [nz_eq (by omega)] at hc4; first | omega | (simp at hc4)

def KX9_power_0_0 : List (Nat × Instr × Nat) := [(0, .aload_n 0, 1), (1, .iconst 0, 1)]
theorem KX9_power_0_0_d : ∀ z ∈ KX9_power_0_0, decode cX9_power z.1 = .ok z.2 := by decide +kernel
def KX9_power_5_1 : List (Nat × Instr × Nat) := [(5, .iload_n 1, 1), (6, .iconst 0, 1), (7, .sipush 999, 3)]
theorem KX9_power_5_1_d : ∀ z ∈ KX9_power_5_1, decode cX9_power z.1 = .ok z.2 := by decide +kernel
def KX9_power_16_2 : List (Nat × Instr × Nat) := [(16, .aload_n 0, 1), (17, .iload_n 1, 1)]
theorem KX9_power_16_2_d : ∀ z ∈ KX9_power_16_2, decode cX9_power z.1 = .ok z.2 := by decide +kernel
def KX9_power_21_3 : List (Nat × Instr × Nat) := [(21, .goto 8, 3)]
theorem KX9_power_21_3_d : ∀ z ∈ KX9_power_21_3, decode cX9_power z.1 = .ok z.2 := by decide +kernel
set_option maxHeartbeats 4000000 in
set_option maxRecDepth 100000 in
theorem c_X9_power (l : Launch) (D : va_G) (g : Nat → ClassId) (ad : Nat → Nat) (I : Nat → Nat → Int32) (L : Nat → Nat → Int64) (S : Nat → Nat) (Z : Nat → Nat → Int32) (Y : Int64) (n : Nat) (hn : n < 1000) : CT l yX9_power cX9_power 2 ((Option.some FieldType.int)) ({ frames := 1, cells := 0, slots := 0, locals := 22 } : Room) [.ref (ad 0), .int (nI n)] D CL (TYS g) ([]) (WM ad g I L S Z Y) (S := Unit) (fun _ => some (.int (nI (pw (n % 15))))) (fun _ => WM ad g I L S (u2 Z 3 0 (nI 0)) Y) (fun _ => True) 0 0 := by
  refine ct_of (by decide +kernel) (Nat.le_of_ble_eq_true rfl) ?_
  intro p e s m below meth c A X hr hnm hSB hRO hAf
  refine g_cs (ws' := WM ad g I L S Z Y ++ []) (lv' := [(0, .ref (ad 0)), (1, .int (nI n))]) (List.append_nil _) rfl ?_
  refine g_run X KX9_power_0_0 KX9_power_0_0_d 2 [(0, .ref (ad 0)), (1, .int (nI n))] [.int (nI 0), .ref (ad 0)] rfl ?_
  refine g_put X (ws' := WM ad g I L S (u2 Z 3 0 (nI 0)) Y ++ []) hinX9 tyX9 tyX9_ok nmX9 rfl 0 (by decide) w_1180 rfl rfl (ty := .int) rfl rfl rfl (0) (wm_get (k := 0) (by decide)) (Nat.le_of_ble_eq_true rfl) (wm_mo0) dX9_power_2 ?_
  refine g_run X KX9_power_5_1 KX9_power_5_1_d 10 [(0, .ref (ad 0)), (1, .int (nI n))] [.int (nI 999), .int (nI 0), .int (nI n)] rfl ?_
  refine g_callS X hSB hAf (As := [.int (nI n), .int (nI 0), .int (nI 999)]) (wr := WM ad g I L S (u2 Z 3 0 (nI 0)) Y ++ []) (n := 3) (c_X9_is_t l D g n 0 999 (by omega) (by omega) (by omega)) rfl srcN hrdN w_1260 w_1258 w_1259 w_6 (by decide +kernel) rfl ⟨Nat.le_of_ble_eq_true rfl, Nat.le_of_ble_eq_true rfl⟩ rfl rfl rfl (Nat.le_of_ble_eq_true rfl) ⟨Nat.le_of_ble_eq_true rfl, Nat.le_of_ble_eq_true rfl⟩ dX9_power_10 (fun hu1 _ => ?_)
  refine g_af (ws' := WM ad g I L S (u2 Z 3 0 (nI 0)) Y ++ []) (st' := [.int (nI 1)]) (cells' := 0) (slots' := 0) (pc' := 13) rfl rfl rfl rfl rfl ?_
  refine g_if_eq X 24 dX9_power_13 (by decide) (fun hc2 => ?_) (fun hc2 => ?_)
  · rw [nz_eq (by omega)] at hc2; first | omega | (simp at hc2)
  · refine g_run X KX9_power_16_2 KX9_power_16_2_d 18 [(0, .ref (ad 0)), (1, .int (nI n))] [.int (nI n), .ref (ad 0)] rfl ?_
    refine g_callV X hSB hAf (srcW) (hrc1 := (rfl : CL[8]? = some _)) (wm_mem (k := 0) (by decide)) rfl (As := [.int (nI n)]) (wr := []) (n := 1) (c_X9_powerOf l D g ad I L S (u2 Z 3 0 (nI 0)) Y n (by omega)) rfl srcN hrdN w_1292 w_1289 w_1291 w_s17 w_6 (by decide +kernel) rfl ⟨Nat.le_of_ble_eq_true rfl, Nat.le_of_ble_eq_true rfl⟩ rfl rfl rfl (Nat.le_of_ble_eq_true rfl) ⟨Nat.le_of_ble_eq_true rfl, Nat.le_of_ble_eq_true rfl⟩ dX9_power_18 (fun hu3 _ => ?_)
    refine g_af (ws' := WM ad g I L S (u2 Z 3 0 (nI 0)) Y ++ []) (st' := [.int (nI (pw (n % 15)))]) (cells' := 0) (slots' := 0) (pc' := 21) rfl rfl rfl rfl rfl ?_
    refine g_run X KX9_power_21_3 KX9_power_21_3_d 29 [(0, .ref (ad 0)), (1, .int (nI n))] [.int (nI (pw (n % 15)))] rfl ?_
    exact g_iret X hr () (rfl) (trivial) (rfl) (Nat.le_of_ble_eq_true rfl) (Nat.le_of_ble_eq_true rfl) dX9_power_29

def KX9_power_24_4 : List (Nat × Instr × Nat) := [(24, .aload_n 0, 1), (25, .iconst 1, 1)]
theorem KX9_power_24_4_d : ∀ z ∈ KX9_power_24_4, decode cX9_power z.1 = .ok z.2 := by decide +kernel
set_option maxHeartbeats 4000000 in
set_option maxRecDepth 100000 in
theorem c_X9_power_1 (l : Launch) (D : va_G) (g : Nat → ClassId) (ad : Nat → Nat) (I : Nat → Nat → Int32) (L : Nat → Nat → Int64) (S : Nat → Nat) (Z : Nat → Nat → Int32) (Y : Int64) (x : Int32) (hx : x < nI 0 ∨ ¬ x ≤ nI 999) : CT l yX9_power cX9_power 2 ((Option.some FieldType.int)) ({ frames := 1, cells := 0, slots := 0, locals := 22 } : Room) [.ref (ad 0), .int x] D CL (TYS g) ([]) (WM ad g I L S Z Y) (S := Unit) (fun _ => some (.int (nI 0))) (fun _ => WM ad g I L S (u2 (u2 Z 3 0 (nI 0)) 3 0 (nI 1)) Y) (fun _ => True) 0 0 := by
  refine ct_of (by decide +kernel) (Nat.le_of_ble_eq_true rfl) ?_
  intro p e s m below meth c A X hr hnm hSB hRO hAf
  refine g_cs (ws' := WM ad g I L S Z Y ++ []) (lv' := [(0, .ref (ad 0)), (1, .int x)]) (List.append_nil _) rfl ?_
  refine g_run X KX9_power_0_0 KX9_power_0_0_d 2 [(0, .ref (ad 0)), (1, .int x)] [.int (nI 0), .ref (ad 0)] rfl ?_
  refine g_put X (ws' := WM ad g I L S (u2 Z 3 0 (nI 0)) Y ++ []) hinX9 tyX9 tyX9_ok nmX9 rfl 0 (by decide) w_1180 rfl rfl (ty := .int) rfl rfl rfl (0) (wm_get (k := 0) (by decide)) (Nat.le_of_ble_eq_true rfl) (wm_mo0) dX9_power_2 ?_
  refine g_run X KX9_power_5_1 KX9_power_5_1_d 10 [(0, .ref (ad 0)), (1, .int x)] [.int (nI 999), .int (nI 0), .int x] rfl ?_
  refine g_callS X hSB hAf (As := [.int x, .int (nI 0), .int (nI 999)]) (wr := WM ad g I L S (u2 Z 3 0 (nI 0)) Y ++ []) (n := 3) (c_X9_is_f l D g x (nI 0) (nI 999) (hx)) rfl srcN hrdN w_1260 w_1258 w_1259 w_6 (by decide +kernel) rfl ⟨Nat.le_of_ble_eq_true rfl, Nat.le_of_ble_eq_true rfl⟩ rfl rfl rfl (Nat.le_of_ble_eq_true rfl) ⟨Nat.le_of_ble_eq_true rfl, Nat.le_of_ble_eq_true rfl⟩ dX9_power_10 (fun hu1 _ => ?_)
  refine g_af (ws' := WM ad g I L S (u2 Z 3 0 (nI 0)) Y ++ []) (st' := [.int (nI 0)]) (cells' := 0) (slots' := 0) (pc' := 13) rfl rfl rfl rfl rfl ?_
  refine g_if_eq X 24 dX9_power_13 (by decide) (fun hc2 => ?_) (fun hc2 => ?_)
  · refine g_run X KX9_power_24_4 KX9_power_24_4_d 26 [(0, .ref (ad 0)), (1, .int x)] [.int (nI 1), .ref (ad 0)] rfl ?_
    refine g_callV X hSB hAf (srcW) (hrc1 := (rfl : CL[8]? = some _)) (wm_mem (k := 0) (by decide)) rfl (As := [.int (nI 1)]) (wr := []) (n := 1) (c_X9_refuse l D g ad I L S (u2 Z 3 0 (nI 0)) Y 1 ) rfl srcN hrdN w_1264 w_1261 w_1263 w_s12 w_6 (by decide +kernel) rfl ⟨Nat.le_of_ble_eq_true rfl, Nat.le_of_ble_eq_true rfl⟩ rfl rfl rfl (Nat.le_of_ble_eq_true rfl) ⟨Nat.le_of_ble_eq_true rfl, Nat.le_of_ble_eq_true rfl⟩ dX9_power_26 (fun hu3 _ => ?_)
    refine g_af (ws' := WM ad g I L S (u2 (u2 Z 3 0 (nI 0)) 3 0 (nI 1)) Y ++ []) (st' := [.int (nI 0)]) (cells' := 0) (slots' := 0) (pc' := 29) rfl rfl rfl rfl rfl ?_
    exact g_iret X hr () (rfl) (trivial) (rfl) (Nat.le_of_ble_eq_true rfl) (Nat.le_of_ble_eq_true rfl) dX9_power_29
  · rw [nz_eq (by omega)] at hc2; first | omega | (simp at hc2)

def KX9_readOf_0_0 : List (Nat × Instr × Nat) := [(0, .aload_n 0, 1)]
theorem KX9_readOf_0_0_d : ∀ z ∈ KX9_readOf_0_0, decode cX9_readOf z.1 = .ok z.2 := by decide +kernel
def KX9_readOf_4_1 : List (Nat × Instr × Nat) := [(4, .iload_n 1, 1)]
theorem KX9_readOf_4_1_d : ∀ z ∈ KX9_readOf_4_1, decode cX9_readOf z.1 = .ok z.2 := by decide +kernel
def KX9_readOf_9_2 : List (Nat × Instr × Nat) := [(9, .iconst (-1), 1)]
theorem KX9_readOf_9_2_d : ∀ z ∈ KX9_readOf_9_2, decode cX9_readOf z.1 = .ok z.2 := by decide +kernel
def KX9_readOf_28_3 : List (Nat × Instr × Nat) := [(28, .iload_n 1, 1), (29, .bipush 16, 2), (31, .imul, 1), (32, .iload_n 2, 1), (33, .iadd, 1), (34, .istore_n 3, 1), (35, .aload_n 0, 1)]
theorem KX9_readOf_28_3_d : ∀ z ∈ KX9_readOf_28_3, decode cX9_readOf z.1 = .ok z.2 := by decide +kernel
def KX9_readOf_39_4 : List (Nat × Instr × Nat) := [(39, .iload_n 3, 1)]
theorem KX9_readOf_39_4_d : ∀ z ∈ KX9_readOf_39_4, decode cX9_readOf z.1 = .ok z.2 := by decide +kernel
def KX9_readOf_41_5 : List (Nat × Instr × Nat) := [(41, .aload_n 0, 1)]
theorem KX9_readOf_41_5_d : ∀ z ∈ KX9_readOf_41_5, decode cX9_readOf z.1 = .ok z.2 := by decide +kernel
def KX9_readOf_45_6 : List (Nat × Instr × Nat) := [(45, .iload_n 3, 1)]
theorem KX9_readOf_45_6_d : ∀ z ∈ KX9_readOf_45_6, decode cX9_readOf z.1 = .ok z.2 := by decide +kernel
def KX9_readOf_47_7 : List (Nat × Instr × Nat) := [(47, .iconst (-1), 1), (48, .ixor, 1), (49, .iand, 1), (50, .aload_n 0, 1)]
theorem KX9_readOf_47_7_d : ∀ z ∈ KX9_readOf_47_7, decode cX9_readOf z.1 = .ok z.2 := by decide +kernel
def KX9_readOf_54_8 : List (Nat × Instr × Nat) := [(54, .iload_n 3, 1)]
theorem KX9_readOf_54_8_d : ∀ z ∈ KX9_readOf_54_8, decode cX9_readOf z.1 = .ok z.2 := by decide +kernel
def KX9_readOf_56_9 : List (Nat × Instr × Nat) := [(56, .aload_n 0, 1)]
theorem KX9_readOf_56_9_d : ∀ z ∈ KX9_readOf_56_9, decode cX9_readOf z.1 = .ok z.2 := by decide +kernel
def KX9_readOf_60_10 : List (Nat × Instr × Nat) := [(60, .iload_n 3, 1)]
theorem KX9_readOf_60_10_d : ∀ z ∈ KX9_readOf_60_10, decode cX9_readOf z.1 = .ok z.2 := by decide +kernel
def KX9_readOf_62_11 : List (Nat × Instr × Nat) := [(62, .iand, 1), (63, .ior, 1)]
theorem KX9_readOf_62_11_d : ∀ z ∈ KX9_readOf_62_11, decode cX9_readOf z.1 = .ok z.2 := by decide +kernel
def KX9_readOf_13_12 : List (Nat × Instr × Nat) := [(13, .aload_n 0, 1)]
theorem KX9_readOf_13_12_d : ∀ z ∈ KX9_readOf_13_12, decode cX9_readOf z.1 = .ok z.2 := by decide +kernel
def KX9_readOf_17_13 : List (Nat × Instr × Nat) := [(17, .iload_n 1, 1)]
theorem KX9_readOf_17_13_d : ∀ z ∈ KX9_readOf_17_13, decode cX9_readOf z.1 = .ok z.2 := by decide +kernel
def KX9_readOf_22_14 : List (Nat × Instr × Nat) := [(22, .iload_n 2, 1), (23, .iadd, 1), (24, .bipush 16, 2)]
theorem KX9_readOf_22_14_d : ∀ z ∈ KX9_readOf_22_14, decode cX9_readOf z.1 = .ok z.2 := by decide +kernel
set_option maxHeartbeats 4000000 in
set_option maxRecDepth 100000 in
theorem c_X9_readOf (l : Launch) (D : va_G) (g : Nat → ClassId) (ad : Nat → Nat) (I : Nat → Nat → Int32) (L : Nat → Nat → Int64) (S : Nat → Nat) (Z : Nat → Nat → Int32) (Y : Int64) (ch : Nat) (q : Nat) (hK : kOK I) (hch : ch < 18) (hq : q < 16) : CT l yX9_readOf cX9_readOf 4 ((Option.some FieldType.int)) ({ frames := 0, cells := 0, slots := 0, locals := 0 } : Room) [.ref (ad 0), .int (nI ch), .int (nI q)] D CL (TYS g) ([]) (WM ad g I L S Z Y) (S := Unit) (fun _ => some (.int (nI (rd I L ch q)))) (fun _ => WM ad g I L S Z Y) (fun _ => True) 0 0 := by
  refine ct_of (by decide +kernel) (Nat.le_of_ble_eq_true rfl) ?_
  intro p e s m below meth c A X hr hnm hSB hRO hAf
  refine g_cs (ws' := WM ad g I L S Z Y ++ []) (lv' := [(0, .ref (ad 0)), (1, .int (nI ch)), (2, .int (nI q))]) (List.append_nil _) rfl ?_
  refine g_run X KX9_readOf_0_0 KX9_readOf_0_0_d 1 [(0, .ref (ad 0)), (1, .int (nI ch)), (2, .int (nI q))] [.ref (ad 0)] rfl ?_
  refine g_get X srcW (v := .ref (ad 6)) hinX9 rfl 6 (by decide) w_1186 rfl (wm_mem (k := 0) (by decide)) rfl dX9_readOf_1 ?_
  refine g_run X KX9_readOf_4_1 KX9_readOf_4_1_d 5 [(0, .ref (ad 0)), (1, .int (nI ch)), (2, .int (nI q))] [.int (nI ch), .ref (ad 6)] rfl ?_
  refine g_aald X srcW (b := ad (ch + 17)) 3 rfl (wm_mem (k := 6) (by decide)) ch rfl (by omega) (by decide) (rfl) dX9_readOf_5 ?_
  refine g_getN X srcW (host := "ChipfieldModel") (v := .int (I 1 ch)) hinX7 rfl 1 (by decide) (nw_in n_1098 rfl) rfl (wm_ch (by omega)) rfl dX9_readOf_6 ?_
  refine g_run X KX9_readOf_9_2 KX9_readOf_9_2_d 10 [(0, .ref (ad 0)), (1, .int (nI ch)), (2, .int (nI q))] [.int (-nI 1), .int (I 1 ch)] rfl ?_
  refine g_icmp_eq X 28 dX9_readOf_10 (by decide) (fun hc1 => ?_) (fun hc1 => ?_)
  · refine g_run X KX9_readOf_28_3 KX9_readOf_28_3_d 36 [(3, .int (((nI ch) * (nI 16)) + (nI q))), (0, .ref (ad 0)), (1, .int (nI ch)), (2, .int (nI q))] [.ref (ad 0)] rfl ?_
    refine g_nm (lv' := [(3, .int (nI ((ch * 16) + q))), (0, .ref (ad 0)), (1, .int (nI ch)), (2, .int (nI q))]) (st' := [.ref (ad 0)]) (by simp only [nI_add, pk_mul]) (by simp only [nI_add, pk_mul]) ?_
    refine g_get X srcW (v := .ref (ad 3)) hinX9 rfl 3 (by decide) w_1183 rfl (wm_mem (k := 0) (by decide)) rfl dX9_readOf_36 ?_
    refine g_run X KX9_readOf_39_4 KX9_readOf_39_4_d 40 [(3, .int (nI ((ch * 16) + q))), (0, .ref (ad 0)), (1, .int (nI ch)), (2, .int (nI q))] [.int (nI ((ch * 16) + q)), .ref (ad 3)] rfl ?_
    refine g_iald X srcW (v := nI (nib (L 0 ch) q)) 0 rfl (wm_mem (k := 3) (by decide)) ((ch * 16) + q) rfl (by omega) (by decide) (ar_at (c := ch) (q := q) (by omega)) dX9_readOf_40 ?_
    refine g_run X KX9_readOf_41_5 KX9_readOf_41_5_d 42 [(3, .int (nI ((ch * 16) + q))), (0, .ref (ad 0)), (1, .int (nI ch)), (2, .int (nI q))] [.ref (ad 0), .int (nI (nib (L 0 ch) q))] rfl ?_
    refine g_get X srcW (v := .ref (ad 4)) hinX9 rfl 4 (by decide) w_1184 rfl (wm_mem (k := 0) (by decide)) rfl dX9_readOf_42 ?_
    refine g_run X KX9_readOf_45_6 KX9_readOf_45_6_d 46 [(3, .int (nI ((ch * 16) + q))), (0, .ref (ad 0)), (1, .int (nI ch)), (2, .int (nI q))] [.int (nI ((ch * 16) + q)), .ref (ad 4), .int (nI (nib (L 0 ch) q))] rfl ?_
    refine g_iald X srcW (v := nI (nib (L 1 ch) q)) 0 rfl (wm_mem (k := 4) (by decide)) ((ch * 16) + q) rfl (by omega) (by decide) (ar_at (c := ch) (q := q) (by omega)) dX9_readOf_46 ?_
    refine g_run X KX9_readOf_47_7 KX9_readOf_47_7_d 51 [(3, .int (nI ((ch * 16) + q))), (0, .ref (ad 0)), (1, .int (nI ch)), (2, .int (nI q))] [.ref (ad 0), .int ((nI (nib (L 0 ch) q)) &&& ((nI (nib (L 1 ch) q)) ^^^ (-nI 1)))] rfl ?_
    refine g_get X srcW (v := .ref (ad 5)) hinX9 rfl 5 (by decide) w_1185 rfl (wm_mem (k := 0) (by decide)) rfl dX9_readOf_51 ?_
    refine g_run X KX9_readOf_54_8 KX9_readOf_54_8_d 55 [(3, .int (nI ((ch * 16) + q))), (0, .ref (ad 0)), (1, .int (nI ch)), (2, .int (nI q))] [.int (nI ((ch * 16) + q)), .ref (ad 5), .int ((nI (nib (L 0 ch) q)) &&& ((nI (nib (L 1 ch) q)) ^^^ (-nI 1)))] rfl ?_
    refine g_iald X srcW (v := nI (nib (L 2 ch) q)) 0 rfl (wm_mem (k := 5) (by decide)) ((ch * 16) + q) rfl (by omega) (by decide) (ar_at (c := ch) (q := q) (by omega)) dX9_readOf_55 ?_
    refine g_run X KX9_readOf_56_9 KX9_readOf_56_9_d 57 [(3, .int (nI ((ch * 16) + q))), (0, .ref (ad 0)), (1, .int (nI ch)), (2, .int (nI q))] [.ref (ad 0), .int (nI (nib (L 2 ch) q)), .int ((nI (nib (L 0 ch) q)) &&& ((nI (nib (L 1 ch) q)) ^^^ (-nI 1)))] rfl ?_
    refine g_get X srcW (v := .ref (ad 4)) hinX9 rfl 4 (by decide) w_1184 rfl (wm_mem (k := 0) (by decide)) rfl dX9_readOf_57 ?_
    refine g_run X KX9_readOf_60_10 KX9_readOf_60_10_d 61 [(3, .int (nI ((ch * 16) + q))), (0, .ref (ad 0)), (1, .int (nI ch)), (2, .int (nI q))] [.int (nI ((ch * 16) + q)), .ref (ad 4), .int (nI (nib (L 2 ch) q)), .int ((nI (nib (L 0 ch) q)) &&& ((nI (nib (L 1 ch) q)) ^^^ (-nI 1)))] rfl ?_
    refine g_iald X srcW (v := nI (nib (L 1 ch) q)) 0 rfl (wm_mem (k := 4) (by decide)) ((ch * 16) + q) rfl (by omega) (by decide) (ar_at (c := ch) (q := q) (by omega)) dX9_readOf_61 ?_
    refine g_run X KX9_readOf_62_11 KX9_readOf_62_11_d 64 [(3, .int (nI ((ch * 16) + q))), (0, .ref (ad 0)), (1, .int (nI ch)), (2, .int (nI q))] [.int (((nI (nib (L 0 ch) q)) &&& ((nI (nib (L 1 ch) q)) ^^^ (-nI 1))) ||| ((nI (nib (L 2 ch) q)) &&& (nI (nib (L 1 ch) q))))] rfl ?_
    exact g_iret X hr () (by show some (Value.int _) = some (Value.int _); rw [rd, if_pos (by assumption), rd_not (nib_lt _ _) (nib_lt _ _), nx_and, nx_or]) (trivial) (rfl) (Nat.le_of_ble_eq_true rfl) (Nat.le_of_ble_eq_true rfl) dX9_readOf_64
  · have hmad := hc1
    refine g_run X KX9_readOf_13_12 KX9_readOf_13_12_d 14 [(0, .ref (ad 0)), (1, .int (nI ch)), (2, .int (nI q))] [.ref (ad 0)] rfl ?_
    refine g_get X srcW (v := .ref (ad 6)) hinX9 rfl 6 (by decide) w_1186 rfl (wm_mem (k := 0) (by decide)) rfl dX9_readOf_14 ?_
    refine g_run X KX9_readOf_17_13 KX9_readOf_17_13_d 18 [(0, .ref (ad 0)), (1, .int (nI ch)), (2, .int (nI q))] [.int (nI ch), .ref (ad 6)] rfl ?_
    refine g_aald X srcW (b := ad (ch + 17)) 3 rfl (wm_mem (k := 6) (by decide)) ch rfl (by omega) (by decide) (rfl) dX9_readOf_18 ?_
    refine g_getN X srcW (host := "ChipfieldModel") (v := .int (I 1 ch)) hinX7 rfl 1 (by decide) (nw_in n_1098 rfl) rfl (wm_ch (by omega)) rfl dX9_readOf_19 ?_
    refine g_run X KX9_readOf_22_14 KX9_readOf_22_14_d 26 [(0, .ref (ad 0)), (1, .int (nI ch)), (2, .int (nI q))] [.int (nI 16), .int ((I 1 ch) + (nI q))] rfl ?_
    obtain ⟨k, hk, ek⟩ := (hK ch hch).resolve_left hmad
    refine g_st (st' := [.int (nI 16), .int (nI (k + q))]) (by rw [ek, nI_add]) ?_
    refine g_irem X (v := nI ((k + q) % 16)) (nI_ne0 (by decide) (by decide)) (pk_rem (by omega) (by omega) (by decide)) dX9_readOf_26 ?_
    exact g_iret X hr () (by show some (Value.int _) = some (Value.int _); rw [rd_key hmad hk ek]) (trivial) (rfl) (Nat.le_of_ble_eq_true rfl) (Nat.le_of_ble_eq_true rfl) dX9_readOf_27

def KX9_erased_0_0 : List (Nat × Instr × Nat) := [(0, .iconst 0, 1), (1, .istore_n 1, 1), (2, .iconst 0, 1), (3, .istore_n 2, 1)]
theorem KX9_erased_0_0_d : ∀ z ∈ KX9_erased_0_0, decode cX9_erased z.1 = .ok z.2 := by decide +kernel
def KX9_erased_4_1 : List (Nat × Instr × Nat) := [(4, .iload_n 2, 1), (5, .bipush 15, 2)]
theorem KX9_erased_4_1_d : ∀ z ∈ KX9_erased_4_1, decode cX9_erased z.1 = .ok z.2 := by decide +kernel
def KX9_erased_43_2 : List (Nat × Instr × Nat) := [(43, .iload_n 1, 1)]
theorem KX9_erased_43_2_d : ∀ z ∈ KX9_erased_43_2, decode cX9_erased z.1 = .ok z.2 := by decide +kernel
def KX9_erased_10_3 : List (Nat × Instr × Nat) := [(10, .iload_n 1, 1), (11, .aload_n 0, 1)]
theorem KX9_erased_10_3_d : ∀ z ∈ KX9_erased_10_3, decode cX9_erased z.1 = .ok z.2 := by decide +kernel
def KX9_erased_15_4 : List (Nat × Instr × Nat) := [(15, .aload_n 0, 1)]
theorem KX9_erased_15_4_d : ∀ z ∈ KX9_erased_15_4, decode cX9_erased z.1 = .ok z.2 := by decide +kernel
def KX9_erased_19_5 : List (Nat × Instr × Nat) := [(19, .iload_n 2, 1)]
theorem KX9_erased_19_5_d : ∀ z ∈ KX9_erased_19_5, decode cX9_erased z.1 = .ok z.2 := by decide +kernel
def KX9_erased_34_6 : List (Nat × Instr × Nat) := [(34, .iconst 0, 1), (35, .ior, 1), (36, .istore_n 1, 1), (37, .iinc 2 1, 3), (40, .goto (-36), 3)]
theorem KX9_erased_34_6_d : ∀ z ∈ KX9_erased_34_6, decode cX9_erased z.1 = .ok z.2 := by decide +kernel
def KX9_erased_28_7 : List (Nat × Instr × Nat) := [(28, .iconst 1, 1), (29, .iload_n 2, 1), (30, .ishl, 1), (31, .goto 4, 3), (35, .ior, 1), (36, .istore_n 1, 1), (37, .iinc 2 1, 3), (40, .goto (-36), 3)]
theorem KX9_erased_28_7_d : ∀ z ∈ KX9_erased_28_7, decode cX9_erased z.1 = .ok z.2 := by decide +kernel
set_option maxHeartbeats 4000000 in
set_option maxRecDepth 100000 in
theorem c_X9_erased (l : Launch) (D : va_G) (g : Nat → ClassId) (ad : Nat → Nat) (I : Nat → Nat → Int32) (L : Nat → Nat → Int64) (S : Nat → Nat) (Z : Nat → Nat → Int32) (Y : Int64) (hS18 : ∀ p, p < 15 → S p < 18) : CT l yX9_erased cX9_erased 3 ((Option.some FieldType.int)) ({ frames := 0, cells := 0, slots := 0, locals := 0 } : Room) [.ref (ad 0)] D CL (TYS g) ([]) (WM ad g I L S Z Y) (S := Unit) (fun _ => some (.int (nI (ers I S 15)))) (fun _ => WM ad g I L S Z Y) (fun _ => True) 0 0 := by
  refine ct_of (by decide +kernel) (Nat.le_of_ble_eq_true rfl) ?_
  intro p e s m below meth c A X hr hnm hSB hRO hAf
  refine g_cs (ws' := WM ad g I L S Z Y ++ []) (lv' := [(0, .ref (ad 0))]) (List.append_nil _) rfl ?_
  refine g_run X KX9_erased_0_0 KX9_erased_0_0_d 4 [(2, .int (nI 0)), (1, .int (nI 0)), (0, .ref (ad 0))] [] rfl ?_
  refine g_lv (lv' := [(0, .ref (ad 0)), (1, .int (nI 0)), (2, .int (nI 0))]) (lsub_c 2 rfl (lsub_c 1 rfl (lsub_c 0 rfl (lsub_n)))) ?_
  refine g_for 15 (fun _ => WM ad g I L S Z Y ++ []) (fun i => [(0, .ref (ad 0)), (1, .int (nI (ers I S i))), (2, .int (nI i))]) (rfl) (rfl) ?_ ?_
  · refine g_run X KX9_erased_4_1 KX9_erased_4_1_d 7 [(0, .ref (ad 0)), (1, .int (nI (ers I S 15))), (2, .int (nI 15))] [.int (nI 15), .int (nI 15)] rfl ?_
    refine g_icmp_ge X 43 dX9_erased_7 (by decide) (fun hc1 => ?_) (fun hc1 => ?_)
    · refine g_run X KX9_erased_43_2 KX9_erased_43_2_d 44 [(0, .ref (ad 0)), (1, .int (nI (ers I S 15))), (2, .int (nI 15))] [.int (nI (ers I S 15))] rfl ?_
      exact g_iret X hr () (rfl) (trivial) (rfl) (Nat.le_of_ble_eq_true rfl) (Nat.le_of_ble_eq_true rfl) dX9_erased_44
    · rw [nI_leI (by omega) (by omega)] at hc1; first | omega | (simp at hc1)
  · intro i hi k4
    refine g_run X KX9_erased_4_1 KX9_erased_4_1_d 7 [(0, .ref (ad 0)), (1, .int (nI (ers I S i))), (2, .int (nI i))] [.int (nI 15), .int (nI i)] rfl ?_
    refine g_icmp_ge X 43 dX9_erased_7 (by decide) (fun hc2 => ?_) (fun hc2 => ?_)
    · rw [nI_leI (by omega) (by omega)] at hc2; first | omega | (simp at hc2)
    · refine g_run X KX9_erased_10_3 KX9_erased_10_3_d 12 [(0, .ref (ad 0)), (1, .int (nI (ers I S i))), (2, .int (nI i))] [.ref (ad 0), .int (nI (ers I S i))] rfl ?_
      refine g_get X srcW (v := .ref (ad 6)) hinX9 rfl 6 (by decide) w_1186 rfl (wm_mem (k := 0) (by decide)) rfl dX9_erased_12 ?_
      refine g_run X KX9_erased_15_4 KX9_erased_15_4_d 16 [(0, .ref (ad 0)), (1, .int (nI (ers I S i))), (2, .int (nI i))] [.ref (ad 0), .ref (ad 6), .int (nI (ers I S i))] rfl ?_
      refine g_get X srcW (v := .ref (ad 7)) hinX9 rfl 7 (by decide) w_1187 rfl (wm_mem (k := 0) (by decide)) rfl dX9_erased_16 ?_
      refine g_run X KX9_erased_19_5 KX9_erased_19_5_d 20 [(0, .ref (ad 0)), (1, .int (nI (ers I S i))), (2, .int (nI i))] [.int (nI i), .ref (ad 7), .ref (ad 6), .int (nI (ers I S i))] rfl ?_
      refine g_iald X srcW (v := nI (S i)) 0 rfl (wm_mem (k := 7) (by decide)) i rfl (by omega) (by decide) (st_at (by omega)) dX9_erased_20 ?_
      refine g_aald X srcW (b := ad ((S i) + 17)) 3 rfl (wm_mem (k := 6) (by decide)) (S i) rfl (hS18 _ (by omega)) (by decide) (rfl) dX9_erased_21 ?_
      refine g_getN X srcW (host := "ChipfieldModel") (v := .int (I 3 (S i))) hinX7 rfl 3 (by decide) (nw_in n_1100 rfl) rfl (wm_ch (hS18 _ (by omega))) rfl dX9_erased_22 ?_
      refine g_if_eq X 34 dX9_erased_25 (by decide) (fun hc3 => ?_) (fun hc3 => ?_)
      · refine g_run X KX9_erased_34_6 KX9_erased_34_6_d 4 [(2, .int ((nI i) + (nI 1))), (1, .int ((nI (ers I S i)) ||| (nI 0))), (0, .ref (ad 0))] [] rfl ?_
        refine g_nm (lv' := [(2, .int (nI (i + 1))), (1, .int (nI ((ers I S i) ||| 0))), (0, .ref (ad 0))]) (st' := []) (by simp only [nI_add, nx_or]) (by simp only [nI_add, nx_or]) ?_
        refine g_lv (lv' := [(0, .ref (ad 0)), (1, .int (nI ((ers I S i) ||| 0))), (2, .int (nI (i + 1)))]) (lsub_c 2 rfl (lsub_c 1 rfl (lsub_c 0 rfl (lsub_n)))) ?_
        refine g_cs (ws' := WM ad g I L S Z Y ++ []) (lv' := [(0, .ref (ad 0)), (1, .int (nI (ers I S (i + 1)))), (2, .int (nI (i + 1)))]) (rfl) (by simp [ers, *]) ?_
        exact k4
      · refine g_run X KX9_erased_28_7 KX9_erased_28_7_d 4 [(2, .int ((nI i) + (nI 1))), (1, .int ((nI (ers I S i)) ||| ((nI 1) <<< ((nI i) &&& 31)))), (0, .ref (ad 0))] [] rfl ?_
        refine g_nm (lv' := [(2, .int (nI (i + 1))), (1, .int (nI ((ers I S i) ||| (2 ^ i)))), (0, .ref (ad 0))]) (st' := []) (by simp only [nI_add, nx_or, sh1 (show i < 31 by omega)]) (by simp only [nI_add, nx_or, sh1 (show i < 31 by omega)]) ?_
        refine g_lv (lv' := [(0, .ref (ad 0)), (1, .int (nI ((ers I S i) ||| (2 ^ i)))), (2, .int (nI (i + 1)))]) (lsub_c 2 rfl (lsub_c 1 rfl (lsub_c 0 rfl (lsub_n)))) ?_
        refine g_cs (ws' := WM ad g I L S Z Y ++ []) (lv' := [(0, .ref (ad 0)), (1, .int (nI (ers I S (i + 1)))), (2, .int (nI (i + 1)))]) (rfl) (by simp [ers, *]) ?_
        exact k4

def KX9_spares_0_0 : List (Nat × Instr × Nat) := [(0, .iconst 0, 1), (1, .istore_n 1, 1), (2, .aload_n 0, 1)]
theorem KX9_spares_0_0_d : ∀ z ∈ KX9_spares_0_0, decode cX9_spares z.1 = .ok z.2 := by decide +kernel
def KX9_spares_6_1 : List (Nat × Instr × Nat) := [(6, .astore_n 2, 1), (7, .aload_n 2, 1)]
theorem KX9_spares_6_1_d : ∀ z ∈ KX9_spares_6_1, decode cX9_spares z.1 = .ok z.2 := by decide +kernel
def KX9_spares_9_2 : List (Nat × Instr × Nat) := [(9, .istore_n 3, 1), (10, .iconst 0, 1), (11, .istore 4, 2)]
theorem KX9_spares_9_2_d : ∀ z ∈ KX9_spares_9_2, decode cX9_spares z.1 = .ok z.2 := by decide +kernel
def KX9_spares_13_3 : List (Nat × Instr × Nat) := [(13, .iload 4, 2), (15, .iload_n 3, 1)]
theorem KX9_spares_13_3_d : ∀ z ∈ KX9_spares_13_3, decode cX9_spares z.1 = .ok z.2 := by decide +kernel
def KX9_spares_56_4 : List (Nat × Instr × Nat) := [(56, .iload_n 1, 1)]
theorem KX9_spares_56_4_d : ∀ z ∈ KX9_spares_56_4, decode cX9_spares z.1 = .ok z.2 := by decide +kernel
def KX9_spares_19_5 : List (Nat × Instr × Nat) := [(19, .aload_n 2, 1), (20, .iload 4, 2)]
theorem KX9_spares_19_5_d : ∀ z ∈ KX9_spares_19_5, decode cX9_spares z.1 = .ok z.2 := by decide +kernel
def KX9_spares_23_6 : List (Nat × Instr × Nat) := [(23, .astore 5, 2), (25, .iload_n 1, 1), (26, .aload 5, 2)]
theorem KX9_spares_23_6_d : ∀ z ∈ KX9_spares_23_6, decode cX9_spares z.1 = .ok z.2 := by decide +kernel
def KX9_spares_31_7 : List (Nat × Instr × Nat) := [(31, .iconst (-1), 1)]
theorem KX9_spares_31_7_d : ∀ z ∈ KX9_spares_31_7, decode cX9_spares z.1 = .ok z.2 := by decide +kernel
def KX9_spares_47_8 : List (Nat × Instr × Nat) := [(47, .iconst 0, 1), (48, .iadd, 1), (49, .istore_n 1, 1), (50, .iinc 4 1, 3), (53, .goto (-40), 3)]
theorem KX9_spares_47_8_d : ∀ z ∈ KX9_spares_47_8, decode cX9_spares z.1 = .ok z.2 := by decide +kernel
def KX9_spares_35_9 : List (Nat × Instr × Nat) := [(35, .aload 5, 2)]
theorem KX9_spares_35_9_d : ∀ z ∈ KX9_spares_35_9, decode cX9_spares z.1 = .ok z.2 := by decide +kernel
def KX9_spares_43_10 : List (Nat × Instr × Nat) := [(43, .iconst 1, 1), (44, .goto 4, 3), (48, .iadd, 1), (49, .istore_n 1, 1), (50, .iinc 4 1, 3), (53, .goto (-40), 3)]
theorem KX9_spares_43_10_d : ∀ z ∈ KX9_spares_43_10, decode cX9_spares z.1 = .ok z.2 := by decide +kernel
set_option maxHeartbeats 4000000 in
set_option maxRecDepth 100000 in
theorem c_X9_spares (l : Launch) (D : va_G) (g : Nat → ClassId) (ad : Nat → Nat) (I : Nat → Nat → Int32) (L : Nat → Nat → Int64) (S : Nat → Nat) (Z : Nat → Nat → Int32) (Y : Int64) : CT l yX9_spares cX9_spares 6 ((Option.some FieldType.int)) ({ frames := 0, cells := 0, slots := 0, locals := 0 } : Room) [.ref (ad 0)] D CL (TYS g) ([]) (WM ad g I L S Z Y) (S := Unit) (fun _ => some (.int (nI (spn I 18)))) (fun _ => WM ad g I L S Z Y) (fun _ => True) 0 0 := by
  refine ct_of (by decide +kernel) (Nat.le_of_ble_eq_true rfl) ?_
  intro p e s m below meth c A X hr hnm hSB hRO hAf
  refine g_cs (ws' := WM ad g I L S Z Y ++ []) (lv' := [(0, .ref (ad 0))]) (List.append_nil _) rfl ?_
  refine g_run X KX9_spares_0_0 KX9_spares_0_0_d 3 [(1, .int (nI 0)), (0, .ref (ad 0))] [.ref (ad 0)] rfl ?_
  refine g_get X srcW (v := .ref (ad 6)) hinX9 rfl 6 (by decide) w_1186 rfl (wm_mem (k := 0) (by decide)) rfl dX9_spares_3 ?_
  refine g_run X KX9_spares_6_1 KX9_spares_6_1_d 8 [(2, .ref (ad 6)), (1, .int (nI 0)), (0, .ref (ad 0))] [.ref (ad 6)] rfl ?_
  refine g_alen X srcW (v := nI 18) 3 rfl (wm_mem (k := 6) (by decide)) rfl dX9_spares_8 ?_
  refine g_run X KX9_spares_9_2 KX9_spares_9_2_d 13 [(4, .int (nI 0)), (3, .int (nI 18)), (2, .ref (ad 6)), (1, .int (nI 0)), (0, .ref (ad 0))] [] rfl ?_
  refine g_lv (lv' := [(0, .ref (ad 0)), (1, .int (nI 0)), (2, .ref (ad 6)), (3, .int (nI 18)), (4, .int (nI 0))]) (lsub_c 4 rfl (lsub_c 3 rfl (lsub_c 2 rfl (lsub_c 1 rfl (lsub_c 0 rfl (lsub_n)))))) ?_
  refine g_for 18 (fun _ => WM ad g I L S Z Y ++ []) (fun i => [(0, .ref (ad 0)), (1, .int (nI (spn I i))), (2, .ref (ad 6)), (3, .int (nI 18)), (4, .int (nI i))]) (rfl) (rfl) ?_ ?_
  · refine g_run X KX9_spares_13_3 KX9_spares_13_3_d 16 [(0, .ref (ad 0)), (1, .int (nI (spn I 18))), (2, .ref (ad 6)), (3, .int (nI 18)), (4, .int (nI 18))] [.int (nI 18), .int (nI 18)] rfl ?_
    refine g_icmp_ge X 56 dX9_spares_16 (by decide) (fun hc1 => ?_) (fun hc1 => ?_)
    · refine g_run X KX9_spares_56_4 KX9_spares_56_4_d 57 [(0, .ref (ad 0)), (1, .int (nI (spn I 18))), (2, .ref (ad 6)), (3, .int (nI 18)), (4, .int (nI 18))] [.int (nI (spn I 18))] rfl ?_
      exact g_iret X hr () (rfl) (trivial) (rfl) (Nat.le_of_ble_eq_true rfl) (Nat.le_of_ble_eq_true rfl) dX9_spares_57
    · rw [nI_leI (by omega) (by omega)] at hc1; first | omega | (simp at hc1)
  · intro i hi k13
    refine g_run X KX9_spares_13_3 KX9_spares_13_3_d 16 [(0, .ref (ad 0)), (1, .int (nI (spn I i))), (2, .ref (ad 6)), (3, .int (nI 18)), (4, .int (nI i))] [.int (nI 18), .int (nI i)] rfl ?_
    refine g_icmp_ge X 56 dX9_spares_16 (by decide) (fun hc2 => ?_) (fun hc2 => ?_)
    · rw [nI_leI (by omega) (by omega)] at hc2; first | omega | (simp at hc2)
    · refine g_run X KX9_spares_19_5 KX9_spares_19_5_d 22 [(0, .ref (ad 0)), (1, .int (nI (spn I i))), (2, .ref (ad 6)), (3, .int (nI 18)), (4, .int (nI i))] [.int (nI i), .ref (ad 6)] rfl ?_
      refine g_aald X srcW (b := ad (i + 17)) 3 rfl (wm_mem (k := 6) (by decide)) i rfl (by omega) (by decide) (rfl) dX9_spares_22 ?_
      refine g_run X KX9_spares_23_6 KX9_spares_23_6_d 28 [(5, .ref (ad (i + 17))), (0, .ref (ad 0)), (1, .int (nI (spn I i))), (2, .ref (ad 6)), (3, .int (nI 18)), (4, .int (nI i))] [.ref (ad (i + 17)), .int (nI (spn I i))] rfl ?_
      refine g_getN X srcW (host := "ChipfieldModel") (v := .int (I 0 i)) hinX7 rfl 0 (by decide) (nw_in n_1096 rfl) rfl (wm_ch (by omega)) rfl dX9_spares_28 ?_
      refine g_run X KX9_spares_31_7 KX9_spares_31_7_d 32 [(5, .ref (ad (i + 17))), (0, .ref (ad 0)), (1, .int (nI (spn I i))), (2, .ref (ad 6)), (3, .int (nI 18)), (4, .int (nI i))] [.int (-nI 1), .int (I 0 i), .int (nI (spn I i))] rfl ?_
      refine g_icmp_ne X 47 dX9_spares_32 (by decide) (fun hc3 => ?_) (fun hc3 => ?_)
      · refine g_run X KX9_spares_47_8 KX9_spares_47_8_d 13 [(4, .int ((nI i) + (nI 1))), (1, .int ((nI (spn I i)) + (nI 0))), (5, .ref (ad (i + 17))), (0, .ref (ad 0)), (2, .ref (ad 6)), (3, .int (nI 18))] [] rfl ?_
        refine g_nm (lv' := [(4, .int (nI (i + 1))), (1, .int (nI ((spn I i) + 0))), (5, .ref (ad (i + 17))), (0, .ref (ad 0)), (2, .ref (ad 6)), (3, .int (nI 18))]) (st' := []) (by simp only [nI_add]) (by simp only [nI_add]) ?_
        refine g_lv (lv' := [(0, .ref (ad 0)), (1, .int (nI ((spn I i) + 0))), (2, .ref (ad 6)), (3, .int (nI 18)), (4, .int (nI (i + 1)))]) (lsub_c 3 rfl (lsub_c 1 rfl (lsub_c 4 rfl (lsub_c 5 rfl (lsub_c 0 rfl (lsub_n)))))) ?_
        refine g_cs (ws' := WM ad g I L S Z Y ++ []) (lv' := [(0, .ref (ad 0)), (1, .int (nI (spn I (i + 1)))), (2, .ref (ad 6)), (3, .int (nI 18)), (4, .int (nI (i + 1)))]) (rfl) (by simp [spn, *]) ?_
        exact k13
      · refine g_run X KX9_spares_35_9 KX9_spares_35_9_d 37 [(5, .ref (ad (i + 17))), (0, .ref (ad 0)), (1, .int (nI (spn I i))), (2, .ref (ad 6)), (3, .int (nI 18)), (4, .int (nI i))] [.ref (ad (i + 17)), .int (nI (spn I i))] rfl ?_
        refine g_getN X srcW (host := "ChipfieldModel") (v := .int (I 4 i)) hinX7 rfl 4 (by decide) (nw_in n_1101 rfl) rfl (wm_ch (by omega)) rfl dX9_spares_37 ?_
        refine g_if_ne X 47 dX9_spares_40 (by decide) (fun hc4 => ?_) (fun hc4 => ?_)
        · refine g_run X KX9_spares_47_8 KX9_spares_47_8_d 13 [(4, .int ((nI i) + (nI 1))), (1, .int ((nI (spn I i)) + (nI 0))), (5, .ref (ad (i + 17))), (0, .ref (ad 0)), (2, .ref (ad 6)), (3, .int (nI 18))] [] rfl ?_
          refine g_nm (lv' := [(4, .int (nI (i + 1))), (1, .int (nI ((spn I i) + 0))), (5, .ref (ad (i + 17))), (0, .ref (ad 0)), (2, .ref (ad 6)), (3, .int (nI 18))]) (st' := []) (by simp only [nI_add]) (by simp only [nI_add]) ?_
          refine g_lv (lv' := [(0, .ref (ad 0)), (1, .int (nI ((spn I i) + 0))), (2, .ref (ad 6)), (3, .int (nI 18)), (4, .int (nI (i + 1)))]) (lsub_c 3 rfl (lsub_c 1 rfl (lsub_c 4 rfl (lsub_c 5 rfl (lsub_c 0 rfl (lsub_n)))))) ?_
          refine g_cs (ws' := WM ad g I L S Z Y ++ []) (lv' := [(0, .ref (ad 0)), (1, .int (nI (spn I (i + 1)))), (2, .ref (ad 6)), (3, .int (nI 18)), (4, .int (nI (i + 1)))]) (rfl) (by simp [spn, *]) ?_
          exact k13
        · refine g_run X KX9_spares_43_10 KX9_spares_43_10_d 13 [(4, .int ((nI i) + (nI 1))), (1, .int ((nI (spn I i)) + (nI 1))), (5, .ref (ad (i + 17))), (0, .ref (ad 0)), (2, .ref (ad 6)), (3, .int (nI 18))] [] rfl ?_
          refine g_nm (lv' := [(4, .int (nI (i + 1))), (1, .int (nI ((spn I i) + 1))), (5, .ref (ad (i + 17))), (0, .ref (ad 0)), (2, .ref (ad 6)), (3, .int (nI 18))]) (st' := []) (by simp only [nI_add]) (by simp only [nI_add]) ?_
          refine g_lv (lv' := [(0, .ref (ad 0)), (1, .int (nI ((spn I i) + 1))), (2, .ref (ad 6)), (3, .int (nI 18)), (4, .int (nI (i + 1)))]) (lsub_c 3 rfl (lsub_c 1 rfl (lsub_c 4 rfl (lsub_c 5 rfl (lsub_c 0 rfl (lsub_n)))))) ?_
          refine g_cs (ws' := WM ad g I L S Z Y ++ []) (lv' := [(0, .ref (ad 0)), (1, .int (nI (spn I (i + 1)))), (2, .ref (ad 6)), (3, .int (nI 18)), (4, .int (nI (i + 1)))]) (rfl) (by simp [spn, *]) ?_
          exact k13

def KX9_out_0_0 : List (Nat × Instr × Nat) := [(0, .iconst 0, 1), (1, .istore_n 1, 1), (2, .aload_n 0, 1)]
theorem KX9_out_0_0_d : ∀ z ∈ KX9_out_0_0, decode cX9_out z.1 = .ok z.2 := by decide +kernel
def KX9_out_6_1 : List (Nat × Instr × Nat) := [(6, .astore_n 2, 1), (7, .aload_n 2, 1)]
theorem KX9_out_6_1_d : ∀ z ∈ KX9_out_6_1, decode cX9_out z.1 = .ok z.2 := by decide +kernel
def KX9_out_9_2 : List (Nat × Instr × Nat) := [(9, .istore_n 3, 1), (10, .iconst 0, 1), (11, .istore 4, 2)]
theorem KX9_out_9_2_d : ∀ z ∈ KX9_out_9_2, decode cX9_out z.1 = .ok z.2 := by decide +kernel
def KX9_out_13_3 : List (Nat × Instr × Nat) := [(13, .iload 4, 2), (15, .iload_n 3, 1)]
theorem KX9_out_13_3_d : ∀ z ∈ KX9_out_13_3, decode cX9_out z.1 = .ok z.2 := by decide +kernel
def KX9_out_47_4 : List (Nat × Instr × Nat) := [(47, .iload_n 1, 1)]
theorem KX9_out_47_4_d : ∀ z ∈ KX9_out_47_4, decode cX9_out z.1 = .ok z.2 := by decide +kernel
def KX9_out_19_5 : List (Nat × Instr × Nat) := [(19, .aload_n 2, 1), (20, .iload 4, 2)]
theorem KX9_out_19_5_d : ∀ z ∈ KX9_out_19_5, decode cX9_out z.1 = .ok z.2 := by decide +kernel
def KX9_out_23_6 : List (Nat × Instr × Nat) := [(23, .astore 5, 2), (25, .iload_n 1, 1), (26, .aload 5, 2)]
theorem KX9_out_23_6_d : ∀ z ∈ KX9_out_23_6, decode cX9_out z.1 = .ok z.2 := by decide +kernel
def KX9_out_38_7 : List (Nat × Instr × Nat) := [(38, .iconst 0, 1), (39, .iadd, 1), (40, .istore_n 1, 1), (41, .iinc 4 1, 3), (44, .goto (-31), 3)]
theorem KX9_out_38_7_d : ∀ z ∈ KX9_out_38_7, decode cX9_out z.1 = .ok z.2 := by decide +kernel
def KX9_out_34_8 : List (Nat × Instr × Nat) := [(34, .iconst 1, 1), (35, .goto 4, 3), (39, .iadd, 1), (40, .istore_n 1, 1), (41, .iinc 4 1, 3), (44, .goto (-31), 3)]
theorem KX9_out_34_8_d : ∀ z ∈ KX9_out_34_8, decode cX9_out z.1 = .ok z.2 := by decide +kernel
set_option maxHeartbeats 4000000 in
set_option maxRecDepth 100000 in
theorem c_X9_out (l : Launch) (D : va_G) (g : Nat → ClassId) (ad : Nat → Nat) (I : Nat → Nat → Int32) (L : Nat → Nat → Int64) (S : Nat → Nat) (Z : Nat → Nat → Int32) (Y : Int64) : CT l yX9_out cX9_out 6 ((Option.some FieldType.int)) ({ frames := 0, cells := 0, slots := 0, locals := 0 } : Room) [.ref (ad 0)] D CL (TYS g) ([]) (WM ad g I L S Z Y) (S := Unit) (fun _ => some (.int (nI (outs I 18)))) (fun _ => WM ad g I L S Z Y) (fun _ => True) 0 0 := by
  refine ct_of (by decide +kernel) (Nat.le_of_ble_eq_true rfl) ?_
  intro p e s m below meth c A X hr hnm hSB hRO hAf
  refine g_cs (ws' := WM ad g I L S Z Y ++ []) (lv' := [(0, .ref (ad 0))]) (List.append_nil _) rfl ?_
  refine g_run X KX9_out_0_0 KX9_out_0_0_d 3 [(1, .int (nI 0)), (0, .ref (ad 0))] [.ref (ad 0)] rfl ?_
  refine g_get X srcW (v := .ref (ad 6)) hinX9 rfl 6 (by decide) w_1186 rfl (wm_mem (k := 0) (by decide)) rfl dX9_out_3 ?_
  refine g_run X KX9_out_6_1 KX9_out_6_1_d 8 [(2, .ref (ad 6)), (1, .int (nI 0)), (0, .ref (ad 0))] [.ref (ad 6)] rfl ?_
  refine g_alen X srcW (v := nI 18) 3 rfl (wm_mem (k := 6) (by decide)) rfl dX9_out_8 ?_
  refine g_run X KX9_out_9_2 KX9_out_9_2_d 13 [(4, .int (nI 0)), (3, .int (nI 18)), (2, .ref (ad 6)), (1, .int (nI 0)), (0, .ref (ad 0))] [] rfl ?_
  refine g_lv (lv' := [(0, .ref (ad 0)), (1, .int (nI 0)), (2, .ref (ad 6)), (3, .int (nI 18)), (4, .int (nI 0))]) (lsub_c 4 rfl (lsub_c 3 rfl (lsub_c 2 rfl (lsub_c 1 rfl (lsub_c 0 rfl (lsub_n)))))) ?_
  refine g_for 18 (fun _ => WM ad g I L S Z Y ++ []) (fun i => [(0, .ref (ad 0)), (1, .int (nI (outs I i))), (2, .ref (ad 6)), (3, .int (nI 18)), (4, .int (nI i))]) (rfl) (rfl) ?_ ?_
  · refine g_run X KX9_out_13_3 KX9_out_13_3_d 16 [(0, .ref (ad 0)), (1, .int (nI (outs I 18))), (2, .ref (ad 6)), (3, .int (nI 18)), (4, .int (nI 18))] [.int (nI 18), .int (nI 18)] rfl ?_
    refine g_icmp_ge X 47 dX9_out_16 (by decide) (fun hc1 => ?_) (fun hc1 => ?_)
    · refine g_run X KX9_out_47_4 KX9_out_47_4_d 48 [(0, .ref (ad 0)), (1, .int (nI (outs I 18))), (2, .ref (ad 6)), (3, .int (nI 18)), (4, .int (nI 18))] [.int (nI (outs I 18))] rfl ?_
      exact g_iret X hr () (rfl) (trivial) (rfl) (Nat.le_of_ble_eq_true rfl) (Nat.le_of_ble_eq_true rfl) dX9_out_48
    · rw [nI_leI (by omega) (by omega)] at hc1; first | omega | (simp at hc1)
  · intro i hi k13
    refine g_run X KX9_out_13_3 KX9_out_13_3_d 16 [(0, .ref (ad 0)), (1, .int (nI (outs I i))), (2, .ref (ad 6)), (3, .int (nI 18)), (4, .int (nI i))] [.int (nI 18), .int (nI i)] rfl ?_
    refine g_icmp_ge X 47 dX9_out_16 (by decide) (fun hc2 => ?_) (fun hc2 => ?_)
    · rw [nI_leI (by omega) (by omega)] at hc2; first | omega | (simp at hc2)
    · refine g_run X KX9_out_19_5 KX9_out_19_5_d 22 [(0, .ref (ad 0)), (1, .int (nI (outs I i))), (2, .ref (ad 6)), (3, .int (nI 18)), (4, .int (nI i))] [.int (nI i), .ref (ad 6)] rfl ?_
      refine g_aald X srcW (b := ad (i + 17)) 3 rfl (wm_mem (k := 6) (by decide)) i rfl (by omega) (by decide) (rfl) dX9_out_22 ?_
      refine g_run X KX9_out_23_6 KX9_out_23_6_d 28 [(5, .ref (ad (i + 17))), (0, .ref (ad 0)), (1, .int (nI (outs I i))), (2, .ref (ad 6)), (3, .int (nI 18)), (4, .int (nI i))] [.ref (ad (i + 17)), .int (nI (outs I i))] rfl ?_
      refine g_getN X srcW (host := "ChipfieldModel") (v := .int (I 4 i)) hinX7 rfl 4 (by decide) (nw_in n_1101 rfl) rfl (wm_ch (by omega)) rfl dX9_out_28 ?_
      refine g_if_eq X 38 dX9_out_31 (by decide) (fun hc3 => ?_) (fun hc3 => ?_)
      · refine g_run X KX9_out_38_7 KX9_out_38_7_d 13 [(4, .int ((nI i) + (nI 1))), (1, .int ((nI (outs I i)) + (nI 0))), (5, .ref (ad (i + 17))), (0, .ref (ad 0)), (2, .ref (ad 6)), (3, .int (nI 18))] [] rfl ?_
        refine g_nm (lv' := [(4, .int (nI (i + 1))), (1, .int (nI ((outs I i) + 0))), (5, .ref (ad (i + 17))), (0, .ref (ad 0)), (2, .ref (ad 6)), (3, .int (nI 18))]) (st' := []) (by simp only [nI_add]) (by simp only [nI_add]) ?_
        refine g_lv (lv' := [(0, .ref (ad 0)), (1, .int (nI ((outs I i) + 0))), (2, .ref (ad 6)), (3, .int (nI 18)), (4, .int (nI (i + 1)))]) (lsub_c 3 rfl (lsub_c 1 rfl (lsub_c 4 rfl (lsub_c 5 rfl (lsub_c 0 rfl (lsub_n)))))) ?_
        refine g_cs (ws' := WM ad g I L S Z Y ++ []) (lv' := [(0, .ref (ad 0)), (1, .int (nI (outs I (i + 1)))), (2, .ref (ad 6)), (3, .int (nI 18)), (4, .int (nI (i + 1)))]) (rfl) (by simp [outs, *]) ?_
        exact k13
      · refine g_run X KX9_out_34_8 KX9_out_34_8_d 13 [(4, .int ((nI i) + (nI 1))), (1, .int ((nI (outs I i)) + (nI 1))), (5, .ref (ad (i + 17))), (0, .ref (ad 0)), (2, .ref (ad 6)), (3, .int (nI 18))] [] rfl ?_
        refine g_nm (lv' := [(4, .int (nI (i + 1))), (1, .int (nI ((outs I i) + 1))), (5, .ref (ad (i + 17))), (0, .ref (ad 0)), (2, .ref (ad 6)), (3, .int (nI 18))]) (st' := []) (by simp only [nI_add]) (by simp only [nI_add]) ?_
        refine g_lv (lv' := [(0, .ref (ad 0)), (1, .int (nI ((outs I i) + 1))), (2, .ref (ad 6)), (3, .int (nI 18)), (4, .int (nI (i + 1)))]) (lsub_c 3 rfl (lsub_c 1 rfl (lsub_c 4 rfl (lsub_c 5 rfl (lsub_c 0 rfl (lsub_n)))))) ?_
        refine g_cs (ws' := WM ad g I L S Z Y ++ []) (lv' := [(0, .ref (ad 0)), (1, .int (nI (outs I (i + 1)))), (2, .ref (ad 6)), (3, .int (nI 18)), (4, .int (nI (i + 1)))]) (rfl) (by simp [outs, *]) ?_
        exact k13

def KX9_mad_0_0 : List (Nat × Instr × Nat) := [(0, .aload_n 0, 1), (1, .iconst 0, 1)]
theorem KX9_mad_0_0_d : ∀ z ∈ KX9_mad_0_0, decode cX9_mad z.1 = .ok z.2 := by decide +kernel
def KX9_mad_5_1 : List (Nat × Instr × Nat) := [(5, .iload_n 1, 1)]
theorem KX9_mad_5_1_d : ∀ z ∈ KX9_mad_5_1, decode cX9_mad z.1 = .ok z.2 := by decide +kernel
def KX9_mad_18_2 : List (Nat × Instr × Nat) := [(18, .iload_n 2, 1), (19, .iconst (-1), 1), (20, .bipush 15, 2)]
theorem KX9_mad_18_2_d : ∀ z ∈ KX9_mad_18_2, decode cX9_mad z.1 = .ok z.2 := by decide +kernel
def KX9_mad_34_3 : List (Nat × Instr × Nat) := [(34, .aload_n 0, 1)]
theorem KX9_mad_34_3_d : ∀ z ∈ KX9_mad_34_3, decode cX9_mad z.1 = .ok z.2 := by decide +kernel
def KX9_mad_38_4 : List (Nat × Instr × Nat) := [(38, .iload_n 1, 1)]
theorem KX9_mad_38_4_d : ∀ z ∈ KX9_mad_38_4, decode cX9_mad z.1 = .ok z.2 := by decide +kernel
def KX9_mad_43_5 : List (Nat × Instr × Nat) := [(43, .istore_n 3, 1), (44, .aload_n 0, 1)]
theorem KX9_mad_43_5_d : ∀ z ∈ KX9_mad_43_5, decode cX9_mad z.1 = .ok z.2 := by decide +kernel
def KX9_mad_48_6 : List (Nat × Instr × Nat) := [(48, .iload_n 1, 1)]
theorem KX9_mad_48_6_d : ∀ z ∈ KX9_mad_48_6, decode cX9_mad z.1 = .ok z.2 := by decide +kernel
def KX9_mad_50_7 : List (Nat × Instr × Nat) := [(50, .iload_n 2, 1)]
theorem KX9_mad_50_7_d : ∀ z ∈ KX9_mad_50_7, decode cX9_mad z.1 = .ok z.2 := by decide +kernel
def KX9_mad_54_8 : List (Nat × Instr × Nat) := [(54, .iload_n 3, 1)]
theorem KX9_mad_54_8_d : ∀ z ∈ KX9_mad_54_8, decode cX9_mad z.1 = .ok z.2 := by decide +kernel
set_option maxHeartbeats 4000000 in
set_option maxRecDepth 100000 in
theorem c_X9_mad (l : Launch) (D : va_G) (g : Nat → ClassId) (ad : Nat → Nat) (I : Nat → Nat → Int32) (L : Nat → Nat → Int64) (S : Nat → Nat) (Z : Nat → Nat → Int32) (Y : Int64) (ch : Nat) (k : Nat) (hch : ch < 18) (hk : k < 16) : CT l yX9_mad cX9_mad 4 ((Option.some FieldType.int)) ({ frames := 2, cells := 0, slots := 0, locals := 42 } : Room) [.ref (ad 0), .int (nI ch), .int (nI k)] D CL (TYS g) ([]) (WM ad g I L S Z Y) (S := Unit) (fun _ => some (.int (I 1 ch))) (fun _ => WM ad g (u2 I 1 ch (nI k)) L S (u2 Z 3 0 (nI 0)) Y) (fun _ => True) 0 0 := by
  refine ct_of (by decide +kernel) (Nat.le_of_ble_eq_true rfl) ?_
  intro p e s m below meth c A X hr hnm hSB hRO hAf
  refine g_cs (ws' := WM ad g I L S Z Y ++ []) (lv' := [(0, .ref (ad 0)), (1, .int (nI ch)), (2, .int (nI k))]) (List.append_nil _) rfl ?_
  refine g_run X KX9_mad_0_0 KX9_mad_0_0_d 2 [(0, .ref (ad 0)), (1, .int (nI ch)), (2, .int (nI k))] [.int (nI 0), .ref (ad 0)] rfl ?_
  refine g_put X (ws' := WM ad g I L S (u2 Z 3 0 (nI 0)) Y ++ []) hinX9 tyX9 tyX9_ok nmX9 rfl 0 (by decide) w_1180 rfl rfl (ty := .int) rfl rfl rfl (0) (wm_get (k := 0) (by decide)) (Nat.le_of_ble_eq_true rfl) (wm_mo0) dX9_mad_2 ?_
  refine g_run X KX9_mad_5_1 KX9_mad_5_1_d 6 [(0, .ref (ad 0)), (1, .int (nI ch)), (2, .int (nI k))] [.int (nI ch)] rfl ?_
  refine g_callS X hSB hAf (As := [.int (nI ch)]) (wr := WM ad g I L S (u2 Z 3 0 (nI 0)) Y ++ []) (n := 1) (c_X9_isChip_t l D g ch (by omega)) rfl srcN hrdN w_1316 w_1314 w_1315 w_6 (by decide +kernel) rfl ⟨Nat.le_of_ble_eq_true rfl, Nat.le_of_ble_eq_true rfl⟩ rfl rfl rfl (Nat.le_of_ble_eq_true rfl) ⟨Nat.le_of_ble_eq_true rfl, Nat.le_of_ble_eq_true rfl⟩ dX9_mad_6 (fun hu1 _ => ?_)
  refine g_af (ws' := WM ad g I L S (u2 Z 3 0 (nI 0)) Y ++ []) (st' := [.int (nI 1)]) (cells' := 0) (slots' := 0) (pc' := 9) rfl rfl rfl rfl rfl ?_
  refine g_if_ne X 18 dX9_mad_9 (by decide) (fun hc2 => ?_) (fun hc2 => ?_)
  · refine g_run X KX9_mad_18_2 KX9_mad_18_2_d 22 [(0, .ref (ad 0)), (1, .int (nI ch)), (2, .int (nI k))] [.int (nI 15), .int (-nI 1), .int (nI k)] rfl ?_
    refine g_callS X hSB hAf (As := [.int (nI k), .int (-nI 1), .int (nI 15)]) (wr := WM ad g I L S (u2 Z 3 0 (nI 0)) Y ++ []) (n := 3) (c_X9_is_m l D g k 15 (by omega) (by omega)) rfl srcN hrdN w_1260 w_1258 w_1259 w_6 (by decide +kernel) rfl ⟨Nat.le_of_ble_eq_true rfl, Nat.le_of_ble_eq_true rfl⟩ rfl rfl rfl (Nat.le_of_ble_eq_true rfl) ⟨Nat.le_of_ble_eq_true rfl, Nat.le_of_ble_eq_true rfl⟩ dX9_mad_22 (fun hu3 _ => ?_)
    refine g_af (ws' := WM ad g I L S (u2 Z 3 0 (nI 0)) Y ++ []) (st' := [.int (nI 1)]) (cells' := 0) (slots' := 0) (pc' := 25) rfl rfl rfl rfl rfl ?_
    refine g_if_ne X 34 dX9_mad_25 (by decide) (fun hc4 => ?_) (fun hc4 => ?_)
    · refine g_run X KX9_mad_34_3 KX9_mad_34_3_d 35 [(0, .ref (ad 0)), (1, .int (nI ch)), (2, .int (nI k))] [.ref (ad 0)] rfl ?_
      refine g_get X srcW (v := .ref (ad 6)) hinX9 rfl 6 (by decide) w_1186 rfl (wm_mem (k := 0) (by decide)) rfl dX9_mad_35 ?_
      refine g_run X KX9_mad_38_4 KX9_mad_38_4_d 39 [(0, .ref (ad 0)), (1, .int (nI ch)), (2, .int (nI k))] [.int (nI ch), .ref (ad 6)] rfl ?_
      refine g_aald X srcW (b := ad (ch + 17)) 3 rfl (wm_mem (k := 6) (by decide)) ch rfl (by omega) (by decide) (rfl) dX9_mad_39 ?_
      refine g_getN X srcW (host := "ChipfieldModel") (v := .int (I 1 ch)) hinX7 rfl 1 (by decide) (nw_in n_1098 rfl) rfl (wm_ch (by omega)) rfl dX9_mad_40 ?_
      refine g_run X KX9_mad_43_5 KX9_mad_43_5_d 45 [(3, .int (I 1 ch)), (0, .ref (ad 0)), (1, .int (nI ch)), (2, .int (nI k))] [.ref (ad 0)] rfl ?_
      refine g_get X srcW (v := .ref (ad 6)) hinX9 rfl 6 (by decide) w_1186 rfl (wm_mem (k := 0) (by decide)) rfl dX9_mad_45 ?_
      refine g_run X KX9_mad_48_6 KX9_mad_48_6_d 49 [(3, .int (I 1 ch)), (0, .ref (ad 0)), (1, .int (nI ch)), (2, .int (nI k))] [.int (nI ch), .ref (ad 6)] rfl ?_
      refine g_aald X srcW (b := ad (ch + 17)) 3 rfl (wm_mem (k := 6) (by decide)) ch rfl (by omega) (by decide) (rfl) dX9_mad_49 ?_
      refine g_run X KX9_mad_50_7 KX9_mad_50_7_d 51 [(3, .int (I 1 ch)), (0, .ref (ad 0)), (1, .int (nI ch)), (2, .int (nI k))] [.int (nI k), .ref (ad (ch + 17))] rfl ?_
      refine g_putN X (ws' := WM ad g (u2 I 1 ch (nI k)) L S (u2 Z 3 0 (nI 0)) Y ++ []) hinX7 tyX7 tyX7_ok nmX7 rfl 1 (by decide) (nw_in n_1098 rfl) rfl rfl (ty := .int) rfl rfl rfl (ch + 17) (wm_chG (by omega)) (Nat.le_of_ble_eq_true rfl) (wm_ch1 (by omega)) dX9_mad_51 ?_
      refine g_run X KX9_mad_54_8 KX9_mad_54_8_d 55 [(3, .int (I 1 ch)), (0, .ref (ad 0)), (1, .int (nI ch)), (2, .int (nI k))] [.int (I 1 ch)] rfl ?_
      exact g_iret X hr () (rfl) (trivial) (rfl) (Nat.le_of_ble_eq_true rfl) (Nat.le_of_ble_eq_true rfl) dX9_mad_55
    · rw [nz_eq (by omega)] at hc4; first | omega | (simp at hc4)
  · rw [nz_eq (by omega)] at hc2; first | omega | (simp at hc2)

set_option maxHeartbeats 4000000 in
set_option maxRecDepth 100000 in
theorem c_X9_mad_n (l : Launch) (D : va_G) (g : Nat → ClassId) (ad : Nat → Nat) (I : Nat → Nat → Int32) (L : Nat → Nat → Int64) (S : Nat → Nat) (Z : Nat → Nat → Int32) (Y : Int64) (ch : Nat) (hch : ch < 18) : CT l yX9_mad cX9_mad 4 ((Option.some FieldType.int)) ({ frames := 2, cells := 0, slots := 0, locals := 42 } : Room) [.ref (ad 0), .int (nI ch), .int (-nI 1)] D CL (TYS g) ([]) (WM ad g I L S Z Y) (S := Unit) (fun _ => some (.int (I 1 ch))) (fun _ => WM ad g (u2 I 1 ch (-nI 1)) L S (u2 Z 3 0 (nI 0)) Y) (fun _ => True) 0 0 := by
  refine ct_of (by decide +kernel) (Nat.le_of_ble_eq_true rfl) ?_
  intro p e s m below meth c A X hr hnm hSB hRO hAf
  refine g_cs (ws' := WM ad g I L S Z Y ++ []) (lv' := [(0, .ref (ad 0)), (1, .int (nI ch)), (2, .int (-nI 1))]) (List.append_nil _) rfl ?_
  refine g_run X KX9_mad_0_0 KX9_mad_0_0_d 2 [(0, .ref (ad 0)), (1, .int (nI ch)), (2, .int (-nI 1))] [.int (nI 0), .ref (ad 0)] rfl ?_
  refine g_put X (ws' := WM ad g I L S (u2 Z 3 0 (nI 0)) Y ++ []) hinX9 tyX9 tyX9_ok nmX9 rfl 0 (by decide) w_1180 rfl rfl (ty := .int) rfl rfl rfl (0) (wm_get (k := 0) (by decide)) (Nat.le_of_ble_eq_true rfl) (wm_mo0) dX9_mad_2 ?_
  refine g_run X KX9_mad_5_1 KX9_mad_5_1_d 6 [(0, .ref (ad 0)), (1, .int (nI ch)), (2, .int (-nI 1))] [.int (nI ch)] rfl ?_
  refine g_callS X hSB hAf (As := [.int (nI ch)]) (wr := WM ad g I L S (u2 Z 3 0 (nI 0)) Y ++ []) (n := 1) (c_X9_isChip_t l D g ch (by omega)) rfl srcN hrdN w_1316 w_1314 w_1315 w_6 (by decide +kernel) rfl ⟨Nat.le_of_ble_eq_true rfl, Nat.le_of_ble_eq_true rfl⟩ rfl rfl rfl (Nat.le_of_ble_eq_true rfl) ⟨Nat.le_of_ble_eq_true rfl, Nat.le_of_ble_eq_true rfl⟩ dX9_mad_6 (fun hu1 _ => ?_)
  refine g_af (ws' := WM ad g I L S (u2 Z 3 0 (nI 0)) Y ++ []) (st' := [.int (nI 1)]) (cells' := 0) (slots' := 0) (pc' := 9) rfl rfl rfl rfl rfl ?_
  refine g_if_ne X 18 dX9_mad_9 (by decide) (fun hc2 => ?_) (fun hc2 => ?_)
  · refine g_run X KX9_mad_18_2 KX9_mad_18_2_d 22 [(0, .ref (ad 0)), (1, .int (nI ch)), (2, .int (-nI 1))] [.int (nI 15), .int (-nI 1), .int (-nI 1)] rfl ?_
    refine g_callS X hSB hAf (As := [.int (-nI 1), .int (-nI 1), .int (nI 15)]) (wr := WM ad g I L S (u2 Z 3 0 (nI 0)) Y ++ []) (n := 3) (c_X9_is_n l D g 15 (by omega)) rfl srcN hrdN w_1260 w_1258 w_1259 w_6 (by decide +kernel) rfl ⟨Nat.le_of_ble_eq_true rfl, Nat.le_of_ble_eq_true rfl⟩ rfl rfl rfl (Nat.le_of_ble_eq_true rfl) ⟨Nat.le_of_ble_eq_true rfl, Nat.le_of_ble_eq_true rfl⟩ dX9_mad_22 (fun hu3 _ => ?_)
    refine g_af (ws' := WM ad g I L S (u2 Z 3 0 (nI 0)) Y ++ []) (st' := [.int (nI 1)]) (cells' := 0) (slots' := 0) (pc' := 25) rfl rfl rfl rfl rfl ?_
    refine g_if_ne X 34 dX9_mad_25 (by decide) (fun hc4 => ?_) (fun hc4 => ?_)
    · refine g_run X KX9_mad_34_3 KX9_mad_34_3_d 35 [(0, .ref (ad 0)), (1, .int (nI ch)), (2, .int (-nI 1))] [.ref (ad 0)] rfl ?_
      refine g_get X srcW (v := .ref (ad 6)) hinX9 rfl 6 (by decide) w_1186 rfl (wm_mem (k := 0) (by decide)) rfl dX9_mad_35 ?_
      refine g_run X KX9_mad_38_4 KX9_mad_38_4_d 39 [(0, .ref (ad 0)), (1, .int (nI ch)), (2, .int (-nI 1))] [.int (nI ch), .ref (ad 6)] rfl ?_
      refine g_aald X srcW (b := ad (ch + 17)) 3 rfl (wm_mem (k := 6) (by decide)) ch rfl (by omega) (by decide) (rfl) dX9_mad_39 ?_
      refine g_getN X srcW (host := "ChipfieldModel") (v := .int (I 1 ch)) hinX7 rfl 1 (by decide) (nw_in n_1098 rfl) rfl (wm_ch (by omega)) rfl dX9_mad_40 ?_
      refine g_run X KX9_mad_43_5 KX9_mad_43_5_d 45 [(3, .int (I 1 ch)), (0, .ref (ad 0)), (1, .int (nI ch)), (2, .int (-nI 1))] [.ref (ad 0)] rfl ?_
      refine g_get X srcW (v := .ref (ad 6)) hinX9 rfl 6 (by decide) w_1186 rfl (wm_mem (k := 0) (by decide)) rfl dX9_mad_45 ?_
      refine g_run X KX9_mad_48_6 KX9_mad_48_6_d 49 [(3, .int (I 1 ch)), (0, .ref (ad 0)), (1, .int (nI ch)), (2, .int (-nI 1))] [.int (nI ch), .ref (ad 6)] rfl ?_
      refine g_aald X srcW (b := ad (ch + 17)) 3 rfl (wm_mem (k := 6) (by decide)) ch rfl (by omega) (by decide) (rfl) dX9_mad_49 ?_
      refine g_run X KX9_mad_50_7 KX9_mad_50_7_d 51 [(3, .int (I 1 ch)), (0, .ref (ad 0)), (1, .int (nI ch)), (2, .int (-nI 1))] [.int (-nI 1), .ref (ad (ch + 17))] rfl ?_
      refine g_putN X (ws' := WM ad g (u2 I 1 ch (-nI 1)) L S (u2 Z 3 0 (nI 0)) Y ++ []) hinX7 tyX7 tyX7_ok nmX7 rfl 1 (by decide) (nw_in n_1098 rfl) rfl rfl (ty := .int) rfl rfl rfl (ch + 17) (wm_chG (by omega)) (Nat.le_of_ble_eq_true rfl) (wm_ch1 (by omega)) dX9_mad_51 ?_
      refine g_run X KX9_mad_54_8 KX9_mad_54_8_d 55 [(3, .int (I 1 ch)), (0, .ref (ad 0)), (1, .int (nI ch)), (2, .int (-nI 1))] [.int (I 1 ch)] rfl ?_
      exact g_iret X hr () (rfl) (trivial) (rfl) (Nat.le_of_ble_eq_true rfl) (Nat.le_of_ble_eq_true rfl) dX9_mad_55
    · rw [nz_eq (by omega)] at hc4; first | omega | (simp at hc4)
  · rw [nz_eq (by omega)] at hc2; first | omega | (simp at hc2)

def KX9_mad_12_9 : List (Nat × Instr × Nat) := [(12, .aload_n 0, 1), (13, .iconst 1, 1)]
theorem KX9_mad_12_9_d : ∀ z ∈ KX9_mad_12_9, decode cX9_mad z.1 = .ok z.2 := by decide +kernel
set_option maxHeartbeats 4000000 in
set_option maxRecDepth 100000 in
theorem c_X9_mad_1 (l : Launch) (D : va_G) (g : Nat → ClassId) (ad : Nat → Nat) (I : Nat → Nat → Int32) (L : Nat → Nat → Int64) (S : Nat → Nat) (Z : Nat → Nat → Int32) (Y : Int64) (x : Int32) (y1 : Int32) (hx : x < 0 ∨ ¬ x ≤ nI 17) : CT l yX9_mad cX9_mad 4 ((Option.some FieldType.int)) ({ frames := 2, cells := 0, slots := 0, locals := 42 } : Room) [.ref (ad 0), .int x, .int y1] D CL (TYS g) ([]) (WM ad g I L S Z Y) (S := Unit) (fun _ => some (.int (nI 0))) (fun _ => WM ad g I L S (u2 (u2 Z 3 0 (nI 0)) 3 0 (nI 1)) Y) (fun _ => True) 0 0 := by
  refine ct_of (by decide +kernel) (Nat.le_of_ble_eq_true rfl) ?_
  intro p e s m below meth c A X hr hnm hSB hRO hAf
  refine g_cs (ws' := WM ad g I L S Z Y ++ []) (lv' := [(0, .ref (ad 0)), (1, .int x), (2, .int y1)]) (List.append_nil _) rfl ?_
  refine g_run X KX9_mad_0_0 KX9_mad_0_0_d 2 [(0, .ref (ad 0)), (1, .int x), (2, .int y1)] [.int (nI 0), .ref (ad 0)] rfl ?_
  refine g_put X (ws' := WM ad g I L S (u2 Z 3 0 (nI 0)) Y ++ []) hinX9 tyX9 tyX9_ok nmX9 rfl 0 (by decide) w_1180 rfl rfl (ty := .int) rfl rfl rfl (0) (wm_get (k := 0) (by decide)) (Nat.le_of_ble_eq_true rfl) (wm_mo0) dX9_mad_2 ?_
  refine g_run X KX9_mad_5_1 KX9_mad_5_1_d 6 [(0, .ref (ad 0)), (1, .int x), (2, .int y1)] [.int x] rfl ?_
  refine g_callS X hSB hAf (As := [.int x]) (wr := WM ad g I L S (u2 Z 3 0 (nI 0)) Y ++ []) (n := 1) (c_X9_isChip_f l D g x (hx)) rfl srcN hrdN w_1316 w_1314 w_1315 w_6 (by decide +kernel) rfl ⟨Nat.le_of_ble_eq_true rfl, Nat.le_of_ble_eq_true rfl⟩ rfl rfl rfl (Nat.le_of_ble_eq_true rfl) ⟨Nat.le_of_ble_eq_true rfl, Nat.le_of_ble_eq_true rfl⟩ dX9_mad_6 (fun hu1 _ => ?_)
  refine g_af (ws' := WM ad g I L S (u2 Z 3 0 (nI 0)) Y ++ []) (st' := [.int (nI 0)]) (cells' := 0) (slots' := 0) (pc' := 9) rfl rfl rfl rfl rfl ?_
  refine g_if_ne X 18 dX9_mad_9 (by decide) (fun hc2 => ?_) (fun hc2 => ?_)
  · rw [nz_eq (by omega)] at hc2; first | omega | (simp at hc2)
  · refine g_run X KX9_mad_12_9 KX9_mad_12_9_d 14 [(0, .ref (ad 0)), (1, .int x), (2, .int y1)] [.int (nI 1), .ref (ad 0)] rfl ?_
    refine g_callV X hSB hAf (srcW) (hrc1 := (rfl : CL[8]? = some _)) (wm_mem (k := 0) (by decide)) rfl (As := [.int (nI 1)]) (wr := []) (n := 1) (c_X9_refuse l D g ad I L S (u2 Z 3 0 (nI 0)) Y 1 ) rfl srcN hrdN w_1264 w_1261 w_1263 w_s12 w_6 (by decide +kernel) rfl ⟨Nat.le_of_ble_eq_true rfl, Nat.le_of_ble_eq_true rfl⟩ rfl rfl rfl (Nat.le_of_ble_eq_true rfl) ⟨Nat.le_of_ble_eq_true rfl, Nat.le_of_ble_eq_true rfl⟩ dX9_mad_14 (fun hu3 _ => ?_)
    refine g_af (ws' := WM ad g I L S (u2 (u2 Z 3 0 (nI 0)) 3 0 (nI 1)) Y ++ []) (st' := [.int (nI 0)]) (cells' := 0) (slots' := 0) (pc' := 17) rfl rfl rfl rfl rfl ?_
    exact g_iret X hr () (rfl) (trivial) (rfl) (Nat.le_of_ble_eq_true rfl) (Nat.le_of_ble_eq_true rfl) dX9_mad_17

def KX9_mad_28_10 : List (Nat × Instr × Nat) := [(28, .aload_n 0, 1), (29, .iconst 2, 1)]
theorem KX9_mad_28_10_d : ∀ z ∈ KX9_mad_28_10, decode cX9_mad z.1 = .ok z.2 := by decide +kernel
set_option maxHeartbeats 4000000 in
set_option maxRecDepth 100000 in
theorem c_X9_mad_2 (l : Launch) (D : va_G) (g : Nat → ClassId) (ad : Nat → Nat) (I : Nat → Nat → Int32) (L : Nat → Nat → Int64) (S : Nat → Nat) (Z : Nat → Nat → Int32) (Y : Int64) (ch : Nat) (x : Int32) (hch : ch < 18) (hx : x < -nI 1 ∨ ¬ x ≤ nI 15) : CT l yX9_mad cX9_mad 4 ((Option.some FieldType.int)) ({ frames := 2, cells := 0, slots := 0, locals := 42 } : Room) [.ref (ad 0), .int (nI ch), .int x] D CL (TYS g) ([]) (WM ad g I L S Z Y) (S := Unit) (fun _ => some (.int (nI 0))) (fun _ => WM ad g I L S (u2 (u2 Z 3 0 (nI 0)) 3 0 (nI 2)) Y) (fun _ => True) 0 0 := by
  refine ct_of (by decide +kernel) (Nat.le_of_ble_eq_true rfl) ?_
  intro p e s m below meth c A X hr hnm hSB hRO hAf
  refine g_cs (ws' := WM ad g I L S Z Y ++ []) (lv' := [(0, .ref (ad 0)), (1, .int (nI ch)), (2, .int x)]) (List.append_nil _) rfl ?_
  refine g_run X KX9_mad_0_0 KX9_mad_0_0_d 2 [(0, .ref (ad 0)), (1, .int (nI ch)), (2, .int x)] [.int (nI 0), .ref (ad 0)] rfl ?_
  refine g_put X (ws' := WM ad g I L S (u2 Z 3 0 (nI 0)) Y ++ []) hinX9 tyX9 tyX9_ok nmX9 rfl 0 (by decide) w_1180 rfl rfl (ty := .int) rfl rfl rfl (0) (wm_get (k := 0) (by decide)) (Nat.le_of_ble_eq_true rfl) (wm_mo0) dX9_mad_2 ?_
  refine g_run X KX9_mad_5_1 KX9_mad_5_1_d 6 [(0, .ref (ad 0)), (1, .int (nI ch)), (2, .int x)] [.int (nI ch)] rfl ?_
  refine g_callS X hSB hAf (As := [.int (nI ch)]) (wr := WM ad g I L S (u2 Z 3 0 (nI 0)) Y ++ []) (n := 1) (c_X9_isChip_t l D g ch (by omega)) rfl srcN hrdN w_1316 w_1314 w_1315 w_6 (by decide +kernel) rfl ⟨Nat.le_of_ble_eq_true rfl, Nat.le_of_ble_eq_true rfl⟩ rfl rfl rfl (Nat.le_of_ble_eq_true rfl) ⟨Nat.le_of_ble_eq_true rfl, Nat.le_of_ble_eq_true rfl⟩ dX9_mad_6 (fun hu1 _ => ?_)
  refine g_af (ws' := WM ad g I L S (u2 Z 3 0 (nI 0)) Y ++ []) (st' := [.int (nI 1)]) (cells' := 0) (slots' := 0) (pc' := 9) rfl rfl rfl rfl rfl ?_
  refine g_if_ne X 18 dX9_mad_9 (by decide) (fun hc2 => ?_) (fun hc2 => ?_)
  · refine g_run X KX9_mad_18_2 KX9_mad_18_2_d 22 [(0, .ref (ad 0)), (1, .int (nI ch)), (2, .int x)] [.int (nI 15), .int (-nI 1), .int x] rfl ?_
    refine g_callS X hSB hAf (As := [.int x, .int (-nI 1), .int (nI 15)]) (wr := WM ad g I L S (u2 Z 3 0 (nI 0)) Y ++ []) (n := 3) (c_X9_is_f l D g x (-nI 1) (nI 15) (hx)) rfl srcN hrdN w_1260 w_1258 w_1259 w_6 (by decide +kernel) rfl ⟨Nat.le_of_ble_eq_true rfl, Nat.le_of_ble_eq_true rfl⟩ rfl rfl rfl (Nat.le_of_ble_eq_true rfl) ⟨Nat.le_of_ble_eq_true rfl, Nat.le_of_ble_eq_true rfl⟩ dX9_mad_22 (fun hu3 _ => ?_)
    refine g_af (ws' := WM ad g I L S (u2 Z 3 0 (nI 0)) Y ++ []) (st' := [.int (nI 0)]) (cells' := 0) (slots' := 0) (pc' := 25) rfl rfl rfl rfl rfl ?_
    refine g_if_ne X 34 dX9_mad_25 (by decide) (fun hc4 => ?_) (fun hc4 => ?_)
    · rw [nz_eq (by omega)] at hc4; first | omega | (simp at hc4)
    · refine g_run X KX9_mad_28_10 KX9_mad_28_10_d 30 [(0, .ref (ad 0)), (1, .int (nI ch)), (2, .int x)] [.int (nI 2), .ref (ad 0)] rfl ?_
      refine g_callV X hSB hAf (srcW) (hrc1 := (rfl : CL[8]? = some _)) (wm_mem (k := 0) (by decide)) rfl (As := [.int (nI 2)]) (wr := []) (n := 1) (c_X9_refuse l D g ad I L S (u2 Z 3 0 (nI 0)) Y 2 ) rfl srcN hrdN w_1264 w_1261 w_1263 w_s12 w_6 (by decide +kernel) rfl ⟨Nat.le_of_ble_eq_true rfl, Nat.le_of_ble_eq_true rfl⟩ rfl rfl rfl (Nat.le_of_ble_eq_true rfl) ⟨Nat.le_of_ble_eq_true rfl, Nat.le_of_ble_eq_true rfl⟩ dX9_mad_30 (fun hu5 _ => ?_)
      refine g_af (ws' := WM ad g I L S (u2 (u2 Z 3 0 (nI 0)) 3 0 (nI 2)) Y ++ []) (st' := [.int (nI 0)]) (cells' := 0) (slots' := 0) (pc' := 33) rfl rfl rfl rfl rfl ?_
      exact g_iret X hr () (rfl) (trivial) (rfl) (Nat.le_of_ble_eq_true rfl) (Nat.le_of_ble_eq_true rfl) dX9_mad_33
  · rw [nz_eq (by omega)] at hc2; first | omega | (simp at hc2)

