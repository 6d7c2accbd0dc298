section GLS
variable {p : Program} {l : Launch} {e : Env} {R : Room} {s : State} {m : MethodId} {args : Array Value} {below : List Frame} {meth : Method} {c : Code} {Q : State → Prop} {D : va_G} {cl : List vw_C} {tys : List (ClassId × FieldType)} {A : Nat → Prop} {nL : Nat} {ws : va_W} {cells slots : Nat} {cc : ByteArray} {own : String} {pc : Nat} {lv : List (Nat × Value)} {st : List Value}

theorem g_cast (X : BX p m c cc nL s args own meth) {wx : va_W} (hx : Src D cl A s ws wx) {ci a index : Nat} {fs : List Value} {q : vw_C} (hc : cl[ci]? = some q) (he : (a, Sum.inr (ci, fs)) ∈ wx) (hlink : Cond.classLink own index q.1 ∈ GW) (hd : decode cc pc = .ok (.checkcast index, 3))
    (kk : GL p l e R s m args below meth c Q D cl tys A nL ws cells slots (pc + 3) lv (.ref a :: st)) : GL p l e R s m args below meth c Q D cl tys A nL ws cells slots pc lv (.ref a :: st) := by
  intro H locs ls hK hP hD hS hl
  obtain ⟨q0, h0⟩ := List.getElem?_of_mem he
  obtain ⟨r, e1, cell, e2, e3, e4, _⟩ := hx H locs hP hS q0 _ h0
  cases hc.symm.trans e1
  have hC := (hK.1 ci q hc).2
  exact va_castS X.1 X.2.1 X.2.2.2.1 (X.w hlink) hC ⟨cell, e2, by rw [e4]; rfl, by rw [e3]; exact hC.1⟩ hd (kk H locs ls hK hP hD hS hl)
end GLS

theorem is_f {x a b : Int32} (h : x < a ∨ ¬ x ≤ b) : ¬ (a ≤ x ∧ x ≤ b) := fun z => h.elim (fun q => absurd z.1 (Int32.not_le.mpr q)) (fun q => q z.2)
theorem m1_lt {k : Nat} (h : k < 2 ^ 31) : ¬ nI k < -nI 1 := fun q => by
  have h1 : (0 : Int32) ≤ nI k := (nz_ge h).mpr trivial
  exact absurd (Int32.lt_of_le_of_lt h1 q) (by decide)
theorem lc_lt0 {x y : Int64} : lg_cmp x y < 0 ↔ x < y := lc_lt

def KX9_is_0_0 : List (Nat × Instr × Nat) := [(0, .iload_n 0, 1), (1, .iload_n 1, 1)]
theorem KX9_is_0_0_d : ∀ z ∈ KX9_is_0_0, decode cX9_is z.1 = .ok z.2 := by decide +kernel
def KX9_is_5_1 : List (Nat × Instr × Nat) := [(5, .iload_n 0, 1), (6, .iload_n 2, 1)]
theorem KX9_is_5_1_d : ∀ z ∈ KX9_is_5_1, decode cX9_is z.1 = .ok z.2 := by decide +kernel
def KX9_is_10_2 : List (Nat × Instr × Nat) := [(10, .iconst 1, 1), (11, .goto 4, 3)]
theorem KX9_is_10_2_d : ∀ z ∈ KX9_is_10_2, decode cX9_is z.1 = .ok z.2 := by decide +kernel
set_option maxHeartbeats 4000000 in
set_option maxRecDepth 100000 in
theorem c_X9_is_t (l : Launch) (D : va_G) (g : Nat → ClassId) (v : Nat) (a : Nat) (b : Nat) (ha : a ≤ v) (hb : v ≤ b) (hb2 : b < 1000000) : CT l yX9_is cX9_is 3 ((Option.some FieldType.boolean)) ({ frames := 0, cells := 0, slots := 0, locals := 0 } : Room) [.int (nI v), .int (nI a), .int (nI b)] D CL (TYS g) ([]) ([]) (S := Unit) (fun _ => some (.int (nI 1))) (fun _ => []) (fun _ => True) 0 0 := by
  refine ct_of (by decide +kernel) (Nat.le_of_ble_eq_true rfl) ?_
  intro p e s m below meth c A X hr hnm hSB hRO hAf
  refine g_cs (ws' := []) (lv' := [(0, .int (nI v)), (1, .int (nI a)), (2, .int (nI b))]) rfl rfl ?_
  refine g_run X KX9_is_0_0 KX9_is_0_0_d 2 [(0, .int (nI v)), (1, .int (nI a)), (2, .int (nI b))] [.int (nI a), .int (nI v)] rfl ?_
  refine g_icmp_lt X 14 dX9_is_2 (by decide) (fun hc1 => ?_) (fun hc1 => ?_)
  · rw [nI_ltI (by omega) (by omega)] at hc1; first | omega | (simp at hc1)
  · refine g_run X KX9_is_5_1 KX9_is_5_1_d 7 [(0, .int (nI v)), (1, .int (nI a)), (2, .int (nI b))] [.int (nI b), .int (nI v)] rfl ?_
    refine g_icmp_gt X 14 dX9_is_7 (by decide) (fun hc2 => ?_) (fun hc2 => ?_)
    · rw [nI_ltI (by omega) (by omega)] at hc2; first | omega | (simp at hc2)
    · refine g_run X KX9_is_10_2 KX9_is_10_2_d 15 [(0, .int (nI v)), (1, .int (nI a)), (2, .int (nI b))] [.int (nI 1)] rfl ?_
      exact g_zret X hr (by decide +kernel) () (rfl) (trivial) ((List.append_nil _).symm) (Nat.le_of_ble_eq_true rfl) (Nat.le_of_ble_eq_true rfl) dX9_is_15

def KX9_is_14_3 : List (Nat × Instr × Nat) := [(14, .iconst 0, 1)]
theorem KX9_is_14_3_d : ∀ z ∈ KX9_is_14_3, decode cX9_is z.1 = .ok z.2 := by decide +kernel
set_option maxHeartbeats 4000000 in
set_option maxRecDepth 100000 in
theorem c_X9_is_f (l : Launch) (D : va_G) (g : Nat → ClassId) (x : Int32) (a : Int32) (b : Int32) (hx : x < a ∨ ¬ x ≤ b) : CT l yX9_is cX9_is 3 ((Option.some FieldType.boolean)) ({ frames := 0, cells := 0, slots := 0, locals := 0 } : Room) [.int x, .int a, .int b] D CL (TYS g) ([]) ([]) (S := Unit) (fun _ => some (.int (nI 0))) (fun _ => []) (fun _ => True) 0 0 := by
  refine ct_of (by decide +kernel) (Nat.le_of_ble_eq_true rfl) ?_
  intro p e s m below meth c A X hr hnm hSB hRO hAf
  refine g_cs (ws' := []) (lv' := [(0, .int x), (1, .int a), (2, .int b)]) rfl rfl ?_
  refine g_run X KX9_is_0_0 KX9_is_0_0_d 2 [(0, .int x), (1, .int a), (2, .int b)] [.int a, .int x] rfl ?_
  refine g_icmp_lt X 14 dX9_is_2 (by decide) (fun hc1 => ?_) (fun hc1 => ?_)
  · refine g_run X KX9_is_14_3 KX9_is_14_3_d 15 [(0, .int x), (1, .int a), (2, .int b)] [.int (nI 0)] rfl ?_
    exact g_zret X hr (by decide +kernel) () (rfl) (trivial) ((List.append_nil _).symm) (Nat.le_of_ble_eq_true rfl) (Nat.le_of_ble_eq_true rfl) dX9_is_15
  · have h0 := hc1
    refine g_run X KX9_is_5_1 KX9_is_5_1_d 7 [(0, .int x), (1, .int a), (2, .int b)] [.int b, .int x] rfl ?_
    refine g_icmp_gt X 14 dX9_is_7 (by decide) (fun hc2 => ?_) (fun hc2 => ?_)
    · refine g_run X KX9_is_14_3 KX9_is_14_3_d 15 [(0, .int x), (1, .int a), (2, .int b)] [.int (nI 0)] rfl ?_
      exact g_zret X hr (by decide +kernel) () (rfl) (trivial) ((List.append_nil _).symm) (Nat.le_of_ble_eq_true rfl) (Nat.le_of_ble_eq_true rfl) dX9_is_15
    · exact (hx.elim h0 (fun q => q (Int32.not_lt.mp hc2))).elim

set_option maxHeartbeats 4000000 in
set_option maxRecDepth 100000 in
theorem c_X9_is_m (l : Launch) (D : va_G) (g : Nat → ClassId) (v : Nat) (b : Nat) (hb : v ≤ b) (hb2 : b < 1000000) : CT l yX9_is cX9_is 3 ((Option.some FieldType.boolean)) ({ frames := 0, cells := 0, slots := 0, locals := 0 } : Room) [.int (nI v), .int (-nI 1), .int (nI b)] D CL (TYS g) ([]) ([]) (S := Unit) (fun _ => some (.int (nI 1))) (fun _ => []) (fun _ => True) 0 0 := by
  refine ct_of (by decide +kernel) (Nat.le_of_ble_eq_true rfl) ?_
  intro p e s m below meth c A X hr hnm hSB hRO hAf
  refine g_cs (ws' := []) (lv' := [(0, .int (nI v)), (1, .int (-nI 1)), (2, .int (nI b))]) rfl rfl ?_
  refine g_run X KX9_is_0_0 KX9_is_0_0_d 2 [(0, .int (nI v)), (1, .int (-nI 1)), (2, .int (nI b))] [.int (-nI 1), .int (nI v)] rfl ?_
  refine g_icmp_lt X 14 dX9_is_2 (by decide) (fun hc1 => ?_) (fun hc1 => ?_)
  · exact absurd hc1 (m1_lt (by omega))
  · refine g_run X KX9_is_5_1 KX9_is_5_1_d 7 [(0, .int (nI v)), (1, .int (-nI 1)), (2, .int (nI b))] [.int (nI b), .int (nI v)] rfl ?_
    refine g_icmp_gt X 14 dX9_is_7 (by decide) (fun hc2 => ?_) (fun hc2 => ?_)
    · rw [nI_ltI (by omega) (by omega)] at hc2; first | omega | (simp at hc2)
    · refine g_run X KX9_is_10_2 KX9_is_10_2_d 15 [(0, .int (nI v)), (1, .int (-nI 1)), (2, .int (nI b))] [.int (nI 1)] rfl ?_
      exact g_zret X hr (by decide +kernel) () (rfl) (trivial) ((List.append_nil _).symm) (Nat.le_of_ble_eq_true rfl) (Nat.le_of_ble_eq_true rfl) dX9_is_15

set_option maxHeartbeats 4000000 in
set_option maxRecDepth 100000 in
theorem c_X9_is_n (l : Launch) (D : va_G) (g : Nat → ClassId) (b : Nat) (hb2 : b < 1000000) : CT l yX9_is cX9_is 3 ((Option.some FieldType.boolean)) ({ frames := 0, cells := 0, slots := 0, locals := 0 } : Room) [.int (-nI 1), .int (-nI 1), .int (nI b)] D CL (TYS g) ([]) ([]) (S := Unit) (fun _ => some (.int (nI 1))) (fun _ => []) (fun _ => True) 0 0 := by
  refine ct_of (by decide +kernel) (Nat.le_of_ble_eq_true rfl) ?_
  intro p e s m below meth c A X hr hnm hSB hRO hAf
  refine g_cs (ws' := []) (lv' := [(0, .int (-nI 1)), (1, .int (-nI 1)), (2, .int (nI b))]) rfl rfl ?_
  refine g_run X KX9_is_0_0 KX9_is_0_0_d 2 [(0, .int (-nI 1)), (1, .int (-nI 1)), (2, .int (nI b))] [.int (-nI 1), .int (-nI 1)] rfl ?_
  refine g_icmp_lt X 14 dX9_is_2 (by decide) (fun hc1 => ?_) (fun hc1 => ?_)
  · exact (Int32.lt_irrefl hc1).elim
  · refine g_run X KX9_is_5_1 KX9_is_5_1_d 7 [(0, .int (-nI 1)), (1, .int (-nI 1)), (2, .int (nI b))] [.int (nI b), .int (-nI 1)] rfl ?_
    refine g_icmp_gt X 14 dX9_is_7 (by decide) (fun hc2 => ?_) (fun hc2 => ?_)
    · exact absurd hc2 (m1_lt (by omega))
    · refine g_run X KX9_is_10_2 KX9_is_10_2_d 15 [(0, .int (-nI 1)), (1, .int (-nI 1)), (2, .int (nI b))] [.int (nI 1)] rfl ?_
      exact g_zret X hr (by decide +kernel) () (rfl) (trivial) ((List.append_nil _).symm) (Nat.le_of_ble_eq_true rfl) (Nat.le_of_ble_eq_true rfl) dX9_is_15

def KX9_isLine_0_0 : List (Nat × Instr × Nat) := [(0, .iload_n 0, 1), (1, .iconst 0, 1), (2, .bipush 15, 2)]
theorem KX9_isLine_0_0_d : ∀ z ∈ KX9_isLine_0_0, decode cX9_isLine z.1 = .ok z.2 := by decide +kernel
set_option maxHeartbeats 4000000 in
set_option maxRecDepth 100000 in
theorem c_X9_isLine_t (l : Launch) (D : va_G) (g : Nat → ClassId) (q : Nat) (hq : q < 16) : CT l yX9_isLine cX9_isLine 1 ((Option.some FieldType.boolean)) ({ frames := 1, cells := 0, slots := 0, locals := 22 } : Room) [.int (nI q)] D CL (TYS g) ([]) ([]) (S := Unit) (fun _ => some (.int (nI 1))) (fun _ => []) (fun _ => True) 0 0 := by
  refine ct_of (by decide +kernel) (Nat.le_of_ble_eq_true rfl) ?_
  intro p e s m below meth c A X hr hnm hSB hRO hAf
  refine g_cs (ws' := []) (lv' := [(0, .int (nI q))]) rfl rfl ?_
  refine g_run X KX9_isLine_0_0 KX9_isLine_0_0_d 4 [(0, .int (nI q))] [.int (nI 15), .int (nI 0), .int (nI q)] rfl ?_
  refine g_callS X hSB hAf (As := [.int (nI q), .int (nI 0), .int (nI 15)]) (wr := []) (n := 3) (c_X9_is_t l D g q 0 15 (by omega) (by omega) (by omega)) rfl srcN hrdN w_1260 w_1258 w_1259 w_6 (by decide +kernel) rfl ⟨Nat.le_of_ble_eq_true rfl, Nat.le_of_ble_eq_true rfl⟩ rfl rfl rfl (Nat.le_of_ble_eq_true rfl) ⟨Nat.le_of_ble_eq_true rfl, Nat.le_of_ble_eq_true rfl⟩ dX9_isLine_4 (fun hu1 _ => ?_)
  refine g_af (ws' := []) (st' := [.int (nI 1)]) (cells' := 0) (slots' := 0) (pc' := 7) rfl rfl rfl rfl rfl ?_
  exact g_zret X hr (by decide +kernel) () (rfl) (trivial) ((List.append_nil _).symm) (Nat.le_of_ble_eq_true rfl) (Nat.le_of_ble_eq_true rfl) dX9_isLine_7

set_option maxHeartbeats 4000000 in
set_option maxRecDepth 100000 in
theorem c_X9_isLine_f (l : Launch) (D : va_G) (g : Nat → ClassId) (x : Int32) (hx : x < 0 ∨ ¬ x ≤ nI 15) : CT l yX9_isLine cX9_isLine 1 ((Option.some FieldType.boolean)) ({ frames := 1, cells := 0, slots := 0, locals := 22 } : Room) [.int x] D CL (TYS g) ([]) ([]) (S := Unit) (fun _ => some (.int (nI 0))) (fun _ => []) (fun _ => True) 0 0 := by
  refine ct_of (by decide +kernel) (Nat.le_of_ble_eq_true rfl) ?_
  intro p e s m below meth c A X hr hnm hSB hRO hAf
  refine g_cs (ws' := []) (lv' := [(0, .int x)]) rfl rfl ?_
  refine g_run X KX9_isLine_0_0 KX9_isLine_0_0_d 4 [(0, .int x)] [.int (nI 15), .int (nI 0), .int x] rfl ?_
  refine g_callS X hSB hAf (As := [.int x, .int (nI 0), .int (nI 15)]) (wr := []) (n := 3) (c_X9_is_f l D g x (nI 0) (nI 15) (hx)) rfl srcN hrdN w_1260 w_1258 w_1259 w_6 (by decide +kernel) rfl ⟨Nat.le_of_ble_eq_true rfl, Nat.le_of_ble_eq_true rfl⟩ rfl rfl rfl (Nat.le_of_ble_eq_true rfl) ⟨Nat.le_of_ble_eq_true rfl, Nat.le_of_ble_eq_true rfl⟩ dX9_isLine_4 (fun hu1 _ => ?_)
  refine g_af (ws' := []) (st' := [.int (nI 0)]) (cells' := 0) (slots' := 0) (pc' := 7) rfl rfl rfl rfl rfl ?_
  exact g_zret X hr (by decide +kernel) () (rfl) (trivial) ((List.append_nil _).symm) (Nat.le_of_ble_eq_true rfl) (Nat.le_of_ble_eq_true rfl) dX9_isLine_7

def KX9_isPlace_0_0 : List (Nat × Instr × Nat) := [(0, .iload_n 0, 1), (1, .iconst 0, 1), (2, .bipush 14, 2)]
theorem KX9_isPlace_0_0_d : ∀ z ∈ KX9_isPlace_0_0, decode cX9_isPlace z.1 = .ok z.2 := by decide +kernel
set_option maxHeartbeats 4000000 in
set_option maxRecDepth 100000 in
theorem c_X9_isPlace_t (l : Launch) (D : va_G) (g : Nat → ClassId) (q : Nat) (hq : q < 15) : CT l yX9_isPlace cX9_isPlace 1 ((Option.some FieldType.boolean)) ({ frames := 1, cells := 0, slots := 0, locals := 22 } : Room) [.int (nI q)] D CL (TYS g) ([]) ([]) (S := Unit) (fun _ => some (.int (nI 1))) (fun _ => []) (fun _ => True) 0 0 := by
  refine ct_of (by decide +kernel) (Nat.le_of_ble_eq_true rfl) ?_
  intro p e s m below meth c A X hr hnm hSB hRO hAf
  refine g_cs (ws' := []) (lv' := [(0, .int (nI q))]) rfl rfl ?_
  refine g_run X KX9_isPlace_0_0 KX9_isPlace_0_0_d 4 [(0, .int (nI q))] [.int (nI 14), .int (nI 0), .int (nI q)] rfl ?_
  refine g_callS X hSB hAf (As := [.int (nI q), .int (nI 0), .int (nI 14)]) (wr := []) (n := 3) (c_X9_is_t l D g q 0 14 (by omega) (by omega) (by omega)) rfl srcN hrdN w_1260 w_1258 w_1259 w_6 (by decide +kernel) rfl ⟨Nat.le_of_ble_eq_true rfl, Nat.le_of_ble_eq_true rfl⟩ rfl rfl rfl (Nat.le_of_ble_eq_true rfl) ⟨Nat.le_of_ble_eq_true rfl, Nat.le_of_ble_eq_true rfl⟩ dX9_isPlace_4 (fun hu1 _ => ?_)
  refine g_af (ws' := []) (st' := [.int (nI 1)]) (cells' := 0) (slots' := 0) (pc' := 7) rfl rfl rfl rfl rfl ?_
  exact g_zret X hr (by decide +kernel) () (rfl) (trivial) ((List.append_nil _).symm) (Nat.le_of_ble_eq_true rfl) (Nat.le_of_ble_eq_true rfl) dX9_isPlace_7

set_option maxHeartbeats 4000000 in
set_option maxRecDepth 100000 in
theorem c_X9_isPlace_f (l : Launch) (D : va_G) (g : Nat → ClassId) (x : Int32) (hx : x < 0 ∨ ¬ x ≤ nI 14) : CT l yX9_isPlace cX9_isPlace 1 ((Option.some FieldType.boolean)) ({ frames := 1, cells := 0, slots := 0, locals := 22 } : Room) [.int x] D CL (TYS g) ([]) ([]) (S := Unit) (fun _ => some (.int (nI 0))) (fun _ => []) (fun _ => True) 0 0 := by
  refine ct_of (by decide +kernel) (Nat.le_of_ble_eq_true rfl) ?_
  intro p e s m below meth c A X hr hnm hSB hRO hAf
  refine g_cs (ws' := []) (lv' := [(0, .int x)]) rfl rfl ?_
  refine g_run X KX9_isPlace_0_0 KX9_isPlace_0_0_d 4 [(0, .int x)] [.int (nI 14), .int (nI 0), .int x] rfl ?_
  refine g_callS X hSB hAf (As := [.int x, .int (nI 0), .int (nI 14)]) (wr := []) (n := 3) (c_X9_is_f l D g x (nI 0) (nI 14) (hx)) rfl srcN hrdN w_1260 w_1258 w_1259 w_6 (by decide +kernel) rfl ⟨Nat.le_of_ble_eq_true rfl, Nat.le_of_ble_eq_true rfl⟩ rfl rfl rfl (Nat.le_of_ble_eq_true rfl) ⟨Nat.le_of_ble_eq_true rfl, Nat.le_of_ble_eq_true rfl⟩ dX9_isPlace_4 (fun hu1 _ => ?_)
  refine g_af (ws' := []) (st' := [.int (nI 0)]) (cells' := 0) (slots' := 0) (pc' := 7) rfl rfl rfl rfl rfl ?_
  exact g_zret X hr (by decide +kernel) () (rfl) (trivial) ((List.append_nil _).symm) (Nat.le_of_ble_eq_true rfl) (Nat.le_of_ble_eq_true rfl) dX9_isPlace_7

def KX9_isChip_0_0 : List (Nat × Instr × Nat) := [(0, .iload_n 0, 1), (1, .iconst 0, 1), (2, .bipush 17, 2)]
theorem KX9_isChip_0_0_d : ∀ z ∈ KX9_isChip_0_0, decode cX9_isChip z.1 = .ok z.2 := by decide +kernel
set_option maxHeartbeats 4000000 in
set_option maxRecDepth 100000 in
theorem c_X9_isChip_t (l : Launch) (D : va_G) (g : Nat → ClassId) (q : Nat) (hq : q < 18) : CT l yX9_isChip cX9_isChip 1 ((Option.some FieldType.boolean)) ({ frames := 1, cells := 0, slots := 0, locals := 22 } : Room) [.int (nI q)] D CL (TYS g) ([]) ([]) (S := Unit) (fun _ => some (.int (nI 1))) (fun _ => []) (fun _ => True) 0 0 := by
  refine ct_of (by decide +kernel) (Nat.le_of_ble_eq_true rfl) ?_
  intro p e s m below meth c A X hr hnm hSB hRO hAf
  refine g_cs (ws' := []) (lv' := [(0, .int (nI q))]) rfl rfl ?_
  refine g_run X KX9_isChip_0_0 KX9_isChip_0_0_d 4 [(0, .int (nI q))] [.int (nI 17), .int (nI 0), .int (nI q)] rfl ?_
  refine g_callS X hSB hAf (As := [.int (nI q), .int (nI 0), .int (nI 17)]) (wr := []) (n := 3) (c_X9_is_t l D g q 0 17 (by omega) (by omega) (by omega)) rfl srcN hrdN w_1260 w_1258 w_1259 w_6 (by decide +kernel) rfl ⟨Nat.le_of_ble_eq_true rfl, Nat.le_of_ble_eq_true rfl⟩ rfl rfl rfl (Nat.le_of_ble_eq_true rfl) ⟨Nat.le_of_ble_eq_true rfl, Nat.le_of_ble_eq_true rfl⟩ dX9_isChip_4 (fun hu1 _ => ?_)
  refine g_af (ws' := []) (st' := [.int (nI 1)]) (cells' := 0) (slots' := 0) (pc' := 7) rfl rfl rfl rfl rfl ?_
  exact g_zret X hr (by decide +kernel) () (rfl) (trivial) ((List.append_nil _).symm) (Nat.le_of_ble_eq_true rfl) (Nat.le_of_ble_eq_true rfl) dX9_isChip_7

set_option maxHeartbeats 4000000 in
set_option maxRecDepth 100000 in
theorem c_X9_isChip_f (l : Launch) (D : va_G) (g : Nat → ClassId) (x : Int32) (hx : x < 0 ∨ ¬ x ≤ nI 17) : CT l yX9_isChip cX9_isChip 1 ((Option.some FieldType.boolean)) ({ frames := 1, cells := 0, slots := 0, locals := 22 } : Room) [.int x] D CL (TYS g) ([]) ([]) (S := Unit) (fun _ => some (.int (nI 0))) (fun _ => []) (fun _ => True) 0 0 := by
  refine ct_of (by decide +kernel) (Nat.le_of_ble_eq_true rfl) ?_
  intro p e s m below meth c A X hr hnm hSB hRO hAf
  refine g_cs (ws' := []) (lv' := [(0, .int x)]) rfl rfl ?_
  refine g_run X KX9_isChip_0_0 KX9_isChip_0_0_d 4 [(0, .int x)] [.int (nI 17), .int (nI 0), .int x] rfl ?_
  refine g_callS X hSB hAf (As := [.int x, .int (nI 0), .int (nI 17)]) (wr := []) (n := 3) (c_X9_is_f l D g x (nI 0) (nI 17) (hx)) rfl srcN hrdN w_1260 w_1258 w_1259 w_6 (by decide +kernel) rfl ⟨Nat.le_of_ble_eq_true rfl, Nat.le_of_ble_eq_true rfl⟩ rfl rfl rfl (Nat.le_of_ble_eq_true rfl) ⟨Nat.le_of_ble_eq_true rfl, Nat.le_of_ble_eq_true rfl⟩ dX9_isChip_4 (fun hu1 _ => ?_)
  refine g_af (ws' := []) (st' := [.int (nI 0)]) (cells' := 0) (slots' := 0) (pc' := 7) rfl rfl rfl rfl rfl ?_
  exact g_zret X hr (by decide +kernel) () (rfl) (trivial) ((List.append_nil _).symm) (Nat.le_of_ble_eq_true rfl) (Nat.le_of_ble_eq_true rfl) dX9_isChip_7

def KX9_by_0_0 : List (Nat × Instr × Nat) := [(0, .aload_n 0, 1)]
theorem KX9_by_0_0_d : ∀ z ∈ KX9_by_0_0, decode cX9_by z.1 = .ok z.2 := by decide +kernel
def KX9_by_4_1 : List (Nat × Instr × Nat) := [(4, .bipush 16, 2), (6, .iload_n 1, 1), (7, .imul, 1), (8, .iload_n 2, 1), (9, .iadd, 1)]
theorem KX9_by_4_1_d : ∀ z ∈ KX9_by_4_1, decode cX9_by z.1 = .ok z.2 := by decide +kernel
set_option maxHeartbeats 4000000 in
set_option maxRecDepth 100000 in
theorem c_X9_by (l : Launch) (D : va_G) (g : Nat → ClassId) (ad : Nat → Nat) (I : Nat → Nat → Int32) (L : Nat → Nat → Int64) (S : Nat → Nat) (Z : Nat → Nat → Int32) (Y : Int64) (a : Nat) (b : Nat) (ha : a < 16) (hb : b < 16) : CT l yX9_by cX9_by 3 ((Option.some FieldType.int)) ({ frames := 0, cells := 0, slots := 0, locals := 0 } : Room) [.ref (ad 0), .int (nI a), .int (nI b)] D CL (TYS g) ([]) (WM ad g I L S Z Y) (S := Unit) (fun _ => some (.int (nI (gm a b)))) (fun _ => WM ad g I L S Z Y) (fun _ => True) 0 0 := by
  refine ct_of (by decide +kernel) (Nat.le_of_ble_eq_true rfl) ?_
  intro p e s m below meth c A X hr hnm hSB hRO hAf
  refine g_cs (ws' := WM ad g I L S Z Y ++ []) (lv' := [(0, .ref (ad 0)), (1, .int (nI a)), (2, .int (nI b))]) (List.append_nil _) rfl ?_
  refine g_run X KX9_by_0_0 KX9_by_0_0_d 1 [(0, .ref (ad 0)), (1, .int (nI a)), (2, .int (nI b))] [.ref (ad 0)] rfl ?_
  refine g_get X srcW (v := .ref (ad 1)) hinX9 rfl 1 (by decide) w_1181 rfl (wm_mem (k := 0) (by decide)) rfl dX9_by_1 ?_
  refine g_run X KX9_by_4_1 KX9_by_4_1_d 10 [(0, .ref (ad 0)), (1, .int (nI a)), (2, .int (nI b))] [.int (((nI 16) * (nI a)) + (nI b)), .ref (ad 1)] rfl ?_
  refine g_nm (lv' := [(0, .ref (ad 0)), (1, .int (nI a)), (2, .int (nI b))]) (st' := [.int (nI ((16 * a) + b)), .ref (ad 1)]) (by simp only [nI_add, pk_mul]) (by simp only [nI_add, pk_mul]) ?_
  refine g_iald X srcW (v := nI (gm a b)) 0 rfl (wm_mem (k := 1) (by decide)) ((16 * a) + b) rfl (by omega) (by decide) (pr_at (by omega) (by omega)) dX9_by_10 ?_
  exact g_iret X hr () (rfl) (trivial) (rfl) (Nat.le_of_ble_eq_true rfl) (Nat.le_of_ble_eq_true rfl) dX9_by_11

def KX9_powerOf_0_0 : List (Nat × Instr × Nat) := [(0, .aload_n 0, 1)]
theorem KX9_powerOf_0_0_d : ∀ z ∈ KX9_powerOf_0_0, decode cX9_powerOf z.1 = .ok z.2 := by decide +kernel
def KX9_powerOf_4_1 : List (Nat × Instr × Nat) := [(4, .iload_n 1, 1), (5, .bipush 15, 2)]
theorem KX9_powerOf_4_1_d : ∀ z ∈ KX9_powerOf_4_1, decode cX9_powerOf z.1 = .ok z.2 := by decide +kernel
set_option maxHeartbeats 4000000 in
set_option maxRecDepth 100000 in
theorem c_X9_powerOf (l : Launch) (D : va_G) (g : Nat → ClassId) (ad : Nat → Nat) (I : Nat → Nat → Int32) (L : Nat → Nat → Int64) (S : Nat → Nat) (Z : Nat → Nat → Int32) (Y : Int64) (n : Nat) (hn : n < 100000) : CT l yX9_powerOf cX9_powerOf 2 ((Option.some FieldType.int)) ({ frames := 0, cells := 0, slots := 0, locals := 0 } : Room) [.ref (ad 0), .int (nI n)] D CL (TYS g) ([]) (WM ad g I L S Z Y) (S := Unit) (fun _ => some (.int (nI (pw (n % 15))))) (fun _ => WM ad g I L S Z Y) (fun _ => True) 0 0 := by
  refine ct_of (by decide +kernel) (Nat.le_of_ble_eq_true rfl) ?_
  intro p e s m below meth c A X hr hnm hSB hRO hAf
  refine g_cs (ws' := WM ad g I L S Z Y ++ []) (lv' := [(0, .ref (ad 0)), (1, .int (nI n))]) (List.append_nil _) rfl ?_
  refine g_run X KX9_powerOf_0_0 KX9_powerOf_0_0_d 1 [(0, .ref (ad 0)), (1, .int (nI n))] [.ref (ad 0)] rfl ?_
  refine g_get X srcW (v := .ref (ad 2)) hinX9 rfl 2 (by decide) w_1182 rfl (wm_mem (k := 0) (by decide)) rfl dX9_powerOf_1 ?_
  refine g_run X KX9_powerOf_4_1 KX9_powerOf_4_1_d 7 [(0, .ref (ad 0)), (1, .int (nI n))] [.int (nI 15), .int (nI n), .ref (ad 2)] rfl ?_
  refine g_irem X (v := nI (n % 15)) (nI_ne0 (by decide) (by decide)) (pk_rem (by omega) (by omega) (by decide)) dX9_powerOf_7 ?_
  refine g_iald X srcW (v := nI (pw (n % 15))) 0 rfl (wm_mem (k := 2) (by decide)) (n % 15) rfl (Nat.mod_lt _ (by decide)) (by decide) (rfl) dX9_powerOf_8 ?_
  exact g_iret X hr () (rfl) (trivial) (rfl) (Nat.le_of_ble_eq_true rfl) (Nat.le_of_ble_eq_true rfl) dX9_powerOf_9

def KX9_refuse_0_0 : List (Nat × Instr × Nat) := [(0, .aload_n 0, 1), (1, .iload_n 1, 1)]
theorem KX9_refuse_0_0_d : ∀ z ∈ KX9_refuse_0_0, decode cX9_refuse z.1 = .ok z.2 := by decide +kernel
def KX9_refuse_5_1 : List (Nat × Instr × Nat) := [(5, .iconst 0, 1)]
theorem KX9_refuse_5_1_d : ∀ z ∈ KX9_refuse_5_1, decode cX9_refuse z.1 = .ok z.2 := by decide +kernel
set_option maxHeartbeats 4000000 in
set_option maxRecDepth 100000 in
theorem c_X9_refuse (l : Launch) (D : va_G) (g : Nat → ClassId) (ad : Nat → Nat) (I : Nat → Nat → Int32) (L : Nat → Nat → Int64) (S : Nat → Nat) (Z : Nat → Nat → Int32) (Y : Int64) (n : Nat) : CT l yX9_refuse cX9_refuse 2 ((Option.some FieldType.int)) ({ frames := 0, cells := 0, slots := 0, locals := 0 } : Room) [.ref (ad 0), .int (nI n)] D CL (TYS g) ([]) (WM ad g I L S Z Y) (S := Unit) (fun _ => some (.int (nI 0))) (fun _ => WM ad g I L S (u2 Z 3 0 (nI n)) Y) (fun _ => True) 0 0 := by
  refine ct_of (by decide +kernel) (Nat.le_of_ble_eq_true rfl) ?_
  intro p e s m below meth c A X hr hnm hSB hRO hAf
  refine g_cs (ws' := WM ad g I L S Z Y ++ []) (lv' := [(0, .ref (ad 0)), (1, .int (nI n))]) (List.append_nil _) rfl ?_
  refine g_run X KX9_refuse_0_0 KX9_refuse_0_0_d 2 [(0, .ref (ad 0)), (1, .int (nI n))] [.int (nI n), .ref (ad 0)] rfl ?_
  refine g_put X (ws' := WM ad g I L S (u2 Z 3 0 (nI n)) Y ++ []) hinX9 tyX9 tyX9_ok nmX9 rfl 0 (by decide) w_1180 rfl rfl (ty := .int) rfl rfl rfl (0) (wm_get (k := 0) (by decide)) (Nat.le_of_ble_eq_true rfl) (wm_mo0) dX9_refuse_2 ?_
  refine g_run X KX9_refuse_5_1 KX9_refuse_5_1_d 6 [(0, .ref (ad 0)), (1, .int (nI n))] [.int (nI 0)] rfl ?_
  exact g_iret X hr () (rfl) (trivial) (rfl) (Nat.le_of_ble_eq_true rfl) (Nat.le_of_ble_eq_true rfl) dX9_refuse_6

def KX9_call_0_0 : List (Nat × Instr × Nat) := [(0, .aload_n 0, 1), (1, .iconst 0, 1)]
theorem KX9_call_0_0_d : ∀ z ∈ KX9_call_0_0, decode cX9_call z.1 = .ok z.2 := by decide +kernel
def KX9_call_5_1 : List (Nat × Instr × Nat) := [(5, .aload_n 0, 1), (6, .dup, 1)]
theorem KX9_call_5_1_d : ∀ z ∈ KX9_call_5_1, decode cX9_call z.1 = .ok z.2 := by decide +kernel
def KX9_call_10_2 : List (Nat × Instr × Nat) := [(10, .iconst 1, 1), (11, .iadd, 1)]
theorem KX9_call_10_2_d : ∀ z ∈ KX9_call_10_2, decode cX9_call z.1 = .ok z.2 := by decide +kernel
def KX9_call_15_3 : List (Nat × Instr × Nat) := [(15, .aload_n 0, 1)]
theorem KX9_call_15_3_d : ∀ z ∈ KX9_call_15_3, decode cX9_call z.1 = .ok z.2 := by decide +kernel
set_option maxHeartbeats 4000000 in
set_option maxRecDepth 100000 in
theorem c_X9_call (l : Launch) (D : va_G) (g : Nat → ClassId) (ad : Nat → Nat) (I : Nat → Nat → Int32) (L : Nat → Nat → Int64) (S : Nat → Nat) (Z : Nat → Nat → Int32) (Y : Int64) : CT l yX9_call cX9_call 1 ((Option.some FieldType.int)) ({ frames := 0, cells := 0, slots := 0, locals := 0 } : Room) [.ref (ad 0)] D CL (TYS g) ([]) (WM ad g I L S Z Y) (S := Unit) (fun _ => some (.int (I 8 9 + nI 1))) (fun _ => WM ad g (u2 I 8 9 (I 8 9 + nI 1)) L S (u2 Z 3 0 (nI 0)) Y) (fun _ => True) 0 0 := by
  refine ct_of (by decide +kernel) (Nat.le_of_ble_eq_true rfl) ?_
  intro p e s m below meth c A X hr hnm hSB hRO hAf
  refine g_cs (ws' := WM ad g I L S Z Y ++ []) (lv' := [(0, .ref (ad 0))]) (List.append_nil _) rfl ?_
  refine g_run X KX9_call_0_0 KX9_call_0_0_d 2 [(0, .ref (ad 0))] [.int (nI 0), .ref (ad 0)] rfl ?_
  refine g_put X (ws' := WM ad g I L S (u2 Z 3 0 (nI 0)) Y ++ []) hinX9 tyX9 tyX9_ok nmX9 rfl 0 (by decide) w_1180 rfl rfl (ty := .int) rfl rfl rfl (0) (wm_get (k := 0) (by decide)) (Nat.le_of_ble_eq_true rfl) (wm_mo0) dX9_call_2 ?_
  refine g_run X KX9_call_5_1 KX9_call_5_1_d 7 [(0, .ref (ad 0))] [.ref (ad 0), .ref (ad 0)] rfl ?_
  refine g_get X srcW (v := .int (I 8 9)) hinX9 rfl 17 (by decide) w_1197 rfl (wm_mem (k := 0) (by decide)) rfl dX9_call_7 ?_
  refine g_run X KX9_call_10_2 KX9_call_10_2_d 12 [(0, .ref (ad 0))] [.int ((I 8 9) + (nI 1)), .ref (ad 0)] rfl ?_
  refine g_put X (ws' := WM ad g (u2 I 8 9 ((I 8 9) + (nI 1))) L S (u2 Z 3 0 (nI 0)) Y ++ []) hinX9 tyX9 tyX9_ok nmX9 rfl 17 (by decide) w_1197 rfl rfl (ty := .int) rfl rfl rfl (0) (wm_get (k := 0) (by decide)) (Nat.le_of_ble_eq_true rfl) (wm_mo17) dX9_call_12 ?_
  refine g_run X KX9_call_15_3 KX9_call_15_3_d 16 [(0, .ref (ad 0))] [.ref (ad 0)] rfl ?_
  refine g_get X srcW (v := .int ((u2 I 8 9 ((I 8 9) + (nI 1))) 8 9)) hinX9 rfl 17 (by decide) w_1197 rfl (wm_mem (k := 0) (by decide)) rfl dX9_call_16 ?_
  refine g_nm (lv' := [(0, .ref (ad 0))]) (st' := [.int ((I 8 9) + (nI 1))]) (by simp only [u2_s]) (by simp only [u2_s]) ?_
  exact g_iret X hr () (rfl) (trivial) (rfl) (Nat.le_of_ble_eq_true rfl) (Nat.le_of_ble_eq_true rfl) dX9_call_19

def KX9_limit_0_0 : List (Nat × Instr × Nat) := [(0, .aload_n 0, 1), (1, .iconst 0, 1)]
theorem KX9_limit_0_0_d : ∀ z ∈ KX9_limit_0_0, decode cX9_limit z.1 = .ok z.2 := by decide +kernel
def KX9_limit_5_1 : List (Nat × Instr × Nat) := [(5, .iload_n 1, 1), (6, .iconst 1, 1), (7, .bipush 99, 2)]
theorem KX9_limit_5_1_d : ∀ z ∈ KX9_limit_5_1, decode cX9_limit z.1 = .ok z.2 := by decide +kernel
def KX9_limit_21_2 : List (Nat × Instr × Nat) := [(21, .aload_n 0, 1)]
theorem KX9_limit_21_2_d : ∀ z ∈ KX9_limit_21_2, decode cX9_limit z.1 = .ok z.2 := by decide +kernel
def KX9_limit_25_3 : List (Nat × Instr × Nat) := [(25, .istore_n 2, 1), (26, .aload_n 0, 1), (27, .iload_n 1, 1)]
theorem KX9_limit_25_3_d : ∀ z ∈ KX9_limit_25_3, decode cX9_limit z.1 = .ok z.2 := by decide +kernel
def KX9_limit_31_4 : List (Nat × Instr × Nat) := [(31, .iload_n 2, 1)]
theorem KX9_limit_31_4_d : ∀ z ∈ KX9_limit_31_4, decode cX9_limit z.1 = .ok z.2 := by decide +kernel
set_option maxHeartbeats 4000000 in
set_option maxRecDepth 100000 in
theorem c_X9_limit (l : Launch) (D : va_G) (g : Nat → ClassId) (ad : Nat → Nat) (I : Nat → Nat → Int32) (L : Nat → Nat → Int64) (S : Nat → Nat) (Z : Nat → Nat → Int32) (Y : Int64) (v : Nat) (h1 : 1 ≤ v) (hv : v ≤ 99) : CT l yX9_limit cX9_limit 3 ((Option.some FieldType.int)) ({ frames := 1, cells := 0, slots := 0, locals := 22 } : Room) [.ref (ad 0), .int (nI v)] D CL (TYS g) ([]) (WM ad g I L S Z Y) (S := Unit) (fun _ => some (.int (I 8 0))) (fun _ => WM ad g (u2 I 8 0 (nI v)) L S (u2 Z 3 0 (nI 0)) Y) (fun _ => True) 0 0 := by
  refine ct_of (by decide +kernel) (Nat.le_of_ble_eq_true rfl) ?_
  intro p e s m below meth c A X hr hnm hSB hRO hAf
  refine g_cs (ws' := WM ad g I L S Z Y ++ []) (lv' := [(0, .ref (ad 0)), (1, .int (nI v))]) (List.append_nil _) rfl ?_
  refine g_run X KX9_limit_0_0 KX9_limit_0_0_d 2 [(0, .ref (ad 0)), (1, .int (nI v))] [.int (nI 0), .ref (ad 0)] rfl ?_
  refine g_put X (ws' := WM ad g I L S (u2 Z 3 0 (nI 0)) Y ++ []) hinX9 tyX9 tyX9_ok nmX9 rfl 0 (by decide) w_1180 rfl rfl (ty := .int) rfl rfl rfl (0) (wm_get (k := 0) (by decide)) (Nat.le_of_ble_eq_true rfl) (wm_mo0) dX9_limit_2 ?_
  refine g_run X KX9_limit_5_1 KX9_limit_5_1_d 9 [(0, .ref (ad 0)), (1, .int (nI v))] [.int (nI 99), .int (nI 1), .int (nI v)] rfl ?_
  refine g_callS X hSB hAf (As := [.int (nI v), .int (nI 1), .int (nI 99)]) (wr := WM ad g I L S (u2 Z 3 0 (nI 0)) Y ++ []) (n := 3) (c_X9_is_t l D g v 1 99 (by omega) (by omega) (by omega)) rfl srcN hrdN w_1260 w_1258 w_1259 w_6 (by decide +kernel) rfl ⟨Nat.le_of_ble_eq_true rfl, Nat.le_of_ble_eq_true rfl⟩ rfl rfl rfl (Nat.le_of_ble_eq_true rfl) ⟨Nat.le_of_ble_eq_true rfl, Nat.le_of_ble_eq_true rfl⟩ dX9_limit_9 (fun hu1 _ => ?_)
  refine g_af (ws' := WM ad g I L S (u2 Z 3 0 (nI 0)) Y ++ []) (st' := [.int (nI 1)]) (cells' := 0) (slots' := 0) (pc' := 12) rfl rfl rfl rfl rfl ?_
  refine g_if_ne X 21 dX9_limit_12 (by decide) (fun hc2 => ?_) (fun hc2 => ?_)
  · refine g_run X KX9_limit_21_2 KX9_limit_21_2_d 22 [(0, .ref (ad 0)), (1, .int (nI v))] [.ref (ad 0)] rfl ?_
    refine g_get X srcW (v := .int (I 8 0)) hinX9 rfl 9 (by decide) w_1189 rfl (wm_mem (k := 0) (by decide)) rfl dX9_limit_22 ?_
    refine g_run X KX9_limit_25_3 KX9_limit_25_3_d 28 [(2, .int (I 8 0)), (0, .ref (ad 0)), (1, .int (nI v))] [.int (nI v), .ref (ad 0)] rfl ?_
    refine g_put X (ws' := WM ad g (u2 I 8 0 (nI v)) L S (u2 Z 3 0 (nI 0)) Y ++ []) hinX9 tyX9 tyX9_ok nmX9 rfl 9 (by decide) w_1189 rfl rfl (ty := .int) rfl rfl rfl (0) (wm_get (k := 0) (by decide)) (Nat.le_of_ble_eq_true rfl) (wm_mo9) dX9_limit_28 ?_
    refine g_run X KX9_limit_31_4 KX9_limit_31_4_d 32 [(2, .int (I 8 0)), (0, .ref (ad 0)), (1, .int (nI v))] [.int (I 8 0)] rfl ?_
    exact g_iret X hr () (rfl) (trivial) (rfl) (Nat.le_of_ble_eq_true rfl) (Nat.le_of_ble_eq_true rfl) dX9_limit_32
  · rw [nz_eq (by omega)] at hc2; first | omega | (simp at hc2)

def KX9_limit_15_5 : List (Nat × Instr × Nat) := [(15, .aload_n 0, 1), (16, .iconst 1, 1)]
theorem KX9_limit_15_5_d : ∀ z ∈ KX9_limit_15_5, decode cX9_limit z.1 = .ok z.2 := by decide +kernel
set_option maxHeartbeats 4000000 in
set_option maxRecDepth 100000 in
theorem c_X9_limit_1 (l : Launch) (D : va_G) (g : Nat → ClassId) (ad : Nat → Nat) (I : Nat → Nat → Int32) (L : Nat → Nat → Int64) (S : Nat → Nat) (Z : Nat → Nat → Int32) (Y : Int64) (x : Int32) (hx : x < nI 1 ∨ ¬ x ≤ nI 99) : CT l yX9_limit cX9_limit 3 ((Option.some FieldType.int)) ({ frames := 1, cells := 0, slots := 0, locals := 22 } : Room) [.ref (ad 0), .int x] D CL (TYS g) ([]) (WM ad g I L S Z Y) (S := Unit) (fun _ => some (.int (nI 0))) (fun _ => WM ad g I L S (u2 (u2 Z 3 0 (nI 0)) 3 0 (nI 1)) Y) (fun _ => True) 0 0 := by
  refine ct_of (by decide +kernel) (Nat.le_of_ble_eq_true rfl) ?_
  intro p e s m below meth c A X hr hnm hSB hRO hAf
  refine g_cs (ws' := WM ad g I L S Z Y ++ []) (lv' := [(0, .ref (ad 0)), (1, .int x)]) (List.append_nil _) rfl ?_
  refine g_run X KX9_limit_0_0 KX9_limit_0_0_d 2 [(0, .ref (ad 0)), (1, .int x)] [.int (nI 0), .ref (ad 0)] rfl ?_
  refine g_put X (ws' := WM ad g I L S (u2 Z 3 0 (nI 0)) Y ++ []) hinX9 tyX9 tyX9_ok nmX9 rfl 0 (by decide) w_1180 rfl rfl (ty := .int) rfl rfl rfl (0) (wm_get (k := 0) (by decide)) (Nat.le_of_ble_eq_true rfl) (wm_mo0) dX9_limit_2 ?_
  refine g_run X KX9_limit_5_1 KX9_limit_5_1_d 9 [(0, .ref (ad 0)), (1, .int x)] [.int (nI 99), .int (nI 1), .int x] rfl ?_
  refine g_callS X hSB hAf (As := [.int x, .int (nI 1), .int (nI 99)]) (wr := WM ad g I L S (u2 Z 3 0 (nI 0)) Y ++ []) (n := 3) (c_X9_is_f l D g x (nI 1) (nI 99) (hx)) rfl srcN hrdN w_1260 w_1258 w_1259 w_6 (by decide +kernel) rfl ⟨Nat.le_of_ble_eq_true rfl, Nat.le_of_ble_eq_true rfl⟩ rfl rfl rfl (Nat.le_of_ble_eq_true rfl) ⟨Nat.le_of_ble_eq_true rfl, Nat.le_of_ble_eq_true rfl⟩ dX9_limit_9 (fun hu1 _ => ?_)
  refine g_af (ws' := WM ad g I L S (u2 Z 3 0 (nI 0)) Y ++ []) (st' := [.int (nI 0)]) (cells' := 0) (slots' := 0) (pc' := 12) rfl rfl rfl rfl rfl ?_
  refine g_if_ne X 21 dX9_limit_12 (by decide) (fun hc2 => ?_) (fun hc2 => ?_)
  · rw [nz_eq (by omega)] at hc2; first | omega | (simp at hc2)
  · refine g_run X KX9_limit_15_5 KX9_limit_15_5_d 17 [(0, .ref (ad 0)), (1, .int x)] [.int (nI 1), .ref (ad 0)] rfl ?_
    refine g_callV X hSB hAf (srcW) (hrc1 := (rfl : CL[8]? = some _)) (wm_mem (k := 0) (by decide)) rfl (As := [.int (nI 1)]) (wr := []) (n := 1) (c_X9_refuse l D g ad I L S (u2 Z 3 0 (nI 0)) Y 1 ) rfl srcN hrdN w_1264 w_1261 w_1263 w_s12 w_6 (by decide +kernel) rfl ⟨Nat.le_of_ble_eq_true rfl, Nat.le_of_ble_eq_true rfl⟩ rfl rfl rfl (Nat.le_of_ble_eq_true rfl) ⟨Nat.le_of_ble_eq_true rfl, Nat.le_of_ble_eq_true rfl⟩ dX9_limit_17 (fun hu3 _ => ?_)
    refine g_af (ws' := WM ad g I L S (u2 (u2 Z 3 0 (nI 0)) 3 0 (nI 1)) Y ++ []) (st' := [.int (nI 0)]) (cells' := 0) (slots' := 0) (pc' := 20) rfl rfl rfl rfl rfl ?_
    exact g_iret X hr () (rfl) (trivial) (rfl) (Nat.le_of_ble_eq_true rfl) (Nat.le_of_ble_eq_true rfl) dX9_limit_20

