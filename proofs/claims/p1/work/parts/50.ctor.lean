/-! objects made; cells in another order -/
section GLS
variable {p : Program} {l : Launch} {e : Env} {R : Room} {s : State} {m : MethodId} {args : Array Value} {below : List Frame} {meth : Method} {c : Code} {Q : State → Prop} {D : va_G} {cl : List vw_C} {tys : List (ClassId × FieldType)} {A : Nat → Prop} {nL : Nat} {ws : va_W} {cells slots : Nat} {cc : ByteArray} {own : String} {pc : Nat} {lv : List (Nat × Value)} {st : List Value}

theorem D_nodup {A : Nat → Prop} {ws : va_W} : va_D A ws ↔ (ws.map Prod.fst).Nodup ∧ ∀ x ∈ ws, A x.1 := by
  constructor
  · intro h
    refine ⟨?_, fun x hx => D_mem h hx⟩
    show List.Pairwise _ _
    rw [List.pairwise_iff_getElem]
    intro i j hi hj hij e2
    rw [List.length_map] at hi hj
    have e3 : (ws[i]).1 = (ws[j]).1 := by simpa using e2
    have := h.1 i j _ _ (List.getElem?_eq_getElem hi) (List.getElem?_eq_getElem hj) e3
    omega
  · rintro ⟨h1, h2⟩
    have h3 : List.Pairwise (fun a b => a ≠ b) (ws.map Prod.fst) := h1
    rw [List.pairwise_iff_getElem] at h3
    refine ⟨fun i j p q hp hq e2 => ?_, fun k q hk => h2 q (List.mem_of_getElem? hk)⟩
    obtain ⟨hi, rfl⟩ := List.getElem?_eq_some_iff.mp hp
    obtain ⟨hj, rfl⟩ := List.getElem?_eq_some_iff.mp hq
    rcases Nat.lt_trichotomy i j with h | h | h
    · have hne := h3 i j (by rw [List.length_map]; exact hi) (by rw [List.length_map]; exact hj) h
      exact absurd e2 (by simpa using hne)
    · exact h
    · have hne := h3 j i (by rw [List.length_map]; exact hj) (by rw [List.length_map]; exact hi) h
      exact absurd e2.symm (by simpa using hne)
theorem D_perm {A : Nat → Prop} {a b : va_W} (h : a.Perm b) (hD : va_D A b) : va_D A a := by
  rw [D_nodup] at hD ⊢
  exact ⟨(h.map _).nodup_iff.mpr hD.1, fun x hx => hD.2 x (h.mem_iff.mp hx)⟩
theorem P_perm {D : va_G} {cl : List vw_C} {a b : va_W} {H : Heap} (h : a.Perm b) (hP : va_P D cl b H) : va_P D cl a H := P_of fun x hx => mem_at hP (h.mem_iff.mp hx)
theorem g_perm {ws' : va_W} (h : ws'.Perm ws) (kk : GL p l e R s m args below meth c Q D cl tys A nL ws' cells slots pc lv st) : GL p l e R s m args below meth c Q D cl tys A nL ws cells slots pc lv st := fun H locs ls hK hP hD hS hl => kk H locs ls hK (P_perm h hP) (D_perm h hD) hS hl
/-- a row of references, told of its own places alone -/
theorem at_fun {D : va_G} {cl : List vw_C} {a n : Nat} {cA : ClassId} {f f' : Nat → Option Nat} {H : Heap} (h : ∀ j, j < n → f j = f' j) (hx : va_at D cl (a, .inl (cA, n, .inr (.inr (.inr (.inr f))))) H) : va_at D cl (a, .inl (cA, n, .inr (.inr (.inr (.inr f'))))) H := by
  have e : vp_cell cA (n, .inr (.inr (.inr (.inr f)))) = vp_cell cA (n, .inr (.inr (.inr (.inr f')))) := by
    rw [vp_cell_q, vp_cell_q]
    unfold arrV; congr 2; funext j
    show va_rf (f j.1) = va_rf (f' j.1)
    rw [h j.1 j.2]
  show H[a]? = some (vp_cell _ _)
  rw [← e]
  exact hx
theorem g_swap {a b : va_W} {x : Nat} {z z' : va_E} (h : ws = a ++ (x, z) :: b) (hE : ∀ (D : va_G) (cl : List vw_C) (H : Heap), va_at D cl (x, z) H → va_at D cl (x, z') H) (kk : GL p l e R s m args below meth c Q D cl tys A nL (a ++ (x, z') :: b) cells slots pc lv st) : GL p l e R s m args below meth c Q D cl tys A nL ws cells slots pc lv st := by
  subst h
  intro H locs ls hK hP hD hS hl
  refine kk H locs ls hK (P_of fun y hy => ?_) ?_ hS hl
  · rcases List.mem_append.mp hy with g | g
    · exact mem_at hP (List.mem_append_left _ g)
    · rcases List.mem_cons.mp g with rfl | g
      · exact hE _ _ _ (mem_at hP (List.mem_append_right _ List.mem_cons_self))
      · exact mem_at hP (List.mem_append_right _ (List.mem_cons_of_mem _ g))
  · rw [D_nodup] at hD ⊢
    refine ⟨by simpa using hD.1, fun y hy => ?_⟩
    rcases List.mem_append.mp hy with g | g
    · exact hD.2 y (List.mem_append_left _ g)
    · rcases List.mem_cons.mp g with rfl | g
      · exact hD.2 (x, z) (List.mem_append_right _ List.mem_cons_self)
      · exact hD.2 y (List.mem_append_right _ (List.mem_cons_of_mem _ g))
theorem g_callIN (X : BX p m c cc nL s args own meth) (hSB : SB A s s.heap) (hAf : ∀ q : Nat, s.heap.size ≤ q → A q) {S : Type} {y : MethodName} {bY : ByteArray} {nY : Nat} {rm : Room} {ro wc wr : va_W} {r : S → Option Value} {w : S → va_W} {post : S → Prop} {mc ms : Nat} {a : Nat} {As st0 : List Value} {n idx : Nat} {host : String} (hM : CT l y bY nY none rm (.ref a :: As) D cl tys ro wc r w post mc ms) (hw : ws = wc ++ wr) (hro : Src D cl A s ws ro) (hrd : va_D A ws → ∀ x ∈ ro, ∀ y ∈ wc, x.1 ≠ y.1) (hcode : Cond.code y bY nY none ∈ GW) (hlink : Cond.methodLinkNest own idx y host ∈ NW) (hinst : Cond.instanceMethod y ∈ GW) (hnm : y.name = "<init>") (hini : Cond.initialized y.cls ∈ GW) (hy : y.cls ≠ "java/lang/invoke/MethodHandle" ∧ y.cls ≠ "java/lang/invoke/VarHandle" ∧ (parseMethodDescriptor y.desc).map (fun d => d.parameters.length) = some n) (hn : As.length = n) (hR : rm.frames + 1 ≤ R.frames ∧ 8 + (nY + 11) + rm.locals ≤ R.locals) (hrc : rm.cells = mc) (hrs : rm.slots = ms) (hst : st0 = As.reverse ++ .ref a :: st) (hcat : (st.map fun v => v.category).sum ≤ 8) (hf : cells + mc ≤ R.cells ∧ slots + ms ≤ R.slots) (hd : decode cc pc = .ok (.invokespecial idx, 3))
    (kk : ∀ u : S, post u → GL p l e R s m args below meth c Q D cl tys A nL (w u ++ wr) (cells + mc) (slots + ms) (pc + 3) lv ((r u).toList ++ st)) : GL p l e R s m args below meth c Q D cl tys A nL ws cells slots pc lv st0 := by
  subst hst
  refine g_goes (As := (Value.ref a :: As).toArray) hAf hw ?_ kk
  intro H locs ls hK hP hD hS hl
  have hts : ∀ w ∈ WG y bY nY none, w.before args s = true := fun w h => X.w (by rcases List.mem_cons.mp h with rfl | h; exact hcode; exact h)
  have hG : GoodIn (WG y bY nY none) (WG y bY nY none) := (wg_good (y := y) (b := bY) (n := nY) (r := none) hcode)
  exact va_runIN (As := As) (rest := st) (n := n) (host := host) ⟨X.1, X.2.1, X.2.2.1, X.2.2.2.1, hts⟩ (hM H.size) ⟨va_cnB n hts hG rfl hrc hrs (X.nw hlink) (X.w hini) hy hR, hnm, X.w hinst⟩ ⟨PX.blind, fun U hU hW => ⟨rfl, px_at hSB hAf hw hro hrd hK hP hD hS U hU hW⟩⟩ rfl hn hl.1 rfl (lv_room hcat) hd hf
theorem g_newB (X : BX p m c cc nL s args own meth) (hAf : ∀ q : Nat, s.heap.size ≤ q → A q) {cA : ClassId} (t0 : Nat) (ht : tys[t0]? = some (cA, .byte)) (harr : Cond.arrayClass .byte ∈ GW) {n : Int32} (N : Nat) (hi : n = nI N) (hN : N < 1000) (hcells : cells + 1 ≤ R.cells) (hslots : slots + N ≤ R.slots) (hd : decode cc pc = .ok (.newarray .byte, 2))
    (kk : ∀ q : Nat, GL p l e R s m args below meth c Q D cl tys A nL (ws ++ [(q, Sum.inl (cA, N, .inl (fun _ => 0)))]) (cells + 1) (slots + N) (pc + 2) lv (.ref q :: st)) : GL p l e R s m args below meth c Q D cl tys A nL ws cells slots pc lv (.int n :: st) := by
  intro H locs ls hK hP hD hS hl
  subst hi
  refine va_newa (atype := .byte) (ty := .byte) (N' := N) (a0 := (N, .inl (fun _ => 0))) X.1 X.2.1 (X.w harr) rfl hK hP hD hS hAf (fun cA => rfl) (nI_pos (by omega)) (nI_clamp (by omega)) (show N * 1 ≤ 536870912 by omega) hcells hslots hd (fun q cB H1 hK1 hP1 hD1 hS1 => ?_)
  have e : cB = cA := tys_one hK1 ht
  subst e
  exact kk q H1 locs ls hK hP1 hD1 hS1 hl
end GLS

/-- objects in a row: the first i, at the addresses u -/
def blk (F : Nat → va_E) (u : Nat → Nat) (i : Nat) : va_W := (List.range i).map (fun k => (u k, F k))
theorem blk_s {F : Nat → va_E} {u : Nat → Nat} {i q : Nat} : blk F u i ++ [(q, F i)] = blk F (u1 u i q) (i + 1) := by
  unfold blk
  rw [List.range_succ, List.map_append]
  congr 1
  · refine List.map_congr_left (fun k hk => ?_)
    rw [u1, if_neg (by have := List.mem_range.mp hk; omega)]
  · simp [u1]
theorem blk_0 {F : Nat → va_E} {u : Nat → Nat} : blk F u 0 = [] := rfl
theorem blk_mem {F : Nat → va_E} {u : Nat → Nat} {i k : Nat} (h : k < i) : (u k, F k) ∈ blk F u i := List.mem_map.mpr ⟨k, List.mem_range.mpr h, rfl⟩
/-- a row of references to them -/
def cA (u : Nat → Nat) (i j : Nat) : Option Nat := if j < i then some (u j) else none
theorem cA_0 {u : Nat → Nat} : (fun _ => none) = cA u 0 := by funext j; rw [cA, if_neg (Nat.not_lt_zero _)]
theorem cA_s {u : Nat → Nat} {i q : Nat} : va_up (cA u i) i (some q) = cA (u1 u i q) (i + 1) := by
  funext j; unfold va_up cA u1
  by_cases h : j = i
  · subst h; rw [if_pos rfl, if_pos (by omega), if_pos rfl]
  · rw [if_neg h]
    by_cases h2 : j < i
    · rw [if_pos h2, if_pos (by omega), if_neg h]
    · rw [if_neg h2, if_neg (by omega)]
theorem cA_t {u : Nat → Nat} {i : Nat} : va_up (cA u i) i (some (u i)) = cA u (i + 1) := by
  funext j; unfold va_up cA
  by_cases h : j = i
  · subst h; rw [if_pos rfl, if_pos (by omega)]
  · rw [if_neg h]
    by_cases h2 : j < i
    · rw [if_pos h2, if_pos (by omega)]
    · rw [if_neg h2, if_neg (by omega)]
theorem cA_at {u : Nat → Nat} {i j : Nat} (h : j < i) : cA u i j = some (u j) := if_pos h
/-- a new object's state -/
def I0 : Nat → Nat → Int32
  | 0, c => if c < 15 then nI c else -nI 1
  | 1, _ => -nI 1
  | 5, _ => -nI 1
  | 8, 0 => nI 4
  | 8, 5 => nI 15
  | _, _ => nI 0
def L0 : Nat → Nat → Int64
  | 3, _ => -1
  | _, _ => lN 0
def S0 (p : Nat) : Nat := p

def KX1_init_0_0 : List (Nat × Instr × Nat) := [(0, .aload_n 0, 1)]
theorem KX1_init_0_0_d : ∀ z ∈ KX1_init_0_0, decode cX1_init z.1 = .ok z.2 := by decide +kernel
def KX1_init_4_1 : List (Nat × Instr × Nat) := [(4, .aload_n 0, 1), (5, .iconst (-1), 1)]
theorem KX1_init_4_1_d : ∀ z ∈ KX1_init_4_1, decode cX1_init z.1 = .ok z.2 := by decide +kernel
def KX1_init_9_2 : List (Nat × Instr × Nat) := [(9, .aload_n 0, 1), (10, .iconst 0, 1)]
theorem KX1_init_9_2_d : ∀ z ∈ KX1_init_9_2, decode cX1_init z.1 = .ok z.2 := by decide +kernel
def KX1_init_14_3 : List (Nat × Instr × Nat) := [(14, .aload_n 0, 1), (15, .iconst 0, 1)]
theorem KX1_init_14_3_d : ∀ z ∈ KX1_init_14_3, decode cX1_init z.1 = .ok z.2 := by decide +kernel
def KX1_init_19_4 : List (Nat × Instr × Nat) := [(19, .aload_n 0, 1), (20, .iconst 0, 1)]
theorem KX1_init_19_4_d : ∀ z ∈ KX1_init_19_4, decode cX1_init z.1 = .ok z.2 := by decide +kernel
def KX1_init_24_5 : List (Nat × Instr × Nat) := [(24, .aload_n 0, 1), (25, .lconst 0, 1)]
theorem KX1_init_24_5_d : ∀ z ∈ KX1_init_24_5, decode cX1_init z.1 = .ok z.2 := by decide +kernel
def KX1_init_29_6 : List (Nat × Instr × Nat) := [(29, .aload_n 0, 1), (30, .lconst 0, 1)]
theorem KX1_init_29_6_d : ∀ z ∈ KX1_init_29_6, decode cX1_init z.1 = .ok z.2 := by decide +kernel
def KX1_init_34_7 : List (Nat × Instr × Nat) := [(34, .aload_n 0, 1), (35, .lconst 0, 1)]
theorem KX1_init_34_7_d : ∀ z ∈ KX1_init_34_7, decode cX1_init z.1 = .ok z.2 := by decide +kernel
def KX1_init_39_8 : List (Nat × Instr × Nat) := [(39, .aload_n 0, 1), (40, .iload_n 1, 1)]
theorem KX1_init_39_8_d : ∀ z ∈ KX1_init_39_8, decode cX1_init z.1 = .ok z.2 := by decide +kernel
def KX1_init_44_9 : List (Nat × Instr × Nat) := [(44, .aload_n 0, 1), (45, .iload_n 2, 1)]
theorem KX1_init_44_9_d : ∀ z ∈ KX1_init_44_9, decode cX1_init z.1 = .ok z.2 := by decide +kernel
set_option maxHeartbeats 4000000 in
set_option maxRecDepth 100000 in
theorem c_X1_init (l : Launch) (D : va_G) (g : Nat → ClassId) (a : Nat) (n : Nat) (v : Int32) : CT l yX1_init cX1_init 3 ((Option.none : Option Jvm.ClassFile.FieldType)) ({ frames := 1, cells := 0, slots := 0, locals := 20 } : Room) [.ref a, .int (nI n), .int v] D CL (TYS g) ([]) ([(a, Sum.inr (1, [.int 0, .int 0, .int 0, .int 0, .int 0, .int 0, .long 0, .long 0, .long 0]))]) (S := Unit) (fun _ => none) (fun u => [(a, Sum.inr (1, [.int (nI n), .int v, .int (-nI 1), .int (nI 0), .int (nI 0), .int (nI 0), .long (lN 0), .long (lN 0), .long (lN 0)]))]) (fun _ => True) 0 0 := by
  refine ct_of (by decide +kernel) (Nat.le_of_ble_eq_true rfl) ?_
  intro p e s m below meth c A X hr hnm hSB hRO hAf
  refine g_cs (ws' := ([(a, Sum.inr (1, [.int 0, .int 0, .int 0, .int 0, .int 0, .int 0, .long 0, .long 0, .long 0]))] : va_W)) (lv' := [(0, .ref a), (1, .int (nI n)), (2, .int v)]) (rfl) rfl ?_
  refine g_run X KX1_init_0_0 KX1_init_0_0_d 1 [(0, .ref a), (1, .int (nI n)), (2, .int v)] [.ref a] rfl ?_
  refine g_objInit X w_53 w_39 w_40 (Nat.le_of_ble_eq_true rfl) (Nat.le_of_ble_eq_true rfl) (Nat.le_of_ble_eq_true rfl) dX1_init_1 ?_
  refine g_run X KX1_init_4_1 KX1_init_4_1_d 6 [(0, .ref a), (1, .int (nI n)), (2, .int v)] [.int (-nI 1), .ref a] rfl ?_
  refine g_put X (ws' := ([(a, Sum.inr (1, [.int 0, .int 0, .int (-nI 1), .int 0, .int 0, .int 0, .long 0, .long 0, .long 0]))] : va_W)) hinX1 tyX1 tyX1_ok nmX1 rfl 2 (by decide) w_60 rfl rfl (ty := .int) rfl rfl rfl (0) (rfl) (Nat.le_of_ble_eq_true rfl) (rfl) dX1_init_6 ?_
  refine g_run X KX1_init_9_2 KX1_init_9_2_d 11 [(0, .ref a), (1, .int (nI n)), (2, .int v)] [.int (nI 0), .ref a] rfl ?_
  refine g_put X (ws' := ([(a, Sum.inr (1, [.int 0, .int 0, .int (-nI 1), .int (nI 0), .int 0, .int 0, .long 0, .long 0, .long 0]))] : va_W)) hinX1 tyX1 tyX1_ok nmX1 rfl 3 (by decide) w_62 rfl rfl (ty := .int) rfl rfl rfl (0) (rfl) (Nat.le_of_ble_eq_true rfl) (rfl) dX1_init_11 ?_
  refine g_run X KX1_init_14_3 KX1_init_14_3_d 16 [(0, .ref a), (1, .int (nI n)), (2, .int v)] [.int (nI 0), .ref a] rfl ?_
  refine g_put X (ws' := ([(a, Sum.inr (1, [.int 0, .int 0, .int (-nI 1), .int (nI 0), .int (nI 0), .int 0, .long 0, .long 0, .long 0]))] : va_W)) hinX1 tyX1 tyX1_ok nmX1 rfl 4 (by decide) w_65 rfl rfl (ty := .boolean) rfl (by decide +kernel) rfl (0) (rfl) (Nat.le_of_ble_eq_true rfl) (rfl) dX1_init_16 ?_
  refine g_run X KX1_init_19_4 KX1_init_19_4_d 21 [(0, .ref a), (1, .int (nI n)), (2, .int v)] [.int (nI 0), .ref a] rfl ?_
  refine g_put X (ws' := ([(a, Sum.inr (1, [.int 0, .int 0, .int (-nI 1), .int (nI 0), .int (nI 0), .int (nI 0), .long 0, .long 0, .long 0]))] : va_W)) hinX1 tyX1 tyX1_ok nmX1 rfl 5 (by decide) w_68 rfl rfl (ty := .boolean) rfl (by decide +kernel) rfl (0) (rfl) (Nat.le_of_ble_eq_true rfl) (rfl) dX1_init_21 ?_
  refine g_run X KX1_init_24_5 KX1_init_24_5_d 26 [(0, .ref a), (1, .int (nI n)), (2, .int v)] [.long (lN 0), .ref a] rfl ?_
  refine g_put X (ws' := ([(a, Sum.inr (1, [.int 0, .int 0, .int (-nI 1), .int (nI 0), .int (nI 0), .int (nI 0), .long (lN 0), .long 0, .long 0]))] : va_W)) hinX1 tyX1 tyX1_ok nmX1 rfl 6 (by decide) w_71 rfl rfl (ty := .long) rfl rfl rfl (0) (rfl) (Nat.le_of_ble_eq_true rfl) (rfl) dX1_init_26 ?_
  refine g_run X KX1_init_29_6 KX1_init_29_6_d 31 [(0, .ref a), (1, .int (nI n)), (2, .int v)] [.long (lN 0), .ref a] rfl ?_
  refine g_put X (ws' := ([(a, Sum.inr (1, [.int 0, .int 0, .int (-nI 1), .int (nI 0), .int (nI 0), .int (nI 0), .long (lN 0), .long (lN 0), .long 0]))] : va_W)) hinX1 tyX1 tyX1_ok nmX1 rfl 7 (by decide) w_72 rfl rfl (ty := .long) rfl rfl rfl (0) (rfl) (Nat.le_of_ble_eq_true rfl) (rfl) dX1_init_31 ?_
  refine g_run X KX1_init_34_7 KX1_init_34_7_d 36 [(0, .ref a), (1, .int (nI n)), (2, .int v)] [.long (lN 0), .ref a] rfl ?_
  refine g_put X (ws' := ([(a, Sum.inr (1, [.int 0, .int 0, .int (-nI 1), .int (nI 0), .int (nI 0), .int (nI 0), .long (lN 0), .long (lN 0), .long (lN 0)]))] : va_W)) hinX1 tyX1 tyX1_ok nmX1 rfl 8 (by decide) w_73 rfl rfl (ty := .long) rfl rfl rfl (0) (rfl) (Nat.le_of_ble_eq_true rfl) (rfl) dX1_init_36 ?_
  refine g_run X KX1_init_39_8 KX1_init_39_8_d 41 [(0, .ref a), (1, .int (nI n)), (2, .int v)] [.int (nI n), .ref a] rfl ?_
  refine g_putF X (ws' := ([(a, Sum.inr (1, [.int (nI n), .int 0, .int (-nI 1), .int (nI 0), .int (nI 0), .int (nI 0), .long (lN 0), .long (lN 0), .long (lN 0)]))] : va_W)) hinX1 tyX1 tyX1_ok nmX1 rfl 0 (by decide) w_54 rfl rfl hnm rfl (ty := .int) rfl rfl rfl (0) (rfl) (Nat.le_of_ble_eq_true rfl) (rfl) dX1_init_41 ?_
  refine g_run X KX1_init_44_9 KX1_init_44_9_d 46 [(0, .ref a), (1, .int (nI n)), (2, .int v)] [.int v, .ref a] rfl ?_
  refine g_put X (ws' := ([(a, Sum.inr (1, [.int (nI n), .int v, .int (-nI 1), .int (nI 0), .int (nI 0), .int (nI 0), .long (lN 0), .long (lN 0), .long (lN 0)]))] : va_W)) hinX1 tyX1 tyX1_ok nmX1 rfl 1 (by decide) w_57 rfl rfl (ty := .int) rfl rfl rfl (0) (rfl) (Nat.le_of_ble_eq_true rfl) (rfl) dX1_init_46 ?_
  exact g_vret X hr () rfl (trivial) (rfl) (Nat.le_of_ble_eq_true rfl) (Nat.le_of_ble_eq_true rfl) dX1_init_49

def KX3_init_0_0 : List (Nat × Instr × Nat) := [(0, .aload_n 0, 1)]
theorem KX3_init_0_0_d : ∀ z ∈ KX3_init_0_0, decode cX3_init z.1 = .ok z.2 := by decide +kernel
def KX3_init_4_1 : List (Nat × Instr × Nat) := [(4, .aload_n 0, 1), (5, .iconst (-1), 1)]
theorem KX3_init_4_1_d : ∀ z ∈ KX3_init_4_1, decode cX3_init z.1 = .ok z.2 := by decide +kernel
def KX3_init_9_2 : List (Nat × Instr × Nat) := [(9, .aload_n 0, 1)]
theorem KX3_init_9_2_d : ∀ z ∈ KX3_init_9_2, decode cX3_init z.1 = .ok z.2 := by decide +kernel
def KX3_init_16_3 : List (Nat × Instr × Nat) := [(16, .aload_n 0, 1), (17, .iconst 0, 1)]
theorem KX3_init_16_3_d : ∀ z ∈ KX3_init_16_3, decode cX3_init z.1 = .ok z.2 := by decide +kernel
def KX3_init_21_4 : List (Nat × Instr × Nat) := [(21, .aload_n 0, 1), (22, .iconst 0, 1)]
theorem KX3_init_21_4_d : ∀ z ∈ KX3_init_21_4, decode cX3_init z.1 = .ok z.2 := by decide +kernel
def KX3_init_26_5 : List (Nat × Instr × Nat) := [(26, .aload_n 0, 1), (27, .iload_n 1, 1)]
theorem KX3_init_26_5_d : ∀ z ∈ KX3_init_26_5, decode cX3_init z.1 = .ok z.2 := by decide +kernel
set_option maxHeartbeats 4000000 in
set_option maxRecDepth 100000 in
theorem c_X3_init (l : Launch) (D : va_G) (g : Nat → ClassId) (a : Nat) (n : Nat) : CT l yX3_init cX3_init 2 ((Option.none : Option Jvm.ClassFile.FieldType)) ({ frames := 1, cells := 0, slots := 0, locals := 20 } : Room) [.ref a, .int (nI n)] D CL (TYS g) ([]) ([(a, Sum.inr (2, [.int 0, .int 0, .long 0, .int 0, .int 0]))]) (S := Unit) (fun _ => none) (fun u => [(a, Sum.inr (2, [.int (nI n), .int (-nI 1), .long (-1 : Int64), .int (nI 0), .int (nI 0)]))]) (fun _ => True) 0 0 := by
  refine ct_of (by decide +kernel) (Nat.le_of_ble_eq_true rfl) ?_
  intro p e s m below meth c A X hr hnm hSB hRO hAf
  refine g_cs (ws' := ([(a, Sum.inr (2, [.int 0, .int 0, .long 0, .int 0, .int 0]))] : va_W)) (lv' := [(0, .ref a), (1, .int (nI n))]) (rfl) rfl ?_
  refine g_run X KX3_init_0_0 KX3_init_0_0_d 1 [(0, .ref a), (1, .int (nI n))] [.ref a] rfl ?_
  refine g_objInit X w_137 w_39 w_40 (Nat.le_of_ble_eq_true rfl) (Nat.le_of_ble_eq_true rfl) (Nat.le_of_ble_eq_true rfl) dX3_init_1 ?_
  refine g_run X KX3_init_4_1 KX3_init_4_1_d 6 [(0, .ref a), (1, .int (nI n))] [.int (-nI 1), .ref a] rfl ?_
  refine g_put X (ws' := ([(a, Sum.inr (2, [.int 0, .int (-nI 1), .long 0, .int 0, .int 0]))] : va_W)) hinX3 tyX3 tyX3_ok nmX3 rfl 1 (by decide) w_141 rfl rfl (ty := .int) rfl rfl rfl (0) (rfl) (Nat.le_of_ble_eq_true rfl) (rfl) dX3_init_6 ?_
  refine g_run X KX3_init_9_2 KX3_init_9_2_d 10 [(0, .ref a), (1, .int (nI n))] [.ref a] rfl ?_
  refine g_ldc2 X (v := (-1 : Int64)) w_138 dX3_init_10 ?_
  refine g_put X (ws' := ([(a, Sum.inr (2, [.int 0, .int (-nI 1), .long (-1 : Int64), .int 0, .int 0]))] : va_W)) hinX3 tyX3 tyX3_ok nmX3 rfl 2 (by decide) w_144 rfl rfl (ty := .long) rfl rfl rfl (0) (rfl) (Nat.le_of_ble_eq_true rfl) (rfl) dX3_init_13 ?_
  refine g_run X KX3_init_16_3 KX3_init_16_3_d 18 [(0, .ref a), (1, .int (nI n))] [.int (nI 0), .ref a] rfl ?_
  refine g_put X (ws' := ([(a, Sum.inr (2, [.int 0, .int (-nI 1), .long (-1 : Int64), .int (nI 0), .int 0]))] : va_W)) hinX3 tyX3 tyX3_ok nmX3 rfl 3 (by decide) w_147 rfl rfl (ty := .boolean) rfl (by decide +kernel) rfl (0) (rfl) (Nat.le_of_ble_eq_true rfl) (rfl) dX3_init_18 ?_
  refine g_run X KX3_init_21_4 KX3_init_21_4_d 23 [(0, .ref a), (1, .int (nI n))] [.int (nI 0), .ref a] rfl ?_
  refine g_put X (ws' := ([(a, Sum.inr (2, [.int 0, .int (-nI 1), .long (-1 : Int64), .int (nI 0), .int (nI 0)]))] : va_W)) hinX3 tyX3 tyX3_ok nmX3 rfl 4 (by decide) w_150 rfl rfl (ty := .int) rfl rfl rfl (0) (rfl) (Nat.le_of_ble_eq_true rfl) (rfl) dX3_init_23 ?_
  refine g_run X KX3_init_26_5 KX3_init_26_5_d 28 [(0, .ref a), (1, .int (nI n))] [.int (nI n), .ref a] rfl ?_
  refine g_putF X (ws' := ([(a, Sum.inr (2, [.int (nI n), .int (-nI 1), .long (-1 : Int64), .int (nI 0), .int (nI 0)]))] : va_W)) hinX3 tyX3 tyX3_ok nmX3 rfl 0 (by decide) w_139 rfl rfl hnm rfl (ty := .int) rfl rfl rfl (0) (rfl) (Nat.le_of_ble_eq_true rfl) (rfl) dX3_init_28 ?_
  exact g_vret X hr () rfl (trivial) (rfl) (Nat.le_of_ble_eq_true rfl) (Nat.le_of_ble_eq_true rfl) dX3_init_31

def KX7_init_0_0 : List (Nat × Instr × Nat) := [(0, .aload_n 0, 1)]
theorem KX7_init_0_0_d : ∀ z ∈ KX7_init_0_0, decode cX7_init z.1 = .ok z.2 := by decide +kernel
def KX7_init_4_1 : List (Nat × Instr × Nat) := [(4, .aload_n 0, 1), (5, .iconst (-1), 1)]
theorem KX7_init_4_1_d : ∀ z ∈ KX7_init_4_1, decode cX7_init z.1 = .ok z.2 := by decide +kernel
set_option maxHeartbeats 4000000 in
set_option maxRecDepth 100000 in
theorem c_X7_init (l : Launch) (D : va_G) (g : Nat → ClassId) (a : Nat) : CT l yX7_init cX7_init 1 ((Option.none : Option Jvm.ClassFile.FieldType)) ({ frames := 1, cells := 0, slots := 0, locals := 20 } : Room) [.ref a] D CL (TYS g) ([]) ([(a, Sum.inr (6, [.int 0, .int 0, .int 0, .int 0, .int 0]))]) (S := Unit) (fun _ => none) (fun u => [(a, Sum.inr (6, [.int 0, .int (-nI 1), .int 0, .int 0, .int 0]))]) (fun _ => True) 0 0 := by
  refine ct_of (by decide +kernel) (Nat.le_of_ble_eq_true rfl) ?_
  intro p e s m below meth c A X hr hnm hSB hRO hAf
  refine g_cs (ws' := ([(a, Sum.inr (6, [.int 0, .int 0, .int 0, .int 0, .int 0]))] : va_W)) (lv' := [(0, .ref a)]) (rfl) rfl ?_
  refine g_run X KX7_init_0_0 KX7_init_0_0_d 1 [(0, .ref a)] [.ref a] rfl ?_
  refine g_objInit X w_1095 w_39 w_40 (Nat.le_of_ble_eq_true rfl) (Nat.le_of_ble_eq_true rfl) (Nat.le_of_ble_eq_true rfl) dX7_init_1 ?_
  refine g_run X KX7_init_4_1 KX7_init_4_1_d 6 [(0, .ref a)] [.int (-nI 1), .ref a] rfl ?_
  refine g_put X (ws' := ([(a, Sum.inr (6, [.int 0, .int (-nI 1), .int 0, .int 0, .int 0]))] : va_W)) hinX7 tyX7 tyX7_ok nmX7 rfl 1 (by decide) w_1097 rfl rfl (ty := .int) rfl rfl rfl (0) (rfl) (Nat.le_of_ble_eq_true rfl) (rfl) dX7_init_6 ?_
  exact g_vret X hr () rfl (trivial) (rfl) (Nat.le_of_ble_eq_true rfl) (Nat.le_of_ble_eq_true rfl) dX7_init_9

def KX8_init_0_0 : List (Nat × Instr × Nat) := [(0, .aload_n 0, 1)]
theorem KX8_init_0_0_d : ∀ z ∈ KX8_init_0_0, decode cX8_init z.1 = .ok z.2 := by decide +kernel
def KX8_init_4_1 : List (Nat × Instr × Nat) := [(4, .aload_n 0, 1), (5, .iconst (-1), 1)]
theorem KX8_init_4_1_d : ∀ z ∈ KX8_init_4_1, decode cX8_init z.1 = .ok z.2 := by decide +kernel
set_option maxHeartbeats 4000000 in
set_option maxRecDepth 100000 in
theorem c_X8_init (l : Launch) (D : va_G) (g : Nat → ClassId) (a : Nat) : CT l yX8_init cX8_init 1 ((Option.none : Option Jvm.ClassFile.FieldType)) ({ frames := 1, cells := 0, slots := 0, locals := 20 } : Room) [.ref a] D CL (TYS g) ([]) ([(a, Sum.inr (7, [.int 0, .long 0, .int 0, .int 0]))]) (S := Unit) (fun _ => none) (fun u => [(a, Sum.inr (7, [.int (-nI 1), .long 0, .int 0, .int 0]))]) (fun _ => True) 0 0 := by
  refine ct_of (by decide +kernel) (Nat.le_of_ble_eq_true rfl) ?_
  intro p e s m below meth c A X hr hnm hSB hRO hAf
  refine g_cs (ws' := ([(a, Sum.inr (7, [.int 0, .long 0, .int 0, .int 0]))] : va_W)) (lv' := [(0, .ref a)]) (rfl) rfl ?_
  refine g_run X KX8_init_0_0 KX8_init_0_0_d 1 [(0, .ref a)] [.ref a] rfl ?_
  refine g_objInit X w_1118 w_39 w_40 (Nat.le_of_ble_eq_true rfl) (Nat.le_of_ble_eq_true rfl) (Nat.le_of_ble_eq_true rfl) dX8_init_1 ?_
  refine g_run X KX8_init_4_1 KX8_init_4_1_d 6 [(0, .ref a)] [.int (-nI 1), .ref a] rfl ?_
  refine g_put X (ws' := ([(a, Sum.inr (7, [.int (-nI 1), .long 0, .int 0, .int 0]))] : va_W)) hinX8 tyX8 tyX8_ok nmX8 rfl 0 (by decide) w_1119 rfl rfl (ty := .int) rfl rfl rfl (0) (rfl) (Nat.le_of_ble_eq_true rfl) (rfl) dX8_init_6 ?_
  exact g_vret X hr () rfl (trivial) (rfl) (Nat.le_of_ble_eq_true rfl) (Nat.le_of_ble_eq_true rfl) dX8_init_9

def KX6_init_0_0 : List (Nat × Instr × Nat) := [(0, .aload_n 0, 1)]
theorem KX6_init_0_0_d : ∀ z ∈ KX6_init_0_0, decode cX6_init z.1 = .ok z.2 := by decide +kernel
set_option maxHeartbeats 4000000 in
set_option maxRecDepth 100000 in
theorem c_X6_init (l : Launch) (D : va_G) (g : Nat → ClassId) (a : Nat) : CT l yX6_init cX6_init 1 ((Option.none : Option Jvm.ClassFile.FieldType)) ({ frames := 1, cells := 0, slots := 0, locals := 20 } : Room) [.ref a] D CL (TYS g) ([]) ([(a, Sum.inr (5, [.long 0, .null]))]) (S := Unit) (fun _ => none) (fun u => [(a, Sum.inr (5, [.long 0, .null]))]) (fun _ => True) 0 0 := by
  refine ct_of (by decide +kernel) (Nat.le_of_ble_eq_true rfl) ?_
  intro p e s m below meth c A X hr hnm hSB hRO hAf
  refine g_cs (ws' := ([(a, Sum.inr (5, [.long 0, .null]))] : va_W)) (lv' := [(0, .ref a)]) (rfl) rfl ?_
  refine g_run X KX6_init_0_0 KX6_init_0_0_d 1 [(0, .ref a)] [.ref a] rfl ?_
  refine g_objInit X w_488 w_39 w_40 (Nat.le_of_ble_eq_true rfl) (Nat.le_of_ble_eq_true rfl) (Nat.le_of_ble_eq_true rfl) dX6_init_1 ?_
  exact g_vret X hr () rfl (trivial) (rfl) (Nat.le_of_ble_eq_true rfl) (Nat.le_of_ble_eq_true rfl) dX6_init_4

