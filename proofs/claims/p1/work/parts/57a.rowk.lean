/-! row's text -/
theorem wo_getT {ad : Nat → Nat} {g : Nat → ClassId} {I : Nat → Nat → Int32} {L : Nat → Nat → Int64} {S : Nat → Nat} {x : Nat × va_E} {t : va_W} : (WC ad g I L S ++ [x] ++ t)[28]? = some x := rfl
theorem wo_setT {ad : Nat → Nat} {g : Nat → ClassId} {I : Nat → Nat → Int32} {L : Nat → Nat → Int64} {S : Nat → Nat} {x y : Nat × va_E} {t : va_W} : (WC ad g I L S ++ [x] ++ t).set 28 y = WC ad g I L S ++ [y] ++ t := rfl
/-- a sign as a byte -/
def tby (x : Nat) : Int32 := vp_nar .byte ((nI x).toInt8.toInt32)
/-- the sign of a place -/
def tsg (I : Nat → Nat → Int32) (L : Nat → Nat → Int64) (S : Nat → Nat) (q i : Nat) : Nat := if I 3 (S i) = 0 then sgn (rd I L (S i) q) else 63
/-- the first i signs stand -/
def RP (t : Nat → Nat) (u : Nat → Int32) (i : Nat) : Prop := sb_Fit u ∧ ∀ j, j < i → u j = tby (t j)
theorem RP_0 {t : Nat → Nat} : RP t (fun _ => 0) 0 := ⟨sb_fit0, fun _ h => absurd h (Nat.not_lt_zero _)⟩
theorem RP_s {t : Nat → Nat} {u : Nat → Int32} {i x : Nat} (h : RP t u i) (hx : x = t i) : RP t (upd u i (vp_nar .byte ((nI x).toInt8.toInt32))) (i + 1) := by
  subst hx
  refine ⟨fit_u h.1, fun j hj => ?_⟩
  unfold upd
  by_cases e : j = i
  · subst e; rw [if_pos rfl]; rfl
  · rw [if_neg e]; exact h.2 j (by omega)
/-- a text's bytes -/
def txt (t : Nat → Nat) (j : Nat) : Int32 := if j < 15 then tby (t j) else 0
theorem txt_e {t : Nat → Nat} {u : Nat → Int32} (h : RP t u 15) : va_cpy u (fun _ => 0) 0 0 15 = txt t := by
  funext j; unfold txt
  by_cases e : j < 15
  · rw [if_pos e, sb_cpy0 e, h.2 j e]
  · rw [if_neg e, pk_cpy_out (Or.inr (by omega))]
theorem tsg_0 {I : Nat → Nat → Int32} {L : Nat → Nat → Int64} {S : Nat → Nat} {q i : Nat} (h : I 3 (S i) = 0) : sgn (rd I L (S i) q) = tsg I L S q i := (if_pos h).symm
theorem tsg_1 {I : Nat → Nat → Int32} {L : Nat → Nat → Int64} {S : Nat → Nat} {q i : Nat} (h : ¬ I 3 (S i) = 0) : 63 = tsg I L S q i := (if_neg h).symm
theorem rwd_nib (I : Nat → Nat → Int32) (L : Nat → Nat → Int64) (S : Nat → Nat) (q n : Nat) (hn : n ≤ 15) (i : Nat) (hi : i < n) : nib (rwd I L S q n) i = rd I L (S i) q := by
  induction n with
  | zero => exact absurd hi (Nat.not_lt_zero _)
  | succ n ih =>
    rw [rwd, nib_wn (by omega) (rd_lt _ _ _ _) (by omega)]
    by_cases e : i = n
    · subst e; rw [if_pos rfl]
    · rw [if_neg e]; exact ih (by omega) (by omega)
theorem ers_b0 {I : Nat → Nat → Int32} {S : Nat → Nat} {i : Nat} (hi : i < 15) (h : (ers I S 15).testBit i = false) : I 3 (S i) = 0 := by
  rw [ers_tb, decide_eq_true hi, Bool.true_and] at h
  simpa using h
theorem ers_b1 {I : Nat → Nat → Int32} {S : Nat → Nat} {i : Nat} (hi : i < 15) (h : ¬ (ers I S 15).testBit i = false) : ¬ I 3 (S i) = 0 := by
  intro e; apply h
  rw [ers_tb, e]; simp
theorem tsg_r0 {I : Nat → Nat → Int32} {L : Nat → Nat → Int64} {S : Nat → Nat} {q i : Nat} (hi : i < 15) (h : (ers I S 15).testBit i = false) : sgn (nib (rwd I L S q 15) i) = tsg I L S q i := by
  rw [rwd_nib I L S q 15 (Nat.le_refl _) i hi]; exact tsg_0 (ers_b0 hi h)
theorem tsg_r1 {I : Nat → Nat → Int32} {L : Nat → Nat → Int64} {S : Nat → Nat} {q i : Nat} (hi : i < 15) (h : ¬ (ers I S 15).testBit i = false) : 63 = tsg I L S q i := tsg_1 (ers_b1 hi h)
theorem perm_str {a b c d : va_W} : ((d ++ b) ++ (a ++ c)).Perm ((a ++ b) ++ (c ++ d)) := by
  have h1 : ((a ++ b) ++ (c ++ d)).Perm ((b ++ a) ++ (d ++ c)) := List.Perm.append List.perm_append_comm List.perm_append_comm
  have h2 : ((b ++ a) ++ (d ++ c)).Perm ((d ++ c) ++ (b ++ a)) := List.perm_append_comm
  have h3 : ((d ++ c) ++ (b ++ a)).Perm (d ++ (b ++ (a ++ c))) := by
    rw [List.append_assoc]
    refine List.Perm.append_left d ?_
    rw [← List.append_assoc b a c]
    exact List.perm_append_comm
  rw [List.append_assoc]
  exact (h1.trans (h2.trans h3)).symm

section GLS
variable {p : Program} {l : Launch} {e : Env} {R : Room} {s : State} {m : MethodId} {args : Array Value} {below : List Frame} {meth : Method} {c : Code} {Q : State → Prop} {D : va_G} {cl : List vw_C} {tys : List (ClassId × FieldType)} {A : Nat → Prop} {nL : Nat} {ws : va_W} {cells slots : Nat} {cc : ByteArray} {own : String} {pc : Nat} {lv : List (Nat × Value)} {st : List Value}

theorem g_bald (X : BX p m c cc nL s args own meth) {wx : va_W} (hx : Src D cl A s ws wx) {cA : ClassId} {n a : Nat} {f : Nat → Int32} (t0 : Nat) (ht : tys[t0]? = some (cA, .byte)) (he : (a, Sum.inl (cA, n, .inl f)) ∈ wx) {i v : Int32} (j : Nat) (hi : i = nI j) (hj : j < n) (hn : n < 2 ^ 31) (hv : f j = v) (hd : decode cc pc = .ok (.baload, 1))
    (kk : GL p l e R s m args below meth c Q D cl tys A nL ws cells slots (pc + 1) lv (.int v :: st)) : GL p l e R s m args below meth c Q D cl tys A nL ws cells slots pc lv (.int i :: .ref a :: st) := by
  intro H locs ls hK hP hD hS hl
  obtain ⟨q0, h0⟩ := List.getElem?_of_mem he
  subst hi
  have hz := va_bald (Q := Q) (R := R) (l := l) (e := e) (below := below) (args := args) (meth := meth) (cells := cells) (slots := slots) (ls := ls) (rest := st) (m := m) (locs := locs) X.1 X.2.1 hK (hx H locs hP hS) q0 t0 h0 ht (vp_in_nI hj hn) hd
  rw [nI_clamp (by omega), hv] at hz
  exact hz (kk H locs ls hK hP hD hS hl)
theorem g_inst (X : BX p m c cc nL s args own meth) {wx : va_W} (hx : Src D cl A s ws wx) {ci a index : Nat} {fs : List Value} {q : vw_C} (hc : cl[ci]? = some q) (he : (a, Sum.inr (ci, fs)) ∈ wx) (hlink : Cond.classLink own index q.1 ∈ GW) (hd : decode cc pc = .ok (.instanceof index, 3))
    (kk : GL p l e R s m args below meth c Q D cl tys A nL ws cells slots (pc + 3) lv (.int 1 :: st)) : GL p l e R s m args below meth c Q D cl tys A nL ws cells slots pc lv (.ref a :: st) := by
  intro H locs ls hK hP hD hS hl
  obtain ⟨q0, h0⟩ := List.getElem?_of_mem he
  obtain ⟨r, e1, cell, e2, e3, e4, _⟩ := hx H locs hP hS q0 _ h0
  cases hc.symm.trans e1
  have hC := (hK.1 ci q hc).2
  exact va_instS X.1 X.2.1 X.2.2.2.1 (X.w hlink) hC ⟨cell, e2, by rw [e4]; rfl, by rw [e3]; exact hC.1⟩ hd (kk H locs ls hK hP hD hS hl)
theorem g_acmpN (X : BX p m c cc nL s args own meth) {a b : Nat} {off : Int} (tgt : Nat) (hd : decode cc pc = .ok (.if_acmp .ne off, 3)) (ht : (pc : Int) + off = (tgt : Int))
    (kt : ¬ a = b → GL p l e R s m args below meth c Q D cl tys A nL ws cells slots tgt lv st) (kf : a = b → GL p l e R s m args below meth c Q D cl tys A nL ws cells slots (pc + 3) lv st) : GL p l e R s m args below meth c Q D cl tys A nL ws cells slots pc lv (.ref b :: .ref a :: st) := by
  intro H locs ls hK hP hD hS hl
  exact lv_acmp_ne (rx := some a) (ry := some b) X.1 X.2.1 hd ht (fun h => kt (fun e => h (by rw [e])) H locs ls hK hP hD hS hl) (fun h => kf (Option.some.inj h) H locs ls hK hP hD hS hl)
end GLS
set_option maxHeartbeats 4000000 in
set_option maxRecDepth 100000 in
theorem c_J4_toString_k (l : Launch) (D : va_G) (g : Nat → ClassId) (b : Nat) (v : Nat) (f : Nat → Int32) (hF : sb_Fit f) : CT l yJ4_toString_0e30d cJ4_toString_0e30d 1 ((Option.some (FieldType.object "java/lang/String"))) ({ frames := 5, cells := 2, slots := 19, locals := 121 } : Room) [.ref b] D CL (TYS g) ([]) ([(b, Sum.inr (10, [.ref v, .int (nI 0), .int 0, .int (nI 15)])), (v, Sum.inl (g 6, 16, .inl f))]) (S := Nat × Nat) (fun u => some (.ref u.1)) (fun u => [(u.1, Sum.inr (11, [.ref u.2, .int (nI 0), .int 0, .int 0])), (u.2, Sum.inl (g 6, 15, .inl (va_cpy f (fun _ => 0) 0 0 15)))]) (fun _ => True) 2 19 := by
  refine ct_of (by decide +kernel) (Nat.le_of_ble_eq_true rfl) ?_
  intro p e s m below meth c A X hr hnm hSB hRO hAf
  refine g_cs (ws' := ([(b, Sum.inr (10, [.ref v, .int (nI 0), .int 0, .int (nI 15)])), (v, Sum.inl (g 6, 16, .inl f))] : va_W)) (lv' := [(0, .ref b)]) (rfl) rfl ?_
  refine g_new X hAf (ci := 11) hinJ0 tyJ0 tyJ0_ok w_899 w_900 w_30 rfl (fs := [.null, .int 0, .int 0, .int 0]) (by decide) (Nat.le_of_ble_eq_true rfl) (Nat.le_of_ble_eq_true rfl) dJ4_toString_0e30d_0 (fun qn1 => ?_)
  refine g_af (ws' := (([(b, Sum.inr (10, [.ref v, .int (nI 0), .int 0, .int (nI 15)])), (v, Sum.inl (g 6, 16, .inl f))] : va_W)) ++ [(qn1, Sum.inr (11, [.null, .int 0, .int 0, .int 0]))]) (st' := [.ref qn1]) (cells' := 1) (slots' := 4) (pc' := 3) rfl rfl rfl rfl rfl ?_
  refine g_perm (ws' := ([(qn1, Sum.inr (11, [.null, .int 0, .int 0, .int 0])), (b, Sum.inr (10, [.ref v, .int (nI 0), .int 0, .int (nI 15)])), (v, Sum.inl (g 6, 16, .inl f))] : va_W)) (List.perm_append_comm (l₁ := ([(qn1, Sum.inr (11, [.null, .int 0, .int 0, .int 0]))] : va_W))) ?_
  refine g_run X KJ4_toString_0e30d_3_0 KJ4_toString_0e30d_3_0_d 5 [(0, .ref b)] [.ref b, .ref qn1, .ref qn1] rfl ?_
  refine g_callI X hSB hAf (As := [.ref b]) (wr := ([] : va_W)) (n := 1) (c_J0_init_81219 l D g qn1 b v f (hF)) rfl srcN hrdN w_903 w_901 w_902 rfl w_30 (by decide +kernel) rfl ⟨Nat.le_of_ble_eq_true rfl, Nat.le_of_ble_eq_true rfl⟩ rfl rfl rfl (Nat.le_of_ble_eq_true rfl) ⟨Nat.le_of_ble_eq_true rfl, Nat.le_of_ble_eq_true rfl⟩ dJ4_toString_0e30d_5 (fun hu2 _ => ?_)
  refine g_af (ws' := ([(qn1, Sum.inr (11, [.ref hu2, .int (nI 0), .int 0, .int 0])), (hu2, Sum.inl (g 6, 15, .inl (va_cpy f (fun _ => 0) 0 0 15))), (b, Sum.inr (10, [.ref v, .int (nI 0), .int 0, .int (nI 15)])), (v, Sum.inl (g 6, 16, .inl f))] : va_W)) (st' := [.ref qn1]) (cells' := 2) (slots' := 19) (pc' := 8) rfl rfl rfl rfl rfl ?_
  exact g_aret X hr (Or.inl ⟨_, rfl⟩) (Or.inr ⟨_, rfl⟩) (qn1, hu2) (rfl) (trivial) (rfl) (Nat.le_of_ble_eq_true rfl) (Nat.le_of_ble_eq_true rfl) dJ4_toString_0e30d_8

set_option maxHeartbeats 4000000 in
set_option maxRecDepth 100000 in
theorem c_X5_row_k (l : Launch) (D : va_G) (g : Nat → ClassId) (ad : Nat → Nat) (I : Nat → Nat → Int32) (L : Nat → Nat → Int64) (S : Nat → Nat) (q : Nat) (hS18 : ∀ p, p < 15 → S p < 18) (hq : q < 16) : CT l yX5_row cX5_row 5 ((Option.some (FieldType.object "java/lang/String"))) ({ frames := 6, cells := 4, slots := 39, locals := 141 } : Room) [.ref (ad 0), .int (nI q)] D CL (TYS g) (WC ad g I L S) ([]) (S := Nat × Nat) (fun u => some (.ref u.1)) (fun u => [(u.1, Sum.inr (11, [.ref u.2, .int (nI 0), .int 0, .int 0])), (u.2, Sum.inl (g 6, 15, .inl (txt (tsg I L S q))))]) (fun _ => True) 4 39 := by
  refine ct_of (by decide +kernel) (Nat.le_of_ble_eq_true rfl) ?_
  intro p e s m below meth c A X hr hnm hSB hRO hAf
  refine g_cs (ws' := ([] : va_W)) (lv' := [(0, .ref (ad 0)), (1, .int (nI q))]) (rfl) rfl ?_
  refine g_run X KX5_row_0_0 KX5_row_0_0_d 1 [(0, .ref (ad 0)), (1, .int (nI q))] [.int (nI q)] rfl ?_
  refine g_callS X hSB hAf (As := [.int (nI q)]) (wr := ([] : va_W)) (n := 1) (c_X5_checkLine l D g q (by omega)) rfl srcN hrdN w_435 w_433 w_434 w_1 (by decide +kernel) rfl ⟨Nat.le_of_ble_eq_true rfl, Nat.le_of_ble_eq_true rfl⟩ rfl rfl rfl (Nat.le_of_ble_eq_true rfl) ⟨Nat.le_of_ble_eq_true rfl, Nat.le_of_ble_eq_true rfl⟩ dX5_row_1 (fun hu1 _ => ?_)
  refine g_af (ws' := ([] : va_W)) (st' := []) (cells' := 0) (slots' := 0) (pc' := 4) rfl rfl rfl rfl rfl ?_
  refine g_new X hAf (ci := 10) hinJ4 tyJ4 tyJ4_ok w_766 w_767 w_29 rfl (fs := [.null, .int 0, .int 0, .int 0]) (by decide) (Nat.le_of_ble_eq_true rfl) (Nat.le_of_ble_eq_true rfl) dX5_row_4 (fun qn2 => ?_)
  refine g_af (ws' := (([] : va_W)) ++ [(qn2, Sum.inr (10, [.null, .int 0, .int 0, .int 0]))]) (st' := [.ref qn2]) (cells' := 1) (slots' := 4) (pc' := 7) rfl rfl rfl rfl rfl ?_
  refine g_perm (ws' := ([(qn2, Sum.inr (10, [.null, .int 0, .int 0, .int 0]))] : va_W)) (List.perm_append_comm (l₁ := ([(qn2, Sum.inr (10, [.null, .int 0, .int 0, .int 0]))] : va_W))) ?_
  refine g_run X KX5_row_7_1 KX5_row_7_1_d 8 [(0, .ref (ad 0)), (1, .int (nI q))] [.ref qn2, .ref qn2] rfl ?_
  refine g_callI X hSB hAf (As := []) (wr := ([] : va_W)) (n := 0) (c_J4_init_da8c8 l D g qn2 ) rfl srcN hrdN w_770 w_768 w_769 rfl w_29 (by decide +kernel) rfl ⟨Nat.le_of_ble_eq_true rfl, Nat.le_of_ble_eq_true rfl⟩ rfl rfl rfl (Nat.le_of_ble_eq_true rfl) ⟨Nat.le_of_ble_eq_true rfl, Nat.le_of_ble_eq_true rfl⟩ dX5_row_8 (fun hu3 _ => ?_)
  refine g_af (ws' := ([(qn2, Sum.inr (10, [.ref hu3, .int (nI 0), .int 0, .int 0])), (hu3, Sum.inl (g 6, 16, .inl (fun _ => 0)))] : va_W)) (st' := [.ref qn2]) (cells' := 2) (slots' := 20) (pc' := 11) rfl rfl rfl rfl rfl ?_
  refine g_run X KX5_row_11_2 KX5_row_11_2_d 14 [(3, .int (nI 0)), (2, .ref qn2), (0, .ref (ad 0)), (1, .int (nI q))] [] rfl ?_
  refine g_lv (lv' := [(0, .ref (ad 0)), (1, .int (nI q)), (2, .ref qn2), (3, .int (nI 0))]) (lsub_c 2 rfl (lsub_c 3 rfl (lsub_c 1 rfl (lsub_c 0 rfl (lsub_n))))) ?_
  refine g_forX (σ := Nat → Int32) 15 (fun uX14 i => ([(qn2, Sum.inr (10, [.ref hu3, .int (nI 0), .int 0, .int (nI i)])), (hu3, Sum.inl (g 6, 16, .inl uX14))] : va_W)) (fun i => [(0, .ref (ad 0)), (1, .int (nI q)), (2, .ref qn2), (3, .int (nI i))]) (fun uX14 i => RP (tsg I L S q) uX14 i) 0 0 (fun _ => 0) (RP_0) (rfl) (rfl) ?_ ?_
  · intro uX14 hP14
    refine g_widen (k := 2) (n := 20) (Nat.le_of_ble_eq_true rfl) (Nat.le_of_ble_eq_true rfl) ?_
    refine g_run X KX5_row_14_3 KX5_row_14_3_d 17 [(0, .ref (ad 0)), (1, .int (nI q)), (2, .ref qn2), (3, .int (nI 15))] [.int (nI 15), .int (nI 15)] rfl ?_
    refine g_icmp_ge X 64 dX5_row_17 (by decide) (fun hc4 => ?_) (fun hc4 => ?_)
    · refine g_run X KX5_row_64_4 KX5_row_64_4_d 65 [(0, .ref (ad 0)), (1, .int (nI q)), (2, .ref qn2), (3, .int (nI 15))] [.ref qn2] rfl ?_
      refine g_callV X hSB hAf srcW (hrc1 := (rfl : CL[10]? = some _)) (List.mem_of_getElem? (i := 0) rfl) rfl (As := []) (wr := ([] : va_W)) (n := 0) (c_J4_toString_k l D g qn2 hu3 uX14 (hP14.1)) rfl srcN hrdN w_898 w_895 w_896 w_897 w_29 (by decide +kernel) rfl ⟨Nat.le_of_ble_eq_true rfl, Nat.le_of_ble_eq_true rfl⟩ rfl rfl rfl (Nat.le_of_ble_eq_true rfl) ⟨Nat.le_of_ble_eq_true rfl, Nat.le_of_ble_eq_true rfl⟩ dX5_row_65 (fun hu5 _ => ?_)
      refine g_af (ws' := ([(hu5.1, Sum.inr (11, [.ref hu5.2, .int (nI 0), .int 0, .int 0])), (hu5.2, Sum.inl (g 6, 15, .inl (va_cpy uX14 (fun _ => 0) 0 0 15)))] : va_W)) (st' := [.ref hu5.1]) (cells' := 4) (slots' := 39) (pc' := 68) rfl rfl rfl rfl rfl ?_
      refine g_ws (ws' := ([(hu5.1, Sum.inr (11, [.ref hu5.2, .int (nI 0), .int 0, .int 0])), (hu5.2, Sum.inl (g 6, 15, .inl (txt (tsg I L S q))))] : va_W)) (by rw [txt_e hP14]) ?_
      exact g_aret X hr (Or.inl ⟨_, rfl⟩) (Or.inr ⟨_, rfl⟩) (hu5.1, hu5.2) (rfl) (trivial) (rfl) (Nat.le_of_ble_eq_true rfl) (Nat.le_of_ble_eq_true rfl) dX5_row_68
    · rw [nI_leI (by omega) (by omega)] at hc4; first | omega | (simp at hc4)
  · intro i hi uX14 hP14 k14
    refine g_run X KX5_row_14_3 KX5_row_14_3_d 17 [(0, .ref (ad 0)), (1, .int (nI q)), (2, .ref qn2), (3, .int (nI i))] [.int (nI 15), .int (nI i)] rfl ?_
    refine g_icmp_ge X 64 dX5_row_17 (by decide) (fun hc6 => ?_) (fun hc6 => ?_)
    · rw [nI_leI (by omega) (by omega)] at hc6; first | omega | (simp at hc6)
    · refine g_run X KX5_row_20_5 KX5_row_20_5_d 21 [(0, .ref (ad 0)), (1, .int (nI q)), (2, .ref qn2), (3, .int (nI i))] [.ref (ad 0)] rfl ?_
      refine g_get X (srcR hRO) (v := .ref (ad 1)) hinX5 rfl 0 (by decide) w_183 rfl (wc_mem (k := 0) (by decide)) rfl dX5_row_21 ?_
      refine g_get X (srcR hRO) (v := .ref (ad 3)) hinX4 rfl 1 (by decide) w_96 rfl (wc_mem (k := 1) (by decide)) rfl dX5_row_24 ?_
      refine g_run X KX5_row_27_6 KX5_row_27_6_d 28 [(0, .ref (ad 0)), (1, .int (nI q)), (2, .ref qn2), (3, .int (nI i))] [.int (nI i), .ref (ad 3)] rfl ?_
      refine g_aald X (srcR hRO) (b := ad ((S i) + 10)) 1 rfl (wc_mem (k := 3) (by decide)) i rfl (by omega) (by decide) (rfl) dX5_row_28 ?_
      refine g_run X KX5_row_29_7 KX5_row_29_7_d 34 [(4, .ref (ad ((S i) + 10))), (0, .ref (ad 0)), (1, .int (nI q)), (2, .ref qn2), (3, .int (nI i))] [.ref (ad ((S i) + 10)), .ref qn2] rfl ?_
      refine g_get X (srcR hRO) (v := .int (I 3 (S i))) hinX1 rfl 4 (by decide) w_67 rfl (wc_chip (hS18 _ (by omega))) rfl dX5_row_34 ?_
      refine g_if_eq X 45 dX5_row_37 (by decide) (fun hc7 => ?_) (fun hc7 => ?_)
      · refine g_run X KX5_row_45_8 KX5_row_45_8_d 48 [(4, .ref (ad ((S i) + 10))), (0, .ref (ad 0)), (1, .int (nI q)), (2, .ref qn2), (3, .int (nI i))] [.int (nI q), .ref (ad ((S i) + 10)), .ref qn2] rfl ?_
        refine g_callV X hSB hAf ((srcR hRO)) (hrc1 := (rfl : CL[1]? = some _)) (wc_chip (hS18 _ (by omega))) rfl (As := [.int (nI q)]) (wr := ([(qn2, Sum.inr (10, [.ref hu3, .int (nI 0), .int 0, .int (nI i)])), (hu3, Sum.inl (g 6, 16, .inl uX14))] : va_W)) (n := 1) (c_X1_readAt l D g ad I L S (S i) q (hS18 _ (by omega)) (by omega)) rfl (srcR hRO) hrdC w_248 w_721 w_246 w_247 w_3 (by decide +kernel) rfl ⟨Nat.le_of_ble_eq_true rfl, Nat.le_of_ble_eq_true rfl⟩ rfl rfl rfl (Nat.le_of_ble_eq_true rfl) ⟨by show (2 + i * 0) + 0 ≤ 4; omega, by show (20 + i * 0) + 0 ≤ 39; omega⟩ dX5_row_48 (fun hu8 _ => ?_)
        refine g_af (ws' := ([(qn2, Sum.inr (10, [.ref hu3, .int (nI 0), .int 0, .int (nI i)])), (hu3, Sum.inl (g 6, 16, .inl uX14))] : va_W)) (st' := [.int (nI (rd I L (S i) q)), .ref qn2]) (cells' := 2 + i * 0) (slots' := 20 + i * 0) (pc' := 51) rfl rfl rfl rfl rfl ?_
        refine g_callS X hSB hAf (As := [.int (nI (rd I L (S i) q))]) (wr := ([(qn2, Sum.inr (10, [.ref hu3, .int (nI 0), .int 0, .int (nI i)])), (hu3, Sum.inl (g 6, 16, .inl uX14))] : va_W)) (n := 1) (c_X5_signOf l D g (rd I L (S i) q) (rd_lt _ _ _ _)) rfl srcN hrdN w_799 w_797 w_798 w_1 (by decide +kernel) rfl ⟨Nat.le_of_ble_eq_true rfl, Nat.le_of_ble_eq_true rfl⟩ rfl rfl rfl (Nat.le_of_ble_eq_true rfl) ⟨by show (2 + i * 0) + 0 ≤ 4; omega, by show (20 + i * 0) + 0 ≤ 39; omega⟩ dX5_row_51 (fun hu9 _ => ?_)
        refine g_af (ws' := ([(qn2, Sum.inr (10, [.ref hu3, .int (nI 0), .int 0, .int (nI i)])), (hu3, Sum.inl (g 6, 16, .inl uX14))] : va_W)) (st' := [.int (nI (sgn (rd I L (S i) q))), .ref qn2]) (cells' := 2 + i * 0) (slots' := 20 + i * 0) (pc' := 54) rfl rfl rfl rfl rfl ?_
        refine g_callV X hSB hAf srcW (hrc1 := (rfl : CL[10]? = some _)) (List.mem_of_getElem? (i := 0) rfl) rfl (As := [.int (nI (sgn (rd I L (S i) q)))]) (wr := ([] : va_W)) (n := 1) (c_J4_append_cf468 l D g qn2 hu3 i uX14 (sgn (rd I L (S i) q)) (by omega) (by first | decide | exact sgn_lt (rd_lt _ _ _ _))) rfl srcN hrdN w_803 w_800 w_801 w_802 w_29 (by decide +kernel) rfl ⟨Nat.le_of_ble_eq_true rfl, Nat.le_of_ble_eq_true rfl⟩ rfl rfl rfl (Nat.le_of_ble_eq_true rfl) ⟨by show (2 + i * 0) + 0 ≤ 4; omega, by show (20 + i * 0) + 0 ≤ 39; omega⟩ dX5_row_54 (fun hu10 _ => ?_)
        refine g_af (ws' := ([(qn2, Sum.inr (10, [.ref hu3, .int (nI 0), .int 0, .int (nI (i + 1))])), (hu3, Sum.inl (g 6, 16, .inl (upd uX14 i (vp_nar .byte ((nI (sgn (rd I L (S i) q))).toInt8.toInt32)))))] : va_W)) (st' := [.ref qn2]) (cells' := 2 + i * 0 + 0) (slots' := 20 + i * 0 + 0) (pc' := 57) rfl rfl rfl rfl rfl ?_
        refine g_run X KX5_row_57_9 KX5_row_57_9_d 14 [(3, .int ((nI i) + (nI 1))), (4, .ref (ad ((S i) + 10))), (0, .ref (ad 0)), (1, .int (nI q)), (2, .ref qn2)] [] rfl ?_
        refine g_nm (lv' := [(3, .int (nI (i + 1))), (4, .ref (ad ((S i) + 10))), (0, .ref (ad 0)), (1, .int (nI q)), (2, .ref qn2)]) (st' := []) (by simp only [nI_add]) (by simp only [nI_add]) ?_
        refine g_lv (lv' := [(0, .ref (ad 0)), (1, .int (nI q)), (2, .ref qn2), (3, .int (nI (i + 1)))]) (lsub_c 2 rfl (lsub_c 3 rfl (lsub_c 4 rfl (lsub_c 0 rfl (lsub_n))))) ?_
        refine g_cs (ws' := ([(qn2, Sum.inr (10, [.ref hu3, .int (nI 0), .int 0, .int (nI (i + 1))])), (hu3, Sum.inl (g 6, 16, .inl (upd uX14 i (vp_nar .byte ((nI (sgn (rd I L (S i) q))).toInt8.toInt32)))))] : va_W)) (lv' := [(0, .ref (ad 0)), (1, .int (nI q)), (2, .ref qn2), (3, .int (nI (i + 1)))]) (rfl) (rfl) ?_
        exact k14 (upd uX14 i (vp_nar .byte ((nI (sgn (rd I L (S i) q))).toInt8.toInt32))) (by first | exact RP_s hP14 (tsg_0 (by assumption)) | exact RP_s hP14 (tsg_1 (by assumption)))
      · refine g_run X KX5_row_40_10 KX5_row_40_10_d 54 [(4, .ref (ad ((S i) + 10))), (0, .ref (ad 0)), (1, .int (nI q)), (2, .ref qn2), (3, .int (nI i))] [.int (nI 63), .ref qn2] rfl ?_
        refine g_callV X hSB hAf srcW (hrc1 := (rfl : CL[10]? = some _)) (List.mem_of_getElem? (i := 0) rfl) rfl (As := [.int (nI 63)]) (wr := ([] : va_W)) (n := 1) (c_J4_append_cf468 l D g qn2 hu3 i uX14 63 (by omega) (by first | decide | exact sgn_lt (rd_lt _ _ _ _))) rfl srcN hrdN w_803 w_800 w_801 w_802 w_29 (by decide +kernel) rfl ⟨Nat.le_of_ble_eq_true rfl, Nat.le_of_ble_eq_true rfl⟩ rfl rfl rfl (Nat.le_of_ble_eq_true rfl) ⟨by show (2 + i * 0) + 0 ≤ 4; omega, by show (20 + i * 0) + 0 ≤ 39; omega⟩ dX5_row_54 (fun hu11 _ => ?_)
        refine g_af (ws' := ([(qn2, Sum.inr (10, [.ref hu3, .int (nI 0), .int 0, .int (nI (i + 1))])), (hu3, Sum.inl (g 6, 16, .inl (upd uX14 i (vp_nar .byte ((nI 63).toInt8.toInt32)))))] : va_W)) (st' := [.ref qn2]) (cells' := 2 + i * 0 + 0) (slots' := 20 + i * 0 + 0) (pc' := 57) rfl rfl rfl rfl rfl ?_
        refine g_run X KX5_row_57_9 KX5_row_57_9_d 14 [(3, .int ((nI i) + (nI 1))), (4, .ref (ad ((S i) + 10))), (0, .ref (ad 0)), (1, .int (nI q)), (2, .ref qn2)] [] rfl ?_
        refine g_nm (lv' := [(3, .int (nI (i + 1))), (4, .ref (ad ((S i) + 10))), (0, .ref (ad 0)), (1, .int (nI q)), (2, .ref qn2)]) (st' := []) (by simp only [nI_add]) (by simp only [nI_add]) ?_
        refine g_lv (lv' := [(0, .ref (ad 0)), (1, .int (nI q)), (2, .ref qn2), (3, .int (nI (i + 1)))]) (lsub_c 2 rfl (lsub_c 3 rfl (lsub_c 4 rfl (lsub_c 0 rfl (lsub_n))))) ?_
        refine g_cs (ws' := ([(qn2, Sum.inr (10, [.ref hu3, .int (nI 0), .int 0, .int (nI (i + 1))])), (hu3, Sum.inl (g 6, 16, .inl (upd uX14 i (vp_nar .byte ((nI 63).toInt8.toInt32)))))] : va_W)) (lv' := [(0, .ref (ad 0)), (1, .int (nI q)), (2, .ref qn2), (3, .int (nI (i + 1)))]) (rfl) (rfl) ?_
        exact k14 (upd uX14 i (vp_nar .byte ((nI 63).toInt8.toInt32))) (by first | exact RP_s hP14 (tsg_0 (by assumption)) | exact RP_s hP14 (tsg_1 (by assumption)))

