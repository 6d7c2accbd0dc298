/-! StringBuilder and String: calls of what the class above has, bytes -/
theorem hinJ4 : ∀ w ∈ u_ws RJ4 TJ4 4, w ∈ GW := by decide +kernel
theorem hinJ0 : ∀ w ∈ u_ws RJ0 TJ0 4, w ∈ GW := by decide +kernel
section GLS
variable {p : Program} {l : Launch} {e : Env} {R : Room} {s : State} {m : MethodId} {args : Array Value} {below : List Frame} {meth : Method} {c : Code} {Q : State → Prop} {D : va_G} {cl : List vw_C} {tys : List (ClassId × FieldType)} {A : Nat → Prop} {nL : Nat} {ws : va_W} {cells slots : Nat} {cc : ByteArray} {own : String} {pc : Nat} {lv : List (Nat × Value)} {st : List Value}

theorem g_callU (X : BX p m c cc nL s args own meth) (hSB : SB A s s.heap) (hAf : ∀ q : Nat, s.heap.size ≤ q → A q) {S : Type} {y : MethodName} {bY : ByteArray} {nY : Nat} {ret : Option FieldType} {rm : Room} {ro wc wr : va_W} {r : S → Option Value} {w : S → va_W} {post : S → Prop} {mc ms : Nat} {wx : va_W} (hx : Src D cl A s ws wx) {a ci : Nat} {fs : List Value} {q : vw_C} (hrc1 : cl[ci]? = some q) (hrc2 : (a, Sum.inr (ci, fs)) ∈ wx)  {As st0 : List Value} {n idx : Nat} (hM : CT l y bY nY ret rm (.ref a :: As) D cl tys ro wc r w post mc ms) (hw : ws = wc ++ wr) (hro : Src D cl A s ws ro) (hrd : va_D A ws → ∀ x ∈ ro, ∀ y ∈ wc, x.1 ≠ y.1) (hcode : Cond.code y bY nY ret ∈ GW) (hlink : Cond.methodLink own idx y ∈ GW) (hinst : Cond.instanceMethod y ∈ GW) (hsel : Cond.selects q.1 y y ∈ GW) (hsame : Cond.sameMethod y.cls y.cls y.name y.desc ∈ GW) (hini : Cond.initialized y.cls ∈ GW) (hy : y.cls ≠ "java/lang/invoke/MethodHandle" ∧ y.cls ≠ "java/lang/invoke/VarHandle" ∧ (parseMethodDescriptor y.desc).map (fun d => d.parameters.length) = some n) (hn : As.length = n) (hR : rm.frames + 1 ≤ R.frames ∧ 8 + (nY + 11) + rm.locals ≤ R.locals) (hrc : rm.cells = mc) (hrs : rm.slots = ms) (hst : st0 = As.reverse ++ .ref a :: st) (hcat : (st.map fun v => v.category).sum ≤ 8) (hf : cells + mc ≤ R.cells ∧ slots + ms ≤ R.slots) (hd : decode cc pc = .ok (.invokevirtual idx, 3))
    (kk : ∀ u : S, post u → GL p l e R s m args below meth c Q D cl tys A nL (w u ++ wr) (cells + mc) (slots + ms) (pc + 3) lv ((r u).toList ++ st)) : GL p l e R s m args below meth c Q D cl tys A nL ws cells slots pc lv st0 := by
  subst hst
  refine g_goes (As := (Value.ref a :: As).toArray) hAf hw ?_ kk
  intro H locs ls hK hP hD hS hl
  have hok : ∀ w ∈ va_wsU own idx q.1 y.cls y y (WG y bY nY ret), w.before args s = true ∧ goodWord w = true := by
    intro w h
    unfold va_wsU at h
    rcases List.mem_append.mp h with h | h
    · simp only [List.mem_cons, List.not_mem_nil, or_false] at h
      rcases h with rfl | rfl | rfl | rfl | rfl
      · exact ⟨X.w hlink, gw_good _ hlink⟩
      · exact ⟨X.w hsame, gw_good _ hsame⟩
      · exact ⟨X.w hsel, gw_good _ hsel⟩
      · exact ⟨X.w hinst, gw_good _ hinst⟩
      · exact ⟨X.w hini, gw_good _ hini⟩
    · rcases List.mem_cons.mp h with rfl | h
      · exact ⟨X.w hcode, gw_good _ hcode⟩
      · exact ⟨X.w h, gw_good _ h⟩
  have hts : ∀ w ∈ va_wsU own idx q.1 y.cls y y (WG y bY nY ret), w.before args s = true := fun w h => (hok w h).1
  have hT : GoodIn (va_wsU own idx q.1 y.cls y y (WG y bY nY ret)) (va_wsU own idx q.1 y.cls y y (WG y bY nY ret)) := fun w h => ⟨h, good_of_word (hok w h).2⟩
  obtain ⟨q0, h0⟩ := List.getElem?_of_mem hrc2
  exact va_runU (As := As) (rest := st) (n := n) (C := q.1) (owner := y.cls) (x := y) ⟨X.1, X.2.1, X.2.2.1, X.2.2.2.1, hts⟩ (hM H.size) (va_cwU n hts hT rfl hrc hrs rfl hy hR) ⟨PX.blind, va_recv hK (hx H locs hP hS) hrc1 h0, fun U hU hW => ⟨rfl, px_at hSB hAf hw hro hrd hK hP hD hS U hU hW⟩⟩ rfl hn hl.1 rfl (lv_room hcat) hd hf
theorem g_callUP (X : BX p m c cc nL s args own meth) (hSB : SB A s s.heap) (hAf : ∀ q : Nat, s.heap.size ≤ q → A q) {S : Type} {y : MethodName} {bY : ByteArray} {nY : Nat} {ret : Option FieldType} {rm : Room} {ro wc wr : va_W} {r : S → Option Value} {w : S → va_W} {post : S → Prop} {mc ms : Nat} {wx : va_W} (hx : Src D cl A s ws wx) {a ci : Nat} {fs : List Value} {q : vw_C} (hrc1 : cl[ci]? = some q) (hrc2 : (a, Sum.inr (ci, fs)) ∈ wx)  {As st0 : List Value} {n idx : Nat} (hM : CT l y bY nY ret rm (.ref a :: As) D cl tys ro wc r w post mc ms) (hw : ws = wc ++ wr) (hro : Src D cl A s ws ro) (hrd : va_D A ws → ∀ x ∈ ro, ∀ y ∈ wc, x.1 ≠ y.1) (hcode : Cond.code y bY nY ret ∈ GW) (hlink : Cond.methodLink own idx y ∈ GW) (hinst : Cond.instanceMethod y ∈ GW) (hsel : va_Nw (Cond.selects q.1 y y) s) (hsame : Cond.sameMethod y.cls y.cls y.name y.desc ∈ GW) (hini : Cond.initialized y.cls ∈ GW) (hy : y.cls ≠ "java/lang/invoke/MethodHandle" ∧ y.cls ≠ "java/lang/invoke/VarHandle" ∧ (parseMethodDescriptor y.desc).map (fun d => d.parameters.length) = some n) (hn : As.length = n) (hR : rm.frames + 1 ≤ R.frames ∧ 8 + (nY + 11) + rm.locals ≤ R.locals) (hrc : rm.cells = mc) (hrs : rm.slots = ms) (hst : st0 = As.reverse ++ .ref a :: st) (hcat : (st.map fun v => v.category).sum ≤ 8) (hf : cells + mc ≤ R.cells ∧ slots + ms ≤ R.slots) (hd : decode cc pc = .ok (.invokevirtual idx, 3))
    (kk : ∀ u : S, post u → GL p l e R s m args below meth c Q D cl tys A nL (w u ++ wr) (cells + mc) (slots + ms) (pc + 3) lv ((r u).toList ++ st)) : GL p l e R s m args below meth c Q D cl tys A nL ws cells slots pc lv st0 := by
  subst hst
  refine g_goes (As := (Value.ref a :: As).toArray) hAf hw ?_ kk
  intro H locs ls hK hP hD hS hl
  have hok : ∀ w ∈ va_wsU own idx q.1 y.cls y y (WG y bY nY ret), w.before args s = true ∧ goodWord w = true := by
    intro w h
    unfold va_wsU at h
    rcases List.mem_append.mp h with h | h
    · simp only [List.mem_cons, List.not_mem_nil, or_false] at h
      rcases h with rfl | rfl | rfl | rfl | rfl
      · exact ⟨X.w hlink, gw_good _ hlink⟩
      · exact ⟨X.w hsame, gw_good _ hsame⟩
      · exact ⟨va_Nw.use rfl hsel, rfl⟩
      · exact ⟨X.w hinst, gw_good _ hinst⟩
      · exact ⟨X.w hini, gw_good _ hini⟩
    · rcases List.mem_cons.mp h with rfl | h
      · exact ⟨X.w hcode, gw_good _ hcode⟩
      · exact ⟨X.w h, gw_good _ h⟩
  have hts : ∀ w ∈ va_wsU own idx q.1 y.cls y y (WG y bY nY ret), w.before args s = true := fun w h => (hok w h).1
  have hT : GoodIn (va_wsU own idx q.1 y.cls y y (WG y bY nY ret)) (va_wsU own idx q.1 y.cls y y (WG y bY nY ret)) := fun w h => ⟨h, good_of_word (hok w h).2⟩
  obtain ⟨q0, h0⟩ := List.getElem?_of_mem hrc2
  exact va_runU (As := As) (rest := st) (n := n) (C := q.1) (owner := y.cls) (x := y) ⟨X.1, X.2.1, X.2.2.1, X.2.2.2.1, hts⟩ (hM H.size) (va_cwU n hts hT rfl hrc hrs rfl hy hR) ⟨PX.blind, va_recv hK (hx H locs hP hS) hrc1 h0, fun U hU hW => ⟨rfl, px_at hSB hAf hw hro hrd hK hP hD hS U hU hW⟩⟩ rfl hn hl.1 rfl (lv_room hcat) hd hf
theorem g_callSU (X : BX p m c cc nL s args own meth) (hSB : SB A s s.heap) (hAf : ∀ q : Nat, s.heap.size ≤ q → A q) {S : Type} {y : MethodName} {bY : ByteArray} {nY : Nat} {ret : Option FieldType} {rm : Room} {ro wc wr : va_W} {r : S → Option Value} {w : S → va_W} {post : S → Prop} {mc ms : Nat} {wx : va_W} (hx : Src D cl A s ws wx) {a ci : Nat} {fs : List Value} {q : vw_C} (hrc1 : cl[ci]? = some q) (hrc2 : (a, Sum.inr (ci, fs)) ∈ wx)  {As st0 : List Value} {n idx : Nat} (hM : CT l y bY nY ret rm (.ref a :: As) D cl tys ro wc r w post mc ms) (hw : ws = wc ++ wr) (hro : Src D cl A s ws ro) (hrd : va_D A ws → ∀ x ∈ ro, ∀ y ∈ wc, x.1 ≠ y.1) (hcode : Cond.code y bY nY ret ∈ GW) (hlink : Cond.methodLink own idx y ∈ GW) (hinst : Cond.instanceMethod y ∈ GW) (hsel : Cond.superclass own y.cls ∈ GW) (hsame : Cond.sameMethod y.cls y.cls y.name y.desc ∈ GW) (hno : y.name ≠ "<init>") (hini : Cond.initialized y.cls ∈ GW) (hy : y.cls ≠ "java/lang/invoke/MethodHandle" ∧ y.cls ≠ "java/lang/invoke/VarHandle" ∧ (parseMethodDescriptor y.desc).map (fun d => d.parameters.length) = some n) (hn : As.length = n) (hR : rm.frames + 1 ≤ R.frames ∧ 8 + (nY + 11) + rm.locals ≤ R.locals) (hrc : rm.cells = mc) (hrs : rm.slots = ms) (hst : st0 = As.reverse ++ .ref a :: st) (hcat : (st.map fun v => v.category).sum ≤ 8) (hf : cells + mc ≤ R.cells ∧ slots + ms ≤ R.slots) (hd : decode cc pc = .ok (.invokespecial idx, 3))
    (kk : ∀ u : S, post u → GL p l e R s m args below meth c Q D cl tys A nL (w u ++ wr) (cells + mc) (slots + ms) (pc + 3) lv ((r u).toList ++ st)) : GL p l e R s m args below meth c Q D cl tys A nL ws cells slots pc lv st0 := by
  subst hst
  refine g_goes (As := (Value.ref a :: As).toArray) hAf hw ?_ kk
  intro H locs ls hK hP hD hS hl
  have hok : ∀ w ∈ va_wsSU own idx y (WG y bY nY ret), w.before args s = true ∧ goodWord w = true := by
    intro w h
    unfold va_wsSU at h
    rcases List.mem_append.mp h with h | h
    · simp only [List.mem_cons, List.not_mem_nil, or_false] at h
      rcases h with rfl | rfl | rfl | rfl | rfl
      · exact ⟨X.w hlink, gw_good _ hlink⟩
      · exact ⟨X.w hsame, gw_good _ hsame⟩
      · exact ⟨X.w hsel, gw_good _ hsel⟩
      · exact ⟨X.w hinst, gw_good _ hinst⟩
      · exact ⟨X.w hini, gw_good _ hini⟩
    · rcases List.mem_cons.mp h with rfl | h
      · exact ⟨X.w hcode, gw_good _ hcode⟩
      · exact ⟨X.w h, gw_good _ h⟩
  have hts : ∀ w ∈ va_wsSU own idx y (WG y bY nY ret), w.before args s = true := fun w h => (hok w h).1
  have hT : GoodIn (va_wsSU own idx y (WG y bY nY ret)) (va_wsSU own idx y (WG y bY nY ret)) := fun w h => ⟨h, good_of_word (hok w h).2⟩
  obtain ⟨q0, h0⟩ := List.getElem?_of_mem hrc2
  exact va_runSU (As := As) (rest := st) (n := n) (C := q.1) (hK.1 ci q hrc1).2 ⟨X.1, X.2.1, X.2.2.1, X.2.2.2.1, hts⟩ (hM H.size) (va_cwSU n hts hT rfl hrc hrs ⟨hno, hy.2.2⟩ hR) ⟨PX.blind, va_recv hK (hx H locs hP hS) hrc1 h0, fun U hU hW => ⟨rfl, px_at hSB hAf hw hro hrd hK hP hD hS U hU hW⟩⟩ rfl hn hl.1 rfl (lv_room hcat) hd hf
theorem g_callO (X : BX p m c cc nL s args own meth) (hSB : SB A s s.heap) (hAf : ∀ q : Nat, s.heap.size ≤ q → A q) {S : Type} {x y : MethodName} {bY : ByteArray} {nY : Nat} {ret : Option FieldType} {rm : Room} {ro wc wr : va_W} {r : S → Option Value} {w : S → va_W} {post : S → Prop} {mc ms : Nat} {wx : va_W} (hx : Src D cl A s ws wx) {a ci : Nat} {fs : List Value} {q : vw_C} (hrc1 : cl[ci]? = some q) (hrc2 : (a, Sum.inr (ci, fs)) ∈ wx)  {As st0 : List Value} {n idx : Nat} (hM : CT l y bY nY ret rm (.ref a :: As) D cl tys ro wc r w post mc ms) (hw : ws = wc ++ wr) (hro : Src D cl A s ws ro) (hrd : va_D A ws → ∀ x ∈ ro, ∀ y ∈ wc, x.1 ≠ y.1) (hcode : Cond.code y bY nY ret ∈ GW) (hlink : Cond.methodLink own idx x ∈ GW) (hinst : Cond.instanceMethod y ∈ GW) (hsel : Cond.selects q.1 x y ∈ GW) (hsame : Cond.sameMethod x.cls x.cls x.name x.desc ∈ GW) (hinst0 : Cond.instanceMethod ⟨x.cls, x.name, x.desc⟩ ∈ GW) {b0 : ByteArray} {m0 : Nat} {r0 : Option FieldType} (hcode0 : Cond.code ⟨x.cls, x.name, x.desc⟩ b0 m0 r0 ∈ GW) (hini : Cond.initialized y.cls ∈ GW) (hy : x.cls ≠ "java/lang/invoke/MethodHandle" ∧ x.cls ≠ "java/lang/invoke/VarHandle" ∧ (parseMethodDescriptor x.desc).map (fun d => d.parameters.length) = some n) (hn : As.length = n) (hR : rm.frames + 1 ≤ R.frames ∧ 8 + (nY + 11) + rm.locals ≤ R.locals) (hrc : rm.cells = mc) (hrs : rm.slots = ms) (hst : st0 = As.reverse ++ .ref a :: st) (hcat : (st.map fun v => v.category).sum ≤ 8) (hf : cells + mc ≤ R.cells ∧ slots + ms ≤ R.slots) (hd : decode cc pc = .ok (.invokevirtual idx, 3))
    (kk : ∀ u : S, post u → GL p l e R s m args below meth c Q D cl tys A nL (w u ++ wr) (cells + mc) (slots + ms) (pc + 3) lv ((r u).toList ++ st)) : GL p l e R s m args below meth c Q D cl tys A nL ws cells slots pc lv st0 := by
  subst hst
  refine g_goes (As := (Value.ref a :: As).toArray) hAf hw ?_ kk
  intro H locs ls hK hP hD hS hl
  have hok : ∀ w ∈ va_wsO own idx q.1 x.cls x y (WG y bY nY ret), w.before args s = true ∧ goodWord w = true := by
    intro w h
    unfold va_wsO at h
    rcases List.mem_append.mp h with h | h
    · simp only [List.mem_cons, List.not_mem_nil, or_false] at h
      rcases h with rfl | rfl | rfl | rfl | rfl | rfl
      · exact ⟨X.w hlink, gw_good _ hlink⟩
      · exact ⟨X.w hsame, gw_good _ hsame⟩
      · exact ⟨X.w hinst0, gw_good _ hinst0⟩
      · exact ⟨X.w hsel, gw_good _ hsel⟩
      · exact ⟨X.w hinst, gw_good _ hinst⟩
      · exact ⟨X.w hini, gw_good _ hini⟩
    · rcases List.mem_cons.mp h with rfl | h
      · exact ⟨X.w hcode, gw_good _ hcode⟩
      · exact ⟨X.w h, gw_good _ h⟩
  have hts : ∀ w ∈ Cond.code ⟨x.cls, x.name, x.desc⟩ b0 m0 r0 :: va_wsO own idx q.1 x.cls x y (WG y bY nY ret), w.before args s = true := fun w h => (List.mem_cons.mp h).elim (fun g => by rw [g]; exact X.w hcode0) (fun g => (hok w g).1)
  have hT : GoodIn (Cond.code ⟨x.cls, x.name, x.desc⟩ b0 m0 r0 :: va_wsO own idx q.1 x.cls x y (WG y bY nY ret)) (va_wsO own idx q.1 x.cls x y (WG y bY nY ret)) := fun w h => ⟨List.mem_cons_of_mem _ h, good_of_word (hok w h).2⟩
  obtain ⟨q0, h0⟩ := List.getElem?_of_mem hrc2
  exact va_runU (As := As) (rest := st) (n := n) (C := q.1) (owner := x.cls) (x := x) ⟨X.1, X.2.1, X.2.2.1, X.2.2.2.1, hts⟩ (hM H.size) (va_cwO n hts hT rfl hrc hrs List.mem_cons_self hy hR) ⟨PX.blind, va_recv hK (hx H locs hP hS) hrc1 h0, fun U hU hW => ⟨rfl, px_at hSB hAf hw hro hrd hK hP hD hS U hU hW⟩⟩ rfl hn hl.1 rfl (lv_room hcat) hd hf
theorem g_bast (X : BX p m c cc nL s args own meth) {cA : ClassId} {n a : Nat} {f : Nat → Int32} {ws' : va_W} (t0 : Nat) (ht : tys[t0]? = some (cA, .byte)) (q0 : Nat) (he : ws[q0]? = some (a, Sum.inl (cA, n, .inl f))) {i x : Int32} (j : Nat) (hi : i = nI j) (hj : j < n) (hn : n < 2 ^ 31) (hw : ws.set q0 (a, Sum.inl (cA, n, .inl (upd f j (vp_nar .byte x)))) = ws') (hd : decode cc pc = .ok (.bastore, 1))
    (kk : GL p l e R s m args below meth c Q D cl tys A nL ws' cells slots (pc + 1) lv st) : GL p l e R s m args below meth c Q D cl tys A nL ws cells slots pc lv (.int x :: .int i :: .ref a :: st) := by
  intro H locs ls hK hP hD hS hl
  subst hi
  have hz := va_bast (Q := Q) (R := R) (l := l) (e := e) (below := below) (args := args) (meth := meth) (cells := cells) (slots := slots) (ls := ls) (rest := st) (x := x) (m := m) (locs := locs) X.1 X.2.1 hK hP hD hS q0 t0 he ht (vp_in_nI hj hn) hd
  rw [nI_clamp (by omega), hw] at hz
  exact hz (fun H1 locs1 hP1 hD1 hS1 => kk H1 locs1 ls hK hP1 hD1 hS1 hl)
theorem g_ldcSW (X : BX p m c cc nL s args own meth) {tx : String} {index q : Nat} (hZ : vk_R own index tx q s) (hd : decode cc pc = .ok (.ldc_w index, 3))
    (kk : GL p l e R s m args below meth c Q D cl tys A nL ws cells slots (pc + 3) lv (.ref q :: st)) : GL p l e R s m args below meth c Q D cl tys A nL ws cells slots pc lv st := by
  intro H locs ls hK hP hD hS hl
  intro T hT Y
  obtain ⟨t, a1, b1⟩ := kk H locs ls hK hP hD hS hl T hT Y
  exact ⟨t, Y.ldcStringW X.1 X.2.2.2.1 (text := tx) (a := q) hZ.1 hZ.2 (g := F0 m pc ls st) rfl (by rw [X.2.1]; exact hd) t a1, b1⟩
theorem g_copyB (X : BX p m c cc nL s args own meth) {a0 a n0 n1 idx : Nat} {cA : ClassId} {f h : Nat → Int32} {ws' : va_W} (N t0 : Nat) (ht : tys[t0]? = some (cA, .byte)) (q0 q1 : Nat) (he0 : ws[q0]? = some (a0, Sum.inl (cA, n0, .inl f))) (he1 : ws[q1]? = some (a, Sum.inl (cA, n1, .inl h))) (hN0 : N ≤ n0) (hN1 : N ≤ n1) (hNs : N < 1000) (hF : sb_Fit f) (hlink : Cond.methodLink own idx arraycopyName ∈ GW) (hnat : Cond.native arraycopyName ∈ GW) (hstat : Cond.static arraycopyName ∈ GW) (hini : Cond.initialized "java/lang/System" ∈ GW) (hw : ws.set q1 (a, Sum.inl (cA, n1, .inl (va_cpy f h 0 0 N))) = ws') (hf : 1 ≤ R.frames) (hlo : 30 ≤ R.locals) (hcat : (st.map fun v => v.category).sum ≤ 8) (hd : decode cc pc = .ok (.invokestatic idx, 3))
    (kk : GL p l e R s m args below meth c Q D cl tys A nL ws' cells slots (pc + 3) lv st) : GL p l e R s m args below meth c Q D cl tys A nL ws cells slots pc lv (.int (nI N) :: .int (nI 0) :: .ref a :: .int (nI 0) :: .ref a0 :: st) := by
  intro H locs ls hK hP hD hS hl
  have hNc : (nI N).toNatClampNeg = N := nI_clamp (by omega)
  have h0c : (nI 0).toNatClampNeg = 0 := nI_clamp (by decide)
  have hz := va_copyi (Q := Q) (R := R) (l := l) (e := e) (below := below) (args := args) (meth := meth) (cells := cells) (slots := slots) (rest := st) (m := m) (locs := locs) X.1 X.2.1 (X.2.2.1.trans hl.1.symm) X.2.2.2.1 (X.w hlink) (X.w hnat) (X.w hstat) (X.w hini) hK hP hD hS q0 q1 t0 t0 he0 he1 ht ht rfl (nI_pos (show 0 < 2 ^ 31 by decide)) (nI_pos (show 0 < 2 ^ 31 by decide)) (nI_pos (show N < 2 ^ 31 by omega)) (by rw [h0c, hNc]; omega) (by rw [h0c, hNc]; omega) (fun i _ => hF _) hf (by
      have hw7 : nativeFrameWords "java/lang/System" "arraycopy" 5 ≤ 7 := by decide +kernel
      omega) hd
  rw [hNc, h0c, hw] at hz
  exact hz (fun H1 locs1 hP1 hD1 hS1 => kk H1 locs1 ls hK hP1 hD1 hS1 hl)
end GLS
theorem fm_range {α : Type} (l : List α) : (List.range l.length).filterMap (fun j => l[j]?) = l := by
  induction l with
  | nil => rfl
  | cons a l ih =>
    rw [List.length_cons, List.range_succ_eq_map, List.filterMap_cons, List.filterMap_map]
    show a :: (List.range l.length).filterMap ((fun j => (a :: l)[j]?) ∘ Nat.succ) = a :: l
    exact congrArg (List.cons a) ih
theorem perm_of {α : Type} {l : List α} (ps : List Nat) (h : ps.Perm (List.range ps.length)) (hl : ps.length = l.length) : (ps.filterMap (fun j => l[j]?)).Perm l := by
  have h1 := h.filterMap (fun j => l[j]?)
  refine h1.trans ?_
  rw [hl]
  rw [fm_range]
theorem le_sub {a b : Nat} (h : a ≤ b) (hb : b < 1000) : nI a - nI b ≤ 0 := by
  rw [Int32.le_iff_toInt_le, pk_sub_toInt (by omega) (by omega), show (0 : Int32).toInt = 0 from by decide]; omega
theorem fit_u {f : Nat → Int32} {k : Nat} {x : Int32} (h : sb_Fit f) : sb_Fit (upd f k (vp_nar .byte x)) := sb_fitU h (pk_fb _)
/-- the sign of a symbol -/
def sgn (q : Nat) : Nat := if q < 10 then 48 + q else 87 + q
theorem sgn_lt {q : Nat} (h : q < 16) : sgn q < 256 := by unfold sgn; split <;> omega
theorem chr_n {q : Nat} (h : q < 65536) : ((nI q).toUInt32 % 65536).toInt32 = nI q := by
  apply Int32.toBitVec_inj.mp
  have e : (nI q).toUInt32.toBitVec = BitVec.ofNat 32 q := rfl
  apply BitVec.eq_of_toNat_eq
  show ((nI q).toUInt32.toBitVec % 65536#32).toNat = (nI q).toBitVec.toNat
  rw [BitVec.toNat_umod, e, show (nI q).toBitVec = BitVec.ofNat 32 q from rfl, BitVec.toNat_ofNat, BitVec.toNat_ofNat]
  show q % 4294967296 % 65536 = q % 4294967296
  omega
theorem nar_chr {q : Nat} (h : q < 65536) : narrow .char (.int (nI q)) = .int (nI q) := (pk_charN h).1

def KJ5_init_d00df_0_0 : List (Nat × Instr × Nat) := [(0, .aload_n 0, 1)]
theorem KJ5_init_d00df_0_0_d : ∀ z ∈ KJ5_init_d00df_0_0, decode cJ5_init_d00df z.1 = .ok z.2 := by decide +kernel
def KJ5_init_d00df_10_1 : List (Nat × Instr × Nat) := [(10, .aload_n 0, 1), (11, .iload_n 1, 1)]
theorem KJ5_init_d00df_10_1_d : ∀ z ∈ KJ5_init_d00df_10_1, decode cJ5_init_d00df z.1 = .ok z.2 := by decide +kernel
def KJ5_init_d00df_17_2 : List (Nat × Instr × Nat) := [(17, .aload_n 0, 1), (18, .iconst 0, 1)]
theorem KJ5_init_d00df_17_2_d : ∀ z ∈ KJ5_init_d00df_17_2, decode cJ5_init_d00df z.1 = .ok z.2 := by decide +kernel
def KJ5_init_d00df_22_3 : List (Nat × Instr × Nat) := [(22, .goto 16, 3)]
theorem KJ5_init_d00df_22_3_d : ∀ z ∈ KJ5_init_d00df_22_3, decode cJ5_init_d00df z.1 = .ok z.2 := by decide +kernel
set_option maxHeartbeats 4000000 in
set_option maxRecDepth 100000 in
theorem c_J5_init_d00df (l : Launch) (D : va_G) (g : Nat → ClassId) (b : Nat) : CT l yJ5_init_d00df cJ5_init_d00df 2 ((Option.none : Option Jvm.ClassFile.FieldType)) ({ frames := 1, cells := 1, slots := 16, locals := 20 } : Room) [.ref b, .int (nI 16)] D CL (TYS g) ([]) ([(b, Sum.inr (10, [.null, .int 0, .int 0, .int 0]))]) (S := Nat) (fun _ => none) (fun u => [(b, Sum.inr (10, [.ref u, .int (nI 0), .int 0, .int 0])), (u, Sum.inl (g 6, 16, .inl (fun _ => 0)))]) (fun _ => True) 1 16 := by
  refine ct_of (by decide +kernel) (Nat.le_of_ble_eq_true rfl) ?_
  intro p e s m below meth c A X hr hnm hSB hRO hAf
  refine g_cs (ws' := ([(b, Sum.inr (10, [.null, .int 0, .int 0, .int 0]))] : va_W)) (lv' := [(0, .ref b), (1, .int (nI 16))]) (rfl) rfl ?_
  obtain ⟨t, hJ⟩ := hSB.2.2.2.2.1
  refine g_run X KJ5_init_d00df_0_0 KJ5_init_d00df_0_0_d 1 [(0, .ref b), (1, .int (nI 16))] [.ref b] rfl ?_
  refine g_objInit X w_774 w_39 w_40 (Nat.le_of_ble_eq_true rfl) (Nat.le_of_ble_eq_true rfl) (Nat.le_of_ble_eq_true rfl) dJ5_init_d00df_1 ?_
  refine g_gets X hJ.1 w_775 dJ5_init_d00df_4 ?_
  refine g_st (st' := [.int (nI 1)]) rfl ?_
  refine g_if_eq X 25 dJ5_init_d00df_7 (by decide) (fun hc1 => ?_) (fun hc1 => ?_)
  · rw [nz_eq (by omega)] at hc1; first | omega | (simp at hc1)
  · refine g_run X KJ5_init_d00df_10_1 KJ5_init_d00df_10_1_d 12 [(0, .ref b), (1, .int (nI 16))] [.int (nI 16), .ref b] rfl ?_
    refine g_newB X hAf 6 rfl w_400 16 rfl (by decide) (Nat.le_of_ble_eq_true rfl) (Nat.le_of_ble_eq_true rfl) dJ5_init_d00df_12 (fun qa2 => ?_)
    refine g_af (ws' := (([(b, Sum.inr (10, [.null, .int 0, .int 0, .int 0]))] : va_W)) ++ [(qa2, Sum.inl (g 6, 16, .inl (fun _ => 0)))]) (st' := [.ref qa2, .ref b]) (cells' := 1) (slots' := 16) (pc' := 14) rfl rfl rfl rfl rfl ?_
    refine g_perm (ws' := ([(qa2, Sum.inl (g 6, 16, .inl (fun _ => 0))), (b, Sum.inr (10, [.null, .int 0, .int 0, .int 0]))] : va_W)) (List.perm_append_comm (l₁ := ([(qa2, Sum.inl (g 6, 16, .inl (fun _ => 0)))] : va_W))) ?_
    refine g_perm (ws' := ([(b, Sum.inr (10, [.null, .int 0, .int 0, .int 0])), (qa2, Sum.inl (g 6, 16, .inl (fun _ => 0)))] : va_W)) (List.Perm.swap _ _ []) ?_
    refine g_put X (ws' := ([(b, Sum.inr (10, [.ref qa2, .int 0, .int 0, .int 0])), (qa2, Sum.inl (g 6, 16, .inl (fun _ => 0)))] : va_W)) hinJ4 tyJ4 tyJ4_ok nmJ4 rfl 0 (by decide) w_784 rfl rfl (ty := tyJ4 0) (tyJ4_ok 0 (by decide)) rfl rfl (0) (rfl) (Nat.le_of_ble_eq_true rfl) (rfl) dJ5_init_d00df_14 ?_
    refine g_run X KJ5_init_d00df_17_2 KJ5_init_d00df_17_2_d 19 [(0, .ref b), (1, .int (nI 16))] [.int (nI 0), .ref b] rfl ?_
    refine g_put X (ws' := ([(b, Sum.inr (10, [.ref qa2, .int (nI 0), .int 0, .int 0])), (qa2, Sum.inl (g 6, 16, .inl (fun _ => 0)))] : va_W)) hinJ4 tyJ4 tyJ4_ok nmJ4 rfl 1 (by decide) w_785 rfl rfl (ty := .byte) rfl (by decide +kernel) rfl (0) (rfl) (Nat.le_of_ble_eq_true rfl) (rfl) dJ5_init_d00df_19 ?_
    refine g_run X KJ5_init_d00df_22_3 KJ5_init_d00df_22_3_d 38 [(0, .ref b), (1, .int (nI 16))] [] rfl ?_
    exact g_vret X hr qa2 rfl (trivial) (rfl) (Nat.le_of_ble_eq_true rfl) (Nat.le_of_ble_eq_true rfl) dJ5_init_d00df_38

def KJ4_init_da8c8_0_0 : List (Nat × Instr × Nat) := [(0, .aload_n 0, 1), (1, .bipush 16, 2)]
theorem KJ4_init_da8c8_0_0_d : ∀ z ∈ KJ4_init_da8c8_0_0, decode cJ4_init_da8c8 z.1 = .ok z.2 := by decide +kernel
set_option maxHeartbeats 4000000 in
set_option maxRecDepth 100000 in
theorem c_J4_init_da8c8 (l : Launch) (D : va_G) (g : Nat → ClassId) (b : Nat) : CT l yJ4_init_da8c8 cJ4_init_da8c8 1 ((Option.none : Option Jvm.ClassFile.FieldType)) ({ frames := 2, cells := 1, slots := 16, locals := 41 } : Room) [.ref b] D CL (TYS g) ([]) ([(b, Sum.inr (10, [.null, .int 0, .int 0, .int 0]))]) (S := Nat) (fun _ => none) (fun u => [(b, Sum.inr (10, [.ref u, .int (nI 0), .int 0, .int 0])), (u, Sum.inl (g 6, 16, .inl (fun _ => 0)))]) (fun _ => True) 1 16 := by
  refine ct_of (by decide +kernel) (Nat.le_of_ble_eq_true rfl) ?_
  intro p e s m below meth c A X hr hnm hSB hRO hAf
  refine g_cs (ws' := ([(b, Sum.inr (10, [.null, .int 0, .int 0, .int 0]))] : va_W)) (lv' := [(0, .ref b)]) (rfl) rfl ?_
  refine g_run X KJ4_init_da8c8_0_0 KJ4_init_da8c8_0_0_d 3 [(0, .ref b)] [.int (nI 16), .ref b] rfl ?_
  refine g_callI X hSB hAf (As := [.int (nI 16)]) (wr := ([] : va_W)) (n := 1) (c_J5_init_d00df l D g b ) rfl srcN hrdN w_773 w_771 w_772 rfl w_28 (by decide +kernel) rfl ⟨Nat.le_of_ble_eq_true rfl, Nat.le_of_ble_eq_true rfl⟩ rfl rfl rfl (Nat.le_of_ble_eq_true rfl) ⟨Nat.le_of_ble_eq_true rfl, Nat.le_of_ble_eq_true rfl⟩ dJ4_init_da8c8_3 (fun hu1 _ => ?_)
  refine g_af (ws' := ([(b, Sum.inr (10, [.ref hu1, .int (nI 0), .int 0, .int 0])), (hu1, Sum.inl (g 6, 16, .inl (fun _ => 0)))] : va_W)) (st' := []) (cells' := 1) (slots' := 16) (pc' := 6) rfl rfl rfl rfl rfl ?_
  exact g_vret X hr hu1 rfl (trivial) (rfl) (Nat.le_of_ble_eq_true rfl) (Nat.le_of_ble_eq_true rfl) dJ4_init_da8c8_6

def KJ5_isLatin1_aae02_6_0 : List (Nat × Instr × Nat) := [(6, .aload_n 0, 1)]
theorem KJ5_isLatin1_aae02_6_0_d : ∀ z ∈ KJ5_isLatin1_aae02_6_0, decode cJ5_isLatin1_aae02 z.1 = .ok z.2 := by decide +kernel
def KJ5_isLatin1_aae02_13_1 : List (Nat × Instr × Nat) := [(13, .iconst 1, 1), (14, .goto 4, 3)]
theorem KJ5_isLatin1_aae02_13_1_d : ∀ z ∈ KJ5_isLatin1_aae02_13_1, decode cJ5_isLatin1_aae02 z.1 = .ok z.2 := by decide +kernel
set_option maxHeartbeats 4000000 in
set_option maxRecDepth 100000 in
theorem c_J5_isLatin1_aae02 (l : Launch) (D : va_G) (g : Nat → ClassId) (b : Nat) (v : Nat) (n : Nat) : CT l yJ5_isLatin1_aae02 cJ5_isLatin1_aae02 1 ((Option.some FieldType.boolean)) ({ frames := 0, cells := 0, slots := 0, locals := 0 } : Room) [.ref b] D CL (TYS g) ([]) ([(b, Sum.inr (10, [.ref v, .int (nI 0), .int 0, .int (nI n)]))]) (S := Unit) (fun _ => some (.int (nI 1))) (fun u => [(b, Sum.inr (10, [.ref v, .int (nI 0), .int 0, .int (nI n)]))]) (fun _ => True) 0 0 := by
  refine ct_of (by decide +kernel) (Nat.le_of_ble_eq_true rfl) ?_
  intro p e s m below meth c A X hr hnm hSB hRO hAf
  refine g_cs (ws' := ([(b, Sum.inr (10, [.ref v, .int (nI 0), .int 0, .int (nI n)]))] : va_W)) (lv' := [(0, .ref b)]) (rfl) rfl ?_
  obtain ⟨t, hJ⟩ := hSB.2.2.2.2.1
  refine g_gets X hJ.1 w_775 dJ5_isLatin1_aae02_0 ?_
  refine g_st (st' := [.int (nI 1)]) rfl ?_
  refine g_if_eq X 17 dJ5_isLatin1_aae02_3 (by decide) (fun hc1 => ?_) (fun hc1 => ?_)
  · rw [nz_eq (by omega)] at hc1; first | omega | (simp at hc1)
  · refine g_run X KJ5_isLatin1_aae02_6_0 KJ5_isLatin1_aae02_6_0_d 7 [(0, .ref b)] [.ref b] rfl ?_
    refine g_get X srcW (v := .int (nI 0)) hinJ4 rfl 1 (by decide) w_785 rfl (List.mem_of_getElem? (i := 0) rfl) rfl dJ5_isLatin1_aae02_7 ?_
    refine g_if_ne X 17 dJ5_isLatin1_aae02_10 (by decide) (fun hc2 => ?_) (fun hc2 => ?_)
    · rw [nz_eq (by omega)] at hc2; first | omega | (simp at hc2)
    · refine g_run X KJ5_isLatin1_aae02_13_1 KJ5_isLatin1_aae02_13_1_d 18 [(0, .ref b)] [.int (nI 1)] rfl ?_
      exact g_zret X hr (by decide +kernel) () (rfl) (trivial) (rfl) (Nat.le_of_ble_eq_true rfl) (Nat.le_of_ble_eq_true rfl) dJ5_isLatin1_aae02_18

def KJ1_canEncode_fc78d_0_0 : List (Nat × Instr × Nat) := [(0, .iload_n 0, 1), (1, .sipush 255, 3)]
theorem KJ1_canEncode_fc78d_0_0_d : ∀ z ∈ KJ1_canEncode_fc78d_0_0, decode cJ1_canEncode_fc78d z.1 = .ok z.2 := by decide +kernel
def KJ1_canEncode_fc78d_7_1 : List (Nat × Instr × Nat) := [(7, .iconst 1, 1), (8, .goto 4, 3)]
theorem KJ1_canEncode_fc78d_7_1_d : ∀ z ∈ KJ1_canEncode_fc78d_7_1, decode cJ1_canEncode_fc78d z.1 = .ok z.2 := by decide +kernel
set_option maxHeartbeats 4000000 in
set_option maxRecDepth 100000 in
theorem c_J1_canEncode_fc78d (l : Launch) (D : va_G) (g : Nat → ClassId) (n : Nat) (hn : n < 256) : CT l yJ1_canEncode_fc78d cJ1_canEncode_fc78d 1 ((Option.some FieldType.boolean)) ({ frames := 0, cells := 0, slots := 0, locals := 0 } : Room) [.int (nI n)] D CL (TYS g) ([]) ([]) (S := Unit) (fun _ => some (.int (nI 1))) (fun _ => []) (fun _ => True) 0 0 := by
  refine ct_of (by decide +kernel) (Nat.le_of_ble_eq_true rfl) ?_
  intro p e s m below meth c A X hr hnm hSB hRO hAf
  refine g_cs (ws' := []) (lv' := [(0, .int (nI n))]) rfl rfl ?_
  refine g_run X KJ1_canEncode_fc78d_0_0 KJ1_canEncode_fc78d_0_0_d 4 [(0, .int (nI n))] [.int (nI 255), .int (nI n)] rfl ?_
  refine g_icmp_gt X 11 dJ1_canEncode_fc78d_4 (by decide) (fun hc1 => ?_) (fun hc1 => ?_)
  · rw [nI_ltI (by omega) (by omega)] at hc1; first | omega | (simp at hc1)
  · refine g_run X KJ1_canEncode_fc78d_7_1 KJ1_canEncode_fc78d_7_1_d 12 [(0, .int (nI n))] [.int (nI 1)] rfl ?_
    exact g_zret X hr (by decide +kernel) () (rfl) (trivial) ((List.append_nil _).symm) (Nat.le_of_ble_eq_true rfl) (Nat.le_of_ble_eq_true rfl) dJ1_canEncode_fc78d_12

def KJ5_getValue_6d5f1_0_0 : List (Nat × Instr × Nat) := [(0, .aload_n 0, 1)]
theorem KJ5_getValue_6d5f1_0_0_d : ∀ z ∈ KJ5_getValue_6d5f1_0_0, decode cJ5_getValue_6d5f1 z.1 = .ok z.2 := by decide +kernel
set_option maxHeartbeats 4000000 in
set_option maxRecDepth 100000 in
theorem c_J5_getValue_6d5f1 (l : Launch) (D : va_G) (g : Nat → ClassId) (b : Nat) (v : Nat) (n : Nat) : CT l yJ5_getValue_6d5f1 cJ5_getValue_6d5f1 1 ((Option.some (FieldType.array FieldType.byte))) ({ frames := 0, cells := 0, slots := 0, locals := 0 } : Room) [.ref b] D CL (TYS g) ([]) ([(b, Sum.inr (10, [.ref v, .int (nI 0), .int 0, .int (nI n)]))]) (S := Unit) (fun _ => some (.ref v)) (fun u => [(b, Sum.inr (10, [.ref v, .int (nI 0), .int 0, .int (nI n)]))]) (fun _ => True) 0 0 := by
  refine ct_of (by decide +kernel) (Nat.le_of_ble_eq_true rfl) ?_
  intro p e s m below meth c A X hr hnm hSB hRO hAf
  refine g_cs (ws' := ([(b, Sum.inr (10, [.ref v, .int (nI 0), .int 0, .int (nI n)]))] : va_W)) (lv' := [(0, .ref b)]) (rfl) rfl ?_
  refine g_run X KJ5_getValue_6d5f1_0_0 KJ5_getValue_6d5f1_0_0_d 1 [(0, .ref b)] [.ref b] rfl ?_
  refine g_get X srcW (v := .ref v) hinJ4 rfl 0 (by decide) w_784 rfl (List.mem_of_getElem? (i := 0) rfl) rfl dJ5_getValue_6d5f1_1 ?_
  exact g_aret X hr (Or.inr ⟨_, rfl⟩) (Or.inr ⟨_, rfl⟩) () (rfl) (trivial) (rfl) (Nat.le_of_ble_eq_true rfl) (Nat.le_of_ble_eq_true rfl) dJ5_getValue_6d5f1_4

def KJ5_length_8abf5_0_0 : List (Nat × Instr × Nat) := [(0, .aload_n 0, 1)]
theorem KJ5_length_8abf5_0_0_d : ∀ z ∈ KJ5_length_8abf5_0_0, decode cJ5_length_8abf5 z.1 = .ok z.2 := by decide +kernel
set_option maxHeartbeats 4000000 in
set_option maxRecDepth 100000 in
theorem c_J5_length_8abf5 (l : Launch) (D : va_G) (g : Nat → ClassId) (b : Nat) (v : Nat) (n : Nat) : CT l yJ5_length_8abf5 cJ5_length_8abf5 1 ((Option.some FieldType.int)) ({ frames := 0, cells := 0, slots := 0, locals := 0 } : Room) [.ref b] D CL (TYS g) ([]) ([(b, Sum.inr (10, [.ref v, .int (nI 0), .int 0, .int (nI n)]))]) (S := Unit) (fun _ => some (.int (nI n))) (fun u => [(b, Sum.inr (10, [.ref v, .int (nI 0), .int 0, .int (nI n)]))]) (fun _ => True) 0 0 := by
  refine ct_of (by decide +kernel) (Nat.le_of_ble_eq_true rfl) ?_
  intro p e s m below meth c A X hr hnm hSB hRO hAf
  refine g_cs (ws' := ([(b, Sum.inr (10, [.ref v, .int (nI 0), .int 0, .int (nI n)]))] : va_W)) (lv' := [(0, .ref b)]) (rfl) rfl ?_
  refine g_run X KJ5_length_8abf5_0_0 KJ5_length_8abf5_0_0_d 1 [(0, .ref b)] [.ref b] rfl ?_
  refine g_get X srcW (v := .int (nI n)) hinJ4 rfl 3 (by decide) w_787 rfl (List.mem_of_getElem? (i := 0) rfl) rfl dJ5_length_8abf5_1 ?_
  exact g_iret X hr () (rfl) (trivial) (rfl) (Nat.le_of_ble_eq_true rfl) (Nat.le_of_ble_eq_true rfl) dJ5_length_8abf5_4

def KJ4_length_8abf5_0_0 : List (Nat × Instr × Nat) := [(0, .aload_n 0, 1)]
theorem KJ4_length_8abf5_0_0_d : ∀ z ∈ KJ4_length_8abf5_0_0, decode cJ4_length_8abf5 z.1 = .ok z.2 := by decide +kernel
set_option maxHeartbeats 4000000 in
set_option maxRecDepth 100000 in
theorem c_J4_length_8abf5 (l : Launch) (D : va_G) (g : Nat → ClassId) (b : Nat) (v : Nat) (n : Nat) : CT l yJ4_length_8abf5 cJ4_length_8abf5 1 ((Option.some FieldType.int)) ({ frames := 1, cells := 0, slots := 0, locals := 20 } : Room) [.ref b] D CL (TYS g) ([]) ([(b, Sum.inr (10, [.ref v, .int (nI 0), .int 0, .int (nI n)]))]) (S := Unit) (fun _ => some (.int (nI n))) (fun u => [(b, Sum.inr (10, [.ref v, .int (nI 0), .int 0, .int (nI n)]))]) (fun _ => True) 0 0 := by
  refine ct_of (by decide +kernel) (Nat.le_of_ble_eq_true rfl) ?_
  intro p e s m below meth c A X hr hnm hSB hRO hAf
  refine g_cs (ws' := ([(b, Sum.inr (10, [.ref v, .int (nI 0), .int 0, .int (nI n)]))] : va_W)) (lv' := [(0, .ref b)]) (rfl) rfl ?_
  refine g_run X KJ4_length_8abf5_0_0 KJ4_length_8abf5_0_0_d 1 [(0, .ref b)] [.ref b] rfl ?_
  refine g_callSU X hSB hAf srcW (hrc1 := (rfl : CL[10]? = some _)) (List.mem_of_getElem? (i := 0) rfl) (As := []) (wr := ([] : va_W)) (n := 0) (c_J5_length_8abf5 l D g b v n ) rfl srcN hrdN w_920 w_919 w_914 w_796 w_915 (by decide) w_28 (by decide +kernel) rfl ⟨Nat.le_of_ble_eq_true rfl, Nat.le_of_ble_eq_true rfl⟩ rfl rfl rfl (Nat.le_of_ble_eq_true rfl) ⟨Nat.le_of_ble_eq_true rfl, Nat.le_of_ble_eq_true rfl⟩ dJ4_length_8abf5_1 (fun hu1 _ => ?_)
  refine g_af (ws' := ([(b, Sum.inr (10, [.ref v, .int (nI 0), .int 0, .int (nI n)]))] : va_W)) (st' := [.int (nI n)]) (cells' := 0) (slots' := 0) (pc' := 4) rfl rfl rfl rfl rfl ?_
  exact g_iret X hr () (rfl) (trivial) (rfl) (Nat.le_of_ble_eq_true rfl) (Nat.le_of_ble_eq_true rfl) dJ4_length_8abf5_4

def KJ5_ensureCapacityInternal_d00df_0_0 : List (Nat × Instr × Nat) := [(0, .aload_n 0, 1)]
theorem KJ5_ensureCapacityInternal_d00df_0_0_d : ∀ z ∈ KJ5_ensureCapacityInternal_d00df_0_0, decode cJ5_ensureCapacityInternal_d00df z.1 = .ok z.2 := by decide +kernel
def KJ5_ensureCapacityInternal_d00df_5_1 : List (Nat × Instr × Nat) := [(5, .aload_n 0, 1)]
theorem KJ5_ensureCapacityInternal_d00df_5_1_d : ∀ z ∈ KJ5_ensureCapacityInternal_d00df_5_1, decode cJ5_ensureCapacityInternal_d00df z.1 = .ok z.2 := by decide +kernel
def KJ5_ensureCapacityInternal_d00df_9_2 : List (Nat × Instr × Nat) := [(9, .ishr, 1)]
theorem KJ5_ensureCapacityInternal_d00df_9_2_d : ∀ z ∈ KJ5_ensureCapacityInternal_d00df_9_2, decode cJ5_ensureCapacityInternal_d00df z.1 = .ok z.2 := by decide +kernel
def KJ5_ensureCapacityInternal_d00df_10_3 : List (Nat × Instr × Nat) := [(10, .istore_n 2, 1), (11, .iload_n 1, 1), (12, .iload_n 2, 1), (13, .isub, 1)]
theorem KJ5_ensureCapacityInternal_d00df_10_3_d : ∀ z ∈ KJ5_ensureCapacityInternal_d00df_10_3, decode cJ5_ensureCapacityInternal_d00df z.1 = .ok z.2 := by decide +kernel
set_option maxHeartbeats 4000000 in
set_option maxRecDepth 100000 in
theorem c_J5_ensureCapacityInternal_d00df (l : Launch) (D : va_G) (g : Nat → ClassId) (b : Nat) (v : Nat) (n : Nat) (f : Nat → Int32) (x : Nat) (hx : x ≤ 16) : CT l yJ5_ensureCapacityInternal_d00df cJ5_ensureCapacityInternal_d00df 3 ((Option.none : Option Jvm.ClassFile.FieldType)) ({ frames := 0, cells := 0, slots := 0, locals := 0 } : Room) [.ref b, .int (nI x)] D CL (TYS g) ([]) ([(b, Sum.inr (10, [.ref v, .int (nI 0), .int 0, .int (nI n)])), (v, Sum.inl (g 6, 16, .inl f))]) (S := Unit) (fun _ => none) (fun u => [(b, Sum.inr (10, [.ref v, .int (nI 0), .int 0, .int (nI n)])), (v, Sum.inl (g 6, 16, .inl f))]) (fun _ => True) 0 0 := by
  refine ct_of (by decide +kernel) (Nat.le_of_ble_eq_true rfl) ?_
  intro p e s m below meth c A X hr hnm hSB hRO hAf
  refine g_cs (ws' := ([(b, Sum.inr (10, [.ref v, .int (nI 0), .int 0, .int (nI n)])), (v, Sum.inl (g 6, 16, .inl f))] : va_W)) (lv' := [(0, .ref b), (1, .int (nI x))]) (rfl) rfl ?_
  refine g_run X KJ5_ensureCapacityInternal_d00df_0_0 KJ5_ensureCapacityInternal_d00df_0_0_d 1 [(0, .ref b), (1, .int (nI x))] [.ref b] rfl ?_
  refine g_get X srcW (v := .ref v) hinJ4 rfl 0 (by decide) w_784 rfl (List.mem_of_getElem? (i := 0) rfl) rfl dJ5_ensureCapacityInternal_d00df_1 ?_
  refine g_alen X srcW (v := nI 16) 6 rfl (List.mem_of_getElem? (i := 1) rfl) rfl dJ5_ensureCapacityInternal_d00df_4 ?_
  refine g_run X KJ5_ensureCapacityInternal_d00df_5_1 KJ5_ensureCapacityInternal_d00df_5_1_d 6 [(0, .ref b), (1, .int (nI x))] [.ref b, .int (nI 16)] rfl ?_
  refine g_get X srcW (v := .int (nI 0)) hinJ4 rfl 1 (by decide) w_785 rfl (List.mem_of_getElem? (i := 0) rfl) rfl dJ5_ensureCapacityInternal_d00df_6 ?_
  refine g_run X KJ5_ensureCapacityInternal_d00df_9_2 KJ5_ensureCapacityInternal_d00df_9_2_d 10 [(0, .ref b), (1, .int (nI x))] [.int ((nI 16) >>> ((nI 0) &&& 31))] rfl ?_
  refine g_st (st' := [.int (nI 16)]) (rfl) ?_
  refine g_run X KJ5_ensureCapacityInternal_d00df_10_3 KJ5_ensureCapacityInternal_d00df_10_3_d 14 [(2, .int (nI 16)), (0, .ref b), (1, .int (nI x))] [.int ((nI x) - (nI 16))] rfl ?_
  refine g_if_le X 38 dJ5_ensureCapacityInternal_d00df_14 (by decide) (fun hc1 => ?_) (fun hc1 => ?_)
  · exact g_vret X hr () rfl (trivial) (rfl) (Nat.le_of_ble_eq_true rfl) (Nat.le_of_ble_eq_true rfl) dJ5_ensureCapacityInternal_d00df_38
  · exact (hc1 (le_sub hx (by decide))).elim

def KJ5_append_3fe6f_0_0 : List (Nat × Instr × Nat) := [(0, .aload_n 0, 1), (1, .aload_n 0, 1)]
theorem KJ5_append_3fe6f_0_0_d : ∀ z ∈ KJ5_append_3fe6f_0_0, decode cJ5_append_3fe6f z.1 = .ok z.2 := by decide +kernel
def KJ5_append_3fe6f_5_1 : List (Nat × Instr × Nat) := [(5, .iconst 1, 1), (6, .iadd, 1)]
theorem KJ5_append_3fe6f_5_1_d : ∀ z ∈ KJ5_append_3fe6f_5_1, decode cJ5_append_3fe6f z.1 = .ok z.2 := by decide +kernel
def KJ5_append_3fe6f_10_2 : List (Nat × Instr × Nat) := [(10, .aload_n 0, 1)]
theorem KJ5_append_3fe6f_10_2_d : ∀ z ∈ KJ5_append_3fe6f_10_2, decode cJ5_append_3fe6f z.1 = .ok z.2 := by decide +kernel
def KJ5_append_3fe6f_17_3 : List (Nat × Instr × Nat) := [(17, .iload_n 1, 1)]
theorem KJ5_append_3fe6f_17_3_d : ∀ z ∈ KJ5_append_3fe6f_17_3, decode cJ5_append_3fe6f z.1 = .ok z.2 := by decide +kernel
def KJ5_append_3fe6f_24_4 : List (Nat × Instr × Nat) := [(24, .aload_n 0, 1)]
theorem KJ5_append_3fe6f_24_4_d : ∀ z ∈ KJ5_append_3fe6f_24_4, decode cJ5_append_3fe6f z.1 = .ok z.2 := by decide +kernel
def KJ5_append_3fe6f_28_5 : List (Nat × Instr × Nat) := [(28, .aload_n 0, 1), (29, .dup, 1)]
theorem KJ5_append_3fe6f_28_5_d : ∀ z ∈ KJ5_append_3fe6f_28_5, decode cJ5_append_3fe6f z.1 = .ok z.2 := by decide +kernel
def KJ5_append_3fe6f_33_6 : List (Nat × Instr × Nat) := [(33, .dup_x1, 1), (34, .iconst 1, 1), (35, .iadd, 1)]
theorem KJ5_append_3fe6f_33_6_d : ∀ z ∈ KJ5_append_3fe6f_33_6, decode cJ5_append_3fe6f z.1 = .ok z.2 := by decide +kernel
def KJ5_append_3fe6f_39_7 : List (Nat × Instr × Nat) := [(39, .iload_n 1, 1), (40, .i2b, 1)]
theorem KJ5_append_3fe6f_39_7_d : ∀ z ∈ KJ5_append_3fe6f_39_7, decode cJ5_append_3fe6f z.1 = .ok z.2 := by decide +kernel
def KJ5_append_3fe6f_42_8 : List (Nat × Instr × Nat) := [(42, .goto 33, 3), (75, .aload_n 0, 1)]
theorem KJ5_append_3fe6f_42_8_d : ∀ z ∈ KJ5_append_3fe6f_42_8, decode cJ5_append_3fe6f z.1 = .ok z.2 := by decide +kernel
set_option maxHeartbeats 4000000 in
set_option maxRecDepth 100000 in
theorem c_J5_append_3fe6f (l : Launch) (D : va_G) (g : Nat → ClassId) (b : Nat) (v : Nat) (n : Nat) (f : Nat → Int32) (x : Nat) (hn : n < 16) (hc : x < 256) : CT l yJ5_append_3fe6f cJ5_append_3fe6f 2 ((Option.some (FieldType.object "java/lang/AbstractStringBuilder"))) ({ frames := 1, cells := 0, slots := 0, locals := 22 } : Room) [.ref b, .int (nI x)] D CL (TYS g) ([]) ([(b, Sum.inr (10, [.ref v, .int (nI 0), .int 0, .int (nI n)])), (v, Sum.inl (g 6, 16, .inl f))]) (S := Unit) (fun _ => some (.ref b)) (fun u => [(b, Sum.inr (10, [.ref v, .int (nI 0), .int 0, .int (nI (n + 1))])), (v, Sum.inl (g 6, 16, .inl (upd f n (vp_nar .byte ((nI x).toInt8.toInt32)))))]) (fun _ => True) 0 0 := by
  refine ct_of (by decide +kernel) (Nat.le_of_ble_eq_true rfl) ?_
  intro p e s m below meth c A X hr hnm hSB hRO hAf
  refine g_cs (ws' := ([(b, Sum.inr (10, [.ref v, .int (nI 0), .int 0, .int (nI n)])), (v, Sum.inl (g 6, 16, .inl f))] : va_W)) (lv' := [(0, .ref b), (1, .int (nI x))]) (rfl) rfl ?_
  obtain ⟨t, hJ⟩ := hSB.2.2.2.2.1
  refine g_run X KJ5_append_3fe6f_0_0 KJ5_append_3fe6f_0_0_d 2 [(0, .ref b), (1, .int (nI x))] [.ref b, .ref b] rfl ?_
  refine g_get X srcW (v := .int (nI n)) hinJ4 rfl 3 (by decide) w_787 rfl (List.mem_of_getElem? (i := 0) rfl) rfl dJ5_append_3fe6f_2 ?_
  refine g_run X KJ5_append_3fe6f_5_1 KJ5_append_3fe6f_5_1_d 7 [(0, .ref b), (1, .int (nI x))] [.int ((nI n) + (nI 1)), .ref b] rfl ?_
  refine g_nm (lv' := [(0, .ref b), (1, .int (nI x))]) (st' := [.int (nI (n + 1)), .ref b]) (by simp only [nI_add]) (by simp only [nI_add]) ?_
  refine g_callUP X hSB hAf srcW (hrc1 := (rfl : CL[10]? = some _)) (List.mem_of_getElem? (i := 0) rfl) (As := [.int (nI (n + 1))]) (wr := ([] : va_W)) (n := 1) (c_J5_ensureCapacityInternal_d00df l D g b v n f (n + 1) (by omega)) rfl srcN hrdN w_810 w_807 w_809 hJ.2.2.2.2 w_1565 w_28 (by decide +kernel) rfl ⟨Nat.le_of_ble_eq_true rfl, Nat.le_of_ble_eq_true rfl⟩ rfl rfl rfl (Nat.le_of_ble_eq_true rfl) ⟨Nat.le_of_ble_eq_true rfl, Nat.le_of_ble_eq_true rfl⟩ dJ5_append_3fe6f_7 (fun hu1 _ => ?_)
  refine g_af (ws' := ([(b, Sum.inr (10, [.ref v, .int (nI 0), .int 0, .int (nI n)])), (v, Sum.inl (g 6, 16, .inl f))] : va_W)) (st' := []) (cells' := 0) (slots' := 0) (pc' := 10) rfl rfl rfl rfl rfl ?_
  refine g_run X KJ5_append_3fe6f_10_2 KJ5_append_3fe6f_10_2_d 11 [(0, .ref b), (1, .int (nI x))] [.ref b] rfl ?_
  refine g_callU X hSB hAf srcW (hrc1 := (rfl : CL[10]? = some _)) (List.mem_of_getElem? (i := 0) rfl) (As := []) (wr := ([(v, Sum.inl (g 6, 16, .inl f))] : va_W)) (n := 0) (c_J5_isLatin1_aae02 l D g b v n ) rfl srcN hrdN w_846 w_842 w_843 w_845 w_844 w_28 (by decide +kernel) rfl ⟨Nat.le_of_ble_eq_true rfl, Nat.le_of_ble_eq_true rfl⟩ rfl rfl rfl (Nat.le_of_ble_eq_true rfl) ⟨Nat.le_of_ble_eq_true rfl, Nat.le_of_ble_eq_true rfl⟩ dJ5_append_3fe6f_11 (fun hu2 _ => ?_)
  refine g_af (ws' := ([(b, Sum.inr (10, [.ref v, .int (nI 0), .int 0, .int (nI n)])), (v, Sum.inl (g 6, 16, .inl f))] : va_W)) (st' := [.int (nI 1)]) (cells' := 0) (slots' := 0) (pc' := 14) rfl rfl rfl rfl rfl ?_
  refine g_if_eq X 45 dJ5_append_3fe6f_14 (by decide) (fun hc3 => ?_) (fun hc3 => ?_)
  · rw [nz_eq (by omega)] at hc3; first | omega | (simp at hc3)
  · refine g_run X KJ5_append_3fe6f_17_3 KJ5_append_3fe6f_17_3_d 18 [(0, .ref b), (1, .int (nI x))] [.int (nI x)] rfl ?_
    refine g_callS X hSB hAf (As := [.int (nI x)]) (wr := ([(b, Sum.inr (10, [.ref v, .int (nI 0), .int 0, .int (nI n)])), (v, Sum.inl (g 6, 16, .inl f))] : va_W)) (n := 1) (c_J1_canEncode_fc78d l D g x (by omega)) rfl srcN hrdN w_849 w_847 w_848 w_32 (by decide +kernel) rfl ⟨Nat.le_of_ble_eq_true rfl, Nat.le_of_ble_eq_true rfl⟩ rfl rfl rfl (Nat.le_of_ble_eq_true rfl) ⟨Nat.le_of_ble_eq_true rfl, Nat.le_of_ble_eq_true rfl⟩ dJ5_append_3fe6f_18 (fun hu4 _ => ?_)
    refine g_af (ws' := ([(b, Sum.inr (10, [.ref v, .int (nI 0), .int 0, .int (nI n)])), (v, Sum.inl (g 6, 16, .inl f))] : va_W)) (st' := [.int (nI 1)]) (cells' := 0) (slots' := 0) (pc' := 21) rfl rfl rfl rfl rfl ?_
    refine g_if_eq X 45 dJ5_append_3fe6f_21 (by decide) (fun hc5 => ?_) (fun hc5 => ?_)
    · rw [nz_eq (by omega)] at hc5; first | omega | (simp at hc5)
    · refine g_run X KJ5_append_3fe6f_24_4 KJ5_append_3fe6f_24_4_d 25 [(0, .ref b), (1, .int (nI x))] [.ref b] rfl ?_
      refine g_get X srcW (v := .ref v) hinJ4 rfl 0 (by decide) w_784 rfl (List.mem_of_getElem? (i := 0) rfl) rfl dJ5_append_3fe6f_25 ?_
      refine g_run X KJ5_append_3fe6f_28_5 KJ5_append_3fe6f_28_5_d 30 [(0, .ref b), (1, .int (nI x))] [.ref b, .ref b, .ref v] rfl ?_
      refine g_get X srcW (v := .int (nI n)) hinJ4 rfl 3 (by decide) w_787 rfl (List.mem_of_getElem? (i := 0) rfl) rfl dJ5_append_3fe6f_30 ?_
      refine g_run X KJ5_append_3fe6f_33_6 KJ5_append_3fe6f_33_6_d 36 [(0, .ref b), (1, .int (nI x))] [.int ((nI n) + (nI 1)), .ref b, .int (nI n), .ref v] rfl ?_
      refine g_nm (lv' := [(0, .ref b), (1, .int (nI x))]) (st' := [.int (nI (n + 1)), .ref b, .int (nI n), .ref v]) (by simp only [nI_add]) (by simp only [nI_add]) ?_
      refine g_put X (ws' := ([(b, Sum.inr (10, [.ref v, .int (nI 0), .int 0, .int (nI (n + 1))])), (v, Sum.inl (g 6, 16, .inl f))] : va_W)) hinJ4 tyJ4 tyJ4_ok nmJ4 rfl 3 (by decide) w_787 rfl rfl (ty := .int) rfl rfl rfl (0) (rfl) (Nat.le_of_ble_eq_true rfl) (rfl) dJ5_append_3fe6f_36 ?_
      refine g_run X KJ5_append_3fe6f_39_7 KJ5_append_3fe6f_39_7_d 41 [(0, .ref b), (1, .int (nI x))] [.int ((nI x).toInt8.toInt32), .int (nI n), .ref v] rfl ?_
      refine g_bast X (ws' := ([(b, Sum.inr (10, [.ref v, .int (nI 0), .int 0, .int (nI (n + 1))])), (v, Sum.inl (g 6, 16, .inl (upd f n (vp_nar .byte ((nI x).toInt8.toInt32)))))] : va_W)) 6 rfl 1 rfl n rfl (by omega) (by decide) rfl dJ5_append_3fe6f_41 ?_
      refine g_run X KJ5_append_3fe6f_42_8 KJ5_append_3fe6f_42_8_d 76 [(0, .ref b), (1, .int (nI x))] [.ref b] rfl ?_
      exact g_aret X hr (Or.inl ⟨_, rfl⟩) (Or.inr ⟨_, rfl⟩) () (rfl) (trivial) (rfl) (Nat.le_of_ble_eq_true rfl) (Nat.le_of_ble_eq_true rfl) dJ5_append_3fe6f_76

def KJ4_append_cf468_0_0 : List (Nat × Instr × Nat) := [(0, .aload_n 0, 1), (1, .iload_n 1, 1)]
theorem KJ4_append_cf468_0_0_d : ∀ z ∈ KJ4_append_cf468_0_0, decode cJ4_append_cf468 z.1 = .ok z.2 := by decide +kernel
def KJ4_append_cf468_5_1 : List (Nat × Instr × Nat) := [(5, .pop, 1), (6, .aload_n 0, 1)]
theorem KJ4_append_cf468_5_1_d : ∀ z ∈ KJ4_append_cf468_5_1, decode cJ4_append_cf468 z.1 = .ok z.2 := by decide +kernel
set_option maxHeartbeats 4000000 in
set_option maxRecDepth 100000 in
theorem c_J4_append_cf468 (l : Launch) (D : va_G) (g : Nat → ClassId) (b : Nat) (v : Nat) (n : Nat) (f : Nat → Int32) (x : Nat) (hn : n < 16) (hc : x < 256) : CT l yJ4_append_cf468 cJ4_append_cf468 2 ((Option.some (FieldType.object "java/lang/StringBuilder"))) ({ frames := 2, cells := 0, slots := 0, locals := 43 } : Room) [.ref b, .int (nI x)] D CL (TYS g) ([]) ([(b, Sum.inr (10, [.ref v, .int (nI 0), .int 0, .int (nI n)])), (v, Sum.inl (g 6, 16, .inl f))]) (S := Unit) (fun _ => some (.ref b)) (fun u => [(b, Sum.inr (10, [.ref v, .int (nI 0), .int 0, .int (nI (n + 1))])), (v, Sum.inl (g 6, 16, .inl (upd f n (vp_nar .byte ((nI x).toInt8.toInt32)))))]) (fun _ => True) 0 0 := by
  refine ct_of (by decide +kernel) (Nat.le_of_ble_eq_true rfl) ?_
  intro p e s m below meth c A X hr hnm hSB hRO hAf
  refine g_cs (ws' := ([(b, Sum.inr (10, [.ref v, .int (nI 0), .int 0, .int (nI n)])), (v, Sum.inl (g 6, 16, .inl f))] : va_W)) (lv' := [(0, .ref b), (1, .int (nI x))]) (rfl) rfl ?_
  refine g_run X KJ4_append_cf468_0_0 KJ4_append_cf468_0_0_d 2 [(0, .ref b), (1, .int (nI x))] [.int (nI x), .ref b] rfl ?_
  refine g_callSU X hSB hAf srcW (hrc1 := (rfl : CL[10]? = some _)) (List.mem_of_getElem? (i := 0) rfl) (As := [.int (nI x)]) (wr := ([] : va_W)) (n := 1) (c_J5_append_3fe6f l D g b v n f x (by omega) (by omega)) rfl srcN hrdN w_806 w_804 w_805 w_796 w_1564 (by decide) w_28 (by decide +kernel) rfl ⟨Nat.le_of_ble_eq_true rfl, Nat.le_of_ble_eq_true rfl⟩ rfl rfl rfl (Nat.le_of_ble_eq_true rfl) ⟨Nat.le_of_ble_eq_true rfl, Nat.le_of_ble_eq_true rfl⟩ dJ4_append_cf468_2 (fun hu1 _ => ?_)
  refine g_af (ws' := ([(b, Sum.inr (10, [.ref v, .int (nI 0), .int 0, .int (nI (n + 1))])), (v, Sum.inl (g 6, 16, .inl (upd f n (vp_nar .byte ((nI x).toInt8.toInt32)))))] : va_W)) (st' := [.ref b]) (cells' := 0) (slots' := 0) (pc' := 5) rfl rfl rfl rfl rfl ?_
  refine g_run X KJ4_append_cf468_5_1 KJ4_append_cf468_5_1_d 7 [(0, .ref b), (1, .int (nI x))] [.ref b] rfl ?_
  exact g_aret X hr (Or.inl ⟨_, rfl⟩) (Or.inr ⟨_, rfl⟩) () (rfl) (trivial) (rfl) (Nat.le_of_ble_eq_true rfl) (Nat.le_of_ble_eq_true rfl) dJ4_append_cf468_7

