/-! rows of the layer GL: fields, arrays, statics, branches; contracts and calls -/
def PWL : List Nat := [1, 2, 4, 8, 3, 6, 12, 11, 5, 10, 7, 14, 15, 13, 9]
def EXL : List Nat := [0, 0, 1, 4, 2, 8, 5, 10, 3, 14, 9, 7, 6, 13, 11, 12]
def pw (j : Nat) : Nat := PWL.getD j 0
def ex (j : Nat) : Nat := EXL.getD j 0
def strL : List (Nat × String) := [(257, "what is not 0 to 12"), (332, "chip is not 0 to 17"), (204, "what is not 0 to 5"), (327, "line is not 0 to 15"), (334, "frame is not 0 to 3"), (224, "what is not 0 to 2"), (342, "data is not 0 to 2^44 - 1"), (336, "a number is not 0 to 15"), (338, "a number is not 1 to 15"), (330, "place is not 0 to 14"), (102, "4 other places are ERASED"), (117, "no SPARE is left"), (127, "limit is not 1 to 99"), (140, "steps is not 1 to 40"), (165, "k is not 0 to 999"), (174, "two places are the same"), (187, "j is not 1 to 4"), (274, "erased is not 0 to 32767")]
def SBP (A : Nat → Prop) (U : State) (H : Heap) (t : Nat) : Prop := va_Z "Chipfield$Code" "POWERS" "[I" (.ref t) A U H ∧ va_T .int t 15 (fun j => .int (nI (pw j))) A U H
def SBE (A : Nat → Prop) (U : State) (H : Heap) (t : Nat) : Prop := va_Z "Chipfield$Code" "EXPONENTS" "[I" (.ref t) A U H ∧ va_T .int t 16 (fun j => .int (nI (ex j))) A U H
def SBX (A : Nat → Prop) (U : State) (H : Heap) : Prop := vx_Zq Bundle.tN "UNASSIGNED_STACK" Bundle.steD A U H ∧ vx_Zq Bundle.tN "SUPPRESSED_SENTINEL" Bundle.listD A U H
def wEC : Cond := .selects "java/lang/StringBuilder" ⟨"java/lang/AbstractStringBuilder", "ensureCapacityInternal", "(I)V"⟩ ⟨"java/lang/AbstractStringBuilder", "ensureCapacityInternal", "(I)V"⟩
theorem wEC_warm {s U : State} (hW : s.WarmedH U.vm) (h : va_Nw wEC s) : va_Nw wEC U := Cond.onTables_warm (T := U) (vm₁ := U.vm) hW rfl rfl h
theorem wEC_same {s U : State} (hV : s.vm = U.vm) (h : va_Nw wEC s) : va_Nw wEC U := va_Nw.same rfl hV h
def SBJ (A : Nat → Prop) (U : State) (H : Heap) (t : Nat) : Prop := va_Z "java/lang/String" "COMPACT_STRINGS" "Z" (.int 1) A U H ∧ va_Z "java/util/ArrayList" "DEFAULTCAPACITY_EMPTY_ELEMENTDATA" "[Ljava/lang/Object;" (.ref t) A U H ∧ va_T (.object "java/lang/Object") t 0 (fun _ => .null) A U H ∧ (∃ a, vk_R "ChipfieldModel" 264 "" a U) ∧ va_Nw wEC U
/-- statics and constants that nobody writes -/
def SB (A : Nat → Prop) (U : State) (H : Heap) : Prop := NWs U ∧ (∃ t, SBP A U H t) ∧ (∃ t, SBE A U H t) ∧ SBX A U H ∧ (∃ t, SBJ A U H t) ∧ ∀ q ∈ strL, ∃ a, vk_R "Chipfield" q.1 q.2 a U
theorem SB.kept {A : Nat → Prop} {U : State} {H H1 : Heap} (h : SB A U H) (hq : ∀ a : Nat, a < H.size → ¬ A a → H1[a]? = H[a]?) : SB A U H1 := by
  obtain ⟨h1, ⟨t, a1, a2⟩, ⟨u, b1, b2⟩, ⟨c1, c2⟩, ⟨v, d1, d2, d3, d4, d5⟩, h6⟩ := h
  exact ⟨h1, ⟨t, a1.kept hq, a2.kept hq⟩, ⟨u, b1.kept hq, b2.kept hq⟩, ⟨c1.kept hq, c2.kept hq⟩, ⟨v, d1.kept hq, d2.kept hq, d3.kept hq, d4, d5⟩, h6⟩
theorem SB.narrow {A B : Nat → Prop} {U : State} {H : Heap} (h : SB A U H) (hAB : ∀ q, B q → A q) : SB B U H := by
  obtain ⟨h1, ⟨t, a1, a2⟩, ⟨u, b1, b2⟩, ⟨c1, c2⟩, ⟨v, d1, d2, d3, d4, d5⟩, h6⟩ := h
  exact ⟨h1, ⟨t, a1.narrow hAB, a2.narrow hAB⟩, ⟨u, b1.narrow hAB, b2.narrow hAB⟩, ⟨c1.narrow hAB, c2.narrow hAB⟩, ⟨v, d1.narrow hAB, d2.narrow hAB, d3.narrow hAB, d4, d5⟩, h6⟩
theorem SB.warm {A : Nat → Prop} {s U : State} {H : Heap} (hW : s.WarmedH U.vm) (h : SB A s H) : SB A U H := by
  obtain ⟨h1, ⟨t, a1, a2⟩, ⟨u, b1, b2⟩, ⟨c1, c2⟩, ⟨v, d1, d2, d3, d4, d5⟩, h6⟩ := h
  have hv := hW.alike
  exact ⟨h1.warm hW, ⟨t, a1.moved hv, a2.moved hv⟩, ⟨u, b1.moved hv, b2.moved hv⟩, ⟨c1.moved hv, c2.moved hv⟩, ⟨v, d1.moved hv, d2.moved hv, d3.moved hv, d4.imp fun a h => vk_R.warm hW h, wEC_warm hW d5⟩, fun q hq => (h6 q hq).imp fun a h => vk_R.warm hW h⟩
theorem SB.same {A : Nat → Prop} {s U : State} {H : Heap} (hV : U.vm = s.vm) (h : SB A s H) : SB A U H := by
  obtain ⟨h1, ⟨t, a1, a2⟩, ⟨u, b1, b2⟩, ⟨c1, c2⟩, ⟨v, d1, d2, d3, d4, d5⟩, h6⟩ := h
  have hv : s.vm.Alike U.vm := by rw [hV]; exact Vm.Alike.refl s.vm
  exact ⟨fun w hw => nw_same (List.mem_filter.mp hw).2 hV.symm (h1 w hw), ⟨t, a1.moved hv, a2.moved hv⟩, ⟨u, b1.moved hv, b2.moved hv⟩, ⟨c1.moved hv, c2.moved hv⟩, ⟨v, d1.moved hv, d2.moved hv, d3.moved hv, d4.imp fun a h => vk_R.same hV h, wEC_same hV.symm d5⟩, fun q hq => (h6 q hq).imp fun a h => vk_R.same hV h⟩
/-- cells that are read alone -/
def RO (D : va_G) (cl : List vw_C) (A : Nat → Prop) (s : State) (ro : va_W) : Prop := va_P D cl ro s.heap ∧ ∀ x ∈ ro, ¬ A x.1
def PX (D : va_G) (cl : List vw_C) (tys : List (ClassId × FieldType)) (ro wc : va_W) (sz : Nat) (U : State) : Prop :=
  U.heap.size = sz ∧ va_P D cl ro U.heap ∧ va_P D cl wc U.heap ∧ va_D (va_A wc sz) wc ∧ (∀ x ∈ ro, ∀ y ∈ wc, x.1 ≠ y.1) ∧ va_K D cl tys U ∧ SB (va_A wc sz) U U.heap
def QX {S : Type} (D : va_G) (cl : List vw_C) (A : Nat → Prop) (r : S → Option Value) (w : S → va_W) (post : S → Prop) : Array Value → State → Outcome → State → Prop := fun _ st oc t =>
  ∃ u : S, oc = .returned (r u) ∧ post u ∧ va_P D cl (w u) t.heap ∧ va_D A (w u) ∧ va_F A st t
/-- a contract: cells read alone, cells of its own, what it answers, what its own are behind it -/
def CT {S : Type} (l : Launch) (y : MethodName) (b : ByteArray) (nL : Nat) (ret : Option FieldType) (rm : Room) (av : List Value) (D : va_G) (cl : List vw_C) (tys : List (ClassId × FieldType)) (ro wc : va_W) (r : S → Option Value) (w : S → va_W) (post : S → Prop) (mc ms : Nat) : Prop :=
  ∀ sz : Nat, Met l y (WG y b nL ret) rm (va_Pc av (PX D cl tys ro wc sz)) (QX D cl (va_A wc sz) r w post) mc ms (va_A wc sz)
theorem PX.blind {D : va_G} {cl : List vw_C} {tys : List (ClassId × FieldType)} {ro wc : va_W} {sz : Nat} {av : List Value} : FrameBlind (va_Pc av (PX D cl tys ro wc sz)) := by
  intro a U g mk h
  obtain ⟨e, h1, h2, h3, h4, h5, h6, h7⟩ := h
  exact ⟨e, h1, h2, h3, h4, h5, va_K.moved (u := U) (U := U.calling g mk a) (Vm.Alike.refl U.vm) h6, SB.same (s := U) (U := U.calling g mk a) rfl h7⟩
theorem mem_at {D : va_G} {cl : List vw_C} {ws : va_W} {H : Heap} (h : va_P D cl ws H) {x : Nat × va_E} (hx : x ∈ ws) : va_at D cl x H := by
  obtain ⟨k, hk⟩ := List.getElem?_of_mem hx
  exact h k x hk
theorem P_of {D : va_G} {cl : List vw_C} {ws : va_W} {H : Heap} (h : ∀ x ∈ ws, va_at D cl x H) : va_P D cl ws H := fun _ x hk => h x (List.mem_of_getElem? hk)
theorem D_mem {A : Nat → Prop} {ws : va_W} (h : va_D A ws) {x : Nat × va_E} (hx : x ∈ ws) : A x.1 := by
  obtain ⟨k, hk⟩ := List.getElem?_of_mem hx
  exact h.2 k x hk
theorem D_left {A : Nat → Prop} {a b : va_W} (h : va_D A (a ++ b)) : va_D A a := ⟨fun i j p q hi hj e => h.1 i j p q (by rw [List.getElem?_append_left (List.getElem?_eq_some_iff.mp hi).1]; exact hi) (by rw [List.getElem?_append_left (List.getElem?_eq_some_iff.mp hj).1]; exact hj) e, fun k q hk => h.2 k q (by rw [List.getElem?_append_left (List.getElem?_eq_some_iff.mp hk).1]; exact hk)⟩
theorem D_right {A : Nat → Prop} {a b : va_W} (h : va_D A (a ++ b)) : va_D A b := by
  refine ⟨fun i j p q hi hj e => ?_, fun k q hk => h.2 (a.length + k) q (by rw [List.getElem?_append_right (Nat.le_add_right _ _), Nat.add_sub_cancel_left]; exact hk)⟩
  have := h.1 (a.length + i) (a.length + j) p q (by rw [List.getElem?_append_right (Nat.le_add_right _ _), Nat.add_sub_cancel_left]; exact hi) (by rw [List.getElem?_append_right (Nat.le_add_right _ _), Nat.add_sub_cancel_left]; exact hj) e
  omega
theorem D_ne {A : Nat → Prop} {a b : va_W} (h : va_D A (a ++ b)) {x y : Nat × va_E} (hx : x ∈ a) (hy : y ∈ b) : x.1 ≠ y.1 := by
  obtain ⟨i, hi⟩ := List.getElem?_of_mem hx
  obtain ⟨j, hj⟩ := List.getElem?_of_mem hy
  intro e
  have hl := (List.getElem?_eq_some_iff.mp hi).1
  have := h.1 i (a.length + j) x y (by rw [List.getElem?_append_left hl]; exact hi) (by rw [List.getElem?_append_right (Nat.le_add_right _ _), Nat.add_sub_cancel_left]; exact hj) e
  omega
theorem D_app {A : Nat → Prop} {a b : va_W} (h1 : va_D A a) (h2 : va_D A b) (h : ∀ x ∈ a, ∀ y ∈ b, x.1 ≠ y.1) : va_D A (a ++ b) :=
  va_D.app h1 h2 (fun _ _ p q hp hq => h p (List.mem_of_getElem? hp) q (List.mem_of_getElem? hq))
theorem P_left {D : va_G} {cl : List vw_C} {a b : va_W} {H : Heap} (h : va_P D cl (a ++ b) H) : va_P D cl a H := P_of fun _ hx => mem_at h (List.mem_append_left _ hx)
theorem P_right {D : va_G} {cl : List vw_C} {a b : va_W} {H : Heap} (h : va_P D cl (a ++ b) H) : va_P D cl b H := P_of fun _ hx => mem_at h (List.mem_append_right _ hx)
section GLS
variable {p : Program} {l : Launch} {e : Env} {R : Room} {s : State} {m : MethodId} {args : Array Value} {below : List Frame} {meth : Method} {c : Code} {Q : State → Prop} {D : va_G} {cl : List vw_C} {tys : List (ClassId × FieldType)} {A : Nat → Prop} {nL : Nat} {ws : va_W} {cells slots : Nat} {cc : ByteArray} {own : String} {pc : Nat} {lv : List (Nat × Value)} {st : List Value}

theorem ro_P {ro : va_W} {H : Heap} {locs : List Loc} (h : RO D cl A s ro) (hS : va_S A s.heap H locs) : va_P D cl ro H :=
  h.1.kept (fun k q hk => hS.2.1 q.1 (h.1 k q hk).lt (h.2 q (List.mem_of_getElem? hk)))
/-- where a row reads: the own cells, or those that are read alone -/
def Src (D : va_G) (cl : List vw_C) (A : Nat → Prop) (s : State) (ws wx : va_W) : Prop := ∀ (H : Heap) (locs : List Loc), va_P D cl ws H → va_S A s.heap H locs → va_P D cl wx H
theorem srcW : Src D cl A s ws ws := fun _ _ h _ => h
theorem srcR {ro : va_W} (h : RO D cl A s ro) : Src D cl A s ws ro := fun _ _ _ hS => ro_P h hS
theorem g_get (X : BX p m c cc nL s args own meth) {wx : va_W} (hx : Src D cl A s ws wx) {ref C : String} {T : u_T} {N ci index a : Nat} {fs : List Value} {v : Value} (hin : ∀ w ∈ u_ws C T N, w ∈ GW) (hc : cl[ci]? = some (C, T, N)) (k : Nat) (hk : k < N) (hlink : Cond.fieldLink own index ref (T k).2.1 (T k).2.2.1 ∈ GW) (hr : (T k).1 = ref) (he : (a, Sum.inr (ci, fs)) ∈ wx) (hv : fs[k]? = some v) (hd : decode cc pc = .ok (.getfield index, 3))
    (kk : GL p l e R s m args below meth c Q D cl tys A nL ws cells slots (pc + 3) lv (v :: st)) : GL p l e R s m args below meth c Q D cl tys A nL ws cells slots pc lv (.ref a :: st) := by
  intro H locs ls hK hP hD hS hl
  obtain ⟨q0, h0⟩ := List.getElem?_of_mem he
  subst hr
  exact va_get X.1 X.2.1 (fun w h => X.w h) hin X.2.2.2.1 hK (hx H locs hP hS) q0 h0 hc k hk (X.w hlink) (fun _ h => h) hv hd (kk H locs ls hK hP hD hS hl)
theorem g_getN (X : BX p m c cc nL s args own meth) {wx : va_W} (hx : Src D cl A s ws wx) {ref C host : String} {T : u_T} {N ci index a : Nat} {fs : List Value} {v : Value} (hin : ∀ w ∈ u_ws C T N, w ∈ GW) (hc : cl[ci]? = some (C, T, N)) (k : Nat) (hk : k < N) (hlink : Cond.fieldLinkNest own index ref (T k).2.1 (T k).2.2.1 host ∈ NW) (hr : (T k).1 = ref) (he : (a, Sum.inr (ci, fs)) ∈ wx) (hv : fs[k]? = some v) (hd : decode cc pc = .ok (.getfield index, 3))
    (kk : GL p l e R s m args below meth c Q D cl tys A nL ws cells slots (pc + 3) lv (v :: st)) : GL p l e R s m args below meth c Q D cl tys A nL ws cells slots pc lv (.ref a :: st) := by
  intro H locs ls hK hP hD hS hl
  obtain ⟨q0, h0⟩ := List.getElem?_of_mem he
  subst hr
  exact va_getN X.1 X.2.1 (fun w h => X.w h) hin X.2.2.2.1 hK (hx H locs hP hS) q0 h0 hc k hk (va_Nw.use rfl (X.nw hlink)) (fun _ h => h) hv hd (kk H locs ls hK hP hD hS hl)
theorem g_put (X : BX p m c cc nL s args own meth) {ref C : String} {T : u_T} {N ci index a : Nat} {fs : List Value} {v : Value} {ty : FieldType} {ws' : va_W} (hin : ∀ w ∈ u_ws C T N, w ∈ GW) (ty0 : Nat → FieldType) (hty : ∀ k, k < N → parseFieldDescriptor (T k).2.2.1 = some (ty0 k)) (hnm : ∀ a, a < N → ∀ b, b < N → a ≠ b → (T a).2.1 ≠ (T b).2.1) (hc : cl[ci]? = some (C, T, N)) (k : Nat) (hk : k < N) (hlink : Cond.fieldLink own index ref (T k).2.1 (T k).2.2.1 ∈ GW) (hr : (T k).1 = ref) (hfin : (T k).2.2.2 = false) (hd2 : parseFieldDescriptor (T k).2.2.1 = some ty) (hn : narrow ty v = v) (hfit : fits ty v = true) (q0 : Nat) (he : ws[q0]? = some (a, Sum.inr (ci, fs))) (hl2 : k < fs.length) (hw : ws.set q0 (a, Sum.inr (ci, fs.set k v)) = ws') (hd : decode cc pc = .ok (.putfield index, 3))
    (kk : GL p l e R s m args below meth c Q D cl tys A nL ws' cells slots (pc + 3) lv st) : GL p l e R s m args below meth c Q D cl tys A nL ws cells slots pc lv (v :: .ref a :: st) := by
  intro H locs ls hK hP hD hS hl
  subst hr
  subst hw
  exact va_put X.1 X.2.1 (fun w h => X.w h) hin ty0 hty hnm X.2.2.2.1 hK hP hD hS q0 he hc k hk (X.w hlink) (fun _ h => h) hfin hd2 hn hfit hl2 hd (fun H1 locs1 hP1 hD1 hS1 => kk H1 locs1 ls hK hP1 hD1 hS1 hl)
theorem g_putN (X : BX p m c cc nL s args own meth) {ref C host : String} {T : u_T} {N ci index a : Nat} {fs : List Value} {v : Value} {ty : FieldType} {ws' : va_W} (hin : ∀ w ∈ u_ws C T N, w ∈ GW) (ty0 : Nat → FieldType) (hty : ∀ k, k < N → parseFieldDescriptor (T k).2.2.1 = some (ty0 k)) (hnm : ∀ a, a < N → ∀ b, b < N → a ≠ b → (T a).2.1 ≠ (T b).2.1) (hc : cl[ci]? = some (C, T, N)) (k : Nat) (hk : k < N) (hlink : Cond.fieldLinkNest own index ref (T k).2.1 (T k).2.2.1 host ∈ NW) (hr : (T k).1 = ref) (hfin : (T k).2.2.2 = false) (hd2 : parseFieldDescriptor (T k).2.2.1 = some ty) (hn : narrow ty v = v) (hfit : fits ty v = true) (q0 : Nat) (he : ws[q0]? = some (a, Sum.inr (ci, fs))) (hl2 : k < fs.length) (hw : ws.set q0 (a, Sum.inr (ci, fs.set k v)) = ws') (hd : decode cc pc = .ok (.putfield index, 3))
    (kk : GL p l e R s m args below meth c Q D cl tys A nL ws' cells slots (pc + 3) lv st) : GL p l e R s m args below meth c Q D cl tys A nL ws cells slots pc lv (v :: .ref a :: st) := by
  intro H locs ls hK hP hD hS hl
  subst hr
  subst hw
  exact va_putN X.1 X.2.1 (fun w h => X.w h) hin ty0 hty hnm X.2.2.2.1 hK hP hD hS q0 he hc k hk (va_Nw.use rfl (X.nw hlink)) (fun _ h => h) hfin hd2 hn hfit hl2 hd (fun H1 locs1 hP1 hD1 hS1 => kk H1 locs1 ls hK hP1 hD1 hS1 hl)
theorem g_putF (X : BX p m c cc nL s args own meth) {ref C : String} {T : u_T} {N ci index a : Nat} {fs : List Value} {v : Value} {ty : FieldType} {ws' : va_W} (hin : ∀ w ∈ u_ws C T N, w ∈ GW) (ty0 : Nat → FieldType) (hty : ∀ k, k < N → parseFieldDescriptor (T k).2.2.1 = some (ty0 k)) (hnm : ∀ a, a < N → ∀ b, b < N → a ≠ b → (T a).2.1 ≠ (T b).2.1) (hc : cl[ci]? = some (C, T, N)) (k : Nat) (hk : k < N) (hlink : Cond.fieldLink own index ref (T k).2.1 (T k).2.2.1 ∈ GW) (hr : (T k).1 = ref) (hfin : (T k).2.2.2 = true) (hin2 : meth.name = "<init>") (hdecl : (T k).1 = own) (hd2 : parseFieldDescriptor (T k).2.2.1 = some ty) (hn : narrow ty v = v) (hfit : fits ty v = true) (q0 : Nat) (he : ws[q0]? = some (a, Sum.inr (ci, fs))) (hl2 : k < fs.length) (hw : ws.set q0 (a, Sum.inr (ci, fs.set k v)) = ws') (hd : decode cc pc = .ok (.putfield index, 3))
    (kk : GL p l e R s m args below meth c Q D cl tys A nL ws' cells slots (pc + 3) lv st) : GL p l e R s m args below meth c Q D cl tys A nL ws cells slots pc lv (v :: .ref a :: st) := by
  intro H locs ls hK hP hD hS hl
  subst hr
  subst hw
  exact va_putF X.1 X.2.1 (fun w h => X.w h) hin ty0 hty hnm X.2.2.2.1 hK hP hD hS q0 he hc k hk (X.w hlink) (fun _ h => h) hfin hin2 hdecl hd2 hn hfit hl2 hd (fun H1 locs1 hP1 hD1 hS1 => kk H1 locs1 ls hK hP1 hD1 hS1 hl)
theorem g_iald (X : BX p m c cc nL s args own meth) {wx : va_W} (hx : Src D cl A s ws wx) {cA : ClassId} {n a : Nat} {f : Nat → Int32} (t0 : Nat) (ht : tys[t0]? = some (cA, .int)) (he : (a, Sum.inl (cA, n, .inl f)) ∈ wx) {i v : Int32} (j : Nat) (hi : i = nI j) (hj : j < n) (hn : n < 2 ^ 31) (hv : f j = v) (hd : decode cc pc = .ok (.iaload, 1))
    (kk : GL p l e R s m args below meth c Q D cl tys A nL ws cells slots (pc + 1) lv (.int v :: st)) : GL p l e R s m args below meth c Q D cl tys A nL ws cells slots pc lv (.int i :: .ref a :: st) := by
  intro H locs ls hK hP hD hS hl
  obtain ⟨q0, h0⟩ := List.getElem?_of_mem he
  subst hi
  have hz := va_iald (Q := Q) (R := R) (l := l) (e := e) (below := below) (args := args) (meth := meth) (cells := cells) (slots := slots) (ls := ls) (rest := st) (m := m) (locs := locs) X.1 X.2.1 hK (hx H locs hP hS) q0 t0 h0 ht (vp_in_nI hj hn) hd
  rw [nI_clamp (by omega), hv] at hz
  exact hz (kk H locs ls hK hP hD hS hl)
theorem g_iast (X : BX p m c cc nL s args own meth) {cA : ClassId} {n a : Nat} {f : Nat → Int32} {ws' : va_W} (t0 : Nat) (ht : tys[t0]? = some (cA, .int)) (q0 : Nat) (he : ws[q0]? = some (a, Sum.inl (cA, n, .inl f))) {i x : Int32} (j : Nat) (hi : i = nI j) (hj : j < n) (hn : n < 2 ^ 31) (hw : ws.set q0 (a, Sum.inl (cA, n, .inl (upd f j x))) = ws') (hd : decode cc pc = .ok (.iastore, 1))
    (kk : GL p l e R s m args below meth c Q D cl tys A nL ws' cells slots (pc + 1) lv st) : GL p l e R s m args below meth c Q D cl tys A nL ws cells slots pc lv (.int x :: .int i :: .ref a :: st) := by
  intro H locs ls hK hP hD hS hl
  subst hi
  have hz := va_iast (Q := Q) (R := R) (l := l) (e := e) (below := below) (args := args) (meth := meth) (cells := cells) (slots := slots) (ls := ls) (rest := st) (x := x) (m := m) (locs := locs) X.1 X.2.1 hK hP hD hS q0 t0 he ht (vp_in_nI hj hn) hd
  rw [nI_clamp (by omega), hw] at hz
  exact hz (fun H1 locs1 hP1 hD1 hS1 => kk H1 locs1 ls hK hP1 hD1 hS1 hl)
theorem g_alen (X : BX p m c cc nL s args own meth) {wx : va_W} (hx : Src D cl A s ws wx) {cA : ClassId} {a : Nat} {x : vp_A} {ty : FieldType} (t0 : Nat) (ht : tys[t0]? = some (cA, ty)) (he : (a, Sum.inl (cA, x)) ∈ wx) {v : Int32} (hv : Int32.ofNat x.1 = v) (hd : decode cc pc = .ok (.arraylength, 1))
    (kk : GL p l e R s m args below meth c Q D cl tys A nL ws cells slots (pc + 1) lv (.int v :: st)) : GL p l e R s m args below meth c Q D cl tys A nL ws cells slots pc lv (.ref a :: st) := by
  intro H locs ls hK hP hD hS hl
  obtain ⟨q0, h0⟩ := List.getElem?_of_mem he
  exact va_alen X.1 X.2.1 hK (hx H locs hP hS) q0 t0 h0 ht hv hd (kk H locs ls hK hP hD hS hl)
theorem g_aald (X : BX p m c cc nL s args own meth) {wx : va_W} (hx : Src D cl A s ws wx) {cA : ClassId} {C : String} {n a b : Nat} {f : Nat → Option Nat} (t0 : Nat) (ht : tys[t0]? = some (cA, .object C)) (he : (a, Sum.inl (cA, n, .inr (.inr (.inr (.inr f))))) ∈ wx) {i : Int32} (j : Nat) (hi : i = nI j) (hj : j < n) (hn : n < 2 ^ 31) (hv : f j = some b) (hd : decode cc pc = .ok (.aaload, 1))
    (kk : GL p l e R s m args below meth c Q D cl tys A nL ws cells slots (pc + 1) lv (.ref b :: st)) : GL p l e R s m args below meth c Q D cl tys A nL ws cells slots pc lv (.int i :: .ref a :: st) := by
  intro H locs ls hK hP hD hS hl
  obtain ⟨q0, h0⟩ := List.getElem?_of_mem he
  subst hi
  have hz := va_aldq (Q := Q) (R := R) (l := l) (e := e) (below := below) (args := args) (meth := meth) (cells := cells) (slots := slots) (ls := ls) (rest := st) (m := m) (locs := locs) X.1 X.2.1 hK (hx H locs hP hS) q0 t0 h0 ht (vp_in_nI hj hn) hd
  rw [nI_clamp (by omega), hv] at hz
  exact hz (kk H locs ls hK hP hD hS hl)
theorem g_gets (X : BX p m c cc nL s args own meth) {C n d : String} {v : Value} {index : Nat} (hZ : va_Z C n d v A s s.heap) (hlink : Cond.fieldLink own index C n d ∈ GW) (hd : decode cc pc = .ok (.getstatic index, 3))
    (kk : GL p l e R s m args below meth c Q D cl tys A nL ws cells slots (pc + 3) lv (v :: st)) : GL p l e R s m args below meth c Q D cl tys A nL ws cells slots pc lv st := by
  intro H locs ls hK hP hD hS hl
  exact va_gets X.1 X.2.1 hZ hS X.2.2.2.1 (X.w hlink) (fun _ h => h) hd (kk H locs ls hK hP hD hS hl)
theorem g_ti (X : BX p m c cc nL s args own meth) {t N : Nat} {f : Nat → Value} (hT : va_T .int t N f A s s.heap) {i : Int32} {v : Value} (j : Nat) (hi : i = nI j) (hj : j < N) (hn : N < 2 ^ 31) (hv : f j = v) (hd : decode cc pc = .ok (.iaload, 1))
    (kk : GL p l e R s m args below meth c Q D cl tys A nL ws cells slots (pc + 1) lv (v :: st)) : GL p l e R s m args below meth c Q D cl tys A nL ws cells slots pc lv (.int i :: .ref t :: st) := by
  intro H locs ls hK hP hD hS hl
  subst hi
  exact va_ti X.1 X.2.1 hT hS (vp_in_nI hj hn) (by rw [nI_clamp (by omega)]; exact hv) hd (kk H locs ls hK hP hD hS hl)
theorem g_ldc (X : BX p m c cc nL s args own meth) {index : Nat} {v : Int32} (hc : Cond.constant own index v ∈ GW) (hd : decode cc pc = .ok (.ldc index, 2))
    (kk : GL p l e R s m args below meth c Q D cl tys A nL ws cells slots (pc + 2) lv (.int v :: st)) : GL p l e R s m args below meth c Q D cl tys A nL ws cells slots pc lv st := by
  intro H locs ls hK hP hD hS hl
  exact lv_ldc X.1 X.2.1 X.2.2.2.1 (X.w hc) hd (kk H locs ls hK hP hD hS hl)
theorem g_ldcw (X : BX p m c cc nL s args own meth) {index : Nat} {v : Int32} (hc : Cond.constant own index v ∈ GW) (hd : decode cc pc = .ok (.ldc_w index, 3))
    (kk : GL p l e R s m args below meth c Q D cl tys A nL ws cells slots (pc + 3) lv (.int v :: st)) : GL p l e R s m args below meth c Q D cl tys A nL ws cells slots pc lv st := by
  intro H locs ls hK hP hD hS hl
  exact lv_ldcw X.1 X.2.1 X.2.2.2.1 (X.w hc) hd (kk H locs ls hK hP hD hS hl)
theorem g_ldc2 (X : BX p m c cc nL s args own meth) {index : Nat} {v : Int64} (hc : Cond.constantLong own index v ∈ GW) (hd : decode cc pc = .ok (.ldc2_w index, 3))
    (kk : GL p l e R s m args below meth c Q D cl tys A nL ws cells slots (pc + 3) lv (.long v :: st)) : GL p l e R s m args below meth c Q D cl tys A nL ws cells slots pc lv st := by
  intro H locs ls hK hP hD hS hl
  exact lv_ldc2 X.1 X.2.1 X.2.2.2.1 (X.w hc) hd (kk H locs ls hK hP hD hS hl)
theorem g_ldc2d (X : BX p m c cc nL s args own meth) {index : Nat} {v : UInt64} (hc : Cond.constantDouble own index v ∈ GW) (hd : decode cc pc = .ok (.ldc2_w index, 3))
    (kk : GL p l e R s m args below meth c Q D cl tys A nL ws cells slots (pc + 3) lv (.double v :: st)) : GL p l e R s m args below meth c Q D cl tys A nL ws cells slots pc lv st := by
  intro H locs ls hK hP hD hS hl
  exact lv_ldc2d X.1 X.2.1 X.2.2.2.1 (X.w hc) hd (kk H locs ls hK hP hD hS hl)
theorem g_icmp_eq (X : BX p m c cc nL s args own meth) {x y : Int32} {off : Int} (tgt : Nat) (hd : decode cc pc = .ok (.if_icmp .eq off, 3)) (ht : (pc : Int) + off = (tgt : Int))
    (kt : x = y → GL p l e R s m args below meth c Q D cl tys A nL ws cells slots tgt lv st) (kf : ¬ x = y → GL p l e R s m args below meth c Q D cl tys A nL ws cells slots (pc + 3) lv st) : GL p l e R s m args below meth c Q D cl tys A nL ws cells slots pc lv (.int y :: .int x :: st) := by
  intro H locs ls hK hP hD hS hl
  exact lv_icmp_eq X.1 X.2.1 hd ht (fun h => kt h H locs ls hK hP hD hS hl) (fun h => kf h H locs ls hK hP hD hS hl)
theorem g_if_eq (X : BX p m c cc nL s args own meth) {x : Int32} {off : Int} (tgt : Nat) (hd : decode cc pc = .ok (.ifCond .eq off, 3)) (ht : (pc : Int) + off = (tgt : Int))
    (kt : x = 0 → GL p l e R s m args below meth c Q D cl tys A nL ws cells slots tgt lv st) (kf : ¬ x = 0 → GL p l e R s m args below meth c Q D cl tys A nL ws cells slots (pc + 3) lv st) : GL p l e R s m args below meth c Q D cl tys A nL ws cells slots pc lv (.int x :: st) := by
  intro H locs ls hK hP hD hS hl
  exact lv_if_eq X.1 X.2.1 hd ht (fun h => kt h H locs ls hK hP hD hS hl) (fun h => kf h H locs ls hK hP hD hS hl)
theorem g_icmp_ne (X : BX p m c cc nL s args own meth) {x y : Int32} {off : Int} (tgt : Nat) (hd : decode cc pc = .ok (.if_icmp .ne off, 3)) (ht : (pc : Int) + off = (tgt : Int))
    (kt : ¬ x = y → GL p l e R s m args below meth c Q D cl tys A nL ws cells slots tgt lv st) (kf : x = y → GL p l e R s m args below meth c Q D cl tys A nL ws cells slots (pc + 3) lv st) : GL p l e R s m args below meth c Q D cl tys A nL ws cells slots pc lv (.int y :: .int x :: st) := by
  intro H locs ls hK hP hD hS hl
  exact lv_icmp_ne X.1 X.2.1 hd ht (fun h => kt h H locs ls hK hP hD hS hl) (fun h => kf h H locs ls hK hP hD hS hl)
theorem g_if_ne (X : BX p m c cc nL s args own meth) {x : Int32} {off : Int} (tgt : Nat) (hd : decode cc pc = .ok (.ifCond .ne off, 3)) (ht : (pc : Int) + off = (tgt : Int))
    (kt : ¬ x = 0 → GL p l e R s m args below meth c Q D cl tys A nL ws cells slots tgt lv st) (kf : x = 0 → GL p l e R s m args below meth c Q D cl tys A nL ws cells slots (pc + 3) lv st) : GL p l e R s m args below meth c Q D cl tys A nL ws cells slots pc lv (.int x :: st) := by
  intro H locs ls hK hP hD hS hl
  exact lv_if_ne X.1 X.2.1 hd ht (fun h => kt h H locs ls hK hP hD hS hl) (fun h => kf h H locs ls hK hP hD hS hl)
theorem g_icmp_lt (X : BX p m c cc nL s args own meth) {x y : Int32} {off : Int} (tgt : Nat) (hd : decode cc pc = .ok (.if_icmp .lt off, 3)) (ht : (pc : Int) + off = (tgt : Int))
    (kt : x < y → GL p l e R s m args below meth c Q D cl tys A nL ws cells slots tgt lv st) (kf : ¬ x < y → GL p l e R s m args below meth c Q D cl tys A nL ws cells slots (pc + 3) lv st) : GL p l e R s m args below meth c Q D cl tys A nL ws cells slots pc lv (.int y :: .int x :: st) := by
  intro H locs ls hK hP hD hS hl
  exact lv_icmp_lt X.1 X.2.1 hd ht (fun h => kt h H locs ls hK hP hD hS hl) (fun h => kf h H locs ls hK hP hD hS hl)
theorem g_if_lt (X : BX p m c cc nL s args own meth) {x : Int32} {off : Int} (tgt : Nat) (hd : decode cc pc = .ok (.ifCond .lt off, 3)) (ht : (pc : Int) + off = (tgt : Int))
    (kt : x < 0 → GL p l e R s m args below meth c Q D cl tys A nL ws cells slots tgt lv st) (kf : ¬ x < 0 → GL p l e R s m args below meth c Q D cl tys A nL ws cells slots (pc + 3) lv st) : GL p l e R s m args below meth c Q D cl tys A nL ws cells slots pc lv (.int x :: st) := by
  intro H locs ls hK hP hD hS hl
  exact lv_if_lt X.1 X.2.1 hd ht (fun h => kt h H locs ls hK hP hD hS hl) (fun h => kf h H locs ls hK hP hD hS hl)
theorem g_icmp_ge (X : BX p m c cc nL s args own meth) {x y : Int32} {off : Int} (tgt : Nat) (hd : decode cc pc = .ok (.if_icmp .ge off, 3)) (ht : (pc : Int) + off = (tgt : Int))
    (kt : y ≤ x → GL p l e R s m args below meth c Q D cl tys A nL ws cells slots tgt lv st) (kf : ¬ y ≤ x → GL p l e R s m args below meth c Q D cl tys A nL ws cells slots (pc + 3) lv st) : GL p l e R s m args below meth c Q D cl tys A nL ws cells slots pc lv (.int y :: .int x :: st) := by
  intro H locs ls hK hP hD hS hl
  exact lv_icmp_ge X.1 X.2.1 hd ht (fun h => kt h H locs ls hK hP hD hS hl) (fun h => kf h H locs ls hK hP hD hS hl)
theorem g_if_ge (X : BX p m c cc nL s args own meth) {x : Int32} {off : Int} (tgt : Nat) (hd : decode cc pc = .ok (.ifCond .ge off, 3)) (ht : (pc : Int) + off = (tgt : Int))
    (kt : 0 ≤ x → GL p l e R s m args below meth c Q D cl tys A nL ws cells slots tgt lv st) (kf : ¬ 0 ≤ x → GL p l e R s m args below meth c Q D cl tys A nL ws cells slots (pc + 3) lv st) : GL p l e R s m args below meth c Q D cl tys A nL ws cells slots pc lv (.int x :: st) := by
  intro H locs ls hK hP hD hS hl
  exact lv_if_ge X.1 X.2.1 hd ht (fun h => kt h H locs ls hK hP hD hS hl) (fun h => kf h H locs ls hK hP hD hS hl)
theorem g_icmp_gt (X : BX p m c cc nL s args own meth) {x y : Int32} {off : Int} (tgt : Nat) (hd : decode cc pc = .ok (.if_icmp .gt off, 3)) (ht : (pc : Int) + off = (tgt : Int))
    (kt : y < x → GL p l e R s m args below meth c Q D cl tys A nL ws cells slots tgt lv st) (kf : ¬ y < x → GL p l e R s m args below meth c Q D cl tys A nL ws cells slots (pc + 3) lv st) : GL p l e R s m args below meth c Q D cl tys A nL ws cells slots pc lv (.int y :: .int x :: st) := by
  intro H locs ls hK hP hD hS hl
  exact lv_icmp_gt X.1 X.2.1 hd ht (fun h => kt h H locs ls hK hP hD hS hl) (fun h => kf h H locs ls hK hP hD hS hl)
theorem g_if_gt (X : BX p m c cc nL s args own meth) {x : Int32} {off : Int} (tgt : Nat) (hd : decode cc pc = .ok (.ifCond .gt off, 3)) (ht : (pc : Int) + off = (tgt : Int))
    (kt : 0 < x → GL p l e R s m args below meth c Q D cl tys A nL ws cells slots tgt lv st) (kf : ¬ 0 < x → GL p l e R s m args below meth c Q D cl tys A nL ws cells slots (pc + 3) lv st) : GL p l e R s m args below meth c Q D cl tys A nL ws cells slots pc lv (.int x :: st) := by
  intro H locs ls hK hP hD hS hl
  exact lv_if_gt X.1 X.2.1 hd ht (fun h => kt h H locs ls hK hP hD hS hl) (fun h => kf h H locs ls hK hP hD hS hl)
theorem g_icmp_le (X : BX p m c cc nL s args own meth) {x y : Int32} {off : Int} (tgt : Nat) (hd : decode cc pc = .ok (.if_icmp .le off, 3)) (ht : (pc : Int) + off = (tgt : Int))
    (kt : x ≤ y → GL p l e R s m args below meth c Q D cl tys A nL ws cells slots tgt lv st) (kf : ¬ x ≤ y → GL p l e R s m args below meth c Q D cl tys A nL ws cells slots (pc + 3) lv st) : GL p l e R s m args below meth c Q D cl tys A nL ws cells slots pc lv (.int y :: .int x :: st) := by
  intro H locs ls hK hP hD hS hl
  exact lv_icmp_le X.1 X.2.1 hd ht (fun h => kt h H locs ls hK hP hD hS hl) (fun h => kf h H locs ls hK hP hD hS hl)
theorem g_if_le (X : BX p m c cc nL s args own meth) {x : Int32} {off : Int} (tgt : Nat) (hd : decode cc pc = .ok (.ifCond .le off, 3)) (ht : (pc : Int) + off = (tgt : Int))
    (kt : x ≤ 0 → GL p l e R s m args below meth c Q D cl tys A nL ws cells slots tgt lv st) (kf : ¬ x ≤ 0 → GL p l e R s m args below meth c Q D cl tys A nL ws cells slots (pc + 3) lv st) : GL p l e R s m args below meth c Q D cl tys A nL ws cells slots pc lv (.int x :: st) := by
  intro H locs ls hK hP hD hS hl
  exact lv_if_le X.1 X.2.1 hd ht (fun h => kt h H locs ls hK hP hD hS hl) (fun h => kf h H locs ls hK hP hD hS hl)
theorem g_swIn (X : BX p m c cc nL s args own meth) {dflt lo hi : Int} {offs : Array Int} {len : Nat} {x : Int32} {off : Int} (tgt : Nat) (hd : decode cc pc = .ok (.tableswitch dflt lo hi offs, len)) (h1 : ¬ x.toInt < lo) (h2 : ¬ hi < x.toInt) (ho : offs[(x.toInt - lo).toNat]? = some off) (ht : (pc : Int) + off = (tgt : Int))
    (kk : GL p l e R s m args below meth c Q D cl tys A nL ws cells slots tgt lv st) : GL p l e R s m args below meth c Q D cl tys A nL ws cells slots pc lv (.int x :: st) := by
  intro H locs ls hK hP hD hS hl
  exact lv_tableIn X.1 X.2.1 hd h1 h2 ho ht (kk H locs ls hK hP hD hS hl)
theorem g_swOut (X : BX p m c cc nL s args own meth) {dflt lo hi : Int} {offs : Array Int} {len : Nat} {x : Int32} (tgt : Nat) (hd : decode cc pc = .ok (.tableswitch dflt lo hi offs, len)) (h : x.toInt < lo ∨ hi < x.toInt) (ht : (pc : Int) + dflt = (tgt : Int))
    (kk : GL p l e R s m args below meth c Q D cl tys A nL ws cells slots tgt lv st) : GL p l e R s m args below meth c Q D cl tys A nL ws cells slots pc lv (.int x :: st) := by
  intro H locs ls hK hP hD hS hl
  exact lv_tableOut X.1 X.2.1 hd h ht (kk H locs ls hK hP hD hS hl)
theorem g_ifnull (X : BX p m c cc nL s args own meth) {x : Nat} {off : Int} (hd : decode cc pc = .ok (.ifnull off, 3))
    (kk : GL p l e R s m args below meth c Q D cl tys A nL ws cells slots (pc + 3) lv st) : GL p l e R s m args below meth c Q D cl tys A nL ws cells slots pc lv (.ref x :: st) := by
  intro H locs ls hK hP hD hS hl
  exact lv_ifnull X.1 X.2.1 hd (kk H locs ls hK hP hD hS hl)
theorem g_ifnullN (X : BX p m c cc nL s args own meth) {off : Int} (tgt : Nat) (hd : decode cc pc = .ok (.ifnull off, 3)) (ht : (pc : Int) + off = (tgt : Int))
    (kk : GL p l e R s m args below meth c Q D cl tys A nL ws cells slots tgt lv st) : GL p l e R s m args below meth c Q D cl tys A nL ws cells slots pc lv (.null :: st) := by
  intro H locs ls hK hP hD hS hl
  exact lv_ifnullN X.1 X.2.1 hd ht (kk H locs ls hK hP hD hS hl)
theorem g_irem (X : BX p m c cc nL s args own meth) {x y v : Int32} (hne : ¬ y = 0) (hv : x - x / y * y = v) (hd : decode cc pc = .ok (.irem, 1))
    (kk : GL p l e R s m args below meth c Q D cl tys A nL ws cells slots (pc + 1) lv (.int v :: st)) : GL p l e R s m args below meth c Q D cl tys A nL ws cells slots pc lv (.int y :: .int x :: st) := by
  subst hv
  intro H locs ls hK hP hD hS hl
  exact lv_irem X.1 X.2.1 hd hne (kk H locs ls hK hP hD hS hl)
theorem g_idiv (X : BX p m c cc nL s args own meth) {x y v : Int32} (hne : ¬ y = 0) (hv : x / y = v) (hd : decode cc pc = .ok (.idiv, 1))
    (kk : GL p l e R s m args below meth c Q D cl tys A nL ws cells slots (pc + 1) lv (.int v :: st)) : GL p l e R s m args below meth c Q D cl tys A nL ws cells slots pc lv (.int y :: .int x :: st) := by
  subst hv
  intro H locs ls hK hP hD hS hl
  exact lv_idiv X.1 X.2.1 hd hne (kk H locs ls hK hP hD hS hl)
theorem g_ws {ws' : va_W} (h : ws' = ws) (kk : GL p l e R s m args below meth c Q D cl tys A nL ws' cells slots pc lv st) : GL p l e R s m args below meth c Q D cl tys A nL ws cells slots pc lv st := by subst h; exact kk
theorem g_st {st' : List Value} (h : st' = st) (kk : GL p l e R s m args below meth c Q D cl tys A nL ws cells slots pc lv st') : GL p l e R s m args below meth c Q D cl tys A nL ws cells slots pc lv st := by subst h; exact kk
theorem g_lv {lv' : List (Nat × Value)} (h : ∀ q ∈ lv', q ∈ lv) (kk : GL p l e R s m args below meth c Q D cl tys A nL ws cells slots pc lv' st) : GL p l e R s m args below meth c Q D cl tys A nL ws cells slots pc lv st := fun H locs ls hK hP hD hS hl => kk H locs ls hK hP hD hS ⟨hl.1, hl.2.1, fun q hq => hl.2.2 q (h q hq)⟩
theorem g_drop {wj ws' : va_W} (h : ws = ws' ++ wj) (kk : GL p l e R s m args below meth c Q D cl tys A nL ws' cells slots pc lv st) : GL p l e R s m args below meth c Q D cl tys A nL ws cells slots pc lv st := by subst h; exact fun H locs ls hK hP hD hS hl => kk H locs ls hK (P_left hP) (D_left hD) hS hl
theorem g_widen {k n : Nat} (h1 : cells ≤ k) (h2 : slots ≤ n) (kk : GL p l e R s m args below meth c Q D cl tys A nL ws k n pc lv st) : GL p l e R s m args below meth c Q D cl tys A nL ws cells slots pc lv st := fun H locs ls hK hP hD hS hl => W.widen h1 h2 (kk H locs ls hK hP hD hS hl)
theorem g_iret {S : Type} {r : S → Option Value} {w : S → va_W} {post : S → Prop} {mc ms : Nat} {wj : va_W} (X : BX p m c cc nL s args own meth) (hr : meth.sig.returnType = some .int) {v : Int32} (u : S) (hv : r u = some (.int v)) (hp : post u) (hw : ws = w u ++ wj) (hc : cells ≤ mc) (hs : slots ≤ ms) (hd : decode cc pc = .ok (.ireturn, 1)) : GL p l e R s m args below meth c (MQ below (QX D cl A r w post) args s mc ms A) D cl tys A nL ws cells slots pc lv [.int v] := by
  intro H locs ls hK hP hD hS hl
  subst hw
  refine W.widen hc hs ?_
  exact W.iret X.1 X.2.1 hr (fun t ht hW => ⟨u, by rw [hv], hp, by rw [ht]; exact P_left hP, D_left hD, hS.F ht⟩) hS.2.2 hd X.2.2.2.2.2.1
theorem g_lret {S : Type} {r : S → Option Value} {w : S → va_W} {post : S → Prop} {mc ms : Nat} {wj : va_W} (X : BX p m c cc nL s args own meth) (hr : meth.sig.returnType = some .long) {v : Int64} (u : S) (hv : r u = some (.long v)) (hp : post u) (hw : ws = w u ++ wj) (hc : cells ≤ mc) (hs : slots ≤ ms) (hd : decode cc pc = .ok (.lreturn, 1)) : GL p l e R s m args below meth c (MQ below (QX D cl A r w post) args s mc ms A) D cl tys A nL ws cells slots pc lv [.long v] := by
  intro H locs ls hK hP hD hS hl
  subst hw
  refine W.widen hc hs ?_
  exact W.lret X.1 X.2.1 hr (fun t ht hW => ⟨u, by rw [hv], hp, by rw [ht]; exact P_left hP, D_left hD, hS.F ht⟩) hS.2.2 hd X.2.2.2.2.2.1
theorem g_dret {S : Type} {r : S → Option Value} {w : S → va_W} {post : S → Prop} {mc ms : Nat} {wj : va_W} (X : BX p m c cc nL s args own meth) (hr : meth.sig.returnType = some .double) {v : UInt64} (u : S) (hv : r u = some (.double v)) (hp : post u) (hw : ws = w u ++ wj) (hc : cells ≤ mc) (hs : slots ≤ ms) (hd : decode cc pc = .ok (.dreturn, 1)) : GL p l e R s m args below meth c (MQ below (QX D cl A r w post) args s mc ms A) D cl tys A nL ws cells slots pc lv [.double v] := by
  intro H locs ls hK hP hD hS hl
  subst hw
  refine W.widen hc hs ?_
  exact W.dret X.1 X.2.1 hr (fun t ht hW => ⟨u, by rw [hv], hp, by rw [ht]; exact P_left hP, D_left hD, hS.F ht⟩) hS.2.2 hd X.2.2.2.2.2.1
theorem g_zret {S : Type} {r : S → Option Value} {w : S → va_W} {post : S → Prop} {mc ms : Nat} {wj : va_W} (X : BX p m c cc nL s args own meth) {ty : FieldType} (hr : meth.sig.returnType = some ty) {v : Int32} (hn : narrow ty (.int v) = .int v) (u : S) (hv : r u = some (.int v)) (hp : post u) (hw : ws = w u ++ wj) (hc : cells ≤ mc) (hs : slots ≤ ms) (hd : decode cc pc = .ok (.ireturn, 1)) : GL p l e R s m args below meth c (MQ below (QX D cl A r w post) args s mc ms A) D cl tys A nL ws cells slots pc lv [.int v] := by
  intro H locs ls hK hP hD hS hl
  subst hw
  refine W.widen hc hs ?_
  exact W.zret X.1 X.2.1 hr hn (fun t ht hW => ⟨u, by rw [hv], hp, by rw [ht]; exact P_left hP, D_left hD, hS.F ht⟩) hS.2.2 hd X.2.2.2.2.2.1
theorem g_vret {S : Type} {r : S → Option Value} {w : S → va_W} {post : S → Prop} {mc ms : Nat} {wj : va_W} (X : BX p m c cc nL s args own meth) (hr : meth.sig.returnType = none) (u : S) (hv : r u = none) (hp : post u) (hw : ws = w u ++ wj) (hc : cells ≤ mc) (hs : slots ≤ ms) (hd : decode cc pc = .ok (.return_, 1)) : GL p l e R s m args below meth c (MQ below (QX D cl A r w post) args s mc ms A) D cl tys A nL ws cells slots pc lv [] := by
  intro H locs ls hK hP hD hS hl
  subst hw
  refine W.widen hc hs ?_
  exact W.vret X.1 X.2.1 hr (fun t ht hW => ⟨u, by rw [hv], hp, by rw [ht]; exact P_left hP, D_left hD, hS.F ht⟩) hS.2.2 hd X.2.2.2.2.2.1
theorem g_aret {S : Type} {r : S → Option Value} {w : S → va_W} {post : S → Prop} {mc ms : Nat} {wj : va_W} (X : BX p m c cc nL s args own meth) {rt : FieldType} (hr : meth.sig.returnType = some rt) (hrt : (∃ n, rt = .object n) ∨ ∃ t, rt = .array t) {v : Value} (hva : v = .null ∨ ∃ a, v = .ref a) (u : S) (hv : r u = some v) (hp : post u) (hw : ws = w u ++ wj) (hc : cells ≤ mc) (hs : slots ≤ ms) (hd : decode cc pc = .ok (.areturn, 1)) : GL p l e R s m args below meth c (MQ below (QX D cl A r w post) args s mc ms A) D cl tys A nL ws cells slots pc lv [v] := by
  intro H locs ls hK hP hD hS hl
  subst hw
  refine W.widen hc hs ?_
  exact W.aret X.1 X.2.1 hr hrt hva (fun t ht hW => ⟨u, by rw [hv], hp, by rw [ht]; exact P_left hP, D_left hD, hS.F ht⟩) hS.2.2 hd X.2.2.2.2.2.1
end GLS
/-- a contract out of its body -/
theorem ct_of {S : Type} {l : Launch} {y : MethodName} {b : ByteArray} {nL : Nat} {ret : Option FieldType} {rm : Room} {av : List Value} {D : va_G} {cl : List vw_C} {tys : List (ClassId × FieldType)} {ro wc : va_W} {r : S → Option Value} {w : S → va_W} {post : S → Prop} {mc ms : Nat}
    (hy : plainName y.cls = true) (hav : (lg_sl av).length ≤ nL)
    (body : ∀ (p : Program) (e : Env) (s : State) (m : MethodId) (below : List Frame) (meth : Method) (c : Code) (A : Nat → Prop), BX p m c b nL s av.toArray y.cls meth → meth.sig.returnType = ret → meth.name = y.name → SB A s s.heap → RO D cl A s ro → (∀ q : Nat, s.heap.size ≤ q → A q) →
      GL p l e rm s m av.toArray below meth c (MQ below (QX D cl A r w post) av.toArray s mc ms A) D cl tys A nL wc 0 0 0 (lv_args 0 av) []) : CT l y b nL ret rm av D cl tys ro wc r w post mc ms := by
  intro sz
  refine Met.ofW (cc := b) (maxL := nL) (ret := ret) hy rfl ?_
  intro p e s m args below meth c s₁ B hml hv
  obtain ⟨rfl, hsz, hR, hP, hD, hne, hK, hSB⟩ := hv
  have hts := atoms_spec (ws := WG y b nL ret) B.pre
  have hown : s.vm.findClass y.cls = some m.cls := findClass_of_methodNamed B.named
  have hA : ∀ q : Nat, s.heap.size ≤ q → va_A wc sz q := fun q h => by rw [← hsz]; exact Or.inr h
  have hRO : RO D cl (va_A wc sz) s ro := by
    refine ⟨hR, fun x hx h => ?_⟩
    rcases h with ⟨k, e2, h⟩ | h
    · exact hne x hx _ (List.mem_of_getElem? h) rfl
    · have := (mem_at hR hx).lt
      omega
  have hl := lv_entry av (n := nL) hav
  rw [lg_entry_eq]
  exact body p e s m below meth c (va_A wc sz) ⟨B.exec, B.bytes, hml, hown, fun w hw => hts w (List.mem_cons_of_mem _ hw), B.notSynchronized, hSB.1⟩ B.returns (name_of_methodNamed B.named B.method).1 hSB hRO hA s.heap [] _ hK hP hD va_S.rf hl
section GLS
variable {p : Program} {l : Launch} {e : Env} {R : Room} {s : State} {m : MethodId} {args : Array Value} {below : List Frame} {meth : Method} {c : Code} {Q : State → Prop} {D : va_G} {cl : List vw_C} {tys : List (ClassId × FieldType)} {A : Nat → Prop} {nL : Nat} {ws : va_W} {cells slots : Nat} {cc : ByteArray} {own : String} {pc : Nat} {lv : List (Nat × Value)} {st : List Value}

theorem g_goes (hAf : ∀ q : Nat, s.heap.size ≤ q → A q) {S : Type} {wc wr : va_W} {r : S → Option Value} {w : S → va_W} {post : S → Prop} {mc ms : Nat} {As : Array Value} {st0 : List Value} (hw : ws = wc ++ wr)
    (hrun : ∀ (H : Heap) (locs : List Loc) (ls : Array Slot), va_K D cl tys s → va_P D cl ws H → va_D A ws → va_S A s.heap H locs → lv_has ls nL lv → va_Run p l e R s m args below meth c H locs cells slots mc ms (F0 m pc ls st0) st (QX D cl (va_A wc H.size) r w post As) (va_A wc H.size))
    (kk : ∀ u : S, post u → GL p l e R s m args below meth c Q D cl tys A nL (w u ++ wr) (cells + mc) (slots + ms) (pc + 3) lv ((r u).toList ++ st)) : GL p l e R s m args below meth c Q D cl tys A nL ws cells slots pc lv st0 := by
  intro H locs ls hK hP hD hS hl
  intro T hT X'
  obtain ⟨v, st₀, t, T', L, h0, X2, hL, e1, e2, ⟨u, hv, hp, hPu, hDu, hz, hk⟩, stp⟩ := hrun H locs ls hK hP hD hS hl T hT X'
  cases hv
  subst hw
  rw [h0] at hz hk
  have hsub : ∀ q : Nat, va_A wc H.size q → A q := by
    intro q h
    rcases h with ⟨k, e3, h⟩ | h
    · exact D_mem hD (List.mem_append_left _ (List.mem_of_getElem? h))
    · exact hAf q (Nat.le_trans hS.1 h)
  have hrest : ∀ x ∈ wr, ¬ va_A wc H.size x.1 := by
    intro x hx h
    rcases h with ⟨k, e3, h⟩ | h
    · exact D_ne hD (List.mem_of_getElem? h) hx rfl
    · have := (mem_at hP (List.mem_append_right _ hx)).lt
      omega
  have hPr : va_P D cl wr T'.heap := P_of fun x hx => (mem_at hP (List.mem_append_right _ hx)).kept (by rw [e1]; exact hk x.1 (mem_at hP (List.mem_append_right _ hx)).lt (hrest x hx))
  have hDn : va_D A (w u ++ wr) := D_app ⟨hDu.1, fun k q hq => hsub _ (hDu.2 k q hq)⟩ (D_right hD) (fun x hx y hy e3 => hrest y hy (by rw [← e3]; exact D_mem hDu hx))
  have hSn : va_S A s.heap T'.heap (locs ++ L) := by
    refine ⟨Nat.le_trans hS.1 (by rw [e1]; exact hz), fun q h1 h2 => ?_, fun q hq => ?_⟩
    · rw [e1, hk q (Nat.lt_of_lt_of_le h1 hS.1) (fun z => h2 (hsub q z))]
      exact hS.2.1 q h1 h2
    · rcases List.mem_append.mp hq with h | h
      · exact hS.2.2 q h
      · exact hsub _ (hL q h)
  obtain ⟨t2, a1, b1⟩ := kk u hp T'.heap (locs ++ L) ls hK (va_P.app (by rw [e1]; exact hPu) hPr) hDn hSn hl T' rfl X2
  exact ⟨t2, stp t2 a1, b1⟩
/-- what a callee's start wants, at a caller's heap -/
theorem px_at (hSB : SB A s s.heap) (hAf : ∀ q : Nat, s.heap.size ≤ q → A q) {ro wc wr : va_W} (hw : ws = wc ++ wr) (hro : Src D cl A s ws ro) (hrd : va_D A ws → ∀ x ∈ ro, ∀ y ∈ wc, x.1 ≠ y.1) {H : Heap} {locs : List Loc} (hK : va_K D cl tys s) (hP : va_P D cl ws H) (hD : va_D A ws) (hS : va_S A s.heap H locs) :
    ∀ U : State, U.heap = H → s.WarmedH U.vm → PX D cl tys ro wc H.size U := by
  intro U hU hW
  have hsub : ∀ q : Nat, va_A wc H.size q → A q := by
    intro q h
    rcases h with ⟨k, e3, h⟩ | h
    · exact D_mem hD (by rw [hw]; exact List.mem_append_left _ (List.mem_of_getElem? h))
    · exact hAf q (Nat.le_trans hS.1 h)
  refine ⟨by rw [hU], by rw [hU]; exact hro H locs hP hS, by rw [hU]; rw [hw] at hP; exact P_left hP, ?_, hrd hD, va_K.moved hW.alike hK, ?_⟩
  · rw [hw] at hD
    exact va_D.self (D_left hD)
  · rw [hU]
    exact SB.warm hW (SB.narrow (SB.kept hSB (fun a h1 h2 => hS.2.1 a h1 h2)) hsub)
theorem g_callS (X : BX p m c cc nL s args own meth) (hSB : SB A s s.heap) (hAf : ∀ q : Nat, s.heap.size ≤ q → A q) {S : Type} {y : MethodName} {bY : ByteArray} {nY : Nat} {ret : Option FieldType} {rm : Room} {ro wc wr : va_W} {r : S → Option Value} {w : S → va_W} {post : S → Prop} {mc ms : Nat} {As st0 : List Value} {n idx : Nat} (hM : CT l y bY nY ret rm As D cl tys ro wc r w post mc ms) (hw : ws = wc ++ wr) (hro : Src D cl A s ws ro) (hrd : va_D A ws → ∀ x ∈ ro, ∀ y ∈ wc, x.1 ≠ y.1) (hcode : Cond.code y bY nY ret ∈ GW) (hlink : Cond.methodLink own idx y ∈ GW) (hstat : Cond.static y ∈ GW) (hini : Cond.initialized y.cls ∈ GW) (hy : y.cls ≠ "java/lang/invoke/MethodHandle" ∧ y.cls ≠ "java/lang/invoke/VarHandle" ∧ (parseMethodDescriptor y.desc).map (fun d => d.parameters.length) = some n) (hn : As.length = n) (hR : rm.frames + 1 ≤ R.frames ∧ 8 + (nY + 11) + rm.locals ≤ R.locals) (hrc : rm.cells = mc) (hrs : rm.slots = ms) (hst : st0 = As.reverse ++ st) (hcat : (st.map fun v => v.category).sum ≤ 8) (hf : cells + mc ≤ R.cells ∧ slots + ms ≤ R.slots) (hd : decode cc pc = .ok (.invokestatic idx, 3))
    (kk : ∀ u : S, post u → GL p l e R s m args below meth c Q D cl tys A nL (w u ++ wr) (cells + mc) (slots + ms) (pc + 3) lv ((r u).toList ++ st)) : GL p l e R s m args below meth c Q D cl tys A nL ws cells slots pc lv st0 := by
  subst hst
  refine g_goes (As := As.toArray) hAf hw ?_ kk
  intro H locs ls hK hP hD hS hl
  have hts : ∀ w ∈ WG y bY nY ret, w.before args s = true := fun w h => X.w (by rcases List.mem_cons.mp h with rfl | h; exact hcode; exact h)
  have hG : GoodIn (WG y bY nY ret) (WG y bY nY ret) := (wg_good (y := y) (b := bY) (n := nY) (r := ret) hcode)
  exact va_runS (As := As) (rest := st) (n := n) ⟨X.1, X.2.1, X.2.2.1, X.2.2.2.1, hts⟩ (hM H.size) ⟨callB_of n hts hG rfl hrc hrs (X.w hini) (X.w hlink) hy hR, X.w hstat⟩ ⟨PX.blind, fun U hU hW => ⟨rfl, px_at hSB hAf hw hro hrd hK hP hD hS U hU hW⟩⟩ rfl hn hl.1 rfl (lv_room hcat) hd hf
theorem g_callSN (X : BX p m c cc nL s args own meth) (hSB : SB A s s.heap) (hAf : ∀ q : Nat, s.heap.size ≤ q → A q) {S : Type} {y : MethodName} {bY : ByteArray} {nY : Nat} {ret : Option FieldType} {rm : Room} {ro wc wr : va_W} {r : S → Option Value} {w : S → va_W} {post : S → Prop} {mc ms : Nat} {host : String} {As st0 : List Value} {n idx : Nat} (hM : CT l y bY nY ret rm As D cl tys ro wc r w post mc ms) (hw : ws = wc ++ wr) (hro : Src D cl A s ws ro) (hrd : va_D A ws → ∀ x ∈ ro, ∀ y ∈ wc, x.1 ≠ y.1) (hcode : Cond.code y bY nY ret ∈ GW) (hlink : Cond.methodLinkNest own idx y host ∈ NW) (hstat : Cond.static y ∈ GW) (hini : Cond.initialized y.cls ∈ GW) (hy : y.cls ≠ "java/lang/invoke/MethodHandle" ∧ y.cls ≠ "java/lang/invoke/VarHandle" ∧ (parseMethodDescriptor y.desc).map (fun d => d.parameters.length) = some n) (hn : As.length = n) (hR : rm.frames + 1 ≤ R.frames ∧ 8 + (nY + 11) + rm.locals ≤ R.locals) (hrc : rm.cells = mc) (hrs : rm.slots = ms) (hst : st0 = As.reverse ++ st) (hcat : (st.map fun v => v.category).sum ≤ 8) (hf : cells + mc ≤ R.cells ∧ slots + ms ≤ R.slots) (hd : decode cc pc = .ok (.invokestatic idx, 3))
    (kk : ∀ u : S, post u → GL p l e R s m args below meth c Q D cl tys A nL (w u ++ wr) (cells + mc) (slots + ms) (pc + 3) lv ((r u).toList ++ st)) : GL p l e R s m args below meth c Q D cl tys A nL ws cells slots pc lv st0 := by
  subst hst
  refine g_goes (As := As.toArray) hAf hw ?_ kk
  intro H locs ls hK hP hD hS hl
  have hts : ∀ w ∈ WG y bY nY ret, w.before args s = true := fun w h => X.w (by rcases List.mem_cons.mp h with rfl | h; exact hcode; exact h)
  have hG : GoodIn (WG y bY nY ret) (WG y bY nY ret) := (wg_good (y := y) (b := bY) (n := nY) (r := ret) hcode)
  exact va_runSN (As := As) (rest := st) (n := n) (host := host) ⟨X.1, X.2.1, X.2.2.1, X.2.2.2.1, hts⟩ (hM H.size) ⟨va_cnB n hts hG rfl hrc hrs (X.nw hlink) (X.w hini) hy hR, X.w hstat, trivial⟩ ⟨PX.blind, fun U hU hW => ⟨rfl, px_at hSB hAf hw hro hrd hK hP hD hS U hU hW⟩⟩ rfl hn hl.1 rfl (lv_room hcat) hd hf
theorem g_callV (X : BX p m c cc nL s args own meth) (hSB : SB A s s.heap) (hAf : ∀ q : Nat, s.heap.size ≤ q → A q) {S : Type} {y : MethodName} {bY : ByteArray} {nY : Nat} {ret : Option FieldType} {rm : Room} {ro wc wr : va_W} {r : S → Option Value} {w : S → va_W} {post : S → Prop} {mc ms : Nat} {wx : va_W} (hx : Src D cl A s ws wx) {a ci : Nat} {fs : List Value} {q : vw_C} (hrc1 : cl[ci]? = some q) (hrc2 : (a, Sum.inr (ci, fs)) ∈ wx) (hq : q.1 = y.cls) {As st0 : List Value} {n idx : Nat} (hM : CT l y bY nY ret rm (.ref a :: As) D cl tys ro wc r w post mc ms) (hw : ws = wc ++ wr) (hro : Src D cl A s ws ro) (hrd : va_D A ws → ∀ x ∈ ro, ∀ y ∈ wc, x.1 ≠ y.1) (hcode : Cond.code y bY nY ret ∈ GW) (hlink : Cond.methodLink own idx y ∈ GW) (hinst : Cond.instanceMethod y ∈ GW) (hsel : Cond.selects y.cls y y ∈ GW) (hini : Cond.initialized y.cls ∈ GW) (hy : y.cls ≠ "java/lang/invoke/MethodHandle" ∧ y.cls ≠ "java/lang/invoke/VarHandle" ∧ (parseMethodDescriptor y.desc).map (fun d => d.parameters.length) = some n) (hn : As.length = n) (hR : rm.frames + 1 ≤ R.frames ∧ 8 + (nY + 11) + rm.locals ≤ R.locals) (hrc : rm.cells = mc) (hrs : rm.slots = ms) (hst : st0 = As.reverse ++ .ref a :: st) (hcat : (st.map fun v => v.category).sum ≤ 8) (hf : cells + mc ≤ R.cells ∧ slots + ms ≤ R.slots) (hd : decode cc pc = .ok (.invokevirtual idx, 3))
    (kk : ∀ u : S, post u → GL p l e R s m args below meth c Q D cl tys A nL (w u ++ wr) (cells + mc) (slots + ms) (pc + 3) lv ((r u).toList ++ st)) : GL p l e R s m args below meth c Q D cl tys A nL ws cells slots pc lv st0 := by
  subst hst
  refine g_goes (As := (Value.ref a :: As).toArray) hAf hw ?_ kk
  intro H locs ls hK hP hD hS hl
  have hts : ∀ w ∈ WG y bY nY ret, w.before args s = true := fun w h => X.w (by rcases List.mem_cons.mp h with rfl | h; exact hcode; exact h)
  have hG : GoodIn (WG y bY nY ret) (WG y bY nY ret) := (wg_good (y := y) (b := bY) (n := nY) (r := ret) hcode)
  obtain ⟨q0, h0⟩ := List.getElem?_of_mem hrc2
  exact va_runV (As := As) (rest := st) (n := n) (C := y.cls) ⟨X.1, X.2.1, X.2.2.1, X.2.2.2.1, hts⟩ (hM H.size) ⟨callB_of n hts hG rfl hrc hrs (X.w hini) (X.w hlink) hy hR, X.w hinst, X.w hsel⟩ ⟨PX.blind, by rw [← hq]; exact va_recv hK (hx H locs hP hS) hrc1 h0, fun U hU hW => ⟨rfl, px_at hSB hAf hw hro hrd hK hP hD hS U hU hW⟩⟩ rfl hn hl.1 rfl (lv_room hcat) hd hf
theorem g_callVN (X : BX p m c cc nL s args own meth) (hSB : SB A s s.heap) (hAf : ∀ q : Nat, s.heap.size ≤ q → A q) {S : Type} {y : MethodName} {bY : ByteArray} {nY : Nat} {ret : Option FieldType} {rm : Room} {ro wc wr : va_W} {r : S → Option Value} {w : S → va_W} {post : S → Prop} {mc ms : Nat} {wx : va_W} (hx : Src D cl A s ws wx) {a ci : Nat} {fs : List Value} {q : vw_C} (hrc1 : cl[ci]? = some q) (hrc2 : (a, Sum.inr (ci, fs)) ∈ wx) (hq : q.1 = y.cls) {host : String} {As st0 : List Value} {n idx : Nat} (hM : CT l y bY nY ret rm (.ref a :: As) D cl tys ro wc r w post mc ms) (hw : ws = wc ++ wr) (hro : Src D cl A s ws ro) (hrd : va_D A ws → ∀ x ∈ ro, ∀ y ∈ wc, x.1 ≠ y.1) (hcode : Cond.code y bY nY ret ∈ GW) (hlink : Cond.methodLinkNest own idx y host ∈ NW) (hinst : Cond.instanceMethod y ∈ GW) (hsel : Cond.selects y.cls y y ∈ GW) (hini : Cond.initialized y.cls ∈ GW) (hy : y.cls ≠ "java/lang/invoke/MethodHandle" ∧ y.cls ≠ "java/lang/invoke/VarHandle" ∧ (parseMethodDescriptor y.desc).map (fun d => d.parameters.length) = some n) (hn : As.length = n) (hR : rm.frames + 1 ≤ R.frames ∧ 8 + (nY + 11) + rm.locals ≤ R.locals) (hrc : rm.cells = mc) (hrs : rm.slots = ms) (hst : st0 = As.reverse ++ .ref a :: st) (hcat : (st.map fun v => v.category).sum ≤ 8) (hf : cells + mc ≤ R.cells ∧ slots + ms ≤ R.slots) (hd : decode cc pc = .ok (.invokevirtual idx, 3))
    (kk : ∀ u : S, post u → GL p l e R s m args below meth c Q D cl tys A nL (w u ++ wr) (cells + mc) (slots + ms) (pc + 3) lv ((r u).toList ++ st)) : GL p l e R s m args below meth c Q D cl tys A nL ws cells slots pc lv st0 := by
  subst hst
  refine g_goes (As := (Value.ref a :: As).toArray) hAf hw ?_ kk
  intro H locs ls hK hP hD hS hl
  have hts : ∀ w ∈ WG y bY nY ret, w.before args s = true := fun w h => X.w (by rcases List.mem_cons.mp h with rfl | h; exact hcode; exact h)
  have hG : GoodIn (WG y bY nY ret) (WG y bY nY ret) := (wg_good (y := y) (b := bY) (n := nY) (r := ret) hcode)
  obtain ⟨q0, h0⟩ := List.getElem?_of_mem hrc2
  exact va_runVN (As := As) (rest := st) (n := n) (C := y.cls) (host := host) ⟨X.1, X.2.1, X.2.2.1, X.2.2.2.1, hts⟩ (hM H.size) ⟨va_cnB n hts hG rfl hrc hrs (X.nw hlink) (X.w hini) hy hR, X.w hinst, X.w hsel⟩ ⟨PX.blind, by rw [← hq]; exact va_recv hK (hx H locs hP hS) hrc1 h0, fun U hU hW => ⟨rfl, px_at hSB hAf hw hro hrd hK hP hD hS U hU hW⟩⟩ rfl hn hl.1 rfl (lv_room hcat) hd hf
theorem g_callI (X : BX p m c cc nL s args own meth) (hSB : SB A s s.heap) (hAf : ∀ q : Nat, s.heap.size ≤ q → A q) {S : Type} {y : MethodName} {bY : ByteArray} {nY : Nat} {rm : Room} {ro wc wr : va_W} {r : S → Option Value} {w : S → va_W} {post : S → Prop} {mc ms : Nat} {a : Nat} {As st0 : List Value} {n idx : Nat} (hM : CT l y bY nY none rm (.ref a :: As) D cl tys ro wc r w post mc ms) (hw : ws = wc ++ wr) (hro : Src D cl A s ws ro) (hrd : va_D A ws → ∀ x ∈ ro, ∀ y ∈ wc, x.1 ≠ y.1) (hcode : Cond.code y bY nY none ∈ GW) (hlink : Cond.methodLink own idx y ∈ GW) (hinst : Cond.instanceMethod y ∈ GW) (hnm : y.name = "<init>") (hini : Cond.initialized y.cls ∈ GW) (hy : y.cls ≠ "java/lang/invoke/MethodHandle" ∧ y.cls ≠ "java/lang/invoke/VarHandle" ∧ (parseMethodDescriptor y.desc).map (fun d => d.parameters.length) = some n) (hn : As.length = n) (hR : rm.frames + 1 ≤ R.frames ∧ 8 + (nY + 11) + rm.locals ≤ R.locals) (hrc : rm.cells = mc) (hrs : rm.slots = ms) (hst : st0 = As.reverse ++ .ref a :: st) (hcat : (st.map fun v => v.category).sum ≤ 8) (hf : cells + mc ≤ R.cells ∧ slots + ms ≤ R.slots) (hd : decode cc pc = .ok (.invokespecial idx, 3))
    (kk : ∀ u : S, post u → GL p l e R s m args below meth c Q D cl tys A nL (w u ++ wr) (cells + mc) (slots + ms) (pc + 3) lv ((r u).toList ++ st)) : GL p l e R s m args below meth c Q D cl tys A nL ws cells slots pc lv st0 := by
  subst hst
  refine g_goes (As := (Value.ref a :: As).toArray) hAf hw ?_ kk
  intro H locs ls hK hP hD hS hl
  have hts : ∀ w ∈ WG y bY nY none, w.before args s = true := fun w h => X.w (by rcases List.mem_cons.mp h with rfl | h; exact hcode; exact h)
  have hG : GoodIn (WG y bY nY none) (WG y bY nY none) := (wg_good (y := y) (b := bY) (n := nY) (r := none) hcode)
  exact va_runI (As := As) (rest := st) (n := n) ⟨X.1, X.2.1, X.2.2.1, X.2.2.2.1, hts⟩ (hM H.size) ⟨callB_of n hts hG rfl hrc hrs (X.w hini) (X.w hlink) hy hR, hnm, X.w hinst⟩ ⟨PX.blind, fun U hU hW => ⟨rfl, px_at hSB hAf hw hro hrd hK hP hD hS U hU hW⟩⟩ rfl hn hl.1 rfl (lv_room hcat) hd hf
end GLS
