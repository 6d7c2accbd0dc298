/-! more rows: a reference put into an array; arrays and objects made -/
section GLS
variable {p : Program} {l : Launch} {e : Env} {R : Room} {s : State} {m : MethodId} {args : Array Value} {below : List Frame} {meth : Method} {c : Code} {Q : State → Prop} {D : va_G} {cl : List vw_C} {tys : List (ClassId × FieldType)} {A : Nat → Prop} {nL : Nat} {ws : va_W} {cells slots : Nat} {cc : ByteArray} {own : String} {pc : Nat} {lv : List (Nat × Value)} {st : List Value}

theorem g_aast (X : BX p m c cc nL s args own meth) {cA : ClassId} {r : vw_C} {n a b ci : Nat} {vs : List Value} {f : Nat → Option Nat} {ws' : va_W} (t0 : Nat) (ht : tys[t0]? = some (cA, .object r.1)) (q0 : Nat) (he : ws[q0]? = some (a, Sum.inl (cA, n, .inr (.inr (.inr (.inr f)))))) (hm : (b, Sum.inr (ci, vs)) ∈ ws) (hc : cl[ci]? = some r) {i : Int32} (j : Nat) (hi : i = nI j) (hj : j < n) (hn : n < 2 ^ 31) (hw : ws.set q0 (a, Sum.inl (cA, n, .inr (.inr (.inr (.inr (va_up f j (some b))))))) = ws') (hd : decode cc pc = .ok (.aastore, 1))
    (kk : GL p l e R s m args below meth c Q D cl tys A nL ws' cells slots (pc + 1) lv st) : GL p l e R s m args below meth c Q D cl tys A nL ws cells slots pc lv (.ref b :: .int i :: .ref a :: st) := by
  intro H locs ls hK hP hD hS hl
  subst hi
  obtain ⟨qk, hk⟩ := List.getElem?_of_mem hm
  have hz := va_astq (Q := Q) (R := R) (l := l) (e := e) (below := below) (args := args) (meth := meth) (cells := cells) (slots := slots) (ls := ls) (rest := st) (m := m) (locs := locs) X.1 X.2.1 hK hP hD hS q0 t0 qk ci he ht hk hc (vp_in_nI hj hn) hd
  rw [nI_clamp (by omega), hw] at hz
  exact hz (fun H1 locs1 hP1 hD1 hS1 => kk H1 locs1 ls hK hP1 hD1 hS1 hl)
end GLS
section GLS
variable {p : Program} {l : Launch} {e : Env} {R : Room} {s : State} {m : MethodId} {args : Array Value} {below : List Frame} {meth : Method} {c : Code} {Q : State → Prop} {D : va_G} {cl : List vw_C} {tys : List (ClassId × FieldType)} {A : Nat → Prop} {nL : Nat} {ws : va_W} {cells slots : Nat} {cc : ByteArray} {own : String} {pc : Nat} {lv : List (Nat × Value)} {st : List Value}

theorem tys_one {D : va_G} {cl : List vw_C} {tys : List (ClassId × FieldType)} {s : State} {cA : ClassId} {ty : FieldType} {t0 : Nat} {cB : ClassId} (hK : va_K D cl (tys ++ [(cA, ty)]) s) (ht : tys[t0]? = some (cB, ty)) : cA = cB := by
  have h1 := (hK.2 tys.length (cA, ty) (by simp)).2
  have h2 := (hK.2 t0 (cB, ty) (by rw [List.getElem?_append_left (List.getElem?_eq_some_iff.mp ht).1]; exact ht)).2
  cases ty with
  | object C =>
    obtain ⟨_, _, _, _, _, e1⟩ := h1
    obtain ⟨_, _, _, _, _, e2⟩ := h2
    exact Option.some.inj (e1.symm.trans e2)
  | _ => exact Option.some.inj (h1.symm.trans h2)
theorem tys_left {D : va_G} {cl : List vw_C} {tys t2 : List (ClassId × FieldType)} {s : State} (hK : va_K D cl (tys ++ t2) s) : va_K D cl tys s :=
  ⟨hK.1, fun k q hk => hK.2 k q (by rw [List.getElem?_append_left (List.getElem?_eq_some_iff.mp hk).1]; exact hk)⟩
theorem g_newI (X : BX p m c cc nL s args own meth) (hAf : ∀ q : Nat, s.heap.size ≤ q → A q) {cA : ClassId} (t0 : Nat) (ht : tys[t0]? = some (cA, .int)) (harr : Cond.arrayClass .int ∈ GW) {n : Int32} (N : Nat) (hi : n = nI N) (hN : N < 1000) (hcells : cells + 1 ≤ R.cells) (hslots : slots + N ≤ R.slots) (hd : decode cc pc = .ok (.newarray .int, 2))
    (kk : ∀ q : Nat, GL p l e R s m args below meth c Q D cl tys A nL (ws ++ [(q, Sum.inl (cA, N, .inl (fun _ => 0)))]) (cells + 1) (slots + N) (pc + 2) lv (.ref q :: st)) : GL p l e R s m args below meth c Q D cl tys A nL ws cells slots pc lv (.int n :: st) := by
  intro H locs ls hK hP hD hS hl
  subst hi
  refine va_newa (atype := .int) (ty := .int) (N' := N) (a0 := (N, .inl (fun _ => 0))) X.1 X.2.1 (X.w harr) rfl hK hP hD hS hAf (fun cA => rfl) (nI_pos (by omega)) (nI_clamp (by omega)) (show N * 4 ≤ 536870912 by omega) hcells hslots hd (fun q cB H1 hK1 hP1 hD1 hS1 => ?_)
  have e : cB = cA := tys_one hK1 ht
  subst e
  exact kk q H1 locs ls hK hP1 hD1 hS1 hl
theorem g_newq (X : BX p m c cc nL s args own meth) (hAf : ∀ q : Nat, s.heap.size ≤ q → A q) {cA : ClassId} {C : String} {index : Nat} (t0 : Nat) (ht : tys[t0]? = some (cA, .object C)) (hclink : Cond.classLink own index C ∈ GW) (hover : va_AO C s) {n : Int32} (N : Nat) (hi : n = nI N) (hN : N < 1000) (hcells : cells + 1 ≤ R.cells) (hslots : slots + N ≤ R.slots) (hd : decode cc pc = .ok (.anewarray index, 3))
    (kk : ∀ q : Nat, GL p l e R s m args below meth c Q D cl tys A nL (ws ++ [(q, Sum.inl (cA, N, .inr (.inr (.inr (.inr (fun _ => none))))))]) (cells + 1) (slots + N) (pc + 3) lv (.ref q :: st)) : GL p l e R s m args below meth c Q D cl tys A nL ws cells slots pc lv (.int n :: st) := by
  intro H locs ls hK hP hD hS hl
  subst hi
  refine va_newq X.1 X.2.1 X.2.2.2.1 (X.w hclink) hover hK hP hD hS hAf (nI_pos (by omega)) (nI_clamp (by omega)) (show N * 4 ≤ 536870912 by omega) hcells hslots hd (fun q cB H1 hK1 hP1 hD1 hS1 => ?_)
  have e : cB = cA := tys_one hK1 ht
  subst e
  exact kk q H1 locs ls hK hP1 hD1 hS1 hl
theorem g_new (X : BX p m c cc nL s args own meth) (hAf : ∀ q : Nat, s.heap.size ≤ q → A q) {C : String} {T : u_T} {N ci index : Nat} (hin : ∀ w ∈ u_ws C T N, w ∈ GW) (ty : Nat → FieldType) (hty : ∀ k, k < N → parseFieldDescriptor (T k).2.2.1 = some (ty k)) (hcl : Cond.classLink own index C ∈ GW) (hinst : Cond.instantiable C N ∈ GW) (hini : Cond.initialized C ∈ GW) (hc : cl[ci]? = some (C, T, N)) {fs : List Value} (hfs : ∀ j, j < N → defaultValue (ty j) = vp_V fs j) (hcells : cells + 1 ≤ R.cells) (hslots : slots + N ≤ R.slots) (hd : decode cc pc = .ok (.new index, 3))
    (kk : ∀ q : Nat, GL p l e R s m args below meth c Q D cl tys A nL (ws ++ [(q, Sum.inr (ci, fs))]) (cells + 1) (slots + N) (pc + 3) lv (.ref q :: st)) : GL p l e R s m args below meth c Q D cl tys A nL ws cells slots pc lv st := by
  intro H locs ls hK hP hD hS hl
  exact va_new X.1 X.2.1 (fun w h => X.w h) hin ty hty X.2.2.2.1 (X.w hcl) (X.w hinst) (X.w hini) hK hP hD hS hAf hc hfs hcells hslots hd (fun q H1 hP1 hD1 hS1 => kk q H1 locs ls hK hP1 hD1 hS1 hl)
theorem g_objInit (X : BX p m c cc nL s args own meth) {idx a : Nat} (hlink : Cond.methodLink own idx Lib.objectInit ∈ GW) (hinst : Cond.instanceMethod Lib.objectInit ∈ GW) (hcode : Cond.code Lib.objectInit ⟨#[0xb1]⟩ 1 none ∈ GW) (hf : 1 ≤ R.frames) (hlo : 20 ≤ R.locals) (hcat : (st.map fun v => v.category).sum ≤ 8) (hd : decode cc pc = .ok (.invokespecial idx, 3))
    (kk : GL p l e R s m args below meth c Q D cl tys A nL ws cells slots (pc + 3) lv st) : GL p l e R s m args below meth c Q D cl tys A nL ws cells slots pc lv (.ref a :: st) := by
  intro H locs ls hK hP hD hS hl
  have hr : 2 * (F0 m pc ls (.ref a :: st)).monitorRoom + (st.map fun v => v.category).sum + 12 ≤ R.locals := by
    have := lv_room (m := m) (pc := pc) (ls := ls) (rest := .ref a :: st) hcat
    omega
  exact W.objInit X.1 X.2.1 X.2.2.2.1 (X.w hlink) (X.w hinst) (X.w hcode) rfl (by rw [X.2.2.1]; exact hl.1) rfl hd hf hr (kk H locs ls hK hP hD hS hl)
end GLS
