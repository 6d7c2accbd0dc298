/-! throwing: contracts of calls that throw and change nothing -/
def XCE (E : String) (A : Nat → Prop) : String → State → State → Prop := fun E' st t => E' = E ∧ va_F A st t
def NoQ : Array Value → State → Outcome → State → Prop := fun _ _ _ _ => False
/-- a call that throws E; it reads alone -/
def CX (l : Launch) (y : MethodName) (b : ByteArray) (nL : Nat) (ret : Option FieldType) (rm : Room) (av : List Value) (D : va_G) (cl : List vw_C) (tys : List (ClassId × FieldType)) (ro : va_W) (E : String) (mc ms : Nat) : Prop :=
  ∀ sz : Nat, vx_Met l y (WG y b nL ret) rm (va_Pc av (PX D cl tys ro [] sz)) NoQ (XCE E (va_A [] sz)) mc ms (va_A [] sz)
theorem nw_use {w : Cond} {A : Array Value} {s : State} (h : nw_ok w = true) (hZ : va_Nw w s) : w.before A s = true :=
  nw_c (P := fun w => va_Nw w s → w.before A s = true) (fun _ _ _ _ _ _ hZ => va_Nw.use rfl hZ) (fun _ _ _ _ hZ => va_Nw.use rfl hZ) (fun _ hZ => va_Nw.use rfl hZ) (fun _ _ hZ => va_Nw.use rfl hZ) (fun _ hZ => va_AO.use hZ) w h hZ
def xIO : String := "java/lang/IndexOutOfBoundsException"
def xIA : String := "java/lang/IllegalArgumentException"
def xIS : String := "java/lang/IllegalStateException"
def xNm : List String := ["java/lang/RuntimeException", "java/lang/Exception"]
theorem hatIO : ∀ w ∈ vx_atS "Chipfield" 329 xIO xNm, w ∈ GW ∨ w ∈ NW := by decide +kernel
theorem hatIA : ∀ w ∈ vx_atS "Chipfield" 129 xIA xNm, w ∈ GW ∨ w ∈ NW := by decide +kernel
theorem hatIS : ∀ w ∈ vx_atS "Chipfield" 104 xIS xNm, w ∈ GW ∨ w ∈ NW := by decide +kernel
theorem hgdIO : ∀ w ∈ Cond.classLink "Chipfield" 325 xIO :: Cond.initialized xIO :: vx_atS "Chipfield" 329 xIO xNm, vx_ot w = true := by decide +kernel
theorem hgdIA : ∀ w ∈ Cond.classLink "Chipfield" 125 xIA :: Cond.initialized xIA :: vx_atS "Chipfield" 129 xIA xNm, vx_ot w = true := by decide +kernel
theorem hgdIS : ∀ w ∈ Cond.classLink "Chipfield" 100 xIS :: Cond.initialized xIS :: vx_atS "Chipfield" 104 xIS xNm, vx_ot w = true := by decide +kernel
section GLS
variable {p : Program} {l : Launch} {e : Env} {R : Room} {s : State} {m : MethodId} {args : Array Value} {below : List Frame} {meth : Method} {c : Code} {Q : State → Prop} {D : va_G} {cl : List vw_C} {tys : List (ClassId × FieldType)} {A : Nat → Prop} {nL : Nat} {ws : va_W} {cells slots : Nat} {cc : ByteArray} {own : String} {pc : Nat} {lv : List (Nat × Value)} {st : List Value}

theorem g_throwS {E : String} {mc ms : Nat} (X : BX p m c cc nL s args "Chipfield" meth) (hSB : SB A s s.heap) (hfl : l.stackTraces = false) (hnt : ∀ x ∈ c.exceptionTable.toList, False) {text : String} {names : List String} {ik is ic : Nat} (hcls : Bundle.fit E = true) (hnames : ∀ n ∈ names, Bundle.fit n = true) (hk : Cond.classLink "Chipfield" ik E ∈ GW) (hini : Cond.initialized E ∈ GW) (hstr : (is, text) ∈ strL) (hat : ∀ w ∈ vx_atS "Chipfield" ic E names, w ∈ GW ∨ w ∈ NW) (hgd : ∀ w ∈ Cond.classLink "Chipfield" ik E :: Cond.initialized E :: vx_atS "Chipfield" ic E names, vx_ot w = true)
    (d0 : decode cc pc = .ok (.new ik, 3)) (d3 : decode cc (pc + 3) = .ok (.dup, 1)) (d4 : decode cc (pc + 4) = .ok (.ldc is, 2)) (d6 : decode cc (pc + 6) = .ok (.invokespecial ic, 3)) (d9 : decode cc (pc + 9) = .ok (.athrow, 1)) (hRf : names.length + 3 < R.frames) (hRl : (st.map fun v => v.category).sum + (13 * (names.length + 1) + 43) ≤ R.locals) (hc : cells + 1 ≤ mc) (hs : slots + 6 ≤ ms) (hRc : cells + 1 ≤ R.cells) (hRs : slots + 6 ≤ R.slots) : GL p l e R s m args below meth c (vx_MQ below NoQ (XCE E A) args s mc ms A) D cl tys A nL ws cells slots pc lv st := by
  intro H locs ls hK hP hD hS hl
  obtain ⟨sa, hsa⟩ := hSB.2.2.2.2.2 _ hstr
  exact vx_throwS (names := names) X.1 X.2.1 hfl X.2.2.2.1 hcls hnames (X.w hk) (X.w hini) hsa
    (fun w hw => (hat w hw).elim (fun h => X.w h) (fun h => nw_use (List.mem_filter.mp h).2 (X.nw h)))
    hgd hSB.2.2.2.1.1 hSB.2.2.2.1.2 hS (by rw [X.2.2.1]; exact hl.1) d0 d3 d4 d6 d9 (fun x hx => (hnt x hx).elim) hRf hRl hRc hRs X.2.2.2.2.2.1
    (fun t _ h1 h2 => ⟨rfl, Nat.le_trans hS.1 h1, fun q hq hA => by rw [h2 q (Nat.lt_of_lt_of_le hq hS.1)]; exact hS.2.1 q hq hA⟩) hS.2.2 hc hs
theorem g_throwSW {E : String} {mc ms : Nat} (X : BX p m c cc nL s args "Chipfield" meth) (hSB : SB A s s.heap) (hfl : l.stackTraces = false) (hnt : ∀ x ∈ c.exceptionTable.toList, False) {text : String} {names : List String} {ik is ic : Nat} (hcls : Bundle.fit E = true) (hnames : ∀ n ∈ names, Bundle.fit n = true) (hk : Cond.classLink "Chipfield" ik E ∈ GW) (hini : Cond.initialized E ∈ GW) (hstr : (is, text) ∈ strL) (hat : ∀ w ∈ vx_atS "Chipfield" ic E names, w ∈ GW ∨ w ∈ NW) (hgd : ∀ w ∈ Cond.classLink "Chipfield" ik E :: Cond.initialized E :: vx_atS "Chipfield" ic E names, vx_ot w = true)
    (d0 : decode cc pc = .ok (.new ik, 3)) (d3 : decode cc (pc + 3) = .ok (.dup, 1)) (d4 : decode cc (pc + 4) = .ok (.ldc_w is, 3)) (d6 : decode cc (pc + 7) = .ok (.invokespecial ic, 3)) (d9 : decode cc (pc + 10) = .ok (.athrow, 1)) (hRf : names.length + 3 < R.frames) (hRl : (st.map fun v => v.category).sum + (13 * (names.length + 1) + 43) ≤ R.locals) (hc : cells + 1 ≤ mc) (hs : slots + 6 ≤ ms) (hRc : cells + 1 ≤ R.cells) (hRs : slots + 6 ≤ R.slots) : GL p l e R s m args below meth c (vx_MQ below NoQ (XCE E A) args s mc ms A) D cl tys A nL ws cells slots pc lv st := by
  intro H locs ls hK hP hD hS hl
  obtain ⟨sa, hsa⟩ := hSB.2.2.2.2.2 _ hstr
  exact vx_throwSW (names := names) X.1 X.2.1 hfl X.2.2.2.1 hcls hnames (X.w hk) (X.w hini) hsa
    (fun w hw => (hat w hw).elim (fun h => X.w h) (fun h => nw_use (List.mem_filter.mp h).2 (X.nw h)))
    hgd hSB.2.2.2.1.1 hSB.2.2.2.1.2 hS (by rw [X.2.2.1]; exact hl.1) d0 d3 d4 d6 d9 (fun x hx => (hnt x hx).elim) hRf hRl hRc hRs X.2.2.2.2.2.1
    (fun t _ h1 h2 => ⟨rfl, Nat.le_trans hS.1 h1, fun q hq hA => by rw [h2 q (Nat.lt_of_lt_of_le hq hS.1)]; exact hS.2.1 q hq hA⟩) hS.2.2 hc hs
theorem gx_out {E : String} {mc ms mcY msY : Nat} (X : BX p m c cc nL s args own meth) (hAf : ∀ q : Nat, s.heap.size ≤ q → A q) (hnt : ∀ x ∈ c.exceptionTable.toList, False) {st0 : List Value} {As : Array Value}
    (hrun : ∀ (H : Heap) (locs : List Loc) (ls : Array Slot), va_K D cl tys s → va_P D cl ws H → va_D A ws → va_S A s.heap H locs → lv_has ls nL lv → vx_Run p l e R s m args below meth c H locs cells slots mcY msY (F0 m pc ls st0) st (NoQ As) (XCE E (va_A [] H.size)) (va_A [] H.size))
    (hc : cells + mcY ≤ mc) (hs : slots + msY ≤ ms) : GL p l e R s m args below meth c (vx_MQ below NoQ (XCE E A) args s mc ms A) D cl tys A nL ws cells slots pc lv st0 := by
  intro H locs ls hK hP hD hS hl
  intro T hT X'
  rcases hrun H locs ls hK hP hD hS hl T hT X' with ⟨v, st₀, t, T', L, h0, X2, hL, e1, e2, hq, stp⟩ | ⟨q, st₀, t, T', L, E2, ce, h0, X2, hL, e1, e2, ⟨hE, hz, hk⟩, hce, hcv, hcl, stp⟩
  · exact hq.elim
  · rw [h0] at hz hk
    have hsub : ∀ q : Nat, va_A [] H.size q → A q := by
      intro q h
      rcases h with ⟨k, e3, h⟩ | h
      · simp at h
      · exact hAf q (Nat.le_trans hS.1 h)
    have hF : va_F A s T' := by
      refine ⟨Nat.le_trans hS.1 (by rw [e1]; exact hz), fun q h1 h2 => ?_⟩
      rw [e1, hk q (Nat.lt_of_lt_of_le h1 hS.1) (fun z => h2 (hsub q z))]
      exact hS.2.1 q h1 h2
    have hlocs : ∀ z ∈ locs ++ L, A z.base := by
      intro z hz2
      rcases List.mem_append.mp hz2 with h | h
      · exact hS.2.2 z h
      · exact hsub _ (hL z h)
    have hw := vx_out (p := p) (l := l) (e := e) (R := R) (s := s) (m := m) (args := args) (below := below) (meth := meth) (c := c) (H := T'.heap) (locs := locs ++ L) (cells := cells + mcY) (slots := slots + msY) (rest := st) (ls := ls) (pc := pc) (Qc := NoQ) (XC := XCE E A) (free := A) (mc := mc) (ms := ms) (E := E2) (ce := ce) (q := q)
      (fun x hx => (hnt x hx).elim) X.2.2.2.2.2.1 (by rw [e1]; exact hce) hcv hcl (fun t2 ht2 _ => ⟨hE, by rw [ht2]; exact hF.1, fun q h1 h2 => by rw [ht2]; exact hF.2 q h1 h2⟩) hlocs hc hs
    obtain ⟨t2, a1, b1⟩ := hw T' rfl X2
    exact ⟨t2, stp.trans a1, b1⟩
theorem gx_callS (X : BX p m c cc nL s args own meth) (hSB : SB A s s.heap) (hAf : ∀ q : Nat, s.heap.size ≤ q → A q) (hnt : ∀ x ∈ c.exceptionTable.toList, False) {y : MethodName} {bY : ByteArray} {nY : Nat} {ret : Option FieldType} {rm : Room} {ro : va_W} {E : String} {mc ms mcY msY : Nat} {As st0 : List Value} {n idx : Nat} (hM : CX l y bY nY ret rm As D cl tys ro E mcY msY) (hro : Src D cl A s ws ro) (hcode : Cond.code y bY nY ret ∈ GW) (hlink : Cond.methodLink own idx y ∈ GW) (hstat : Cond.static y ∈ GW) (hini : Cond.initialized y.cls ∈ GW) (hy : y.cls ≠ "java/lang/invoke/MethodHandle" ∧ y.cls ≠ "java/lang/invoke/VarHandle" ∧ (parseMethodDescriptor y.desc).map (fun d => d.parameters.length) = some n) (hn : As.length = n) (hR : rm.frames + 1 ≤ R.frames ∧ 8 + (nY + 11) + rm.locals ≤ R.locals) (hrc : rm.cells = mcY) (hrs : rm.slots = msY) (hst : st0 = As.reverse ++ st) (hcat : (st.map fun v => v.category).sum ≤ 8) (hf : cells + mcY ≤ R.cells ∧ slots + msY ≤ R.slots) (hc : cells + mcY ≤ mc) (hs : slots + msY ≤ ms) (hd : decode cc pc = .ok (.invokestatic idx, 3)) : GL p l e R s m args below meth c (vx_MQ below NoQ (XCE E A) args s mc ms A) D cl tys A nL ws cells slots pc lv st0 := by
  subst hst
  refine gx_out (st := st) (As := As.toArray) X hAf hnt ?_ hc hs
  intro H locs ls hK hP hD hS hl
  have hts : ∀ w ∈ WG y bY nY ret, w.before args s = true := fun w h => X.w (by rcases List.mem_cons.mp h with rfl | h; exact hcode; exact h)
  have hG : GoodIn (WG y bY nY ret) (WG y bY nY ret) := wg_good (y := y) (b := bY) (n := nY) (r := ret) hcode
  exact vx_runS (As := As) (rest := st) (n := n) ⟨X.1, X.2.1, X.2.2.1, X.2.2.2.1, hts⟩ (hM H.size) ⟨callB_of n hts hG rfl hrc hrs (X.w hini) (X.w hlink) hy hR, X.w hstat⟩ ⟨PX.blind, fun U hU hW => ⟨rfl, px_at (wr := ws) hSB hAf rfl hro hrdC hK hP hD hS U hU hW⟩⟩ rfl hn hl.1 rfl (lv_room hcat) hd hf
end GLS
theorem cx_of {l : Launch} {y : MethodName} {b : ByteArray} {nL : Nat} {ret : Option FieldType} {rm : Room} {av : List Value} {D : va_G} {cl : List vw_C} {tys : List (ClassId × FieldType)} {ro : va_W} {E : String} {mc ms : Nat}
    (hy : plainName y.cls = true) (hav : (lg_sl av).length ≤ nL)
    (body : ∀ (p : Program) (e : Env) (s : State) (m : MethodId) (below : List Frame) (meth : Method) (c : Code) (A : Nat → Prop), BX p m c b nL s av.toArray y.cls meth → (∀ x ∈ c.exceptionTable.toList, False) → SB A s s.heap → RO D cl A s ro → (∀ q : Nat, s.heap.size ≤ q → A q) →
      GL p l e rm s m av.toArray below meth c (vx_MQ below NoQ (XCE E A) av.toArray s mc ms A) D cl tys A nL [] 0 0 0 (lv_args 0 av) []) : CX l y b nL ret rm av D cl tys ro E mc ms := by
  intro sz
  refine vx_ofW (cc := b) (maxL := nL) (ret := ret) hy rfl ?_
  intro p e s m args below meth c s₁ B hml hnt hv
  obtain ⟨rfl, hsz, hR, hP, hD, hne, hK, hSB⟩ := hv
  have hts := atoms_spec (ws := WG y b nL ret) B.pre
  have hown : s.vm.findClass y.cls = some m.cls := findClass_of_methodNamed B.named
  have hA : ∀ q : Nat, s.heap.size ≤ q → va_A [] sz q := fun q h => by rw [← hsz]; exact Or.inr h
  have hRO : RO D cl (va_A [] sz) s ro := by
    refine ⟨hR, fun x hx h => ?_⟩
    rcases h with ⟨k, e2, h⟩ | h
    · simp at h
    · have := (mem_at hR hx).lt
      omega
  have hl := lv_entry av (n := nL) hav
  rw [lg_entry_eq]
  exact body p e s m below meth c (va_A [] sz) ⟨B.exec, B.bytes, hml, hown, fun w hw => hts w (List.mem_cons_of_mem _ hw), B.notSynchronized, hSB.1⟩ hnt hSB hRO hA s.heap [] _ hK hP hD va_S.rf hl
