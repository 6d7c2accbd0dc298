/-! rows of the law: the script, methods that catch, what is caught, the law's world -/
def NC (U : State) : Prop := va_Nc xIA xIO U ∧ va_Nc xIS xIO U
theorem NC.alike {s U : State} (h : s.vm.Alike U.vm) (g : NC s) : NC U := ⟨va_Nc.moved h g.1, va_Nc.moved h g.2⟩
abbrev HTab : Type := List (Nat × Nat × Nat × Nat)
def WH (y : MethodName) (b : ByteArray) (nL : Nat) (ret : Option FieldType) (hh : HTab) : List Cond := Cond.codeWith y b nL ret hh :: GW
theorem wh_good {y : MethodName} {b : ByteArray} {nL : Nat} {ret : Option FieldType} {hh : HTab} (h : Cond.codeWith y b nL ret hh ∈ GW) : GoodIn (WH y b nL ret hh) (WH y b nL ret hh) := by
  intro w hw
  rcases List.mem_cons.mp hw with rfl | hw
  · exact ⟨List.mem_cons_self, good_of_word (gw_good _ h)⟩
  · exact ⟨List.mem_cons_of_mem _ hw, good_of_word (gw_good _ hw)⟩
/-- a contract of a method that catches -/
def CTW {S : Type} (l : Launch) (y : MethodName) (b : ByteArray) (nL : Nat) (ret : Option FieldType) (hh : HTab) (rm : Room) (av : List Value) (D : va_G) (cl : List vw_C) (tys : List (ClassId × FieldType)) (wc : va_W) (r : S → Option Value) (w : S → va_W) (post : S → Prop) (mc ms : Nat) : Prop :=
  ∀ sz : Nat, Met l y (WH y b nL ret hh) rm (va_Pc av (fun U => PX D cl tys [] wc sz U ∧ NC U)) (QX D cl (va_A wc sz) r w post) mc ms (va_A wc sz)
theorem PXN.blind {D : va_G} {cl : List vw_C} {tys : List (ClassId × FieldType)} {wc : va_W} {sz : Nat} {av : List Value} : FrameBlind (va_Pc av (fun U => PX D cl tys [] wc sz U ∧ NC U)) := by
  intro a U g mk h
  obtain ⟨e, ⟨h1, h2, h3, h4, h5, h6, h7⟩, hn⟩ := h
  exact ⟨e, ⟨h1, h2, h3, h4, h5, va_K.moved (u := U) (U := U.calling g mk a) (Vm.Alike.refl U.vm) h6, SB.same (s := U) (U := U.calling g mk a) rfl h7⟩, NC.alike (s := U) (U := U.calling g mk a) (Vm.Alike.refl U.vm) hn⟩
theorem met_ofWH {l : Launch} {y : MethodName} {ws ws' : List Cond} {rm : Room} {Pc : Array Value → State → Prop} {Qc : Array Value → State → Outcome → State → Prop} {mc ms : Nat} {free : Addr → Prop} {cc : ByteArray} {maxL : Nat} {ret : Option FieldType} {hh : HTab}
    (hy : plainName y.cls = true) (hw : ws = Cond.codeWith y cc maxL ret hh :: ws')
    (body : ∀ p e s m args below meth c s₁, BodyLoose p l y (headSpec ws rm) cc maxL ret e s m args below meth c s₁ → c.maxLocals = maxL → Pc args s →
      W p l e (headSpec ws rm).room s m args below meth c s.heap [] 0 0 (MQ below Qc args s mc ms free) (entryFrame m args maxL)) : Met l y ws rm Pc Qc mc ms free := by
  refine MetFree.of_bodyS (code := cc) (maxLocals := maxL) (ret := ret) hy ?_ ?_
  · intro args s m h hn
    obtain ⟨m9, meth, c, hn9, h1, h2, h3, h4, -, h5, h6, -⟩ := Cond.codeWith_spec (atoms_spec (ws := ws) h _ (by rw [hw]; exact List.mem_cons_self))
    cases hn.symm.trans hn9
    exact ⟨meth, c, h1, h2, h3, h4, h5, h6⟩
  · intro p e s m args below meth c s₁ B hml hP _
    have hh0 : s₁.heap = s.heap := by rw [B.state]; rfl
    obtain ⟨t, a1, o, b1, b2, b3, b4⟩ := body p e s m args below meth c s₁ B hml hP s₁ hh0 (Stand.of_body B)
    exact ⟨t, o, a1, b1, b2, b3, b4⟩
theorem ctw_of {S : Type} {l : Launch} {y : MethodName} {b : ByteArray} {nL : Nat} {ret : Option FieldType} {hh : HTab} {rm : Room} {av : List Value} {D : va_G} {cl : List vw_C} {tys : List (ClassId × FieldType)} {wc : va_W} {r : S → Option Value} {w : S → va_W} {post : S → Prop} {mc ms : Nat}
    (hy : plainName y.cls = true) (hav : (lg_sl av).length ≤ nL)
    (body : ∀ (p : Program) (e : Env) (s : State) (m : MethodId) (below : List Frame) (meth : Method) (c : Code) (A : Nat → Prop), BX p m c b nL s av.toArray y.cls meth → c.exceptionTable.toList = tableOf hh → NC s → meth.sig.returnType = ret → SB A s s.heap → (∀ q : Nat, s.heap.size ≤ q → A q) →
      GL p l e rm s m av.toArray below meth c (MQ below (QX D cl A r w post) av.toArray s mc ms A) D cl tys A nL wc 0 0 0 (lv_args 0 av) []) : CTW l y b nL ret hh rm av D cl tys wc r w post mc ms := by
  intro sz
  refine met_ofWH (cc := b) (maxL := nL) (ret := ret) (hh := hh) hy rfl ?_
  intro p e s m args below meth c s₁ B hml hv
  obtain ⟨rfl, ⟨hsz, hR, hP, hD, hne, hK, hSB⟩, hNC⟩ := hv
  have hts := atoms_spec (ws := WH y b nL ret hh) B.pre
  have hown : s.vm.findClass y.cls = some m.cls := findClass_of_methodNamed B.named
  have hA : ∀ q : Nat, s.heap.size ≤ q → va_A wc sz q := fun q h => by rw [← hsz]; exact Or.inr h
  have hl := lv_entry av (n := nL) hav
  rw [lg_entry_eq]
  exact body p e s m below meth c (va_A wc sz) ⟨B.exec, B.bytes, hml, hown, fun w hw => hts w (List.mem_cons_of_mem _ hw), B.notSynchronized, hSB.1⟩ (vx_table (x := y) B (hts _ List.mem_cons_self)) hNC B.returns hSB hA s.heap [] _ hK hP hD va_S.rf hl
theorem srcL {D : va_G} {cl : List vw_C} {A : Nat → Prop} {s : State} {a b : va_W} : Src D cl A s (a ++ b) a := fun _ _ h _ => P_left h
theorem srcL2 {D : va_G} {cl : List vw_C} {A : Nat → Prop} {s : State} {a b d : va_W} : Src D cl A s (a ++ b ++ d) a := fun _ _ h _ => P_left (P_left h)
section GLS
variable {p : Program} {l : Launch} {e : Env} {R : Room} {s : State} {m : MethodId} {args : Array Value} {below : List Frame} {meth : Method} {c : Code} {Q : State → Prop} {D : va_G} {cl : List vw_C} {tys : List (ClassId × FieldType)} {A : Nat → Prop} {nL : Nat} {ws : va_W} {cells slots : Nat} {cc : ByteArray} {own : String} {pc : Nat} {lv : List (Nat × Value)} {st : List Value}

theorem g_sld (X : BX p m c cc nL s args own meth) {b L : Nat} {xs : Nat → Int32} (hX : va_X b L xs s s.heap) (hbl : b < s.heap.size) (hbA : ¬ A b) {i : Nat} {v : Int32} (hL : L ≤ 3072) (hi : i < L) (hv : xs i = v) (hd : decode cc pc = .ok (.iaload, 1))
    (kk : GL p l e R s m args below meth c Q D cl tys A nL ws cells slots (pc + 1) lv (.int v :: st)) : GL p l e R s m args below meth c Q D cl tys A nL ws cells slots pc lv (.int (nI i) :: .ref b :: st) := by
  intro H locs ls hK hP hD hS hl
  have hz := va_sld (Q := Q) (R := R) (l := l) (e := e) (below := below) (args := args) (meth := meth) (cells := cells) (slots := slots) (ls := ls) (rest := st) (m := m) (locs := locs) X.1 X.2.1 hX hbl hbA hS (vp_in_nI hi (by omega)) hd
  rw [nI_clamp (by omega), hv] at hz
  exact hz (kk H locs ls hK hP hD hS hl)
theorem g_slen (X : BX p m c cc nL s args own meth) {b L : Nat} {xs : Nat → Int32} (hX : va_X b L xs s s.heap) (hbl : b < s.heap.size) (hbA : ¬ A b) (hd : decode cc pc = .ok (.arraylength, 1))
    (kk : GL p l e R s m args below meth c Q D cl tys A nL ws cells slots (pc + 1) lv (.int (nI L) :: st)) : GL p l e R s m args below meth c Q D cl tys A nL ws cells slots pc lv (.ref b :: st) := by
  intro H locs ls hK hP hD hS hl
  exact va_slen (Q := Q) (R := R) (l := l) (e := e) (below := below) (args := args) (meth := meth) (cells := cells) (slots := slots) (ls := ls) (rest := st) (m := m) (locs := locs) X.1 X.2.1 hX hbl hbA hS hd (kk H locs ls hK hP hD hS hl)
theorem g_callSW (X : BX p m c cc nL s args own meth) (hSB : SB A s s.heap) (hAf : ∀ q : Nat, s.heap.size ≤ q → A q) (hNC : NC s) {S : Type} {y : MethodName} {bY : ByteArray} {nY : Nat} {ret : Option FieldType} {hh : HTab} {rm : Room} {wc wr : va_W} {r : S → Option Value} {w : S → va_W} {post : S → Prop} {mc ms : Nat} {As st0 : List Value} {n idx : Nat} (hM : CTW l y bY nY ret hh rm As D cl tys wc r w post mc ms) (hw : ws = wc ++ wr) (hcode : Cond.codeWith y bY nY ret hh ∈ GW) (hlink : Cond.methodLink own idx y ∈ GW) (hstat : Cond.static y ∈ GW) (hini : Cond.initialized y.cls ∈ GW) (hy : y.cls ≠ "java/lang/invoke/MethodHandle" ∧ y.cls ≠ "java/lang/invoke/VarHandle" ∧ (parseMethodDescriptor y.desc).map (fun d => d.parameters.length) = some n) (hn : As.length = n) (hR : rm.frames + 1 ≤ R.frames ∧ 8 + (nY + 11) + rm.locals ≤ R.locals) (hrc : rm.cells = mc) (hrs : rm.slots = ms) (hst : st0 = As.reverse ++ st) (hcat : (st.map fun v => v.category).sum ≤ 8) (hf : cells + mc ≤ R.cells ∧ slots + ms ≤ R.slots) (hd : decode cc pc = .ok (.invokestatic idx, 3))
    (kk : ∀ u : S, post u → GL p l e R s m args below meth c Q D cl tys A nL (w u ++ wr) (cells + mc) (slots + ms) (pc + 3) lv ((r u).toList ++ st)) : GL p l e R s m args below meth c Q D cl tys A nL ws cells slots pc lv st0 := by
  subst hst
  refine g_goes (As := As.toArray) hAf hw ?_ kk
  intro H locs ls hK hP hD hS hl
  have hts : ∀ w ∈ WH y bY nY ret hh, w.before args s = true := fun w h => X.w (by rcases List.mem_cons.mp h with rfl | h; exact hcode; exact h)
  have hG : GoodIn (WH y bY nY ret hh) (WH y bY nY ret hh) := wh_good hcode
  have cw : vx_CSW R s args own idx y bY nY ret hh (WH y bY nY ret hh) rm mc ms n := by
    refine ⟨⟨hrc, hrs, hR.1, hR.2, pay_in hts hG, List.mem_cons_self⟩, X.w hcode, X.w hini, ⟨hy.1, hy.2.1⟩, fun sig h => ?_, X.w hlink, X.w hstat⟩
    have h2 := hy.2.2
    rw [h] at h2
    exact (Option.some.inj h2).symm
  exact vx_runSW (As := As) (rest := st) (n := n) ⟨X.1, X.2.1, X.2.2.1, X.2.2.2.1, hts⟩ (hM H.size) cw ⟨PXN.blind, fun U hU hW => ⟨rfl, px_at hSB hAf hw srcN hrdN hK hP hD hS U hU hW, NC.alike hW.alike hNC⟩⟩ rfl hn hl.1 rfl (lv_room hcat) hd hf
/-- a call that throws, and is caught here -/
theorem gc_callV (X : BX p m c cc nL s args own meth) (hSB : SB A s s.heap) (hAf : ∀ q : Nat, s.heap.size ≤ q → A q) {hh : HTab} (hT : c.exceptionTable.toList = tableOf hh) {y : MethodName} {bY : ByteArray} {nY : Nat} {ret : Option FieldType} {rm : Room} {ro : va_W} {E : String} {mcY msY : Nat} {wx : va_W} (hx : Src D cl A s ws wx) {a ci : Nat} {fs : List Value} {q : vw_C} (hrc1 : cl[ci]? = some q) (hrc2 : (a, Sum.inr (ci, fs)) ∈ wx) (hq : q.1 = y.cls) {As st0 : List Value} {n idx : Nat} (hM : CX l y bY nY ret rm (.ref a :: As) D cl tys ro E mcY msY) (hro : Src D cl A s ws ro) (hcode : Cond.code y bY nY ret ∈ GW) (hlink : Cond.methodLink own idx y ∈ GW) (hinst : Cond.instanceMethod y ∈ GW) (hsel : Cond.selects y.cls y y ∈ GW) (hini : Cond.initialized y.cls ∈ GW) (hy : y.cls ≠ "java/lang/invoke/MethodHandle" ∧ y.cls ≠ "java/lang/invoke/VarHandle" ∧ (parseMethodDescriptor y.desc).map (fun d => d.parameters.length) = some n) (hn : As.length = n) (hR : rm.frames + 1 ≤ R.frames ∧ 8 + (nY + 11) + rm.locals ≤ R.locals) (hrc : rm.cells = mcY) (hrs : rm.slots = msY) (hst : st0 = As.reverse ++ .ref a :: st) (hcat : (st.map fun v => v.category).sum ≤ 8) (hf : cells + mcY ≤ R.cells ∧ slots + msY ≤ R.slots) (hd : decode cc pc = .ok (.invokevirtual idx, 3))
    (pre : List ExceptionTableEntry) (x : ExceptionTableEntry) (suf : List ExceptionTableEntry) (hsplit : tableOf hh = pre ++ x :: suf) (hpass : ∀ z ∈ pre, z.catchType ≠ 0 ∧ ∃ nm : String, Cond.classLink own z.catchType nm ∈ GW ∧ va_Nc E nm s) (hcov : covers x pc = true) (h0 : x.catchType ≠ 0) {name : String} (hlk : Cond.classLink own x.catchType name ∈ GW) (hcast : Cond.castable E name ∈ NW)
    (kk : ∀ q9 : Nat, GL p l e R s m args below meth c Q D cl tys A nL ws (cells + mcY) (slots + msY) x.handlerPc lv [.ref q9]) : GL p l e R s m args below meth c Q D cl tys A nL ws cells slots pc lv st0 := by
  subst hst
  intro H locs ls hK hP hD hS hl
  have hts : ∀ w ∈ WG y bY nY ret, w.before args s = true := fun w h => X.w (by rcases List.mem_cons.mp h with rfl | h; exact hcode; exact h)
  have hG : GoodIn (WG y bY nY ret) (WG y bY nY ret) := wg_good (y := y) (b := bY) (n := nY) (r := ret) hcode
  obtain ⟨q0, hq0⟩ := List.getElem?_of_mem hrc2
  have hrun := vx_runV (p := p) (l := l) (e := e) (R := R) (below := below) (meth := meth) (locs := locs) (cells := cells) (slots := slots) (As := As) (rest := st) (n := n) (C := y.cls) (g := F0 m pc ls (As.reverse ++ .ref a :: st)) ⟨X.1, X.2.1, X.2.2.1, X.2.2.2.1, hts⟩ (hM H.size) ⟨callB_of n hts hG rfl hrc hrs (X.w hini) (X.w hlink) hy hR, X.w hinst, X.w hsel⟩ ⟨PX.blind, by rw [← hq]; exact va_recv hK (hx H locs hP hS) hrc1 hq0, fun U hU hW => ⟨rfl, px_at (wr := ws) hSB hAf rfl hro hrdC hK hP hD hS U hU hW⟩⟩ rfl hn hl.1 rfl (lv_room hcat) hd hf
  intro T hT2 X'
  rcases hrun T hT2 X' with ⟨v, st₀, t, T', L, g0, X2, hL, e1, e2, hqq, stp⟩ | ⟨q, st₀, t, T', L, E2, ce, g0, X2, hL, e1, e2, ⟨hE, hz, hk⟩, hce, hcv, hcl, stp⟩
  · exact hqq.elim
  · subst hE
    rw [g0] at hz hk
    have hsub : ∀ q : Nat, va_A [] H.size q → A q := by
      intro q h
      rcases h with ⟨k, e3, h⟩ | h
      · simp at h
      · exact hAf q (Nat.le_trans hS.1 h)
    have hrest : ∀ x ∈ ws, ¬ va_A [] H.size x.1 := by
      intro x hx h
      rcases h with ⟨k, e3, h⟩ | h
      · simp at h
      · have := (mem_at hP hx).lt
        omega
    have hP2 : va_P D cl ws T'.heap := P_of fun x hx => (mem_at hP hx).kept (by rw [e1]; exact hk x.1 (mem_at hP hx).lt (hrest x hx))
    have hS2 : va_S A s.heap T'.heap (locs ++ L) := by
      refine ⟨Nat.le_trans hS.1 (by rw [e1]; exact hz), fun q h1 h2 => ?_, fun q hq => ?_⟩
      · rw [e1, hk q (Nat.lt_of_lt_of_le h1 hS.1) (fun z => h2 (hsub q z))]
        exact hS.2.1 q h1 h2
      · rcases List.mem_append.mp hq with h | h
        · exact hS.2.2 q h
        · exact hsub _ (hL q h)
    have hw := vx_catch (p := p) (l := l) (e := e) (R := R) (s := s) (m := m) (args := args) (below := below) (meth := meth) (c := c) (H := T'.heap) (locs := locs ++ L) (cells := cells + mcY) (slots := slots + msY) (Q := Q) (pc := pc) (ls := ls) (rest := st) (own := own) (name := name) (q := q) (ce := ce) X.2.2.2.1 pre x suf (hT.trans hsplit)
      (fun z hz2 => by obtain ⟨h1, nm, h2, h3⟩ := hpass z hz2; exact Or.inr ⟨h1, nm, X.w h2, h3⟩) hcov h0 (X.w hlk) (nw_use (List.mem_filter.mp hcast).2 (X.nw hcast)) (by rw [e1]; exact hce) hcv hcl (kk q T'.heap (locs ++ L) ls hK hP2 hD hS2 hl)
    obtain ⟨t2, a1, b1⟩ := hw T' rfl X2
    exact ⟨t2, stp.trans a1, b1⟩
theorem g_goto_ {tgt : Nat} (kk : GL p l e R s m args below meth c Q D cl tys A nL ws cells slots tgt lv st) (h : pc = tgt) : GL p l e R s m args below meth c Q D cl tys A nL ws cells slots pc lv st := by subst h; exact kk
end GLS
abbrev OUT (ao : Nat) (n : Int64) (v : Value) : Nat × va_E := (ao, Sum.inr (5, [.long n, v]))
/-- the law's world -/
abbrev WL (adC adM : Nat → Nat) (g : Nat → ClassId) (ao : Nat) (I : Nat → Nat → Int32) (L : Nat → Nat → Int64) (S : Nat → Nat) (Z : Nat → Nat → Int32) (Y n : Int64) (v : Value) : va_W := (WC adC g I L S ++ [OUT ao n v]) ++ WM adM g I L S Z Y
theorem zrow {Z : Nat → Nat → Int32} {v : Int32} : (u2 Z 3 0 v) 0 = Z 0 := funext fun _ => u2_n (by decide)
theorem rg (x : Int32) (lo hi : Nat) : (∃ q, lo ≤ q ∧ q < hi ∧ x = nI q) ∨ (x.toInt < lo ∨ (hi : Int) ≤ x.toInt) := by
  by_cases h : (lo : Int) ≤ x.toInt ∧ x.toInt < hi
  · refine Or.inl ⟨x.toInt.toNat, by omega, by omega, ?_⟩
    apply Int32.toInt_inj.mp
    have h1 := x.toInt_lt
    rw [nI_toInt (by omega)]
    omega
  · exact Or.inr (by omega)
theorem out_lt {x : Int32} {hi : Nat} (h2 : hi < 2 ^ 31) (h : x.toInt < (0 : Nat) ∨ (hi : Int) ≤ x.toInt) : x < 0 ∨ ¬ x < nI hi := by
  rw [Int32.lt_iff_toInt_lt, Int32.lt_iff_toInt_lt, nI_toInt h2, show (0 : Int32).toInt = 0 from by decide]; omega
theorem out_le {x : Int32} {hi : Nat} (h2 : hi < 2 ^ 31) (h : x.toInt < (0 : Nat) ∨ ((hi + 1 : Nat) : Int) ≤ x.toInt) : x < 0 ∨ ¬ x ≤ nI hi := by
  rw [Int32.lt_iff_toInt_lt, Int32.le_iff_toInt_le, nI_toInt h2, show (0 : Int32).toInt = 0 from by decide]; omega
theorem out_lo {x : Int32} {lo hi : Nat} (h1 : lo < 2 ^ 31) (h2 : hi < 2 ^ 31) (h : x.toInt < lo ∨ ((hi + 1 : Nat) : Int) ≤ x.toInt) : x < nI lo ∨ ¬ x ≤ nI hi := by
  rw [Int32.lt_iff_toInt_lt, Int32.le_iff_toInt_le, nI_toInt h1, nI_toInt h2]; omega
theorem out_ti {x : Int32} {hi : Nat} (h : x.toInt < (0 : Nat) ∨ ((hi + 1 : Nat) : Int) ≤ x.toInt) : x.toInt < 0 ∨ (hi : Int) < x.toInt := by omega
