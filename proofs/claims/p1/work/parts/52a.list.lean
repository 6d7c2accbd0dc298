/-! more of the tables' words -/
theorem w_92 : Cond.superclass "Chipfield$Chip" "java/lang/Object" ∈ GW := gw1 92 rfl rfl
theorem w_124 : Cond.superclass "Chipfield$Memory" "java/lang/Object" ∈ GW := gw1 124 rfl rfl
theorem w_163 : Cond.superclass "Chipfield$Frame" "java/lang/Object" ∈ GW := gw1 163 rfl rfl
theorem w_182 : Cond.superclass "Chipfield$Cache" "java/lang/Object" ∈ GW := gw1 182 rfl rfl
theorem w_192 : Cond.superclass "Chipfield" "java/lang/Object" ∈ GW := gw1 192 rfl rfl
theorem w_355 : Cond.superclass "java/lang/Throwable" "java/lang/Object" ∈ GW := gw2 115 rfl rfl
theorem w_399 : Cond.superclass "java/lang/IllegalArgumentException" "java/lang/RuntimeException" ∈ GW := gw2 159 rfl rfl
theorem w_423 : Cond.superclass "java/lang/IndexOutOfBoundsException" "java/lang/RuntimeException" ∈ GW := gw2 183 rfl rfl
theorem w_495 : Cond.superclass "ChipfieldLaw$Out" "java/lang/Object" ∈ GW := gw3 15 rfl rfl
theorem w_498 : Cond.codeWith ⟨"ChipfieldLaw", "write", "(LChipfield;IJLChipfieldLaw$Out;)I"⟩ method_2_code 6 (Option.some FieldType.int) [(0, 12, 15, 19), (0, 12, 19, 21)] ∈ GW := gw3 18 rfl rfl
theorem w_517 : Cond.codeWith ⟨"ChipfieldLaw", "stick", "(LChipfield;IIIILChipfieldLaw$Out;)I"⟩ method_3_code 7 (Option.some FieldType.int) [(0, 15, 18, 19), (0, 15, 22, 21)] ∈ GW := gw3 37 rfl rfl
theorem w_532 : Cond.codeWith ⟨"ChipfieldLaw", "mad", "(LChipfield;IILChipfieldLaw$Out;)I"⟩ method_4_code 5 (Option.some FieldType.int) [(0, 11, 14, 19), (0, 11, 18, 21)] ∈ GW := gw3 52 rfl rfl
theorem w_539 : Cond.codeWith ⟨"ChipfieldLaw", "ray", "(LChipfield;IIILChipfieldLaw$Out;)I"⟩ method_5_code 6 (Option.some FieldType.int) [(0, 13, 16, 19), (0, 13, 20, 21)] ∈ GW := gw3 59 rfl rfl
theorem w_551 : Cond.codeWith ⟨"ChipfieldLaw", "erase", "(LChipfield;IZLChipfieldLaw$Out;)I"⟩ method_6_code 5 (Option.some FieldType.int) [(0, 11, 14, 19), (0, 11, 18, 39)] ∈ GW := gw3 71 rfl rfl
theorem w_576 : Cond.superclass "java/lang/IllegalStateException" "java/lang/RuntimeException" ∈ GW := gw3 96 rfl rfl
theorem w_579 : Cond.codeWith ⟨"ChipfieldLaw", "replace", "(LChipfield;ILChipfieldLaw$Out;)I"⟩ method_7_code 4 (Option.some FieldType.int) [(0, 10, 13, 19), (0, 10, 16, 39)] ∈ GW := gw3 99 rfl rfl
theorem w_596 : Cond.codeWith ⟨"ChipfieldLaw", "limit", "(LChipfield;ILChipfieldLaw$Out;)I"⟩ method_8_code 4 (Option.some FieldType.int) [(0, 10, 13, 21)] ∈ GW := gw3 116 rfl rfl
theorem w_604 : Cond.codeWith ⟨"ChipfieldLaw", "fetch", "(LChipfield;ILChipfieldLaw$Out;)I"⟩ method_9_code 4 (Option.some FieldType.int) [(0, 10, 13, 19)] ∈ GW := gw3 124 rfl rfl
theorem w_628 : Cond.codeWith ⟨"ChipfieldLaw", "patrol", "(LChipfield;ILChipfieldLaw$Out;)I"⟩ method_10_code 4 (Option.some FieldType.int) [(0, 10, 13, 21)] ∈ GW := gw3 148 rfl rfl
theorem w_641 : Cond.codeWith ⟨"ChipfieldLaw", "load", "(LChipfield;ILChipfieldLaw$Out;)I"⟩ method_11_code 4 (Option.some FieldType.int) [(0, 9, 12, 19)] ∈ GW := gw3 161 rfl rfl
theorem w_670 : Cond.codeWith ⟨"ChipfieldLaw", "store", "(LChipfield;IJLChipfieldLaw$Out;)I"⟩ method_12_code 6 (Option.some FieldType.int) [(0, 12, 15, 19), (0, 12, 19, 21)] ∈ GW := gw3 190 rfl rfl
theorem w_681 : Cond.codeWith ⟨"ChipfieldLaw", "times", "(LChipfield;IILChipfieldLaw$Out;)I"⟩ method_13_code 5 (Option.some FieldType.int) [(0, 11, 14, 21)] ∈ GW := gw3 201 rfl rfl
theorem w_689 : Cond.codeWith ⟨"ChipfieldLaw", "power", "(LChipfield;ILChipfieldLaw$Out;)I"⟩ method_14_code 4 (Option.some FieldType.int) [(0, 10, 13, 21)] ∈ GW := gw3 209 rfl rfl
theorem w_698 : Cond.codeWith ⟨"ChipfieldLaw", "symbol", "(LChipfield;JILChipfieldLaw$Out;)I"⟩ method_15_code 6 (Option.some FieldType.int) [(0, 12, 15, 19), (0, 12, 19, 21)] ∈ GW := gw3 218 rfl rfl
theorem w_706 : Cond.codeWith ⟨"ChipfieldLaw", "fooled", "(LChipfield;IIIIILChipfieldLaw$Out;)I"⟩ method_16_code 8 (Option.some FieldType.int) [(0, 17, 20, 19), (0, 17, 24, 21)] ∈ GW := gw3 226 rfl rfl
theorem w_716 : Cond.codeWith ⟨"ChipfieldLaw", "seen", "(LChipfield;IILChipfieldLaw$Out;)I"⟩ method_17_code 5 (Option.some FieldType.int) [(0, 11, 14, 19)] ∈ GW := gw3 236 rfl rfl
theorem w_724 : Cond.codeWith ⟨"ChipfieldLaw", "sum", "(LChipfield;IILChipfieldLaw$Out;)I"⟩ method_18_code 5 (Option.some FieldType.int) [(0, 11, 14, 19), (0, 11, 18, 21)] ∈ GW := gw4 4 rfl rfl
theorem w_733 : Cond.codeWith ⟨"ChipfieldLaw", "mended", "(LChipfield;ILChipfieldLaw$Out;)I"⟩ method_19_code 4 (Option.some FieldType.int) [(0, 10, 13, 19)] ∈ GW := gw4 13 rfl rfl
theorem w_737 : Cond.codeWith ⟨"ChipfieldLaw", "data", "(LChipfield;ILChipfieldLaw$Out;)I"⟩ method_20_code 4 (Option.some FieldType.int) [(0, 9, 12, 19)] ∈ GW := gw4 17 rfl rfl
theorem w_741 : Cond.codeWith ⟨"ChipfieldLaw", "ofChip", "(LChipfield;IILChipfieldLaw$Out;)I"⟩ method_21_code 5 (Option.some FieldType.int) [(0, 11, 14, 19), (0, 11, 18, 21)] ∈ GW := gw4 21 rfl rfl
theorem w_745 : Cond.codeWith ⟨"ChipfieldLaw", "stored", "(LChipfield;IILChipfieldLaw$Out;)I"⟩ method_22_code 5 (Option.some FieldType.int) [(0, 11, 14, 19)] ∈ GW := gw4 25 rfl rfl
theorem w_749 : Cond.codeWith ⟨"ChipfieldLaw", "ofFrame", "(LChipfield;IILChipfieldLaw$Out;)I"⟩ method_23_code 5 (Option.some FieldType.int) [(0, 11, 14, 19), (0, 11, 18, 21)] ∈ GW := gw4 29 rfl rfl
theorem w_753 : Cond.codeWith ⟨"ChipfieldLaw", "held", "(LChipfield;ILChipfieldLaw$Out;)I"⟩ method_24_code 4 (Option.some FieldType.int) [(0, 9, 12, 19)] ∈ GW := gw4 33 rfl rfl
theorem w_757 : Cond.codeWith ⟨"ChipfieldLaw", "bank", "(LChipfield;ILChipfieldLaw$Out;)I"⟩ method_25_code 4 (Option.some FieldType.int) [(0, 10, 13, 21)] ∈ GW := gw4 37 rfl rfl
theorem w_761 : Cond.codeWith ⟨"ChipfieldLaw", "row", "(LChipfield;ILChipfieldLaw$Out;)I"⟩ method_26_code 4 (Option.some FieldType.int) [(0, 9, 12, 19)] ∈ GW := gw4 41 rfl rfl
theorem w_796 : Cond.superclass "java/lang/StringBuilder" "java/lang/AbstractStringBuilder" ∈ GW := gw4 76 rfl rfl
theorem w_1032 : Cond.superclass "java/lang/String" "java/lang/Object" ∈ GW := gw5 72 rfl rfl
theorem w_1035 : Cond.codeWith ⟨"ChipfieldLaw", "wouldMend", "(LChipfield;IILChipfieldLaw$Out;)I"⟩ method_27_code 5 (Option.some FieldType.int) [(0, 11, 14, 19), (0, 11, 18, 21)] ∈ GW := gw5 75 rfl rfl
theorem w_1043 : Cond.codeWith ⟨"ChipfieldLaw", "spare", "(LChipfield;ILChipfieldLaw$Out;)I"⟩ method_28_code 4 (Option.some FieldType.int) [(0, 10, 13, 19)] ∈ GW := gw5 83 rfl rfl
theorem w_1047 : Cond.codeWith ⟨"ChipfieldLaw", "wouldLose", "(LChipfield;IILChipfieldLaw$Out;)I"⟩ method_29_code 5 (Option.some FieldType.int) [(0, 11, 14, 19), (0, 11, 18, 21)] ∈ GW := gw5 87 rfl rfl
theorem w_1079 : Cond.sameField "java/util/ArrayList" "java/util/AbstractList" "modCount" "I" ∈ GW := gw5 119 rfl rfl
theorem w_1086 : Cond.superclass "java/util/ArrayList" "java/util/AbstractList" ∈ GW := gw5 126 rfl rfl
theorem w_1112 : Cond.superclass "ChipfieldModel$Chip" "java/lang/Object" ∈ GW := gw5 152 rfl rfl
theorem w_1132 : Cond.superclass "ChipfieldModel$Frame" "java/lang/Object" ∈ GW := gw5 172 rfl rfl
theorem w_1246 : Cond.superclass "ChipfieldModel" "java/lang/Object" ∈ GW := gw6 46 rfl rfl
/-! contracts of methods that know the address of the list's static empty row -/
theorem SBJ.kept {A : Nat → Prop} {U : State} {H H1 : Heap} {t : Nat} (h : SBJ A U H t) (hq : ∀ a : Nat, a < H.size → ¬ A a → H1[a]? = H[a]?) : SBJ A U H1 t := ⟨h.1.kept hq, h.2.1.kept hq, h.2.2.1.kept hq, h.2.2.2⟩
theorem SBJ.narrow {A B : Nat → Prop} {U : State} {H : Heap} {t : Nat} (h : SBJ A U H t) (hAB : ∀ q, B q → A q) : SBJ B U H t := ⟨h.1.narrow hAB, h.2.1.narrow hAB, h.2.2.1.narrow hAB, h.2.2.2⟩
theorem SBJ.warm {A : Nat → Prop} {s U : State} {H : Heap} {t : Nat} (hW : s.WarmedH U.vm) (h : SBJ A s H t) : SBJ A U H t := ⟨h.1.moved hW.alike, h.2.1.moved hW.alike, h.2.2.1.moved hW.alike, h.2.2.2.1.imp fun a h => vk_R.warm hW h, wEC_warm hW h.2.2.2.2⟩
theorem SBJ.same {A : Nat → Prop} {s U : State} {H : Heap} {t : Nat} (hV : U.vm = s.vm) (h : SBJ A s H t) : SBJ A U H t := by
  have hv : s.vm.Alike U.vm := by rw [hV]; exact Vm.Alike.refl s.vm
  exact ⟨h.1.moved hv, h.2.1.moved hv, h.2.2.1.moved hv, h.2.2.2.1.imp fun a h => vk_R.same hV h, wEC_same hV.symm h.2.2.2.2⟩
def PXt (t : Nat) (D : va_G) (cl : List vw_C) (tys : List (ClassId × FieldType)) (ro wc : va_W) (sz : Nat) (U : State) : Prop := PX D cl tys ro wc sz U ∧ SBJ (va_A wc sz) U U.heap t
def CTt (t : Nat) {S : Type} (l : Launch) (y : MethodName) (b : ByteArray) (nL : Nat) (ret : Option FieldType) (rm : Room) (av : List Value) (D : va_G) (cl : List vw_C) (tys : List (ClassId × FieldType)) (ro wc : va_W) (r : S → Option Value) (w : S → va_W) (post : S → Prop) (mc ms : Nat) : Prop :=
  ∀ sz : Nat, Met l y (WG y b nL ret) rm (va_Pc av (PXt t D cl tys ro wc sz)) (QX D cl (va_A wc sz) r w post) mc ms (va_A wc sz)
theorem PXt.blind {t : Nat} {D : va_G} {cl : List vw_C} {tys : List (ClassId × FieldType)} {ro wc : va_W} {sz : Nat} {av : List Value} : FrameBlind (va_Pc av (PXt t D cl tys ro wc sz)) := by
  intro a U g mk h
  obtain ⟨e, ⟨h1, h2, h3, h4, h5, h6, h7⟩, h8⟩ := h
  exact ⟨e, ⟨h1, h2, h3, h4, h5, va_K.moved (u := U) (U := U.calling g mk a) (Vm.Alike.refl U.vm) h6, SB.same (s := U) (U := U.calling g mk a) rfl h7⟩, SBJ.same (s := U) (U := U.calling g mk a) rfl h8⟩
theorem ctt_of {t : Nat} {S : Type} {l : Launch} {y : MethodName} {b : ByteArray} {nL : Nat} {ret : Option FieldType} {rm : Room} {av : List Value} {D : va_G} {cl : List vw_C} {tys : List (ClassId × FieldType)} {ro wc : va_W} {r : S → Option Value} {w : S → va_W} {post : S → Prop} {mc ms : Nat}
    (hy : plainName y.cls = true) (hav : (lg_sl av).length ≤ nL)
    (body : ∀ (p : Program) (e : Env) (s : State) (m : MethodId) (below : List Frame) (meth : Method) (c : Code) (A : Nat → Prop), BX p m c b nL s av.toArray y.cls meth → meth.sig.returnType = ret → meth.name = y.name → SB A s s.heap → SBJ A s s.heap t → RO D cl A s ro → (∀ q : Nat, s.heap.size ≤ q → A q) →
      GL p l e rm s m av.toArray below meth c (MQ below (QX D cl A r w post) av.toArray s mc ms A) D cl tys A nL wc 0 0 0 (lv_args 0 av) []) : CTt t l y b nL ret rm av D cl tys ro wc r w post mc ms := by
  intro sz
  refine Met.ofW (cc := b) (maxL := nL) (ret := ret) hy rfl ?_
  intro p e s m args below meth c s₁ B hml hv
  obtain ⟨rfl, ⟨hsz, hR, hP, hD, hne, hK, hSB⟩, hJ⟩ := hv
  have hts := atoms_spec (ws := WG y b nL ret) B.pre
  have hown : s.vm.findClass y.cls = some m.cls := findClass_of_methodNamed B.named
  have hA : ∀ q : Nat, s.heap.size ≤ q → va_A wc sz q := fun q h => by rw [← hsz]; exact Or.inr h
  have hRO : RO D cl (va_A wc sz) s ro := by
    refine ⟨hR, fun x hx h => ?_⟩
    rcases h with ⟨k, e2, h⟩ | h
    · exact hne x hx _ (List.mem_of_getElem? h) rfl
    · have := (mem_at hR hx).lt
      omega
  have hl := lv_entry av (n := nL) hav
  rw [lg_entry_eq]
  exact body p e s m below meth c (va_A wc sz) ⟨B.exec, B.bytes, hml, hown, fun w hw => hts w (List.mem_cons_of_mem _ hw), B.notSynchronized, hSB.1⟩ B.returns (name_of_methodNamed B.named B.method).1 hSB hJ hRO hA s.heap [] _ hK hP hD va_S.rf hl
section GLS
variable {p : Program} {l : Launch} {e : Env} {R : Room} {s : State} {m : MethodId} {args : Array Value} {below : List Frame} {meth : Method} {c : Code} {Q : State → Prop} {D : va_G} {cl : List vw_C} {tys : List (ClassId × FieldType)} {A : Nat → Prop} {nL : Nat} {ws : va_W} {cells slots : Nat} {cc : ByteArray} {own : String} {pc : Nat} {lv : List (Nat × Value)} {st : List Value}

theorem pxt_at {t : Nat} (hSB : SB A s s.heap) (hJ : SBJ A s s.heap t) (hAf : ∀ q : Nat, s.heap.size ≤ q → A q) {ro wc wr : va_W} (hw : ws = wc ++ wr) (hro : Src D cl A s ws ro) (hrd : va_D A ws → ∀ x ∈ ro, ∀ y ∈ wc, x.1 ≠ y.1) {H : Heap} {locs : List Loc} (hK : va_K D cl tys s) (hP : va_P D cl ws H) (hD : va_D A ws) (hS : va_S A s.heap H locs) :
    ∀ U : State, U.heap = H → s.WarmedH U.vm → PXt t D cl tys ro wc H.size U := by
  intro U hU hW
  have hsub : ∀ q : Nat, va_A wc H.size q → A q := by
    intro q h
    rcases h with ⟨k, e3, h⟩ | h
    · exact D_mem hD (by rw [hw]; exact List.mem_append_left _ (List.mem_of_getElem? h))
    · exact hAf q (Nat.le_trans hS.1 h)
  refine ⟨px_at hSB hAf hw hro hrd hK hP hD hS U hU hW, ?_⟩
  rw [hU]
  exact SBJ.warm hW (SBJ.narrow (SBJ.kept hJ (fun a h1 h2 => hS.2.1 a h1 h2)) hsub)
theorem g_callIt {t : Nat} (X : BX p m c cc nL s args own meth) (hSB : SB A s s.heap) (hJ : SBJ A s s.heap t) (hAf : ∀ q : Nat, s.heap.size ≤ q → A q) {S : Type} {y : MethodName} {bY : ByteArray} {nY : Nat} {rm : Room} {ro wc wr : va_W} {r : S → Option Value} {w : S → va_W} {post : S → Prop} {mc ms : Nat} {a : Nat} {As st0 : List Value} {n idx : Nat} (hM : CTt t l y bY nY none rm (.ref a :: As) D cl tys ro wc r w post mc ms) (hw : ws = wc ++ wr) (hro : Src D cl A s ws ro) (hrd : va_D A ws → ∀ x ∈ ro, ∀ y ∈ wc, x.1 ≠ y.1) (hcode : Cond.code y bY nY none ∈ GW) (hlink : Cond.methodLink own idx y ∈ GW) (hinst : Cond.instanceMethod y ∈ GW) (hnm : y.name = "<init>") (hini : Cond.initialized y.cls ∈ GW) (hy : y.cls ≠ "java/lang/invoke/MethodHandle" ∧ y.cls ≠ "java/lang/invoke/VarHandle" ∧ (parseMethodDescriptor y.desc).map (fun d => d.parameters.length) = some n) (hn : As.length = n) (hR : rm.frames + 1 ≤ R.frames ∧ 8 + (nY + 11) + rm.locals ≤ R.locals) (hrc : rm.cells = mc) (hrs : rm.slots = ms) (hst : st0 = As.reverse ++ .ref a :: st) (hcat : (st.map fun v => v.category).sum ≤ 8) (hf : cells + mc ≤ R.cells ∧ slots + ms ≤ R.slots) (hd : decode cc pc = .ok (.invokespecial idx, 3))
    (kk : ∀ u : S, post u → GL p l e R s m args below meth c Q D cl tys A nL (w u ++ wr) (cells + mc) (slots + ms) (pc + 3) lv ((r u).toList ++ st)) : GL p l e R s m args below meth c Q D cl tys A nL ws cells slots pc lv st0 := by
  subst hst
  refine g_goes (As := (Value.ref a :: As).toArray) hAf hw ?_ kk
  intro H locs ls hK hP hD hS hl
  have hts : ∀ w ∈ WG y bY nY none, w.before args s = true := fun w h => X.w (by rcases List.mem_cons.mp h with rfl | h; exact hcode; exact h)
  have hG : GoodIn (WG y bY nY none) (WG y bY nY none) := (wg_good (y := y) (b := bY) (n := nY) (r := none) hcode)
  exact va_runI (As := As) (rest := st) (n := n) ⟨X.1, X.2.1, X.2.2.1, X.2.2.2.1, hts⟩ (hM H.size) ⟨callB_of n hts hG rfl hrc hrs (X.w hini) (X.w hlink) hy hR, hnm, X.w hinst⟩ ⟨PXt.blind, fun U hU hW => ⟨rfl, pxt_at hSB hJ hAf hw hro hrd hK hP hD hS U hU hW⟩⟩ rfl hn hl.1 rfl (lv_room hcat) hd hf
theorem g_callVt {t : Nat} (X : BX p m c cc nL s args own meth) (hSB : SB A s s.heap) (hJ : SBJ A s s.heap t) (hAf : ∀ q : Nat, s.heap.size ≤ q → A q) {S : Type} {y : MethodName} {bY : ByteArray} {nY : Nat} {ret : Option FieldType} {rm : Room} {ro wc wr : va_W} {r : S → Option Value} {w : S → va_W} {post : S → Prop} {mc ms : Nat} {wx : va_W} (hx : Src D cl A s ws wx) {a ci : Nat} {fs : List Value} {q : vw_C} (hrc1 : cl[ci]? = some q) (hrc2 : (a, Sum.inr (ci, fs)) ∈ wx) (hq : q.1 = y.cls) {As st0 : List Value} {n idx : Nat} (hM : CTt t l y bY nY ret rm (.ref a :: As) D cl tys ro wc r w post mc ms) (hw : ws = wc ++ wr) (hro : Src D cl A s ws ro) (hrd : va_D A ws → ∀ x ∈ ro, ∀ y ∈ wc, x.1 ≠ y.1) (hcode : Cond.code y bY nY ret ∈ GW) (hlink : Cond.methodLink own idx y ∈ GW) (hinst : Cond.instanceMethod y ∈ GW) (hsel : Cond.selects y.cls y y ∈ GW) (hini : Cond.initialized y.cls ∈ GW) (hy : y.cls ≠ "java/lang/invoke/MethodHandle" ∧ y.cls ≠ "java/lang/invoke/VarHandle" ∧ (parseMethodDescriptor y.desc).map (fun d => d.parameters.length) = some n) (hn : As.length = n) (hR : rm.frames + 1 ≤ R.frames ∧ 8 + (nY + 11) + rm.locals ≤ R.locals) (hrc : rm.cells = mc) (hrs : rm.slots = ms) (hst : st0 = As.reverse ++ .ref a :: st) (hcat : (st.map fun v => v.category).sum ≤ 8) (hf : cells + mc ≤ R.cells ∧ slots + ms ≤ R.slots) (hd : decode cc pc = .ok (.invokevirtual idx, 3))
    (kk : ∀ u : S, post u → GL p l e R s m args below meth c Q D cl tys A nL (w u ++ wr) (cells + mc) (slots + ms) (pc + 3) lv ((r u).toList ++ st)) : GL p l e R s m args below meth c Q D cl tys A nL ws cells slots pc lv st0 := by
  subst hst
  refine g_goes (As := (Value.ref a :: As).toArray) hAf hw ?_ kk
  intro H locs ls hK hP hD hS hl
  have hts : ∀ w ∈ WG y bY nY ret, w.before args s = true := fun w h => X.w (by rcases List.mem_cons.mp h with rfl | h; exact hcode; exact h)
  have hG : GoodIn (WG y bY nY ret) (WG y bY nY ret) := (wg_good (y := y) (b := bY) (n := nY) (r := ret) hcode)
  obtain ⟨q0, h0⟩ := List.getElem?_of_mem hrc2
  exact va_runV (As := As) (rest := st) (n := n) (C := y.cls) ⟨X.1, X.2.1, X.2.2.1, X.2.2.2.1, hts⟩ (hM H.size) ⟨callB_of n hts hG rfl hrc hrs (X.w hini) (X.w hlink) hy hR, X.w hinst, X.w hsel⟩ ⟨PXt.blind, by rw [← hq]; exact va_recv hK (hx H locs hP hS) hrc1 h0, fun U hU hW => ⟨rfl, pxt_at hSB hJ hAf hw hro hrd hK hP hD hS U hU hW⟩⟩ rfl hn hl.1 rfl (lv_room hcat) hd hf
theorem g_getS (X : BX p m c cc nL s args own meth) {wx : va_W} (hx : Src D cl A s ws wx) {ref C : String} {T : u_T} {N ci index a : Nat} {fs : List Value} {v : Value} (hin : ∀ w ∈ u_ws C T N, w ∈ GW) (hc : cl[ci]? = some (C, T, N)) (k : Nat) (hk : k < N) (hlink : Cond.fieldLink own index ref (T k).2.1 (T k).2.2.1 ∈ GW) (hr : Cond.sameField ref (T k).1 (T k).2.1 (T k).2.2.1 ∈ GW) (he : (a, Sum.inr (ci, fs)) ∈ wx) (hv : fs[k]? = some v) (hd : decode cc pc = .ok (.getfield index, 3))
    (kk : GL p l e R s m args below meth c Q D cl tys A nL ws cells slots (pc + 3) lv (v :: st)) : GL p l e R s m args below meth c Q D cl tys A nL ws cells slots pc lv (.ref a :: st) := by
  intro H locs ls hK hP hD hS hl
  obtain ⟨q0, h0⟩ := List.getElem?_of_mem he
  exact va_get X.1 X.2.1 (fun w h => X.w h) hin X.2.2.2.1 hK (hx H locs hP hS) q0 h0 hc k hk (X.w hlink) (fun x h => u_same (X.w hr) x h) hv hd (kk H locs ls hK hP hD hS hl)
theorem g_putS (X : BX p m c cc nL s args own meth) {ref C : String} {T : u_T} {N ci index a : Nat} {fs : List Value} {v : Value} {ty : FieldType} {ws' : va_W} (hin : ∀ w ∈ u_ws C T N, w ∈ GW) (ty0 : Nat → FieldType) (hty : ∀ k, k < N → parseFieldDescriptor (T k).2.2.1 = some (ty0 k)) (hnm : ∀ a, a < N → ∀ b, b < N → a ≠ b → (T a).2.1 ≠ (T b).2.1) (hc : cl[ci]? = some (C, T, N)) (k : Nat) (hk : k < N) (hlink : Cond.fieldLink own index ref (T k).2.1 (T k).2.2.1 ∈ GW) (hr : Cond.sameField ref (T k).1 (T k).2.1 (T k).2.2.1 ∈ GW) (hfin : (T k).2.2.2 = false) (hd2 : parseFieldDescriptor (T k).2.2.1 = some ty) (hn : narrow ty v = v) (hfit : fits ty v = true) (q0 : Nat) (he : ws[q0]? = some (a, Sum.inr (ci, fs))) (hl2 : k < fs.length) (hw : ws.set q0 (a, Sum.inr (ci, fs.set k v)) = ws') (hd : decode cc pc = .ok (.putfield index, 3))
    (kk : GL p l e R s m args below meth c Q D cl tys A nL ws' cells slots (pc + 3) lv st) : GL p l e R s m args below meth c Q D cl tys A nL ws cells slots pc lv (v :: .ref a :: st) := by
  intro H locs ls hK hP hD hS hl
  subst hw
  exact va_put X.1 X.2.1 (fun w h => X.w h) hin ty0 hty hnm X.2.2.2.1 hK hP hD hS q0 he hc k hk (X.w hlink) (fun x h => u_same (X.w hr) x h) hfin hd2 hn hfit hl2 hd (fun H1 locs1 hP1 hD1 hS1 => kk H1 locs1 ls hK hP1 hD1 hS1 hl)
theorem g_aastO (X : BX p m c cc nL s args own meth) {cA : ClassId} {E : String} {r : vw_C} {n a b ci : Nat} {vs : List Value} {f : Nat → Option Nat} {ws' : va_W} (t0 : Nat) (ht : tys[t0]? = some (cA, .object E)) (hca : Cond.castable r.1 E ∈ NW) (q0 : Nat) (he : ws[q0]? = some (a, Sum.inl (cA, n, .inr (.inr (.inr (.inr f)))))) (hm : (b, Sum.inr (ci, vs)) ∈ ws) (hc : cl[ci]? = some r) {i : Int32} (j : Nat) (hi : i = nI j) (hj : j < n) (hn : n < 2 ^ 31) (hw : ws.set q0 (a, Sum.inl (cA, n, .inr (.inr (.inr (.inr (va_up f j (some b))))))) = ws') (hd : decode cc pc = .ok (.aastore, 1))
    (kk : GL p l e R s m args below meth c Q D cl tys A nL ws' cells slots (pc + 1) lv st) : GL p l e R s m args below meth c Q D cl tys A nL ws cells slots pc lv (.ref b :: .int i :: .ref a :: st) := by
  intro H locs ls hK hP hD hS hl
  subst hi
  obtain ⟨qk, hk⟩ := List.getElem?_of_mem hm
  have hz := va_astqO (Q := Q) (R := R) (l := l) (e := e) (below := below) (args := args) (meth := meth) (cells := cells) (slots := slots) (ls := ls) (rest := st) (m := m) (locs := locs) X.1 X.2.1 hK hP hD hS q0 t0 qk ci he ht (X.nw hca) hk hc (vp_in_nI hj hn) hd
  rw [nI_clamp (by omega), hw] at hz
  exact hz (fun H1 locs1 hP1 hD1 hS1 => kk H1 locs1 ls hK hP1 hD1 hS1 hl)
theorem g_tlen (X : BX p m c cc nL s args own meth) {ty : FieldType} {t N : Nat} {f : Nat → Value} (hT : va_T ty t N f A s s.heap) {v : Int32} (hv : Int32.ofNat N = v) (hd : decode cc pc = .ok (.arraylength, 1))
    (kk : GL p l e R s m args below meth c Q D cl tys A nL ws cells slots (pc + 1) lv (.int v :: st)) : GL p l e R s m args below meth c Q D cl tys A nL ws cells slots pc lv (.ref t :: st) := by
  intro H locs ls hK hP hD hS hl
  exact va_tlen X.1 X.2.1 hT hS hv hd (kk H locs ls hK hP hD hS hl)
theorem g_mmax (X : BX p m c cc nL s args own meth) {index : Nat} (hlink : Cond.methodLink own index Lib.Math.max.name ∈ GW) (hstat : Cond.static Lib.Math.max.name ∈ GW) (hini : Cond.initialized "java/lang/Math" ∈ GW) (hcode : Cond.code Lib.Math.max.name Lib.Math.max.code 2 (some .int) ∈ GW) (hframes : 1 ≤ R.frames) (hlo : 21 ≤ R.locals) (hcat : (st.map fun v => v.category).sum ≤ 8) (hc : cells ≤ R.cells) (hs : slots ≤ R.slots) {x y v : Int32} (hv : (if x < y then y else x) = v) (hd : decode cc pc = .ok (.invokestatic index, 3))
    (kk : GL p l e R s m args below meth c Q D cl tys A nL ws cells slots (pc + 3) lv (.int v :: st)) : GL p l e R s m args below meth c Q D cl tys A nL ws cells slots pc lv (.int y :: .int x :: st) := by
  subst hv
  intro H locs ls hK hP hD hS hl
  exact va_mmax X.1 X.2.1 (X.2.2.1.trans hl.1.symm) X.2.2.2.1 (X.w hlink) (X.w hstat) (X.w hini) (X.w hcode) hframes (by omega) hc hs hd (kk H locs ls hK hP hD hS hl)
theorem g_mmin (X : BX p m c cc nL s args own meth) {index : Nat} (hlink : Cond.methodLink own index Lib.Math.min.name ∈ GW) (hstat : Cond.static Lib.Math.min.name ∈ GW) (hini : Cond.initialized "java/lang/Math" ∈ GW) (hcode : Cond.code Lib.Math.min.name Lib.Math.min.code 2 (some .int) ∈ GW) (hframes : 1 ≤ R.frames) (hlo : 21 ≤ R.locals) (hcat : (st.map fun v => v.category).sum ≤ 8) (hc : cells ≤ R.cells) (hs : slots ≤ R.slots) {x y v : Int32} (hv : (if y < x then y else x) = v) (hd : decode cc pc = .ok (.invokestatic index, 3))
    (kk : GL p l e R s m args below meth c Q D cl tys A nL ws cells slots (pc + 3) lv (.int v :: st)) : GL p l e R s m args below meth c Q D cl tys A nL ws cells slots pc lv (.int y :: .int x :: st) := by
  subst hv
  intro H locs ls hK hP hD hS hl
  exact va_mmin X.1 X.2.1 (X.2.2.1.trans hl.1.symm) X.2.2.2.1 (X.w hlink) (X.w hstat) (X.w hini) (X.w hcode) hframes (by omega) hc hs hd (kk H locs ls hK hP hD hS hl)
theorem g_acmpE (X : BX p m c cc nL s args own meth) {a : Nat} {off : Int} (tgt : Nat) (hd : decode cc pc = .ok (.if_acmp .eq off, 3)) (ht : (pc : Int) + off = (tgt : Int))
    (kk : GL p l e R s m args below meth c Q D cl tys A nL ws cells slots tgt lv st) : GL p l e R s m args below meth c Q D cl tys A nL ws cells slots pc lv (.ref a :: .ref a :: st) := by
  intro H locs ls hK hP hD hS hl
  exact lv_acmp_eq (rx := some a) (ry := some a) X.1 X.2.1 hd ht (fun _ => kk H locs ls hK hP hD hS hl) (fun h => absurd rfl h)
end GLS
theorem mdt_m1 : mdt (-1) = lN 0 := if_pos rfl

def KJxa1e45_init_da8c8_0_0 : List (Nat × Instr × Nat) := [(0, .aload_n 0, 1)]
theorem KJxa1e45_init_da8c8_0_0_d : ∀ z ∈ KJxa1e45_init_da8c8_0_0, decode cJxa1e45_init_da8c8 z.1 = .ok z.2 := by decide +kernel
set_option maxHeartbeats 4000000 in
set_option maxRecDepth 100000 in
theorem c_Jxa1e45_init_da8c8 (l : Launch) (D : va_G) (g : Nat → ClassId) (a : Nat) : CT l yJxa1e45_init_da8c8 cJxa1e45_init_da8c8 1 ((Option.none : Option Jvm.ClassFile.FieldType)) ({ frames := 1, cells := 0, slots := 0, locals := 20 } : Room) [.ref a] D CL (TYS g) ([]) ([(a, Sum.inr (9, [.int 0, .null, .int 0]))]) (S := Unit) (fun _ => none) (fun u => [(a, Sum.inr (9, [.int 0, .null, .int 0]))]) (fun _ => True) 0 0 := by
  refine ct_of (by decide +kernel) (Nat.le_of_ble_eq_true rfl) ?_
  intro p e s m below meth c A X hr hnm hSB hRO hAf
  refine g_cs (ws' := ([(a, Sum.inr (9, [.int 0, .null, .int 0]))] : va_W)) (lv' := [(0, .ref a)]) (rfl) rfl ?_
  refine g_run X KJxa1e45_init_da8c8_0_0 KJxa1e45_init_da8c8_0_0_d 1 [(0, .ref a)] [.ref a] rfl ?_
  refine g_objInit X w_1072 w_39 w_40 (Nat.le_of_ble_eq_true rfl) (Nat.le_of_ble_eq_true rfl) (Nat.le_of_ble_eq_true rfl) dJxa1e45_init_da8c8_1 ?_
  exact g_vret X hr () rfl (trivial) (rfl) (Nat.le_of_ble_eq_true rfl) (Nat.le_of_ble_eq_true rfl) dJxa1e45_init_da8c8_4

def KJxc12de_init_da8c8_0_0 : List (Nat × Instr × Nat) := [(0, .aload_n 0, 1)]
theorem KJxc12de_init_da8c8_0_0_d : ∀ z ∈ KJxc12de_init_da8c8_0_0, decode cJxc12de_init_da8c8 z.1 = .ok z.2 := by decide +kernel
def KJxc12de_init_da8c8_4_1 : List (Nat × Instr × Nat) := [(4, .aload_n 0, 1), (5, .iconst 0, 1)]
theorem KJxc12de_init_da8c8_4_1_d : ∀ z ∈ KJxc12de_init_da8c8_4_1, decode cJxc12de_init_da8c8 z.1 = .ok z.2 := by decide +kernel
set_option maxHeartbeats 4000000 in
set_option maxRecDepth 100000 in
theorem c_Jxc12de_init_da8c8 (l : Launch) (D : va_G) (g : Nat → ClassId) (a : Nat) : CT l yJxc12de_init_da8c8 cJxc12de_init_da8c8 1 ((Option.none : Option Jvm.ClassFile.FieldType)) ({ frames := 2, cells := 0, slots := 0, locals := 40 } : Room) [.ref a] D CL (TYS g) ([]) ([(a, Sum.inr (9, [.int 0, .null, .int 0]))]) (S := Unit) (fun _ => none) (fun u => [(a, Sum.inr (9, [.int (nI 0), .null, .int 0]))]) (fun _ => True) 0 0 := by
  refine ct_of (by decide +kernel) (Nat.le_of_ble_eq_true rfl) ?_
  intro p e s m below meth c A X hr hnm hSB hRO hAf
  refine g_cs (ws' := ([(a, Sum.inr (9, [.int 0, .null, .int 0]))] : va_W)) (lv' := [(0, .ref a)]) (rfl) rfl ?_
  refine g_run X KJxc12de_init_da8c8_0_0 KJxc12de_init_da8c8_0_0_d 1 [(0, .ref a)] [.ref a] rfl ?_
  refine g_callI X hSB hAf (As := []) (wr := ([] : va_W)) (n := 0) (c_Jxa1e45_init_da8c8 l D g a ) rfl srcN hrdN w_1071 w_1069 w_1070 rfl w_7 (by decide +kernel) rfl ⟨Nat.le_of_ble_eq_true rfl, Nat.le_of_ble_eq_true rfl⟩ rfl rfl rfl (Nat.le_of_ble_eq_true rfl) ⟨Nat.le_of_ble_eq_true rfl, Nat.le_of_ble_eq_true rfl⟩ dJxc12de_init_da8c8_1 (fun hu1 _ => ?_)
  refine g_af (ws' := ([(a, Sum.inr (9, [.int 0, .null, .int 0]))] : va_W)) (st' := []) (cells' := 0) (slots' := 0) (pc' := 4) rfl rfl rfl rfl rfl ?_
  refine g_run X KJxc12de_init_da8c8_4_1 KJxc12de_init_da8c8_4_1_d 6 [(0, .ref a)] [.int (nI 0), .ref a] rfl ?_
  refine g_put X (ws' := ([(a, Sum.inr (9, [.int (nI 0), .null, .int 0]))] : va_W)) hinJx4a65c tyJx4a65c tyJx4a65c_ok nmJx4a65c rfl 0 (by decide) w_1077 rfl rfl (ty := .int) rfl rfl rfl (0) (rfl) (Nat.le_of_ble_eq_true rfl) (rfl) dJxc12de_init_da8c8_6 ?_
  exact g_vret X hr () rfl (trivial) (rfl) (Nat.le_of_ble_eq_true rfl) (Nat.le_of_ble_eq_true rfl) dJxc12de_init_da8c8_9

def KJx4a65c_init_da8c8_0_0 : List (Nat × Instr × Nat) := [(0, .aload_n 0, 1)]
theorem KJx4a65c_init_da8c8_0_0_d : ∀ z ∈ KJx4a65c_init_da8c8_0_0, decode cJx4a65c_init_da8c8 z.1 = .ok z.2 := by decide +kernel
def KJx4a65c_init_da8c8_4_1 : List (Nat × Instr × Nat) := [(4, .aload_n 0, 1)]
theorem KJx4a65c_init_da8c8_4_1_d : ∀ z ∈ KJx4a65c_init_da8c8_4_1, decode cJx4a65c_init_da8c8 z.1 = .ok z.2 := by decide +kernel
set_option maxHeartbeats 4000000 in
set_option maxRecDepth 100000 in
theorem c_Jx4a65c_init_da8c8 (l : Launch) (D : va_G) (g : Nat → ClassId) (t : Nat) (a : Nat) : CTt t l yJx4a65c_init_da8c8 cJx4a65c_init_da8c8 1 ((Option.none : Option Jvm.ClassFile.FieldType)) ({ frames := 3, cells := 0, slots := 0, locals := 60 } : Room) [.ref a] D CL (TYS g) ([]) ([(a, Sum.inr (9, [.int 0, .null, .int 0]))]) (S := Unit) (fun _ => none) (fun u => [(a, Sum.inr (9, [.int (nI 0), .ref t, .int 0]))]) (fun _ => True) 0 0 := by
  refine ctt_of (by decide +kernel) (Nat.le_of_ble_eq_true rfl) ?_
  intro p e s m below meth c A X hr hnm hSB hJ hRO hAf
  refine g_cs (ws' := ([(a, Sum.inr (9, [.int 0, .null, .int 0]))] : va_W)) (lv' := [(0, .ref a)]) (rfl) rfl ?_
  refine g_run X KJx4a65c_init_da8c8_0_0 KJx4a65c_init_da8c8_0_0_d 1 [(0, .ref a)] [.ref a] rfl ?_
  refine g_callI X hSB hAf (As := []) (wr := ([] : va_W)) (n := 0) (c_Jxc12de_init_da8c8 l D g a ) rfl srcN hrdN w_1068 w_1066 w_1067 rfl w_8 (by decide +kernel) rfl ⟨Nat.le_of_ble_eq_true rfl, Nat.le_of_ble_eq_true rfl⟩ rfl rfl rfl (Nat.le_of_ble_eq_true rfl) ⟨Nat.le_of_ble_eq_true rfl, Nat.le_of_ble_eq_true rfl⟩ dJx4a65c_init_da8c8_1 (fun hu1 _ => ?_)
  refine g_af (ws' := ([(a, Sum.inr (9, [.int (nI 0), .null, .int 0]))] : va_W)) (st' := []) (cells' := 0) (slots' := 0) (pc' := 4) rfl rfl rfl rfl rfl ?_
  refine g_run X KJx4a65c_init_da8c8_4_1 KJx4a65c_init_da8c8_4_1_d 5 [(0, .ref a)] [.ref a] rfl ?_
  refine g_gets X hJ.2.1 w_1073 dJx4a65c_init_da8c8_5 ?_
  refine g_put X (ws' := ([(a, Sum.inr (9, [.int (nI 0), .ref t, .int 0]))] : va_W)) hinJx4a65c tyJx4a65c tyJx4a65c_ok nmJx4a65c rfl 1 (by decide) w_1075 rfl rfl (ty := tyJx4a65c 1) (tyJx4a65c_ok 1 (by decide)) rfl rfl (0) (rfl) (Nat.le_of_ble_eq_true rfl) (rfl) dJx4a65c_init_da8c8_8 ?_
  exact g_vret X hr () rfl (trivial) (rfl) (Nat.le_of_ble_eq_true rfl) (Nat.le_of_ble_eq_true rfl) dJx4a65c_init_da8c8_11

def KJx4a65c_grow_92f84_0_0 : List (Nat × Instr × Nat) := [(0, .aload_n 0, 1)]
theorem KJx4a65c_grow_92f84_0_0_d : ∀ z ∈ KJx4a65c_grow_92f84_0_0, decode cJx4a65c_grow_92f84 z.1 = .ok z.2 := by decide +kernel
def KJx4a65c_grow_92f84_5_1 : List (Nat × Instr × Nat) := [(5, .istore_n 2, 1), (6, .iload_n 2, 1)]
theorem KJx4a65c_grow_92f84_5_1_d : ∀ z ∈ KJx4a65c_grow_92f84_5_1, decode cJx4a65c_grow_92f84 z.1 = .ok z.2 := by decide +kernel
def KJx4a65c_grow_92f84_10_2 : List (Nat × Instr × Nat) := [(10, .aload_n 0, 1)]
theorem KJx4a65c_grow_92f84_10_2_d : ∀ z ∈ KJx4a65c_grow_92f84_10_2, decode cJx4a65c_grow_92f84 z.1 = .ok z.2 := by decide +kernel
def KJx4a65c_grow_92f84_45_3 : List (Nat × Instr × Nat) := [(45, .aload_n 0, 1), (46, .bipush 10, 2), (48, .iload_n 1, 1)]
theorem KJx4a65c_grow_92f84_45_3_d : ∀ z ∈ KJx4a65c_grow_92f84_45_3, decode cJx4a65c_grow_92f84 z.1 = .ok z.2 := by decide +kernel
def KJx4a65c_grow_92f84_55_4 : List (Nat × Instr × Nat) := [(55, .dup_x1, 1)]
theorem KJx4a65c_grow_92f84_55_4_d : ∀ z ∈ KJx4a65c_grow_92f84_55_4, decode cJx4a65c_grow_92f84 z.1 = .ok z.2 := by decide +kernel
set_option maxHeartbeats 4000000 in
set_option maxRecDepth 100000 in
theorem c_Jx4a65c_grow_92f84 (l : Launch) (D : va_G) (g : Nat → ClassId) (t : Nat) (a : Nat) : CTt t l yJx4a65c_grow_92f84 cJx4a65c_grow_92f84 4 ((Option.some (FieldType.array (FieldType.object "java/lang/Object")))) ({ frames := 1, cells := 1, slots := 10, locals := 21 } : Room) [.ref a, .int (nI 1)] D CL (TYS g) ([]) ([(a, Sum.inr (9, [.int (nI 1), .ref t, .int 0]))]) (S := Nat) (fun u => some (.ref u)) (fun u => [(a, Sum.inr (9, [.int (nI 1), .ref u, .int 0])), (u, Sum.inl (g 4, 10, .inr (.inr (.inr (.inr (fun _ => none))))))]) (fun _ => True) 1 10 := by
  refine ctt_of (by decide +kernel) (Nat.le_of_ble_eq_true rfl) ?_
  intro p e s m below meth c A X hr hnm hSB hJ hRO hAf
  refine g_cs (ws' := ([(a, Sum.inr (9, [.int (nI 1), .ref t, .int 0]))] : va_W)) (lv' := [(0, .ref a), (1, .int (nI 1))]) (rfl) rfl ?_
  refine g_run X KJx4a65c_grow_92f84_0_0 KJx4a65c_grow_92f84_0_0_d 1 [(0, .ref a), (1, .int (nI 1))] [.ref a] rfl ?_
  refine g_get X srcW (v := .ref t) hinJx4a65c rfl 1 (by decide) w_1075 rfl (List.mem_of_getElem? (i := 0) rfl) rfl dJx4a65c_grow_92f84_1 ?_
  refine g_tlen X hJ.2.2.1 (v := nI 0) rfl dJx4a65c_grow_92f84_4 ?_
  refine g_run X KJx4a65c_grow_92f84_5_1 KJx4a65c_grow_92f84_5_1_d 7 [(2, .int (nI 0)), (0, .ref a), (1, .int (nI 1))] [.int (nI 0)] rfl ?_
  refine g_if_gt X 20 dJx4a65c_grow_92f84_7 (by decide) (fun hc1 => ?_) (fun hc1 => ?_)
  · rw [nz_gt (by omega)] at hc1; first | omega | (simp at hc1)
  · refine g_run X KJx4a65c_grow_92f84_10_2 KJx4a65c_grow_92f84_10_2_d 11 [(2, .int (nI 0)), (0, .ref a), (1, .int (nI 1))] [.ref a] rfl ?_
    refine g_get X srcW (v := .ref t) hinJx4a65c rfl 1 (by decide) w_1075 rfl (List.mem_of_getElem? (i := 0) rfl) rfl dJx4a65c_grow_92f84_11 ?_
    refine g_gets X hJ.2.1 w_1073 dJx4a65c_grow_92f84_14 ?_
    refine g_acmpE X 45 dJx4a65c_grow_92f84_17 (by decide) ?_
    refine g_run X KJx4a65c_grow_92f84_45_3 KJx4a65c_grow_92f84_45_3_d 49 [(2, .int (nI 0)), (0, .ref a), (1, .int (nI 1))] [.int (nI 1), .int (nI 10), .ref a] rfl ?_
    refine g_mmax X w_1178 w_819 w_13 w_820 (Nat.le_of_ble_eq_true rfl) (Nat.le_of_ble_eq_true rfl) (Nat.le_of_ble_eq_true rfl) (Nat.le_of_ble_eq_true rfl) (Nat.le_of_ble_eq_true rfl) (v := nI 10) (if_neg (by decide)) dJx4a65c_grow_92f84_49 ?_
    refine g_newq X hAf 4 rfl w_1179 (X.nw (nw_in n_1176 rfl)) 10 rfl (by decide) (Nat.le_of_ble_eq_true rfl) (Nat.le_of_ble_eq_true rfl) dJx4a65c_grow_92f84_52 (fun qr2 => ?_)
    refine g_af (ws' := (([(a, Sum.inr (9, [.int (nI 1), .ref t, .int 0]))] : va_W)) ++ [(qr2, Sum.inl (g 4, 10, .inr (.inr (.inr (.inr (fun _ => none))))))]) (st' := [.ref qr2, .ref a]) (cells' := 1) (slots' := 10) (pc' := 55) rfl rfl rfl rfl rfl ?_
    refine g_perm (ws' := ([(qr2, Sum.inl (g 4, 10, .inr (.inr (.inr (.inr (fun _ => none)))))), (a, Sum.inr (9, [.int (nI 1), .ref t, .int 0]))] : va_W)) (List.perm_append_comm (l₁ := ([(qr2, Sum.inl (g 4, 10, .inr (.inr (.inr (.inr (fun _ => none))))))] : va_W))) ?_
    refine g_run X KJx4a65c_grow_92f84_55_4 KJx4a65c_grow_92f84_55_4_d 56 [(2, .int (nI 0)), (0, .ref a), (1, .int (nI 1))] [.ref qr2, .ref a, .ref qr2] rfl ?_
    refine g_perm (ws' := ([(a, Sum.inr (9, [.int (nI 1), .ref t, .int 0])), (qr2, Sum.inl (g 4, 10, .inr (.inr (.inr (.inr (fun _ => none))))))] : va_W)) (List.Perm.swap _ _ []) ?_
    refine g_put X (ws' := ([(a, Sum.inr (9, [.int (nI 1), .ref qr2, .int 0])), (qr2, Sum.inl (g 4, 10, .inr (.inr (.inr (.inr (fun _ => none))))))] : va_W)) hinJx4a65c tyJx4a65c tyJx4a65c_ok nmJx4a65c rfl 1 (by decide) w_1075 rfl rfl (ty := tyJx4a65c 1) (tyJx4a65c_ok 1 (by decide)) rfl rfl (0) (rfl) (Nat.le_of_ble_eq_true rfl) (rfl) dJx4a65c_grow_92f84_56 ?_
    exact g_aret X hr (Or.inr ⟨_, rfl⟩) (Or.inr ⟨_, rfl⟩) qr2 (rfl) (trivial) (rfl) (Nat.le_of_ble_eq_true rfl) (Nat.le_of_ble_eq_true rfl) dJx4a65c_grow_92f84_59

def KJx4a65c_grow_d5877_0_0 : List (Nat × Instr × Nat) := [(0, .aload_n 0, 1), (1, .aload_n 0, 1)]
theorem KJx4a65c_grow_d5877_0_0_d : ∀ z ∈ KJx4a65c_grow_d5877_0_0, decode cJx4a65c_grow_d5877 z.1 = .ok z.2 := by decide +kernel
def KJx4a65c_grow_d5877_5_1 : List (Nat × Instr × Nat) := [(5, .iconst 1, 1), (6, .iadd, 1)]
theorem KJx4a65c_grow_d5877_5_1_d : ∀ z ∈ KJx4a65c_grow_d5877_5_1, decode cJx4a65c_grow_d5877 z.1 = .ok z.2 := by decide +kernel
set_option maxHeartbeats 4000000 in
set_option maxRecDepth 100000 in
theorem c_Jx4a65c_grow_d5877 (l : Launch) (D : va_G) (g : Nat → ClassId) (t : Nat) (a : Nat) : CTt t l yJx4a65c_grow_d5877 cJx4a65c_grow_d5877 1 ((Option.some (FieldType.array (FieldType.object "java/lang/Object")))) ({ frames := 2, cells := 1, slots := 10, locals := 44 } : Room) [.ref a] D CL (TYS g) ([]) ([(a, Sum.inr (9, [.int (nI 1), .ref t, .int 0]))]) (S := Nat) (fun u => some (.ref u)) (fun u => [(a, Sum.inr (9, [.int (nI 1), .ref u, .int 0])), (u, Sum.inl (g 4, 10, .inr (.inr (.inr (.inr (fun _ => none))))))]) (fun _ => True) 1 10 := by
  refine ctt_of (by decide +kernel) (Nat.le_of_ble_eq_true rfl) ?_
  intro p e s m below meth c A X hr hnm hSB hJ hRO hAf
  refine g_cs (ws' := ([(a, Sum.inr (9, [.int (nI 1), .ref t, .int 0]))] : va_W)) (lv' := [(0, .ref a)]) (rfl) rfl ?_
  refine g_run X KJx4a65c_grow_d5877_0_0 KJx4a65c_grow_d5877_0_0_d 2 [(0, .ref a)] [.ref a, .ref a] rfl ?_
  refine g_get X srcW (v := .int 0) hinJx4a65c rfl 2 (by decide) w_1076 rfl (List.mem_of_getElem? (i := 0) rfl) rfl dJx4a65c_grow_d5877_2 ?_
  refine g_st (st' := [.int (nI 0), .ref a]) (rfl) ?_
  refine g_run X KJx4a65c_grow_d5877_5_1 KJx4a65c_grow_d5877_5_1_d 7 [(0, .ref a)] [.int ((nI 0) + (nI 1)), .ref a] rfl ?_
  refine g_nm (lv' := [(0, .ref a)]) (st' := [.int (nI (0 + 1)), .ref a]) (by simp only [nI_add]) (by simp only [nI_add]) ?_
  refine g_callVt X hSB hJ hAf srcW (hrc1 := (rfl : CL[9]? = some _)) (List.mem_of_getElem? (i := 0) rfl) rfl (As := [.int (nI (0 + 1))]) (wr := ([] : va_W)) (n := 1) (c_Jx4a65c_grow_92f84 l D g t a ) rfl srcN hrdN w_1148 w_1145 w_1147 w_s11 w_9 (by decide +kernel) rfl ⟨Nat.le_of_ble_eq_true rfl, Nat.le_of_ble_eq_true rfl⟩ rfl rfl rfl (Nat.le_of_ble_eq_true rfl) ⟨Nat.le_of_ble_eq_true rfl, Nat.le_of_ble_eq_true rfl⟩ dJx4a65c_grow_d5877_7 (fun hu1 _ => ?_)
  refine g_af (ws' := ([(a, Sum.inr (9, [.int (nI 1), .ref hu1, .int 0])), (hu1, Sum.inl (g 4, 10, .inr (.inr (.inr (.inr (fun _ => none))))))] : va_W)) (st' := [.ref hu1]) (cells' := 1) (slots' := 10) (pc' := 10) rfl rfl rfl rfl rfl ?_
  exact g_aret X hr (Or.inr ⟨_, rfl⟩) (Or.inr ⟨_, rfl⟩) hu1 (rfl) (trivial) (rfl) (Nat.le_of_ble_eq_true rfl) (Nat.le_of_ble_eq_true rfl) dJx4a65c_grow_d5877_10

