/-! the layer GL -/
def nw_ok : Cond → Bool
  | .fieldLinkNest _ _ _ _ _ _ => true
  | .methodLinkNest _ _ _ _ => true
  | .declares _ => true
  | .castable _ _ => true
  | .arrayOver (.object _) => true
  | _ => false
theorem nw_c {P : Cond → Prop} (h1 : ∀ a b c d e f, P (.fieldLinkNest a b c d e f)) (h2 : ∀ a b c d, P (.methodLinkNest a b c d)) (h3 : ∀ a, P (.declares a)) (h4 : ∀ a b, P (.castable a b)) (h5 : ∀ C, P (.arrayOver (.object C))) : ∀ w, nw_ok w = true → P w := by
  intro w h
  unfold nw_ok at h
  split at h
  · exact h1 _ _ _ _ _ _
  · exact h2 _ _ _ _
  · exact h3 _
  · exact h4 _ _
  · exact h5 _
  · cases h
theorem nw_warm {w : Cond} {s U : State} (h : nw_ok w = true) (hW : s.WarmedH U.vm) (hZ : va_Nw w s) : va_Nw w U :=
  nw_c (P := fun w => va_Nw w s → va_Nw w U) (fun _ _ _ _ _ _ hZ => va_Nw.warmF hW hZ) (fun _ _ _ _ hZ => va_Nw.warmM hW hZ) (fun _ hZ => va_Nw.warmD hW hZ) (fun _ _ hZ => va_Nw.warmC hW hZ) (fun _ hZ => va_AO.moved hW.alike hZ) w h hZ
theorem nw_same {w : Cond} {s U : State} (h : nw_ok w = true) (hV : s.vm = U.vm) (hZ : va_Nw w s) : va_Nw w U :=
  nw_c (P := fun w => va_Nw w s → va_Nw w U) (fun _ _ _ _ _ _ hZ => va_Nw.same rfl hV hZ) (fun _ _ _ _ hZ => va_Nw.same rfl hV hZ) (fun _ hZ => va_Nw.same rfl hV hZ) (fun _ _ hZ => va_Nw.same rfl hV hZ) (fun _ hZ => va_AO.moved (by rw [hV]; exact Vm.Alike.refl U.vm) hZ) w h hZ
/-- the words that are handed on as they are -/
def NW : List Cond := lw_tbl.filter nw_ok
theorem nw_in {w : Cond} (h : w ∈ lw_tbl) (g : nw_ok w = true) : w ∈ NW := List.mem_filter.mpr ⟨h, g⟩
def NWs (U : State) : Prop := ∀ w ∈ NW, va_Nw w U
theorem NWs.warm {s U : State} (hW : s.WarmedH U.vm) (h : NWs s) : NWs U := fun w hw => nw_warm (List.mem_filter.mp hw).2 hW (h w hw)
/-- what stands fast inside a method's body -/
def BX (p : Program) (m : MethodId) (c : Code) (cc : ByteArray) (nL : Nat) (s : State) (args : Array Value) (own : String) (meth : Method) : Prop :=
  p.tables.exec = Jvm.exec ∧ c.code = cc ∧ c.maxLocals = nL ∧ s.vm.findClass own = some m.cls ∧ (∀ w ∈ GW, w.before args s = true) ∧ meth.locks = false ∧ NWs s
theorem BX.w {p : Program} {m : MethodId} {c : Code} {cc : ByteArray} {nL : Nat} {s : State} {args : Array Value} {own : String} {meth : Method} (X : BX p m c cc nL s args own meth) {w : Cond} (h : w ∈ GW) : w.before args s = true := X.2.2.2.2.1 w h
theorem BX.nw {p : Program} {m : MethodId} {c : Code} {cc : ByteArray} {nL : Nat} {s : State} {args : Array Value} {own : String} {meth : Method} (X : BX p m c cc nL s args own meth) {w : Cond} (h : w ∈ NW) : va_Nw w s := X.2.2.2.2.2.2 w h
def GL (p : Program) (l : Launch) (e : Env) (R : Room) (s : State) (m : MethodId) (args : Array Value) (below : List Frame) (meth : Method) (c : Code) (Q : State → Prop) (D : va_G) (cl : List vw_C) (tys : List (ClassId × FieldType)) (A : Nat → Prop) (nL : Nat) (ws : va_W) (cells slots pc : Nat) (lv : List (Nat × Value)) (st : List Value) : Prop :=
  ∀ (H : Heap) (locs : List Loc) (ls : Array Slot), va_K D cl tys s → va_P D cl ws H → va_D A ws → va_S A s.heap H locs → lv_has ls nL lv → W p l e R s m args below meth c H locs cells slots Q (F0 m pc ls st)
abbrev XS : Type := Nat × List (Nat × Value) × List Value
def xget : List (Nat × Value) → Nat → Option Value
  | [], _ => none
  | (k, v) :: r, i => match Nat.beq k i with
    | true => some v
    | false => xget r i
theorem xget_mem {i : Nat} {v : Value} : ∀ {l : List (Nat × Value)}, xget l i = some v → (i, v) ∈ l
  | [], h => by cases h
  | (k, w) :: r, h => by
    unfold xget at h
    cases hk : Nat.beq k i with
    | true =>
      rw [hk] at h
      cases Nat.eq_of_beq_eq_true hk
      cases h
      exact List.mem_cons_self
    | false =>
      rw [hk] at h
      exact List.mem_cons_of_mem _ (xget_mem h)
def xput1 (lv : List (Nat × Value)) (i : Nat) (v : Value) : List (Nat × Value) := (i, v) :: lv.filter (fun q => !(q.1 == i) && !(q.1 + 1 == i && q.2.category == 2))
def xput2 (lv : List (Nat × Value)) (i : Nat) (v : Value) : List (Nat × Value) := (i, v) :: lv.filter (fun q => !(q.1 == i) && (!(q.1 == i + 1) && !(q.1 + 1 == i && q.2.category == 2)))
/-- a written number -/
def cI : Int → Int32
  | .ofNat k => nI k
  | .negSucc k => - nI (k + 1)
theorem cI_of (n : Int) : Int32.ofInt n = cI n := by
  cases n with
  | ofNat k => rfl
  | negSucc k =>
    show Int32.ofInt (.negSucc k) = - nI (k + 1)
    rw [show (Int.negSucc k) = -((k + 1 : Nat) : Int) from rfl]
    show Int32.ofInt (-((k + 1 : Nat) : Int)) = - Int32.ofNat (k + 1)
    first | exact Int32.ofInt_neg _ | (apply Int32.toInt_inj.mp; simp [Int32.toInt_neg])
theorem cI_b {n : Int} (h1 : -128 ≤ n) (h2 : n < 128) : (Int8.ofInt n).toInt32 = cI n := by
  rw [← cI_of]
  apply Int32.toInt_inj.mp
  rw [Int8.toInt_toInt32, Int8.toInt_ofInt, Int32.toInt_ofInt, show Int8.size = 256 from rfl, show Int32.size = 4294967296 from rfl]
  rw [Int.bmod_eq_of_le (by omega) (by omega), Int.bmod_eq_of_le (by omega) (by omega)]
theorem cI_s {n : Int} (h1 : -32768 ≤ n) (h2 : n < 32768) : (Int16.ofInt n).toInt32 = cI n := by
  rw [← cI_of]
  apply Int32.toInt_inj.mp
  rw [Int16.toInt_toInt32, Int16.toInt_ofInt, Int32.toInt_ofInt, show Int16.size = 65536 from rfl, show Int32.size = 4294967296 from rfl]
  rw [Int.bmod_eq_of_le (by omega) (by omega), Int.bmod_eq_of_le (by omega) (by omega)]
def isI : Value → Bool | .int _ => true | _ => false
def isL : Value → Bool | .long _ => true | _ => false
def isA : Value → Bool | .ref _ => true | .null => true | _ => false
def isD : Value → Bool | .double _ => true | _ => false
def isC1 : Value → Bool | .int _ => true | .ref _ => true | .null => true | _ => false
def isC2 : Value → Bool | .long _ => true | .double _ => true | _ => false
def xpush (n len : Nat) (v : Value) (q : XS) : Option XS := match Nat.beq len n with | true => some (q.1 + n, q.2.1, v :: q.2.2) | false => none
def xload (n len i : Nat) (ok : Value → Bool) (q : XS) : Option XS := match Nat.beq len n, xget q.2.1 i with
  | true, some v => (match ok v with | true => some (q.1 + n, q.2.1, v :: q.2.2) | false => none)
  | _, _ => none
def xstore1 (nL n len i : Nat) (ok : Value → Bool) (q : XS) : Option XS := match Nat.beq len n, Nat.ble (i + 1) nL, q with
  | true, true, (pc, lv, v :: r) => (match ok v with | true => some (pc + n, xput1 lv i v, r) | false => none)
  | _, _, _ => none
def xstore2 (nL n len i : Nat) (ok : Value → Bool) (q : XS) : Option XS := match Nat.beq len n, Nat.ble (i + 2) nL, q with
  | true, true, (pc, lv, v :: r) => (match ok v with | true => some (pc + n, xput2 lv i v, r) | false => none)
  | _, _, _ => none
def xi2 (f : Int32 → Int32 → Int32) (len : Nat) (q : XS) : Option XS := match Nat.beq len 1, q with
  | true, (pc, lv, .int y :: .int x :: r) => some (pc + 1, lv, .int (f x y) :: r)
  | _, _ => none
def xl2 (f : Int64 → Int64 → Int64) (len : Nat) (q : XS) : Option XS := match Nat.beq len 1, q with
  | true, (pc, lv, .long y :: .long x :: r) => some (pc + 1, lv, .long (f x y) :: r)
  | _, _ => none
def xlc (f : Int64 → Int64 → Int32) (len : Nat) (q : XS) : Option XS := match Nat.beq len 1, q with
  | true, (pc, lv, .long y :: .long x :: r) => some (pc + 1, lv, .int (f x y) :: r)
  | _, _ => none
def xls (f : Int64 → Int32 → Int64) (len : Nat) (q : XS) : Option XS := match Nat.beq len 1, q with
  | true, (pc, lv, .int y :: .long x :: r) => some (pc + 1, lv, .long (f x y) :: r)
  | _, _ => none
def xi1 (f : Int32 → Value) (len : Nat) (q : XS) : Option XS := match Nat.beq len 1, q with
  | true, (pc, lv, .int x :: r) => some (pc + 1, lv, f x :: r)
  | _, _ => none
def xl1 (f : Int64 → Value) (len : Nat) (q : XS) : Option XS := match Nat.beq len 1, q with
  | true, (pc, lv, .long x :: r) => some (pc + 1, lv, f x :: r)
  | _, _ => none
def xdup (len : Nat) (q : XS) : Option XS := match Nat.beq len 1, q with
  | true, (pc, lv, v :: r) => (match isC1 v with | true => some (pc + 1, lv, v :: v :: r) | false => none)
  | _, _ => none
def xpop (len : Nat) (q : XS) : Option XS := match Nat.beq len 1, q with
  | true, (pc, lv, v :: r) => (match isC1 v with | true => some (pc + 1, lv, r) | false => none)
  | _, _ => none
def xpop2 (len : Nat) (q : XS) : Option XS := match Nat.beq len 1, q with
  | true, (pc, lv, v :: r) => (match isC2 v with | true => some (pc + 1, lv, r) | false => none)
  | _, _ => none
def xdx1 (len : Nat) (q : XS) : Option XS := match Nat.beq len 1, q with
  | true, (pc, lv, v :: w :: r) => (match isC1 v, isC1 w with | true, true => some (pc + 1, lv, v :: w :: v :: r) | _, _ => none)
  | _, _ => none
def xdup2 (len : Nat) (q : XS) : Option XS := match Nat.beq len 1, q with
  | true, (pc, lv, v :: w :: r) => (match isC1 v, isC1 w with | true, true => some (pc + 1, lv, v :: w :: v :: w :: r) | _, _ => none)
  | _, _ => none
def xinc (nL i : Nat) (n : Int) (len : Nat) (q : XS) : Option XS := match Nat.beq len 3, Nat.ble (i + 1) nL, xget q.2.1 i with
  | true, true, some (.int x) => some (q.1 + 3, xput1 q.2.1 i (.int (x + cI n)), q.2.2)
  | _, _, _ => none
def xgoto (off : Int) (len : Nat) (q : XS) : Option XS := match Nat.beq len 3, ((q.1 : Int) + off) with
  | true, .ofNat t => some (t, q.2.1, q.2.2)
  | _, _ => none

def xs (nL : Nat) (i : Instr) (len : Nat) (q : XS) : Option XS := match i with
  | .iconst n => xpush 1 len (.int (cI n)) q
  | .bipush n => (match decide (-128 ≤ n), decide (n < 128) with | true, true => xpush 2 len (.int (cI n)) q | _, _ => none)
  | .sipush n => (match decide (-32768 ≤ n), decide (n < 32768) with | true, true => xpush 3 len (.int (cI n)) q | _, _ => none)
  | .lconst n => xpush 1 len (.long (lN (n : Nat))) q
  | .aconst_null => xpush 1 len .null q
  | .iload_n n => xload 1 len (n : Nat) isI q
  | .iload n => xload 2 len n isI q
  | .lload_n n => xload 1 len (n : Nat) isL q
  | .lload n => xload 2 len n isL q
  | .dload_n n => xload 1 len (n : Nat) isD q
  | .dload n => xload 2 len n isD q
  | .aload_n n => xload 1 len (n : Nat) isA q
  | .aload n => xload 2 len n isA q
  | .istore_n n => xstore1 nL 1 len (n : Nat) isI q
  | .istore n => xstore1 nL 2 len n isI q
  | .lstore_n n => xstore2 nL 1 len (n : Nat) isL q
  | .lstore n => xstore2 nL 2 len n isL q
  | .dstore_n n => xstore2 nL 1 len (n : Nat) isD q
  | .dstore n => xstore2 nL 2 len n isD q
  | .astore_n n => xstore1 nL 1 len (n : Nat) isA q
  | .astore n => xstore1 nL 2 len n isA q
  | .iinc i n => xinc nL i n len q
  | .iadd => xi2 (fun x y => x + y) len q
  | .isub => xi2 (fun x y => x - y) len q
  | .imul => xi2 (fun x y => x * y) len q
  | .iand => xi2 (fun x y => x &&& y) len q
  | .ior => xi2 (fun x y => x ||| y) len q
  | .ixor => xi2 (fun x y => x ^^^ y) len q
  | .ishl => xi2 (fun x y => x <<< (y &&& 31)) len q
  | .ishr => xi2 (fun x y => x >>> (y &&& 31)) len q
  | .iushr => xi2 (fun x y => (x.toUInt32 >>> (y.toUInt32 &&& Int32.toUInt32 31)).toInt32) len q
  | .ladd => xl2 (fun x y => x + y) len q
  | .lsub => xl2 (fun x y => x - y) len q
  | .lmul => xl2 (fun x y => x * y) len q
  | .land => xl2 (fun x y => x &&& y) len q
  | .lor => xl2 (fun x y => x ||| y) len q
  | .lxor => xl2 (fun x y => x ^^^ y) len q
  | .lcmp => xlc lg_cmp len q
  | .lshl => xls (fun x y => x <<< (y.toInt64 &&& 63)) len q
  | .lshr => xls (fun x y => x >>> (y.toInt64 &&& 63)) len q
  | .lushr => xls (fun x y => (x.toUInt64 >>> (y.toInt64.toUInt64 &&& Int64.toUInt64 63)).toInt64) len q
  | .ineg => xi1 (fun x => .int (-x)) len q
  | .i2l => xi1 (fun x => .long x.toInt64) len q
  | .i2b => xi1 (fun x => .int x.toInt8.toInt32) len q
  | .i2c => xi1 (fun x => .int (x.toUInt32 % 65536).toInt32) len q
  | .l2i => xl1 (fun x => .int x.toInt32) len q
  | .dup => xdup len q
  | .pop => xpop len q
  | .pop2 => xpop2 len q
  | .dup_x1 => xdx1 len q
  | .dup2 => xdup2 len q
  | .goto off => xgoto off len q
  | _ => none

theorem xpush_i {n len : Nat} {v : Value} {q q' : XS} (h : xpush n len v q = some q') : len = n ∧ q' = (q.1 + n, q.2.1, v :: q.2.2) := by
  unfold xpush at h; split at h
  next e => exact ⟨Nat.eq_of_beq_eq_true e, (Option.some.inj h).symm⟩
  next => cases h
theorem xbnd {n a b : Int} {x : Option XS} {q' : XS} (h : (match decide (a ≤ n), decide (n < b) with | true, true => x | _, _ => none) = some q') : a ≤ n ∧ n < b ∧ x = some q' := by
  split at h
  next e1 e2 => exact ⟨of_decide_eq_true e1, of_decide_eq_true e2, h⟩
  next => cases h
theorem xload_i {n len i : Nat} {ok : Value → Bool} {q q' : XS} (h : xload n len i ok q = some q') : ∃ v, len = n ∧ xget q.2.1 i = some v ∧ ok v = true ∧ q' = (q.1 + n, q.2.1, v :: q.2.2) := by
  unfold xload at h; split at h
  next v e1 e2 =>
    split at h
    next e3 => exact ⟨v, Nat.eq_of_beq_eq_true e1, e2, e3, (Option.some.inj h).symm⟩
    next => cases h
  next => cases h
theorem xst1_i {nL n len i : Nat} {ok : Value → Bool} {q q' : XS} (h : xstore1 nL n len i ok q = some q') : ∃ pc lv v r, len = n ∧ i < nL ∧ q = (pc, lv, v :: r) ∧ ok v = true ∧ q' = (pc + n, xput1 lv i v, r) := by
  unfold xstore1 at h; split at h
  next pc lv v r e1 e2 =>
    split at h
    next e3 => exact ⟨pc, lv, v, r, Nat.eq_of_beq_eq_true e1, Nat.le_of_ble_eq_true e2, rfl, e3, (Option.some.inj h).symm⟩
    next => cases h
  next => cases h
theorem xst2_i {nL n len i : Nat} {ok : Value → Bool} {q q' : XS} (h : xstore2 nL n len i ok q = some q') : ∃ pc lv v r, len = n ∧ i + 1 < nL ∧ q = (pc, lv, v :: r) ∧ ok v = true ∧ q' = (pc + n, xput2 lv i v, r) := by
  unfold xstore2 at h; split at h
  next pc lv v r e1 e2 =>
    split at h
    next e3 => exact ⟨pc, lv, v, r, Nat.eq_of_beq_eq_true e1, Nat.le_of_ble_eq_true e2, rfl, e3, (Option.some.inj h).symm⟩
    next => cases h
  next => cases h
theorem isI_i {v : Value} (h : isI v = true) : ∃ x, v = .int x := by cases v <;> first | exact ⟨_, rfl⟩ | cases h
theorem isL_i {v : Value} (h : isL v = true) : ∃ x, v = .long x := by cases v <;> first | exact ⟨_, rfl⟩ | cases h
theorem isD_i {v : Value} (h : isD v = true) : ∃ x, v = .double x := by cases v <;> first | exact ⟨_, rfl⟩ | cases h
theorem isA_i {v : Value} (h : isA v = true) : (∃ x, v = .ref x) ∨ v = .null := by cases v <;> first | exact Or.inl ⟨_, rfl⟩ | exact Or.inr rfl | cases h
theorem isC1_i {v : Value} (h : isC1 v = true) : v.category = 1 := by cases v <;> first | rfl | cases h
theorem isC2_i {v : Value} (h : isC2 v = true) : v.category = 2 := by cases v <;> first | rfl | cases h
theorem xi2_i {f : Int32 → Int32 → Int32} {len : Nat} {q q' : XS} (h : xi2 f len q = some q') : ∃ pc lv x y r, len = 1 ∧ q = (pc, lv, .int y :: .int x :: r) ∧ q' = (pc + 1, lv, .int (f x y) :: r) := by
  unfold xi2 at h; split at h
  next pc lv y x r e1 => exact ⟨pc, lv, x, y, r, Nat.eq_of_beq_eq_true e1, rfl, (Option.some.inj h).symm⟩
  next => cases h
theorem xl2_i {f : Int64 → Int64 → Int64} {len : Nat} {q q' : XS} (h : xl2 f len q = some q') : ∃ pc lv x y r, len = 1 ∧ q = (pc, lv, .long y :: .long x :: r) ∧ q' = (pc + 1, lv, .long (f x y) :: r) := by
  unfold xl2 at h; split at h
  next pc lv y x r e1 => exact ⟨pc, lv, x, y, r, Nat.eq_of_beq_eq_true e1, rfl, (Option.some.inj h).symm⟩
  next => cases h
theorem xlc_i {f : Int64 → Int64 → Int32} {len : Nat} {q q' : XS} (h : xlc f len q = some q') : ∃ pc lv x y r, len = 1 ∧ q = (pc, lv, .long y :: .long x :: r) ∧ q' = (pc + 1, lv, .int (f x y) :: r) := by
  unfold xlc at h; split at h
  next pc lv y x r e1 => exact ⟨pc, lv, x, y, r, Nat.eq_of_beq_eq_true e1, rfl, (Option.some.inj h).symm⟩
  next => cases h
theorem xls_i {f : Int64 → Int32 → Int64} {len : Nat} {q q' : XS} (h : xls f len q = some q') : ∃ pc lv x y r, len = 1 ∧ q = (pc, lv, .int y :: .long x :: r) ∧ q' = (pc + 1, lv, .long (f x y) :: r) := by
  unfold xls at h; split at h
  next pc lv y x r e1 => exact ⟨pc, lv, x, y, r, Nat.eq_of_beq_eq_true e1, rfl, (Option.some.inj h).symm⟩
  next => cases h
theorem xi1_i {f : Int32 → Value} {len : Nat} {q q' : XS} (h : xi1 f len q = some q') : ∃ pc lv x r, len = 1 ∧ q = (pc, lv, .int x :: r) ∧ q' = (pc + 1, lv, f x :: r) := by
  unfold xi1 at h; split at h
  next pc lv x r e1 => exact ⟨pc, lv, x, r, Nat.eq_of_beq_eq_true e1, rfl, (Option.some.inj h).symm⟩
  next => cases h
theorem xl1_i {f : Int64 → Value} {len : Nat} {q q' : XS} (h : xl1 f len q = some q') : ∃ pc lv x r, len = 1 ∧ q = (pc, lv, .long x :: r) ∧ q' = (pc + 1, lv, f x :: r) := by
  unfold xl1 at h; split at h
  next pc lv x r e1 => exact ⟨pc, lv, x, r, Nat.eq_of_beq_eq_true e1, rfl, (Option.some.inj h).symm⟩
  next => cases h
theorem xdup_i {len : Nat} {q q' : XS} (h : xdup len q = some q') : ∃ pc lv v r, len = 1 ∧ q = (pc, lv, v :: r) ∧ v.category = 1 ∧ q' = (pc + 1, lv, v :: v :: r) := by
  unfold xdup at h; split at h
  next pc lv v r e1 =>
    split at h
    next e2 => exact ⟨pc, lv, v, r, Nat.eq_of_beq_eq_true e1, rfl, isC1_i e2, (Option.some.inj h).symm⟩
    next => cases h
  next => cases h
theorem xpop_i {len : Nat} {q q' : XS} (h : xpop len q = some q') : ∃ pc lv v r, len = 1 ∧ q = (pc, lv, v :: r) ∧ v.category = 1 ∧ q' = (pc + 1, lv, r) := by
  unfold xpop at h; split at h
  next pc lv v r e1 =>
    split at h
    next e2 => exact ⟨pc, lv, v, r, Nat.eq_of_beq_eq_true e1, rfl, isC1_i e2, (Option.some.inj h).symm⟩
    next => cases h
  next => cases h
theorem xpop2_i {len : Nat} {q q' : XS} (h : xpop2 len q = some q') : ∃ pc lv v r, len = 1 ∧ q = (pc, lv, v :: r) ∧ v.category = 2 ∧ q' = (pc + 1, lv, r) := by
  unfold xpop2 at h; split at h
  next pc lv v r e1 =>
    split at h
    next e2 => exact ⟨pc, lv, v, r, Nat.eq_of_beq_eq_true e1, rfl, isC2_i e2, (Option.some.inj h).symm⟩
    next => cases h
  next => cases h
theorem xdx1_i {len : Nat} {q q' : XS} (h : xdx1 len q = some q') : ∃ pc lv v w r, len = 1 ∧ q = (pc, lv, v :: w :: r) ∧ v.category = 1 ∧ w.category = 1 ∧ q' = (pc + 1, lv, v :: w :: v :: r) := by
  unfold xdx1 at h; split at h
  next pc lv v w r e1 =>
    split at h
    next e2 e3 => exact ⟨pc, lv, v, w, r, Nat.eq_of_beq_eq_true e1, rfl, isC1_i e2, isC1_i e3, (Option.some.inj h).symm⟩
    next => cases h
  next => cases h
theorem xdup2_i {len : Nat} {q q' : XS} (h : xdup2 len q = some q') : ∃ pc lv v w r, len = 1 ∧ q = (pc, lv, v :: w :: r) ∧ v.category = 1 ∧ w.category = 1 ∧ q' = (pc + 1, lv, v :: w :: v :: w :: r) := by
  unfold xdup2 at h; split at h
  next pc lv v w r e1 =>
    split at h
    next e2 e3 => exact ⟨pc, lv, v, w, r, Nat.eq_of_beq_eq_true e1, rfl, isC1_i e2, isC1_i e3, (Option.some.inj h).symm⟩
    next => cases h
  next => cases h
theorem xinc_i {nL i : Nat} {n : Int} {len : Nat} {q q' : XS} (h : xinc nL i n len q = some q') : ∃ x, len = 3 ∧ i < nL ∧ xget q.2.1 i = some (.int x) ∧ q' = (q.1 + 3, xput1 q.2.1 i (.int (x + cI n)), q.2.2) := by
  unfold xinc at h; split at h
  next x e1 e2 e3 => exact ⟨x, Nat.eq_of_beq_eq_true e1, Nat.le_of_ble_eq_true e2, e3, (Option.some.inj h).symm⟩
  next => cases h
theorem xgoto_i {off : Int} {len : Nat} {q q' : XS} (h : xgoto off len q = some q') : ∃ t : Nat, len = 3 ∧ (q.1 : Int) + off = (t : Int) ∧ q' = (t, q.2.1, q.2.2) := by
  unfold xgoto at h; split at h
  next t e1 e2 => exact ⟨t, Nat.eq_of_beq_eq_true e1, e2, (Option.some.inj h).symm⟩
  next => cases h

section GLS
variable {p : Program} {l : Launch} {e : Env} {R : Room} {s : State} {m : MethodId} {args : Array Value} {below : List Frame} {meth : Method} {c : Code} {Q : State → Prop} {D : va_G} {cl : List vw_C} {tys : List (ClassId × FieldType)} {A : Nat → Prop} {nL : Nat} {ws : va_W} {cells slots : Nat} {cc : ByteArray} {own : String} {pc : Nat} {lv : List (Nat × Value)} {st : List Value}

theorem xs_ok (X : BX p m c cc nL s args own meth) {i : Instr} {len : Nat} {q q' : XS} (hd : decode cc q.1 = .ok (i, len)) (h : xs nL i len q = some q') (k : GL p l e R s m args below meth c Q D cl tys A nL ws cells slots q'.1 q'.2.1 q'.2.2) : GL p l e R s m args below meth c Q D cl tys A nL ws cells slots q.1 q.2.1 q.2.2 := by
  cases i with
  | iconst n => obtain ⟨rfl, rfl⟩ := xpush_i h; exact (fun H locs ls hK hP hD hS hl => lv_iconst X.1 X.2.1 hd (cI_of n) (k H locs ls hK hP hD hS hl))
  | bipush n => obtain ⟨h1, h2, h⟩ := xbnd h; obtain ⟨rfl, rfl⟩ := xpush_i h; exact (fun H locs ls hK hP hD hS hl => lv_bipush X.1 X.2.1 hd (cI_b h1 h2) (k H locs ls hK hP hD hS hl))
  | sipush n => obtain ⟨h1, h2, h⟩ := xbnd h; obtain ⟨rfl, rfl⟩ := xpush_i h; exact (fun H locs ls hK hP hD hS hl => lv_sipush X.1 X.2.1 hd (cI_s h1 h2) (k H locs ls hK hP hD hS hl))
  | lconst n => obtain ⟨rfl, rfl⟩ := xpush_i h; exact (fun H locs ls hK hP hD hS hl => lv_lconst X.1 X.2.1 hd (rfl : Int64.ofNat (n : Nat) = lN (n : Nat)) (k H locs ls hK hP hD hS hl))
  | aconst_null => obtain ⟨rfl, rfl⟩ := xpush_i h; exact (fun H locs ls hK hP hD hS hl => lv_null X.1 X.2.1 hd (k H locs ls hK hP hD hS hl))
  | iload_n n => obtain ⟨v, rfl, hg, hv, rfl⟩ := xload_i h; obtain ⟨x, rfl⟩ := isI_i hv; exact (fun H locs ls hK hP hD hS hl => lv_iload_n X.1 X.2.1 hd rfl (hl.2.2 _ (xget_mem hg)) (k H locs ls hK hP hD hS hl))
  | iload n => obtain ⟨v, rfl, hg, hv, rfl⟩ := xload_i h; obtain ⟨x, rfl⟩ := isI_i hv; exact (fun H locs ls hK hP hD hS hl => lv_iload X.1 X.2.1 hd (hl.2.2 _ (xget_mem hg)) (k H locs ls hK hP hD hS hl))
  | lload_n n => obtain ⟨v, rfl, hg, hv, rfl⟩ := xload_i h; obtain ⟨x, rfl⟩ := isL_i hv; exact (fun H locs ls hK hP hD hS hl => lv_lload_n X.1 X.2.1 hd rfl (hl.2.2 _ (xget_mem hg)) (k H locs ls hK hP hD hS hl))
  | lload n => obtain ⟨v, rfl, hg, hv, rfl⟩ := xload_i h; obtain ⟨x, rfl⟩ := isL_i hv; exact (fun H locs ls hK hP hD hS hl => lv_lload X.1 X.2.1 hd (hl.2.2 _ (xget_mem hg)) (k H locs ls hK hP hD hS hl))
  | dload_n n => obtain ⟨v, rfl, hg, hv, rfl⟩ := xload_i h; obtain ⟨x, rfl⟩ := isD_i hv; exact (fun H locs ls hK hP hD hS hl => lv_dload_n X.1 X.2.1 hd rfl (hl.2.2 _ (xget_mem hg)) (k H locs ls hK hP hD hS hl))
  | dload n => obtain ⟨v, rfl, hg, hv, rfl⟩ := xload_i h; obtain ⟨x, rfl⟩ := isD_i hv; exact (fun H locs ls hK hP hD hS hl => lv_dload X.1 X.2.1 hd (hl.2.2 _ (xget_mem hg)) (k H locs ls hK hP hD hS hl))
  | aload_n n => obtain ⟨v, rfl, hg, hv, rfl⟩ := xload_i h; rcases isA_i hv with ⟨x, rfl⟩ | rfl <;> first | exact (fun H locs ls hK hP hD hS hl => lv_aload_n X.1 X.2.1 hd rfl (hl.2.2 _ (xget_mem hg)) (k H locs ls hK hP hD hS hl)) | exact (fun H locs ls hK hP hD hS hl => lv_aload_nN X.1 X.2.1 hd rfl (hl.2.2 _ (xget_mem hg)) (k H locs ls hK hP hD hS hl))
  | aload n => obtain ⟨v, rfl, hg, hv, rfl⟩ := xload_i h; rcases isA_i hv with ⟨x, rfl⟩ | rfl <;> first | exact (fun H locs ls hK hP hD hS hl => lv_aload X.1 X.2.1 hd (hl.2.2 _ (xget_mem hg)) (k H locs ls hK hP hD hS hl)) | exact (fun H locs ls hK hP hD hS hl => lv_aloadN X.1 X.2.1 hd (hl.2.2 _ (xget_mem hg)) (k H locs ls hK hP hD hS hl))
  | istore_n n => obtain ⟨pc, lv, v, r, rfl, hn, rfl, hv, rfl⟩ := xst1_i h; obtain ⟨x, rfl⟩ := isI_i hv; exact (fun H locs ls hK hP hD hS hl => lv_istore_n X.1 X.2.1 hd rfl hl hn rfl (fun ls hl => k H locs ls hK hP hD hS hl))
  | istore n => obtain ⟨pc, lv, v, r, rfl, hn, rfl, hv, rfl⟩ := xst1_i h; obtain ⟨x, rfl⟩ := isI_i hv; exact (fun H locs ls hK hP hD hS hl => lv_istore X.1 X.2.1 hd hl hn rfl (fun ls hl => k H locs ls hK hP hD hS hl))
  | lstore_n n => obtain ⟨pc, lv, v, r, rfl, hn, rfl, hv, rfl⟩ := xst2_i h; obtain ⟨x, rfl⟩ := isL_i hv; exact (fun H locs ls hK hP hD hS hl => lv_lstore_n X.1 X.2.1 hd rfl hl hn rfl (fun ls hl => k H locs ls hK hP hD hS hl))
  | lstore n => obtain ⟨pc, lv, v, r, rfl, hn, rfl, hv, rfl⟩ := xst2_i h; obtain ⟨x, rfl⟩ := isL_i hv; exact (fun H locs ls hK hP hD hS hl => lv_lstore X.1 X.2.1 hd hl hn rfl (fun ls hl => k H locs ls hK hP hD hS hl))
  | dstore_n n => obtain ⟨pc, lv, v, r, rfl, hn, rfl, hv, rfl⟩ := xst2_i h; obtain ⟨x, rfl⟩ := isD_i hv; exact (fun H locs ls hK hP hD hS hl => lv_dstore_n X.1 X.2.1 hd rfl hl hn rfl (fun ls hl => k H locs ls hK hP hD hS hl))
  | dstore n => obtain ⟨pc, lv, v, r, rfl, hn, rfl, hv, rfl⟩ := xst2_i h; obtain ⟨x, rfl⟩ := isD_i hv; exact (fun H locs ls hK hP hD hS hl => lv_dstore X.1 X.2.1 hd hl hn rfl (fun ls hl => k H locs ls hK hP hD hS hl))
  | astore_n n => obtain ⟨pc, lv, v, r, rfl, hn, rfl, hv, rfl⟩ := xst1_i h; rcases isA_i hv with ⟨x, rfl⟩ | rfl <;> first | exact (fun H locs ls hK hP hD hS hl => lv_astore_n X.1 X.2.1 hd rfl hl hn rfl (fun ls hl => k H locs ls hK hP hD hS hl)) | exact (fun H locs ls hK hP hD hS hl => lv_astore_nN X.1 X.2.1 hd rfl hl hn rfl (fun ls hl => k H locs ls hK hP hD hS hl))
  | astore n => obtain ⟨pc, lv, v, r, rfl, hn, rfl, hv, rfl⟩ := xst1_i h; rcases isA_i hv with ⟨x, rfl⟩ | rfl <;> first | exact (fun H locs ls hK hP hD hS hl => lv_astore X.1 X.2.1 hd hl hn rfl (fun ls hl => k H locs ls hK hP hD hS hl)) | exact (fun H locs ls hK hP hD hS hl => lv_astoreN X.1 X.2.1 hd hl hn rfl (fun ls hl => k H locs ls hK hP hD hS hl))
  | iinc i n => obtain ⟨x, rfl, hn, hg, rfl⟩ := xinc_i h; obtain ⟨j, hj⟩ := List.getElem?_of_mem (xget_mem hg); exact (fun H locs ls hK hP hD hS hl => lv_iinc X.1 X.2.1 hd hl hj (by rw [cI_of]) hn rfl (fun ls hl => k H locs ls hK hP hD hS hl))
  | iadd => obtain ⟨pc, lv, x, y, r, rfl, rfl, rfl⟩ := xi2_i h; exact (fun H locs ls hK hP hD hS hl => lv_iadd X.1 X.2.1 hd (k H locs ls hK hP hD hS hl))
  | isub => obtain ⟨pc, lv, x, y, r, rfl, rfl, rfl⟩ := xi2_i h; exact (fun H locs ls hK hP hD hS hl => lv_isub X.1 X.2.1 hd (k H locs ls hK hP hD hS hl))
  | imul => obtain ⟨pc, lv, x, y, r, rfl, rfl, rfl⟩ := xi2_i h; exact (fun H locs ls hK hP hD hS hl => lv_imul X.1 X.2.1 hd (k H locs ls hK hP hD hS hl))
  | iand => obtain ⟨pc, lv, x, y, r, rfl, rfl, rfl⟩ := xi2_i h; exact (fun H locs ls hK hP hD hS hl => lv_iand X.1 X.2.1 hd (k H locs ls hK hP hD hS hl))
  | ior => obtain ⟨pc, lv, x, y, r, rfl, rfl, rfl⟩ := xi2_i h; exact (fun H locs ls hK hP hD hS hl => lv_ior X.1 X.2.1 hd (k H locs ls hK hP hD hS hl))
  | ixor => obtain ⟨pc, lv, x, y, r, rfl, rfl, rfl⟩ := xi2_i h; exact (fun H locs ls hK hP hD hS hl => lv_ixor X.1 X.2.1 hd (k H locs ls hK hP hD hS hl))
  | ishl => obtain ⟨pc, lv, x, y, r, rfl, rfl, rfl⟩ := xi2_i h; exact (fun H locs ls hK hP hD hS hl => lv_ishl X.1 X.2.1 hd (k H locs ls hK hP hD hS hl))
  | ishr => obtain ⟨pc, lv, x, y, r, rfl, rfl, rfl⟩ := xi2_i h; exact (fun H locs ls hK hP hD hS hl => lv_ishr X.1 X.2.1 hd (k H locs ls hK hP hD hS hl))
  | iushr => obtain ⟨pc, lv, x, y, r, rfl, rfl, rfl⟩ := xi2_i h; exact (fun H locs ls hK hP hD hS hl => lv_iushr X.1 X.2.1 hd rfl (k H locs ls hK hP hD hS hl))
  | ladd => obtain ⟨pc, lv, x, y, r, rfl, rfl, rfl⟩ := xl2_i h; exact (fun H locs ls hK hP hD hS hl => lv_ladd X.1 X.2.1 hd (k H locs ls hK hP hD hS hl))
  | lsub => obtain ⟨pc, lv, x, y, r, rfl, rfl, rfl⟩ := xl2_i h; exact (fun H locs ls hK hP hD hS hl => lv_lsub X.1 X.2.1 hd (k H locs ls hK hP hD hS hl))
  | lmul => obtain ⟨pc, lv, x, y, r, rfl, rfl, rfl⟩ := xl2_i h; exact (fun H locs ls hK hP hD hS hl => lv_lmul X.1 X.2.1 hd (k H locs ls hK hP hD hS hl))
  | land => obtain ⟨pc, lv, x, y, r, rfl, rfl, rfl⟩ := xl2_i h; exact (fun H locs ls hK hP hD hS hl => lv_land X.1 X.2.1 hd (k H locs ls hK hP hD hS hl))
  | lor => obtain ⟨pc, lv, x, y, r, rfl, rfl, rfl⟩ := xl2_i h; exact (fun H locs ls hK hP hD hS hl => lv_lor X.1 X.2.1 hd (k H locs ls hK hP hD hS hl))
  | lxor => obtain ⟨pc, lv, x, y, r, rfl, rfl, rfl⟩ := xl2_i h; exact (fun H locs ls hK hP hD hS hl => lv_lxor X.1 X.2.1 hd (k H locs ls hK hP hD hS hl))
  | lcmp => obtain ⟨pc, lv, x, y, r, rfl, rfl, rfl⟩ := xlc_i h; exact (fun H locs ls hK hP hD hS hl => W.lcmp X.1 X.2.1 hd (k H locs ls hK hP hD hS hl))
  | lshl => obtain ⟨pc, lv, x, y, r, rfl, rfl, rfl⟩ := xls_i h; exact (fun H locs ls hK hP hD hS hl => lv_lshl X.1 X.2.1 hd rfl (k H locs ls hK hP hD hS hl))
  | lshr => obtain ⟨pc, lv, x, y, r, rfl, rfl, rfl⟩ := xls_i h; exact (fun H locs ls hK hP hD hS hl => lv_lshr X.1 X.2.1 hd rfl (k H locs ls hK hP hD hS hl))
  | lushr => obtain ⟨pc, lv, x, y, r, rfl, rfl, rfl⟩ := xls_i h; exact (fun H locs ls hK hP hD hS hl => lv_lushr X.1 X.2.1 hd rfl (k H locs ls hK hP hD hS hl))
  | ineg => obtain ⟨pc, lv, x, r, rfl, rfl, rfl⟩ := xi1_i h; exact (fun H locs ls hK hP hD hS hl => lv_ineg X.1 X.2.1 hd (k H locs ls hK hP hD hS hl))
  | i2l => obtain ⟨pc, lv, x, r, rfl, rfl, rfl⟩ := xi1_i h; exact (fun H locs ls hK hP hD hS hl => lv_i2l X.1 X.2.1 hd rfl (k H locs ls hK hP hD hS hl))
  | i2b => obtain ⟨pc, lv, x, r, rfl, rfl, rfl⟩ := xi1_i h; exact (fun H locs ls hK hP hD hS hl => lv_i2b X.1 X.2.1 hd rfl (k H locs ls hK hP hD hS hl))
  | i2c => obtain ⟨pc, lv, x, r, rfl, rfl, rfl⟩ := xi1_i h; exact (fun H locs ls hK hP hD hS hl => lv_i2c X.1 X.2.1 hd rfl (k H locs ls hK hP hD hS hl))
  | l2i => obtain ⟨pc, lv, x, r, rfl, rfl, rfl⟩ := xl1_i h; exact (fun H locs ls hK hP hD hS hl => lv_l2i X.1 X.2.1 hd rfl (k H locs ls hK hP hD hS hl))
  | dup => obtain ⟨pc, lv, v, r, rfl, rfl, hv, rfl⟩ := xdup_i h; exact (fun H locs ls hK hP hD hS hl => lv_dup X.1 X.2.1 hd hv (k H locs ls hK hP hD hS hl))
  | pop => obtain ⟨pc, lv, v, r, rfl, rfl, hv, rfl⟩ := xpop_i h; exact (fun H locs ls hK hP hD hS hl => lv_pop X.1 X.2.1 hd hv (k H locs ls hK hP hD hS hl))
  | pop2 => obtain ⟨pc, lv, v, r, rfl, rfl, hv, rfl⟩ := xpop2_i h; exact (fun H locs ls hK hP hD hS hl => lv_pop2_2 X.1 X.2.1 hd hv (k H locs ls hK hP hD hS hl))
  | dup_x1 => obtain ⟨pc, lv, v, w, r, rfl, rfl, hv, hw, rfl⟩ := xdx1_i h; exact (fun H locs ls hK hP hD hS hl => lv_dup_x1 X.1 X.2.1 hd hv hw (k H locs ls hK hP hD hS hl))
  | dup2 => obtain ⟨pc, lv, v, w, r, rfl, rfl, hv, hw, rfl⟩ := xdup2_i h; exact (fun H locs ls hK hP hD hS hl => lv_dup2_11 X.1 X.2.1 hd hv hw (k H locs ls hK hP hD hS hl))
  | goto off => obtain ⟨t, rfl, ht, rfl⟩ := xgoto_i h; exact (fun H locs ls hK hP hD hS hl => lv_goto X.1 X.2.1 hd ht (k H locs ls hK hP hD hS hl))
  | _ => exact nomatch h
/-- a straight stretch: its instructions one behind another -/
def xrun (nL : Nat) : List (Nat × Instr × Nat) → XS → Option XS
  | [], q => some q
  | (pc, i, len) :: r, q => match Nat.beq pc q.1 with
    | true => (xs nL i len q).bind (xrun nL r)
    | false => none
theorem xrun_ok (X : BX p m c cc nL s args own meth) : ∀ (is : List (Nat × Instr × Nat)) {q q' : XS}, (∀ z ∈ is, decode cc z.1 = .ok z.2) → xrun nL is q = some q' → GL p l e R s m args below meth c Q D cl tys A nL ws cells slots q'.1 q'.2.1 q'.2.2 → GL p l e R s m args below meth c Q D cl tys A nL ws cells slots q.1 q.2.1 q.2.2
  | [], q, q', _, h, k => by cases h; exact k
  | (pc, i, len) :: r, q, q', hd, h, k => by
    have h1 : (match Nat.beq pc q.1 with | true => (xs nL i len q).bind (xrun nL r) | false => none) = some q' := h
    generalize hx : xs nL i len q = o at h1
    cases hb : Nat.beq pc q.1 with
    | false => rw [hb] at h1; cases h1
    | true =>
      rw [hb] at h1
      cases o with
      | none => cases h1
      | some q2 =>
        have h2 : (some q2).bind (xrun nL r) = xrun nL r q2 := rfl
        have h3 : xrun nL r q2 = some q' := h2.symm.trans h1
        have k2 := xrun_ok X r (q := q2) (q' := q') (fun z hz => hd z (List.mem_cons_of_mem _ hz)) h3 k
        have e1 := Nat.eq_of_beq_eq_true hb
        have hd1 : decode cc pc = .ok (i, len) := hd (pc, i, len) List.mem_cons_self
        rw [e1] at hd1
        exact xs_ok X (q := q) (q' := q2) hd1 hx k2
theorem g_run (X : BX p m c cc nL s args own meth) (is : List (Nat × Instr × Nat)) (hd : ∀ z ∈ is, decode cc z.1 = .ok z.2) (pc' : Nat) (lv' : List (Nat × Value)) (st' : List Value) (h : xrun nL is (pc, lv, st) = some (pc', lv', st')) (k : GL p l e R s m args below meth c Q D cl tys A nL ws cells slots pc' lv' st') : GL p l e R s m args below meth c Q D cl tys A nL ws cells slots pc lv st := xrun_ok X is (q := (pc, lv, st)) (q' := (pc', lv', st')) hd h k
end GLS
