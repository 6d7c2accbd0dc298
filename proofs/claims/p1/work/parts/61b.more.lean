/-! what a law that compares wants besides -/
theorem lg_self {x : Int64} : lg_cmp x x = 0 := by
  have h : ¬ x > x := by rw [gt_iff_lt, Int64.lt_iff_toInt_lt]; omega
  unfold lg_cmp
  rw [if_neg h, if_pos rfl]
theorem tp_1 (n : Nat) : tp 1 n = pw (n % 15) := by
  unfold tp
  rw [if_neg (by decide)]
  show pw ((0 + n % 15) % 15) = _
  rw [Nat.zero_add, Nat.mod_mod]
section GLS
variable {p : Program} {l : Launch} {e : Env} {R : Room} {s : State} {m : MethodId} {args : Array Value} {below : List Frame} {meth : Method} {c : Code} {Q : State → Prop} {D : va_G} {cl : List vw_C} {tys : List (ClassId × FieldType)} {A : Nat → Prop} {nL : Nat} {ws : va_W} {cells slots : Nat} {cc : ByteArray} {own : String} {pc : Nat} {lv : List (Nat × Value)} {st : List Value}

theorem g_dcmp (X : BX p m c cc nL s args own meth) {x y : UInt64} {op : CmpOp} (hd : decode cc pc = .ok (.dcmp op, 1))
    (kk : GL p l e R s m args below meth c Q D cl tys A nL ws cells slots (pc + 1) lv (.int (Op.cmpValue (FP.dcmp x y) op) :: st)) : GL p l e R s m args below meth c Q D cl tys A nL ws cells slots pc lv (.double y :: .double x :: st) := by
  intro H locs ls hK hP hD hS hl
  exact lv_dcmp X.1 X.2.1 hd (kk H locs ls hK hP hD hS hl)
end GLS
