/-! numbers copied from an array that may be read alone -/
theorem cell_cg {cA : ClassId} {n : Nat} {f F : Nat → Int32} (h : ∀ j, j < n → F j = f j) : vp_cell cA (n, .inl F) = vp_cell cA (n, .inl f) := by
  have e : (fun j : Fin n => Value.int (F j.val)) = (fun j : Fin n => Value.int (f j.val)) := funext (fun j => by rw [h j.val j.isLt])
  show ({ cls := cA, slots := Array.ofFn (fun j : Fin n => Value.int (F j.val)), vm := .none } : Cell) = { cls := cA, slots := Array.ofFn (fun j : Fin n => Value.int (f j.val)), vm := .none }
  rw [e]
theorem nn0 (z : Int32) (hz : ¬ z < 0) : z.toInt = (z.toNatClampNeg : Int) := by
  have hz0 : (0 : Int) ≤ z.toInt := by simpa using Int32.le_iff_toInt_le.mp (Int32.not_lt.mp hz)
  show z.toInt = ((z.toInt.toNat : Nat) : Int)
  omega
section GLS
variable {p : Program} {l : Launch} {e : Env} {R : Room} {s : State} {m : MethodId} {args : Array Value} {below : List Frame} {meth : Method} {c : Code} {Q : State → Prop} {D : va_G} {cl : List vw_C} {tys : List (ClassId × FieldType)} {A : Nat → Prop} {nL : Nat} {ws : va_W} {cells slots : Nat} {cc : ByteArray} {own : String} {pc : Nat} {lv : List (Nat × Value)} {st : List Value}

theorem g_copyR (X : BX p m c cc nL s args own meth) {wx : va_W} (hx : Src D cl A s ws wx) {a0 a n0 n1 idx : Nat} {cA : ClassId} {f h F : Nat → Int32} {ws' : va_W} (N t0 : Nat) (ht : tys[t0]? = some (cA, .int)) (he0 : (a0, Sum.inl (cA, n0, .inl f)) ∈ wx) (q1 : Nat) (he1 : ws[q1]? = some (a, Sum.inl (cA, n1, .inl h))) (hN0 : N ≤ n0) (hN1 : N ≤ n1) (hNs : N < 1000) (hF : ∀ j, j < n1 → F j = if j < N then f j else h j) (hlink : Cond.methodLink own idx arraycopyName ∈ GW) (hnat : Cond.native arraycopyName ∈ GW) (hstat : Cond.static arraycopyName ∈ GW) (hini : Cond.initialized "java/lang/System" ∈ GW) (hw : ws.set q1 (a, Sum.inl (cA, n1, .inl F)) = ws') (hf : 1 ≤ R.frames) (hlo : 30 ≤ R.locals) (hcat : (st.map fun v => v.category).sum ≤ 8) (hd : decode cc pc = .ok (.invokestatic idx, 3))
    (kk : GL p l e R s m args below meth c Q D cl tys A nL ws' cells slots (pc + 3) lv st) : GL p l e R s m args below meth c Q D cl tys A nL ws cells slots pc lv (.int (nI N) :: .int (nI 0) :: .ref a :: .int (nI 0) :: .ref a0 :: st) := by
  intro H locs ls hK hP hD hS hl
  intro T hT Y
  obtain ⟨z0, h0⟩ := List.getElem?_of_mem he0
  have hc0 : H[a0]? = some (vp_cell cA (n0, .inl f)) := hx H locs hP hS z0 _ h0
  have hc1 : H[a]? = some (vp_cell cA (n1, .inl h)) := hP q1 _ he1
  obtain ⟨-, k0, hk0, cm0, hkk0⟩ := (hK.2 t0 _ ht).1 n0 (fun j => .int (f j))
  obtain ⟨-, k1, hk1, cm1, hkk1⟩ := (hK.2 t0 _ ht).1 n1 (fun j => .int (h j))
  have hNc : (nI N).toNatClampNeg = N := nI_clamp (by omega)
  have h0c : (nI 0).toNatClampNeg = 0 := nI_clamp (by decide)
  have hNp : ¬ nI N < 0 := nI_pos (by omega)
  have h0p : ¬ nI 0 < 0 := nI_pos (by decide)
  obtain ⟨vm1, Y1, step⟩ := Y.arraycopy X.1 X.2.2.2.1 (X.w hlink) (X.w hnat) (X.w hstat) (X.w hini) (src := a0) (dst := a) (cs := vp_cell cA (n0, .inl f)) (cd := vp_cell cA (n1, .inl h)) (srcPos := nI 0) (destPos := nI 0) (n := nI N) (by rw [hT]; exact hc0) (by rw [hT]; exact hc1)
    (fun _ g => by cases g) (fun _ g => by cases g) (fun g => by cases g) (fun g => by cases g) hk0 hk1 hkk0 hkk1 (by rfl) h0p h0p hNp
    (by rw [nn0 _ h0p, nn0 _ hNp, hNc, h0c]; show ¬ _ > ((arrV cA n0 (fun j => .int (f j))).slots.size : Int); rw [arrV_size]; omega)
    (by rw [nn0 _ h0p, nn0 _ hNp, hNc, h0c]; show ¬ _ > ((arrV cA n1 (fun j => .int (h j))).slots.size : Int); rw [arrV_size]; omega)
    (fun vm2 _ i hi => by
      rw [hNc] at hi
      have e : (vp_cell cA (n0, .inl f)).slots.getD ((nI 0).toNatClampNeg + i) .null = .int (f ((nI 0).toNatClampNeg + i)) := by
        show (arrV cA n0 (fun j => .int (f j))).slots.getD _ _ = _
        rw [Array.getD_eq_getD_getElem?, arrV_read _ _ (by omega)]
        rfl
      rw [e]
      exact ⟨rfl, trivial⟩)
    (g := F0 m pc ls (.int (nI N) :: .int (nI 0) :: .ref a :: .int (nI 0) :: .ref a0 :: st)) rfl (by rw [X.2.2.1]; exact hl.1) (rest := st) rfl (by rw [X.2.1]; exact hd) hf (by
      have hw7 : nativeFrameWords "java/lang/System" "arraycopy" 5 ≤ 7 := by decide +kernel
      show 2 * 0 + _ + _ ≤ _
      omega)
  have e1 : copied (vp_cell cA (n0, .inl f)) (vp_cell cA (n1, .inl h)) (nI 0) (nI 0) (nI N) = vp_cell cA (n1, .inl F) := by
    have e0 : copied (vp_cell cA (n0, .inl f)) (vp_cell cA (n1, .inl h)) (nI 0) (nI 0) (nI N) = vp_cell cA (n1, .inl (va_cpy f h (nI 0).toNatClampNeg (nI 0).toNatClampNeg (nI N).toNatClampNeg)) := va_copied (fun z => .int z) cA cA f h (by rw [hNc, h0c]; omega)
    refine e0.trans (cell_cg (fun j hj => ?_)).symm
    rw [hF j hj]
    unfold va_cpy
    rw [hNc, h0c]
    by_cases g : j < N
    · rw [if_pos g, if_pos ⟨by omega, by omega⟩]; congr 1; omega
    · rw [if_neg g, if_neg (fun z => g (by omega))]
  rw [e1] at Y1 step
  have hlt : a < H.size := (Array.getElem?_eq_some_iff.mp hc1).1
  have hheap : ((T.setVm vm1).setCell a (vp_cell cA (n1, .inl F))).heap = H.setIfInBounds a (vp_cell cA (n1, .inl F)) := by rw [← hT]; rfl
  have oq : ∀ q : Nat, q ≠ a → (H.setIfInBounds a (vp_cell cA (n1, .inl F)))[q]? = H[q]? := fun q hq => by simp [Array.getElem?_setIfInBounds, Ne.symm hq]
  subst hw
  obtain ⟨t, a1, b1⟩ := kk _ _ ls hK (hP.set hD he1 (show (H.setIfInBounds a _)[a]? = some _ by simp [Array.getElem?_setIfInBounds, hlt]) oq) (hD.set he1) ⟨by simp; exact hS.1, fun q g1 g2 => by
      rw [oq q (fun e => g2 (by rw [e]; exact hD.2 q1 _ he1))]
      exact hS.2.1 q g1 g2, fun q hq => by
      rcases List.mem_append.mp hq with g | g
      · exact hS.2.2 q g
      · obtain ⟨z, -, hz⟩ := List.mem_map.mp g
        rw [← hz]
        exact hD.2 q1 _ he1⟩ hl _ hheap Y1
  exact ⟨t, step t a1, b1⟩
end GLS
