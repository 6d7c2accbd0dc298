/-! rows: arrays of longs -/
section GLS
variable {p : Program} {l : Launch} {e : Env} {R : Room} {s : State} {m : MethodId} {args : Array Value} {below : List Frame} {meth : Method} {c : Code} {Q : State → Prop} {D : va_G} {cl : List vw_C} {tys : List (ClassId × FieldType)} {A : Nat → Prop} {nL : Nat} {ws : va_W} {cells slots : Nat} {cc : ByteArray} {own : String} {pc : Nat} {lv : List (Nat × Value)} {st : List Value}

theorem g_lald (X : BX p m c cc nL s args own meth) {wx : va_W} (hx : Src D cl A s ws wx) {cA : ClassId} {n a : Nat} {f : Nat → Int64} (t0 : Nat) (ht : tys[t0]? = some (cA, .long)) (he : (a, Sum.inl (cA, n, .inr (.inl f))) ∈ wx) {i : Int32} {v : Int64} (j : Nat) (hi : i = nI j) (hj : j < n) (hn : n < 2 ^ 31) (hv : f j = v) (hd : decode cc pc = .ok (.laload, 1))
    (kk : GL p l e R s m args below meth c Q D cl tys A nL ws cells slots (pc + 1) lv (.long v :: st)) : GL p l e R s m args below meth c Q D cl tys A nL ws cells slots pc lv (.int i :: .ref a :: st) := by
  intro H locs ls hK hP hD hS hl
  obtain ⟨q0, h0⟩ := List.getElem?_of_mem he
  subst hi
  have hz := va_lald (Q := Q) (R := R) (l := l) (e := e) (below := below) (args := args) (meth := meth) (cells := cells) (slots := slots) (ls := ls) (rest := st) (m := m) (locs := locs) X.1 X.2.1 hK (hx H locs hP hS) q0 t0 h0 ht (vp_in_nI hj hn) hd
  rw [nI_clamp (by omega), hv] at hz
  exact hz (kk H locs ls hK hP hD hS hl)
theorem g_last (X : BX p m c cc nL s args own meth) {cA : ClassId} {n a : Nat} {f : Nat → Int64} {ws' : va_W} (t0 : Nat) (ht : tys[t0]? = some (cA, .long)) (q0 : Nat) (he : ws[q0]? = some (a, Sum.inl (cA, n, .inr (.inl f)))) {i : Int32} {x : Int64} (j : Nat) (hi : i = nI j) (hj : j < n) (hn : n < 2 ^ 31) (hw : ws.set q0 (a, Sum.inl (cA, n, .inr (.inl (vp_updL f j x)))) = ws') (hd : decode cc pc = .ok (.lastore, 1))
    (kk : GL p l e R s m args below meth c Q D cl tys A nL ws' cells slots (pc + 1) lv st) : GL p l e R s m args below meth c Q D cl tys A nL ws cells slots pc lv (.long x :: .int i :: .ref a :: st) := by
  intro H locs ls hK hP hD hS hl
  subst hi
  have hz := va_last (Q := Q) (R := R) (l := l) (e := e) (below := below) (args := args) (meth := meth) (cells := cells) (slots := slots) (ls := ls) (rest := st) (x := x) (m := m) (locs := locs) X.1 X.2.1 hK hP hD hS q0 t0 he ht (vp_in_nI hj hn) hd
  rw [nI_clamp (by omega), hw] at hz
  exact hz (fun H1 locs1 hP1 hD1 hS1 => kk H1 locs1 ls hK hP1 hD1 hS1 hl)
theorem g_newJ (X : BX p m c cc nL s args own meth) (hAf : ∀ q : Nat, s.heap.size ≤ q → A q) {cA : ClassId} (t0 : Nat) (ht : tys[t0]? = some (cA, .long)) (harr : Cond.arrayClass .long ∈ GW) {n : Int32} (N : Nat) (hi : n = nI N) (hN : N < 1000) (hcells : cells + 1 ≤ R.cells) (hslots : slots + N ≤ R.slots) (hd : decode cc pc = .ok (.newarray .long, 2))
    (kk : ∀ q : Nat, GL p l e R s m args below meth c Q D cl tys A nL (ws ++ [(q, Sum.inl (cA, N, .inr (.inl (fun _ => 0))))]) (cells + 1) (slots + N) (pc + 2) lv (.ref q :: st)) : GL p l e R s m args below meth c Q D cl tys A nL ws cells slots pc lv (.int n :: st) := by
  intro H locs ls hK hP hD hS hl
  subst hi
  refine va_newa (atype := .long) (ty := .long) (N' := N) (a0 := (N, .inr (.inl (fun _ => 0)))) X.1 X.2.1 (X.w harr) rfl hK hP hD hS hAf (fun cA => rfl) (nI_pos (by omega)) (nI_clamp (by omega)) (show N * 8 ≤ 536870912 by omega) hcells hslots hd (fun q cB H1 hK1 hP1 hD1 hS1 => ?_)
  have e : cB = cA := tys_one hK1 ht
  subst e
  exact kk q H1 locs ls hK hP1 hD1 hS1 hl
end GLS
section DM
variable {I : Nat → Nat → Int32} {L : Nat → Nat → Int64} {S : Nat → Nat} {n i j q : Nat}
/-- what the first n lines are mended in, and their data -/
def dgM (I : Nat → Nat → Int32) (L : Nat → Nat → Int64) (S : Nat → Nat) (n j : Nat) : Int32 := if j < n then mdV I L S j else 0
def dgD (I : Nat → Nat → Int32) (L : Nat → Nat → Int64) (S : Nat → Nat) (n j : Nat) : Int64 := if j < n then dtO (oL (mwd I L S j)) else 0
theorem dgM_0 : (fun _ => 0) = dgM I L S 0 := by funext j; rw [dgM, if_neg (Nat.not_lt_zero _)]
theorem dgD_0 : (fun _ => 0) = dgD I L S 0 := by funext j; rw [dgD, if_neg (Nat.not_lt_zero _)]
theorem dgM_s : upd (dgM I L S i) i (mdV I L S i) = dgM I L S (i + 1) := by
  funext j; unfold upd dgM
  by_cases h : j = i
  · subst h; rw [if_pos rfl, if_pos (by omega)]
  · rw [if_neg h]
    by_cases h2 : j < i
    · rw [if_pos h2, if_pos (by omega)]
    · rw [if_neg h2, if_neg (by omega)]
theorem dgD_s : vp_updL (dgD I L S i) i (dtO (oL (mwd I L S i))) = dgD I L S (i + 1) := by
  funext j; unfold vp_updL dgD
  by_cases h : j = i
  · subst h; rw [if_pos rfl, if_pos (by omega)]
  · rw [if_neg h]
    by_cases h2 : j < i
    · rw [if_pos h2, if_pos (by omega)]
    · rw [if_neg h2, if_neg (by omega)]
theorem dgM_at (h : j < n) : dgM I L S n j = mdV I L S j := if_pos h
theorem dgD_at (h : j < n) : dgD I L S n j = dtO (oL (mwd I L S j)) := if_pos h
theorem mdV_m1 : mdV I L S q = -nI 1 ↔ oL (mwd I L S q) = -1 := by
  unfold mdV
  have hp := pl_lt (rwd I L S q 15 ^^^ oL (mwd I L S q)) 15
  split
  next h => exact ⟨fun _ => h, fun _ => rfl⟩
  next h => exact ⟨fun z => absurd z (m1_ne (by omega)), fun z => absurd z h⟩
theorem hl_d17 : ∀ b : Fin 17, (nI 4 * (nI 16 - nI b.val)).toInt64 = FP.d2l (FP.dmul 4634204016564240384 (hlV b.val)) := by unfold hlV; decide +kernel
theorem hl_d {b : Nat} (h : b ≤ 16) : (nI 4 * (nI 16 - nI b)).toInt64 = FP.d2l (FP.dmul 4634204016564240384 (hlV b)) := hl_d17 ⟨b, by omega⟩
/-- what is stored, cell by cell -/
def dgS (I : Nat → Nat → Int32) (L : Nat → Nat → Int64) (S : Nat → Nat) : Nat → Int64
  | 0 => dgC I L S 16
  | j + 1 => dgS I L S j * 31 + (nI (nib (L 0 (j / 16)) (j % 16))).toInt64
theorem dgS_0 : dgS I L S 0 = dgC I L S 16 := by rw [dgS]
theorem dgS_s : dgS I L S (j + 1) = dgS I L S j * 31 + (nI (nib (L 0 (j / 16)) (j % 16))).toInt64 := by rw [dgS]
theorem dgS_c (c : Nat) : dgS I L S (16 * c) = dgE I L S c := by
  induction c with
  | zero => rw [Nat.mul_zero, dgS_0, dgE_0]
  | succ c ih =>
    have h : ∀ r, r ≤ 16 → dgS I L S (16 * c + r) = dgE0 L c (dgE I L S c) r := by
      intro r
      induction r with
      | zero => intro _; rw [Nat.add_zero, ih, dgE0_0]
      | succ r ihr =>
        intro hr
        rw [← Nat.add_assoc, dgS_s, ihr (by omega), dgE0_s, show (16 * c + r) / 16 = c by omega, show (16 * c + r) % 16 = r by omega]
    rw [show 16 * (c + 1) = 16 * c + 16 by omega, h 16 (Nat.le_refl _), dgE_s]
theorem dgS_e : dgS I L S 288 = dgE I L S 18 := dgS_c 18
end DM
section W2
variable {ad : Nat → Nat} {g : Nat → ClassId} {I : Nat → Nat → Int32} {L : Nat → Nat → Int64} {S : Nat → Nat} {Z : Nat → Nat → Int32} {Y : Int64} {t : va_W}
theorem wt_get2 {q r u : Nat × va_E} : (WM ad g I L S Z Y ++ r :: u :: q :: t)[37]? = some q := by
  rw [List.getElem?_append_right (by rw [wm_len]; decide), wm_len]; rfl
theorem wt_set2 {q q' r u : Nat × va_E} : (WM ad g I L S Z Y ++ r :: u :: q :: t).set 37 q' = WM ad g I L S Z Y ++ r :: u :: q' :: t := by
  rw [List.set_append_right _ _ (by rw [wm_len]; decide), wm_len]; rfl
end W2

def KX9_digest_0_0 : List (Nat × Instr × Nat) := [(0, .aload_n 0, 1), (1, .iconst 0, 1)]
theorem KX9_digest_0_0_d : ∀ z ∈ KX9_digest_0_0, decode cX9_digest z.1 = .ok z.2 := by decide +kernel
def KX9_digest_5_1 : List (Nat × Instr × Nat) := [(5, .aload_n 0, 1)]
theorem KX9_digest_5_1_d : ∀ z ∈ KX9_digest_5_1, decode cX9_digest z.1 = .ok z.2 := by decide +kernel
def KX9_digest_9_2 : List (Nat × Instr × Nat) := [(9, .istore_n 1, 1), (10, .iconst 0, 1), (11, .istore_n 2, 1), (12, .bipush 16, 2)]
theorem KX9_digest_9_2_d : ∀ z ∈ KX9_digest_9_2, decode cX9_digest z.1 = .ok z.2 := by decide +kernel
def KX9_digest_16_3 : List (Nat × Instr × Nat) := [(16, .astore_n 3, 1)]
theorem KX9_digest_16_3_d : ∀ z ∈ KX9_digest_16_3, decode cX9_digest z.1 = .ok z.2 := by decide +kernel
def KX9_digest_17_4 : List (Nat × Instr × Nat) := [(17, .bipush 16, 2)]
theorem KX9_digest_17_4_d : ∀ z ∈ KX9_digest_17_4, decode cX9_digest z.1 = .ok z.2 := by decide +kernel
def KX9_digest_21_5 : List (Nat × Instr × Nat) := [(21, .astore 4, 2)]
theorem KX9_digest_21_5_d : ∀ z ∈ KX9_digest_21_5, decode cX9_digest z.1 = .ok z.2 := by decide +kernel
def KX9_digest_23_6 : List (Nat × Instr × Nat) := [(23, .iconst 0, 1), (24, .istore 5, 2)]
theorem KX9_digest_23_6_d : ∀ z ∈ KX9_digest_23_6, decode cX9_digest z.1 = .ok z.2 := by decide +kernel
def KX9_digest_26_7 : List (Nat × Instr × Nat) := [(26, .iload 5, 2), (28, .bipush 16, 2)]
theorem KX9_digest_26_7_d : ∀ z ∈ KX9_digest_26_7, decode cX9_digest z.1 = .ok z.2 := by decide +kernel
def KX9_digest_100_8 : List (Nat × Instr × Nat) := [(100, .aload_n 0, 1)]
theorem KX9_digest_100_8_d : ∀ z ∈ KX9_digest_100_8, decode cX9_digest z.1 = .ok z.2 := by decide +kernel
def KX9_digest_107_9 : List (Nat × Instr × Nat) := [(107, .iconst 0, 1), (108, .istore 5, 2)]
theorem KX9_digest_107_9_d : ∀ z ∈ KX9_digest_107_9, decode cX9_digest z.1 = .ok z.2 := by decide +kernel
def KX9_digest_110_10 : List (Nat × Instr × Nat) := [(110, .iload 5, 2), (112, .bipush 13, 2)]
theorem KX9_digest_110_10_d : ∀ z ∈ KX9_digest_110_10, decode cX9_digest z.1 = .ok z.2 := by decide +kernel
def KX9_digest_135_11 : List (Nat × Instr × Nat) := [(135, .iconst 0, 1), (136, .istore 5, 2)]
theorem KX9_digest_135_11_d : ∀ z ∈ KX9_digest_135_11, decode cX9_digest z.1 = .ok z.2 := by decide +kernel
def KX9_digest_138_12 : List (Nat × Instr × Nat) := [(138, .iload 5, 2), (140, .bipush 18, 2)]
theorem KX9_digest_138_12_d : ∀ z ∈ KX9_digest_138_12, decode cX9_digest z.1 = .ok z.2 := by decide +kernel
def KX9_digest_180_13 : List (Nat × Instr × Nat) := [(180, .iconst 0, 1), (181, .istore 5, 2)]
theorem KX9_digest_180_13_d : ∀ z ∈ KX9_digest_180_13, decode cX9_digest z.1 = .ok z.2 := by decide +kernel
def KX9_digest_183_14 : List (Nat × Instr × Nat) := [(183, .iload 5, 2), (185, .bipush 16, 2)]
theorem KX9_digest_183_14_d : ∀ z ∈ KX9_digest_183_14, decode cX9_digest z.1 = .ok z.2 := by decide +kernel
def KX9_digest_228_15 : List (Nat × Instr × Nat) := [(228, .aload_n 0, 1)]
theorem KX9_digest_228_15_d : ∀ z ∈ KX9_digest_228_15, decode cX9_digest z.1 = .ok z.2 := by decide +kernel
def KX9_digest_232_16 : List (Nat × Instr × Nat) := [(232, .astore 5, 2), (234, .aload 5, 2)]
theorem KX9_digest_232_16_d : ∀ z ∈ KX9_digest_232_16, decode cX9_digest z.1 = .ok z.2 := by decide +kernel
def KX9_digest_237_17 : List (Nat × Instr × Nat) := [(237, .istore 6, 2), (239, .iconst 0, 1), (240, .istore 7, 2)]
theorem KX9_digest_237_17_d : ∀ z ∈ KX9_digest_237_17, decode cX9_digest z.1 = .ok z.2 := by decide +kernel
def KX9_digest_242_18 : List (Nat × Instr × Nat) := [(242, .iload 7, 2), (244, .iload 6, 2)]
theorem KX9_digest_242_18_d : ∀ z ∈ KX9_digest_242_18, decode cX9_digest z.1 = .ok z.2 := by decide +kernel
def KX9_digest_269_19 : List (Nat × Instr × Nat) := [(269, .iconst 0, 1), (270, .istore 5, 2)]
theorem KX9_digest_269_19_d : ∀ z ∈ KX9_digest_269_19, decode cX9_digest z.1 = .ok z.2 := by decide +kernel
def KX9_digest_272_20 : List (Nat × Instr × Nat) := [(272, .iload 5, 2), (274, .iconst 4, 1)]
theorem KX9_digest_272_20_d : ∀ z ∈ KX9_digest_272_20, decode cX9_digest z.1 = .ok z.2 := by decide +kernel
def KX9_digest_322_21 : List (Nat × Instr × Nat) := [(322, .aload_n 0, 1), (323, .iconst 4, 1), (324, .bipush 16, 2), (326, .iload_n 2, 1), (327, .isub, 1), (328, .imul, 1), (329, .i2l, 1)]
theorem KX9_digest_322_21_d : ∀ z ∈ KX9_digest_322_21, decode cX9_digest z.1 = .ok z.2 := by decide +kernel
def KX9_digest_333_22 : List (Nat × Instr × Nat) := [(333, .aload_n 0, 1), (334, .aload_n 0, 1)]
theorem KX9_digest_333_22_d : ∀ z ∈ KX9_digest_333_22, decode cX9_digest z.1 = .ok z.2 := by decide +kernel
def KX9_digest_345_23 : List (Nat × Instr × Nat) := [(345, .lconst 0, 1)]
theorem KX9_digest_345_23_d : ∀ z ∈ KX9_digest_345_23, decode cX9_digest z.1 = .ok z.2 := by decide +kernel
def KX9_digest_349_24 : List (Nat × Instr × Nat) := [(349, .aload_n 0, 1)]
theorem KX9_digest_349_24_d : ∀ z ∈ KX9_digest_349_24, decode cX9_digest z.1 = .ok z.2 := by decide +kernel
def KX9_digest_341_25 : List (Nat × Instr × Nat) := [(341, .lconst 1, 1), (342, .goto 4, 3)]
theorem KX9_digest_341_25_d : ∀ z ∈ KX9_digest_341_25, decode cX9_digest z.1 = .ok z.2 := by decide +kernel
def KX9_digest_278_26 : List (Nat × Instr × Nat) := [(278, .iconst 0, 1), (279, .istore 6, 2)]
theorem KX9_digest_278_26_d : ∀ z ∈ KX9_digest_278_26, decode cX9_digest z.1 = .ok z.2 := by decide +kernel
def KX9_digest_281_27 : List (Nat × Instr × Nat) := [(281, .iload 6, 2), (283, .iconst 3, 1)]
theorem KX9_digest_281_27_d : ∀ z ∈ KX9_digest_281_27, decode cX9_digest z.1 = .ok z.2 := by decide +kernel
def KX9_digest_306_28 : List (Nat × Instr × Nat) := [(306, .aload_n 0, 1), (307, .aload_n 0, 1), (308, .iload 5, 2)]
theorem KX9_digest_306_28_d : ∀ z ∈ KX9_digest_306_28, decode cX9_digest z.1 = .ok z.2 := by decide +kernel
def KX9_digest_316_29 : List (Nat × Instr × Nat) := [(316, .iinc 5 1, 3), (319, .goto (-47), 3)]
theorem KX9_digest_316_29_d : ∀ z ∈ KX9_digest_316_29, decode cX9_digest z.1 = .ok z.2 := by decide +kernel
def KX9_digest_287_30 : List (Nat × Instr × Nat) := [(287, .aload_n 0, 1), (288, .aload_n 0, 1), (289, .iload 5, 2), (291, .iload 6, 2)]
theorem KX9_digest_287_30_d : ∀ z ∈ KX9_digest_287_30, decode cX9_digest z.1 = .ok z.2 := by decide +kernel
def KX9_digest_296_31 : List (Nat × Instr × Nat) := [(296, .i2l, 1)]
theorem KX9_digest_296_31_d : ∀ z ∈ KX9_digest_296_31, decode cX9_digest z.1 = .ok z.2 := by decide +kernel
def KX9_digest_300_32 : List (Nat × Instr × Nat) := [(300, .iinc 6 1, 3), (303, .goto (-22), 3)]
theorem KX9_digest_300_32_d : ∀ z ∈ KX9_digest_300_32, decode cX9_digest z.1 = .ok z.2 := by decide +kernel
def KX9_digest_249_33 : List (Nat × Instr × Nat) := [(249, .aload 5, 2), (251, .iload 7, 2)]
theorem KX9_digest_249_33_d : ∀ z ∈ KX9_digest_249_33, decode cX9_digest z.1 = .ok z.2 := by decide +kernel
def KX9_digest_254_34 : List (Nat × Instr × Nat) := [(254, .istore 8, 2), (256, .aload_n 0, 1), (257, .iload 8, 2), (259, .i2l, 1)]
theorem KX9_digest_254_34_d : ∀ z ∈ KX9_digest_254_34, decode cX9_digest z.1 = .ok z.2 := by decide +kernel
def KX9_digest_263_35 : List (Nat × Instr × Nat) := [(263, .iinc 7 1, 3), (266, .goto (-24), 3)]
theorem KX9_digest_263_35_d : ∀ z ∈ KX9_digest_263_35, decode cX9_digest z.1 = .ok z.2 := by decide +kernel
def KX9_digest_190_36 : List (Nat × Instr × Nat) := [(190, .aload_n 0, 1), (191, .aload_n 3, 1), (192, .iload 5, 2)]
theorem KX9_digest_190_36_d : ∀ z ∈ KX9_digest_190_36, decode cX9_digest z.1 = .ok z.2 := by decide +kernel
def KX9_digest_195_37 : List (Nat × Instr × Nat) := [(195, .i2l, 1)]
theorem KX9_digest_195_37_d : ∀ z ∈ KX9_digest_195_37, decode cX9_digest z.1 = .ok z.2 := by decide +kernel
def KX9_digest_199_38 : List (Nat × Instr × Nat) := [(199, .aload_n 0, 1), (200, .aload 4, 2), (202, .iload 5, 2)]
theorem KX9_digest_199_38_d : ∀ z ∈ KX9_digest_199_38, decode cX9_digest z.1 = .ok z.2 := by decide +kernel
def KX9_digest_208_39 : List (Nat × Instr × Nat) := [(208, .aload_n 0, 1), (209, .aload_n 0, 1), (210, .aload_n 3, 1), (211, .iload 5, 2)]
theorem KX9_digest_208_39_d : ∀ z ∈ KX9_digest_208_39, decode cX9_digest z.1 = .ok z.2 := by decide +kernel
def KX9_digest_214_40 : List (Nat × Instr × Nat) := [(214, .iload_n 1, 1)]
theorem KX9_digest_214_40_d : ∀ z ∈ KX9_digest_214_40, decode cX9_digest z.1 = .ok z.2 := by decide +kernel
def KX9_digest_218_41 : List (Nat × Instr × Nat) := [(218, .i2l, 1)]
theorem KX9_digest_218_41_d : ∀ z ∈ KX9_digest_218_41, decode cX9_digest z.1 = .ok z.2 := by decide +kernel
def KX9_digest_222_42 : List (Nat × Instr × Nat) := [(222, .iinc 5 1, 3), (225, .goto (-42), 3)]
theorem KX9_digest_222_42_d : ∀ z ∈ KX9_digest_222_42, decode cX9_digest z.1 = .ok z.2 := by decide +kernel
def KX9_digest_145_43 : List (Nat × Instr × Nat) := [(145, .iconst 0, 1), (146, .istore 6, 2)]
theorem KX9_digest_145_43_d : ∀ z ∈ KX9_digest_145_43, decode cX9_digest z.1 = .ok z.2 := by decide +kernel
def KX9_digest_148_44 : List (Nat × Instr × Nat) := [(148, .iload 6, 2), (150, .bipush 6, 2)]
theorem KX9_digest_148_44_d : ∀ z ∈ KX9_digest_148_44, decode cX9_digest z.1 = .ok z.2 := by decide +kernel
def KX9_digest_174_45 : List (Nat × Instr × Nat) := [(174, .iinc 5 1, 3), (177, .goto (-39), 3)]
theorem KX9_digest_174_45_d : ∀ z ∈ KX9_digest_174_45, decode cX9_digest z.1 = .ok z.2 := by decide +kernel
def KX9_digest_155_46 : List (Nat × Instr × Nat) := [(155, .aload_n 0, 1), (156, .aload_n 0, 1), (157, .iload 5, 2), (159, .iload 6, 2)]
theorem KX9_digest_155_46_d : ∀ z ∈ KX9_digest_155_46, decode cX9_digest z.1 = .ok z.2 := by decide +kernel
def KX9_digest_164_47 : List (Nat × Instr × Nat) := [(164, .i2l, 1)]
theorem KX9_digest_164_47_d : ∀ z ∈ KX9_digest_164_47, decode cX9_digest z.1 = .ok z.2 := by decide +kernel
def KX9_digest_168_48 : List (Nat × Instr × Nat) := [(168, .iinc 6 1, 3), (171, .goto (-23), 3)]
theorem KX9_digest_168_48_d : ∀ z ∈ KX9_digest_168_48, decode cX9_digest z.1 = .ok z.2 := by decide +kernel
def KX9_digest_117_49 : List (Nat × Instr × Nat) := [(117, .aload_n 0, 1), (118, .aload_n 0, 1), (119, .iload 5, 2), (121, .iload_n 2, 1)]
theorem KX9_digest_117_49_d : ∀ z ∈ KX9_digest_117_49, decode cX9_digest z.1 = .ok z.2 := by decide +kernel
def KX9_digest_125_50 : List (Nat × Instr × Nat) := [(125, .i2l, 1)]
theorem KX9_digest_125_50_d : ∀ z ∈ KX9_digest_125_50, decode cX9_digest z.1 = .ok z.2 := by decide +kernel
def KX9_digest_129_51 : List (Nat × Instr × Nat) := [(129, .iinc 5 1, 3), (132, .goto (-22), 3)]
theorem KX9_digest_129_51_d : ∀ z ∈ KX9_digest_129_51, decode cX9_digest z.1 = .ok z.2 := by decide +kernel
def KX9_digest_33_52 : List (Nat × Instr × Nat) := [(33, .aload_n 0, 1), (34, .iload 5, 2)]
theorem KX9_digest_33_52_d : ∀ z ∈ KX9_digest_33_52, decode cX9_digest z.1 = .ok z.2 := by decide +kernel
def KX9_digest_39_53 : List (Nat × Instr × Nat) := [(39, .astore 6, 2), (41, .aload_n 3, 1), (42, .iload 5, 2), (44, .aload_n 0, 1), (45, .aload 6, 2), (47, .iload_n 1, 1)]
theorem KX9_digest_39_53_d : ∀ z ∈ KX9_digest_39_53, decode cX9_digest z.1 = .ok z.2 := by decide +kernel
def KX9_digest_52_54 : List (Nat × Instr × Nat) := [(52, .aload 4, 2), (54, .iload 5, 2), (56, .aload_n 3, 1), (57, .iload 5, 2)]
theorem KX9_digest_52_54_d : ∀ z ∈ KX9_digest_52_54, decode cX9_digest z.1 = .ok z.2 := by decide +kernel
def KX9_digest_60_55 : List (Nat × Instr × Nat) := [(60, .iconst (-1), 1)]
theorem KX9_digest_60_55_d : ∀ z ∈ KX9_digest_60_55, decode cX9_digest z.1 = .ok z.2 := by decide +kernel
def KX9_digest_70_56 : List (Nat × Instr × Nat) := [(70, .aload_n 0, 1)]
theorem KX9_digest_70_56_d : ∀ z ∈ KX9_digest_70_56, decode cX9_digest z.1 = .ok z.2 := by decide +kernel
def KX9_digest_78_57 : List (Nat × Instr × Nat) := [(78, .iload_n 2, 1), (79, .aload_n 3, 1), (80, .iload 5, 2)]
theorem KX9_digest_78_57_d : ∀ z ∈ KX9_digest_78_57, decode cX9_digest z.1 = .ok z.2 := by decide +kernel
def KX9_digest_83_58 : List (Nat × Instr × Nat) := [(83, .iconst (-1), 1)]
theorem KX9_digest_83_58_d : ∀ z ∈ KX9_digest_83_58, decode cX9_digest z.1 = .ok z.2 := by decide +kernel
def KX9_digest_91_59 : List (Nat × Instr × Nat) := [(91, .iconst 0, 1), (92, .iadd, 1), (93, .istore_n 2, 1), (94, .iinc 5 1, 3), (97, .goto (-71), 3)]
theorem KX9_digest_91_59_d : ∀ z ∈ KX9_digest_91_59, decode cX9_digest z.1 = .ok z.2 := by decide +kernel
def KX9_digest_67_60 : List (Nat × Instr × Nat) := [(67, .goto 10, 3)]
theorem KX9_digest_67_60_d : ∀ z ∈ KX9_digest_67_60, decode cX9_digest z.1 = .ok z.2 := by decide +kernel
def KX9_digest_87_61 : List (Nat × Instr × Nat) := [(87, .iconst 1, 1), (88, .goto 4, 3), (92, .iadd, 1), (93, .istore_n 2, 1), (94, .iinc 5 1, 3), (97, .goto (-71), 3)]
theorem KX9_digest_87_61_d : ∀ z ∈ KX9_digest_87_61, decode cX9_digest z.1 = .ok z.2 := by decide +kernel
set_option maxHeartbeats 4000000 in
set_option maxRecDepth 100000 in
theorem c_X9_digest (l : Launch) (D : va_G) (g : Nat → ClassId) (ad : Nat → Nat) (I : Nat → Nat → Int32) (L : Nat → Nat → Int64) (S : Nat → Nat) (Z : Nat → Nat → Int32) (Y : Int64) (R : Nat → Nat) (hR : R16 R) (hZ : Z 0 = fun j => nI (R j)) (hS18 : ∀ p, p < 15 → S p < 18) (hK : kOK I) (hsp : nI (spn I 18) = nI 18 - I 8 5) (hpl : ∀ p, p < 15 → I 0 (S p) = nI p) (hin : ∀ k, k < 4 → (I 5 k = -nI 1 ↔ L 3 k = -1)) : CT l yX9_digest cX9_digest 9 ((Option.some FieldType.long)) ({ frames := 5, cells := 18, slots := 272, locals := 123 } : Room) [.ref (ad 0)] D CL (TYS g) ([]) (WM ad g I L S Z Y) (S := (Nat → Nat) × (Nat → Int32) × (Nat → Int32)) (fun _ => some (.long (dgV I L S))) (fun u => WM ad g I L S (z4 (u2 Z 3 0 (nI 0)) u.1 u.2.1 u.2.2) (dgV I L S)) (fun u => R16 u.1) 18 272 := by
  refine ct_of (by decide +kernel) (Nat.le_of_ble_eq_true rfl) ?_
  intro p e s m below meth c A X hr hnm hSB hRO hAf
  refine g_cs (ws' := WM ad g I L S (z4 Z R (Z 1) (Z 2)) Y ++ []) (lv' := [(0, .ref (ad 0))]) (by rw [z4_e hZ]; exact List.append_nil _) rfl ?_
  refine g_run X KX9_digest_0_0 KX9_digest_0_0_d 2 [(0, .ref (ad 0))] [.int (nI 0), .ref (ad 0)] rfl ?_
  refine g_put X (ws' := WM ad g I L S (z4 (u2 Z 3 0 (nI 0)) R (Z 1) (Z 2)) Y ++ []) hinX9 tyX9 tyX9_ok nmX9 rfl 0 (by decide) w_1180 rfl rfl (ty := .int) rfl rfl rfl (0) (wm_get (k := 0) (by decide)) (Nat.le_of_ble_eq_true rfl) (wm_so0) dX9_digest_2 ?_
  refine g_run X KX9_digest_5_1 KX9_digest_5_1_d 6 [(0, .ref (ad 0))] [.ref (ad 0)] rfl ?_
  refine g_callV X hSB hAf (srcW) (hrc1 := (rfl : CL[8]? = some _)) (wm_mem (k := 0) (by decide)) rfl (As := []) (wr := []) (n := 0) (c_X9_erased l D g ad I L S (z4 (u2 Z 3 0 (nI 0)) R (Z 1) (Z 2)) Y (hS18)) rfl srcN hrdN w_1339 w_1336 w_1338 w_s23 w_6 (by decide +kernel) rfl ⟨Nat.le_of_ble_eq_true rfl, Nat.le_of_ble_eq_true rfl⟩ rfl rfl rfl (Nat.le_of_ble_eq_true rfl) ⟨Nat.le_of_ble_eq_true rfl, Nat.le_of_ble_eq_true rfl⟩ dX9_digest_6 (fun hu1 _ => ?_)
  refine g_af (ws' := WM ad g I L S (z4 (u2 Z 3 0 (nI 0)) R (Z 1) (Z 2)) Y ++ []) (st' := [.int (nI (ers I S 15))]) (cells' := 0) (slots' := 0) (pc' := 9) rfl rfl rfl rfl rfl ?_
  refine g_run X KX9_digest_9_2 KX9_digest_9_2_d 14 [(2, .int (nI 0)), (1, .int (nI (ers I S 15))), (0, .ref (ad 0))] [.int (nI 16)] rfl ?_
  refine g_newI X hAf 0 rfl w_1087 16 rfl (by decide) (Nat.le_of_ble_eq_true rfl) (Nat.le_of_ble_eq_true rfl) dX9_digest_14 (fun qa2 => ?_)
  refine g_af (ws' := WM ad g I L S (z4 (u2 Z 3 0 (nI 0)) R (Z 1) (Z 2)) Y ++ [(qa2, Sum.inl (g 0, 16, .inl (fun _ => 0)))]) (st' := [.ref qa2]) (cells' := 1) (slots' := 16) (pc' := 16) (by rw [List.append_assoc]; rfl) rfl rfl rfl rfl ?_
  refine g_run X KX9_digest_16_3 KX9_digest_16_3_d 17 [(3, .ref qa2), (2, .int (nI 0)), (1, .int (nI (ers I S 15))), (0, .ref (ad 0))] [] rfl ?_
  refine g_ws (ws' := WM ad g I L S (z4 (u2 Z 3 0 (nI 0)) R (Z 1) (Z 2)) Y ++ [(qa2, Sum.inl (g 0, 16, .inl (dgM I L S 0)))]) (by rw [← dgM_0]) ?_
  refine g_run X KX9_digest_17_4 KX9_digest_17_4_d 19 [(3, .ref qa2), (2, .int (nI 0)), (1, .int (nI (ers I S 15))), (0, .ref (ad 0))] [.int (nI 16)] rfl ?_
  refine g_newJ X hAf 5 rfl w_1553 16 rfl (by decide) (Nat.le_of_ble_eq_true rfl) (Nat.le_of_ble_eq_true rfl) dX9_digest_19 (fun qa3 => ?_)
  refine g_af (ws' := WM ad g I L S (z4 (u2 Z 3 0 (nI 0)) R (Z 1) (Z 2)) Y ++ [(qa2, Sum.inl (g 0, 16, .inl (dgM I L S 0))), (qa3, Sum.inl (g 5, 16, .inr (.inl (fun _ => 0))))]) (st' := [.ref qa3]) (cells' := 2) (slots' := 32) (pc' := 21) (by rw [List.append_assoc]; rfl) rfl rfl rfl rfl ?_
  refine g_run X KX9_digest_21_5 KX9_digest_21_5_d 23 [(4, .ref qa3), (3, .ref qa2), (2, .int (nI 0)), (1, .int (nI (ers I S 15))), (0, .ref (ad 0))] [] rfl ?_
  refine g_run X KX9_digest_23_6 KX9_digest_23_6_d 26 [(5, .int (nI 0)), (4, .ref qa3), (3, .ref qa2), (2, .int (nI 0)), (1, .int (nI (ers I S 15))), (0, .ref (ad 0))] [] rfl ?_
  refine g_lv (lv' := [(0, .ref (ad 0)), (1, .int (nI (ers I S 15))), (2, .int (nI 0)), (3, .ref qa2), (4, .ref qa3), (5, .int (nI 0))]) (lsub_c 5 rfl (lsub_c 4 rfl (lsub_c 3 rfl (lsub_c 2 rfl (lsub_c 1 rfl (lsub_c 0 rfl (lsub_n))))))) ?_
  refine g_forX (σ := (Nat → Nat) × (Nat → Int32) × (Nat → Int32)) 16 (fun uX26 i => WM ad g I L S (z4 (u2 Z 3 0 (nI 0)) uX26.1 uX26.2.1 uX26.2.2) Y ++ [(qa2, Sum.inl (g 0, 16, .inl (dgM I L S i))), (qa3, Sum.inl (g 5, 16, .inr (.inl (dgD I L S i))))]) (fun i => [(0, .ref (ad 0)), (1, .int (nI (ers I S 15))), (2, .int (nI (bdl I L S i))), (3, .ref qa2), (4, .ref qa3), (5, .int (nI i))]) (fun uX26 i => R16 uX26.1) 1 15 (R, (Z 1), (Z 2)) (by assumption) (rfl) (by rw [bdl]) ?_ ?_
  · intro uX26 hP26
    refine g_widen (k := 18) (n := 272) (Nat.le_of_ble_eq_true rfl) (Nat.le_of_ble_eq_true rfl) ?_
    have hbl := bdl_le I L S 16
    refine g_run X KX9_digest_26_7 KX9_digest_26_7_d 30 [(0, .ref (ad 0)), (1, .int (nI (ers I S 15))), (2, .int (nI (bdl I L S 16))), (3, .ref qa2), (4, .ref qa3), (5, .int (nI 16))] [.int (nI 16), .int (nI 16)] rfl ?_
    refine g_icmp_ge X 100 dX9_digest_30 (by decide) (fun hc4 => ?_) (fun hc4 => ?_)
    · refine g_run X KX9_digest_100_8 KX9_digest_100_8_d 101 [(0, .ref (ad 0)), (1, .int (nI (ers I S 15))), (2, .int (nI (bdl I L S 16))), (3, .ref qa2), (4, .ref qa3), (5, .int (nI 16))] [.ref (ad 0)] rfl ?_
      refine g_ldc2 X (v := (3331 : Int64)) w_1547 dX9_digest_101 ?_
      refine g_put X (ws' := WM ad g I L S (z4 (u2 Z 3 0 (nI 0)) uX26.1 uX26.2.1 uX26.2.2) (3331 : Int64) ++ [(qa2, Sum.inl (g 0, 16, .inl (dgM I L S 16))), (qa3, Sum.inl (g 5, 16, .inr (.inl (dgD I L S 16))))]) hinX9 tyX9 tyX9_ok nmX9 rfl 21 (by decide) w_1201 rfl rfl (ty := .long) rfl rfl rfl (0) (wm_get (k := 0) (by decide)) (Nat.le_of_ble_eq_true rfl) (wm_mo21) dX9_digest_104 ?_
      refine g_run X KX9_digest_107_9 KX9_digest_107_9_d 110 [(5, .int (nI 0)), (0, .ref (ad 0)), (1, .int (nI (ers I S 15))), (2, .int (nI (bdl I L S 16))), (3, .ref qa2), (4, .ref qa3)] [] rfl ?_
      refine g_lv (lv' := [(0, .ref (ad 0)), (1, .int (nI (ers I S 15))), (2, .int (nI (bdl I L S 16))), (3, .ref qa2), (4, .ref qa3), (5, .int (nI 0))]) (lsub_c 1 rfl (lsub_c 2 rfl (lsub_c 3 rfl (lsub_c 4 rfl (lsub_c 5 rfl (lsub_c 0 rfl (lsub_n))))))) ?_
      refine g_for 13 (fun i => WM ad g I L S (z4 (u2 Z 3 0 (nI 0)) uX26.1 uX26.2.1 uX26.2.2) (dgA I L S i) ++ [(qa2, Sum.inl (g 0, 16, .inl (dgM I L S 16))), (qa3, Sum.inl (g 5, 16, .inr (.inl (dgD I L S 16))))]) (fun i => [(0, .ref (ad 0)), (1, .int (nI (ers I S 15))), (2, .int (nI (bdl I L S 16))), (3, .ref qa2), (4, .ref qa3), (5, .int (nI i))]) (by rw [dgA_0]) (rfl) ?_ ?_
      · refine g_run X KX9_digest_110_10 KX9_digest_110_10_d 114 [(0, .ref (ad 0)), (1, .int (nI (ers I S 15))), (2, .int (nI (bdl I L S 16))), (3, .ref qa2), (4, .ref qa3), (5, .int (nI 13))] [.int (nI 13), .int (nI 13)] rfl ?_
        refine g_icmp_ge X 135 dX9_digest_114 (by decide) (fun hc5 => ?_) (fun hc5 => ?_)
        · refine g_run X KX9_digest_135_11 KX9_digest_135_11_d 138 [(5, .int (nI 0)), (0, .ref (ad 0)), (1, .int (nI (ers I S 15))), (2, .int (nI (bdl I L S 16))), (3, .ref qa2), (4, .ref qa3)] [] rfl ?_
          refine g_lv (lv' := [(0, .ref (ad 0)), (1, .int (nI (ers I S 15))), (2, .int (nI (bdl I L S 16))), (3, .ref qa2), (4, .ref qa3), (5, .int (nI 0))]) (lsub_c 1 rfl (lsub_c 2 rfl (lsub_c 3 rfl (lsub_c 4 rfl (lsub_c 5 rfl (lsub_c 0 rfl (lsub_n))))))) ?_
          refine g_for 18 (fun ch => WM ad g I L S (z4 (u2 Z 3 0 (nI 0)) uX26.1 uX26.2.1 uX26.2.2) (dgB I L S ch) ++ [(qa2, Sum.inl (g 0, 16, .inl (dgM I L S 16))), (qa3, Sum.inl (g 5, 16, .inr (.inl (dgD I L S 16))))]) (fun ch => [(0, .ref (ad 0)), (1, .int (nI (ers I S 15))), (2, .int (nI (bdl I L S 16))), (3, .ref qa2), (4, .ref qa3), (5, .int (nI ch))]) (by rw [dgB_0]) (rfl) ?_ ?_
          · refine g_run X KX9_digest_138_12 KX9_digest_138_12_d 142 [(0, .ref (ad 0)), (1, .int (nI (ers I S 15))), (2, .int (nI (bdl I L S 16))), (3, .ref qa2), (4, .ref qa3), (5, .int (nI 18))] [.int (nI 18), .int (nI 18)] rfl ?_
            refine g_icmp_ge X 180 dX9_digest_142 (by decide) (fun hc6 => ?_) (fun hc6 => ?_)
            · refine g_run X KX9_digest_180_13 KX9_digest_180_13_d 183 [(5, .int (nI 0)), (0, .ref (ad 0)), (1, .int (nI (ers I S 15))), (2, .int (nI (bdl I L S 16))), (3, .ref qa2), (4, .ref qa3)] [] rfl ?_
              refine g_lv (lv' := [(0, .ref (ad 0)), (1, .int (nI (ers I S 15))), (2, .int (nI (bdl I L S 16))), (3, .ref qa2), (4, .ref qa3), (5, .int (nI 0))]) (lsub_c 1 rfl (lsub_c 2 rfl (lsub_c 3 rfl (lsub_c 4 rfl (lsub_c 5 rfl (lsub_c 0 rfl (lsub_n))))))) ?_
              refine g_for 16 (fun i => WM ad g I L S (z4 (u2 Z 3 0 (nI 0)) uX26.1 uX26.2.1 uX26.2.2) (dgC I L S i) ++ [(qa2, Sum.inl (g 0, 16, .inl (dgM I L S 16))), (qa3, Sum.inl (g 5, 16, .inr (.inl (dgD I L S 16))))]) (fun i => [(0, .ref (ad 0)), (1, .int (nI (ers I S 15))), (2, .int (nI (bdl I L S 16))), (3, .ref qa2), (4, .ref qa3), (5, .int (nI i))]) (by rw [dgC_0]) (rfl) ?_ ?_
              · refine g_run X KX9_digest_183_14 KX9_digest_183_14_d 187 [(0, .ref (ad 0)), (1, .int (nI (ers I S 15))), (2, .int (nI (bdl I L S 16))), (3, .ref qa2), (4, .ref qa3), (5, .int (nI 16))] [.int (nI 16), .int (nI 16)] rfl ?_
                refine g_icmp_ge X 228 dX9_digest_187 (by decide) (fun hc7 => ?_) (fun hc7 => ?_)
                · refine g_run X KX9_digest_228_15 KX9_digest_228_15_d 229 [(0, .ref (ad 0)), (1, .int (nI (ers I S 15))), (2, .int (nI (bdl I L S 16))), (3, .ref qa2), (4, .ref qa3), (5, .int (nI 16))] [.ref (ad 0)] rfl ?_
                  refine g_get X srcW (v := .ref (ad 3)) hinX9 rfl 3 (by decide) w_1183 rfl (wm_mem (k := 0) (by decide)) rfl dX9_digest_229 ?_
                  refine g_run X KX9_digest_232_16 KX9_digest_232_16_d 236 [(5, .ref (ad 3)), (0, .ref (ad 0)), (1, .int (nI (ers I S 15))), (2, .int (nI (bdl I L S 16))), (3, .ref qa2), (4, .ref qa3)] [.ref (ad 3)] rfl ?_
                  refine g_alen X srcW (v := nI 288) 0 rfl (wm_mem (k := 3) (by decide)) rfl dX9_digest_236 ?_
                  refine g_run X KX9_digest_237_17 KX9_digest_237_17_d 242 [(7, .int (nI 0)), (6, .int (nI 288)), (5, .ref (ad 3)), (0, .ref (ad 0)), (1, .int (nI (ers I S 15))), (2, .int (nI (bdl I L S 16))), (3, .ref qa2), (4, .ref qa3)] [] rfl ?_
                  refine g_lv (lv' := [(0, .ref (ad 0)), (1, .int (nI (ers I S 15))), (2, .int (nI (bdl I L S 16))), (3, .ref qa2), (4, .ref qa3), (5, .ref (ad 3)), (6, .int (nI 288)), (7, .int (nI 0))]) (lsub_c 3 rfl (lsub_c 4 rfl (lsub_c 5 rfl (lsub_c 6 rfl (lsub_c 7 rfl (lsub_c 2 rfl (lsub_c 1 rfl (lsub_c 0 rfl (lsub_n))))))))) ?_
                  refine g_for 288 (fun j => WM ad g I L S (z4 (u2 Z 3 0 (nI 0)) uX26.1 uX26.2.1 uX26.2.2) (dgS I L S j) ++ [(qa2, Sum.inl (g 0, 16, .inl (dgM I L S 16))), (qa3, Sum.inl (g 5, 16, .inr (.inl (dgD I L S 16))))]) (fun j => [(0, .ref (ad 0)), (1, .int (nI (ers I S 15))), (2, .int (nI (bdl I L S 16))), (3, .ref qa2), (4, .ref qa3), (5, .ref (ad 3)), (6, .int (nI 288)), (7, .int (nI j))]) (by rw [dgS_0]) (rfl) ?_ ?_
                  · refine g_run X KX9_digest_242_18 KX9_digest_242_18_d 246 [(0, .ref (ad 0)), (1, .int (nI (ers I S 15))), (2, .int (nI (bdl I L S 16))), (3, .ref qa2), (4, .ref qa3), (5, .ref (ad 3)), (6, .int (nI 288)), (7, .int (nI 288))] [.int (nI 288), .int (nI 288)] rfl ?_
                    refine g_icmp_ge X 269 dX9_digest_246 (by decide) (fun hc8 => ?_) (fun hc8 => ?_)
                    · refine g_run X KX9_digest_269_19 KX9_digest_269_19_d 272 [(5, .int (nI 0)), (0, .ref (ad 0)), (1, .int (nI (ers I S 15))), (2, .int (nI (bdl I L S 16))), (3, .ref qa2), (4, .ref qa3), (6, .int (nI 288)), (7, .int (nI 288))] [] rfl ?_
                      refine g_lv (lv' := [(0, .ref (ad 0)), (1, .int (nI (ers I S 15))), (2, .int (nI (bdl I L S 16))), (3, .ref qa2), (4, .ref qa3), (5, .int (nI 0))]) (lsub_c 1 rfl (lsub_c 2 rfl (lsub_c 3 rfl (lsub_c 4 rfl (lsub_c 5 rfl (lsub_c 0 rfl (lsub_n))))))) ?_
                      refine g_for 4 (fun fk => WM ad g I L S (z4 (u2 Z 3 0 (nI 0)) uX26.1 uX26.2.1 uX26.2.2) (dgF I L S fk) ++ [(qa2, Sum.inl (g 0, 16, .inl (dgM I L S 16))), (qa3, Sum.inl (g 5, 16, .inr (.inl (dgD I L S 16))))]) (fun fk => [(0, .ref (ad 0)), (1, .int (nI (ers I S 15))), (2, .int (nI (bdl I L S 16))), (3, .ref qa2), (4, .ref qa3), (5, .int (nI fk))]) (by rw [dgF_0, ← dgS_e]) (rfl) ?_ ?_
                      · refine g_run X KX9_digest_272_20 KX9_digest_272_20_d 275 [(0, .ref (ad 0)), (1, .int (nI (ers I S 15))), (2, .int (nI (bdl I L S 16))), (3, .ref qa2), (4, .ref qa3), (5, .int (nI 4))] [.int (nI 4), .int (nI 4)] rfl ?_
                        refine g_icmp_ge X 322 dX9_digest_275 (by decide) (fun hc9 => ?_) (fun hc9 => ?_)
                        · refine g_run X KX9_digest_322_21 KX9_digest_322_21_d 330 [(0, .ref (ad 0)), (1, .int (nI (ers I S 15))), (2, .int (nI (bdl I L S 16))), (3, .ref qa2), (4, .ref qa3), (5, .int (nI 4))] [.long (((nI 4) * ((nI 16) - (nI (bdl I L S 16)))).toInt64), .ref (ad 0)] rfl ?_
                          refine g_st (st' := [.long (FP.d2l (FP.dmul 4634204016564240384 (hlV (bdl I L S 16)))), .ref (ad 0)]) (by rw [hl_d (bdl_le _ _ _ _)]) ?_
                          refine g_callV X hSB hAf (srcW) (hrc1 := (rfl : CL[8]? = some _)) (wm_mem (k := 0) (by decide)) rfl (As := [.long (FP.d2l (FP.dmul 4634204016564240384 (hlV (bdl I L S 16))))]) (wr := [(qa2, Sum.inl (g 0, 16, .inl (dgM I L S 16))), (qa3, Sum.inl (g 5, 16, .inr (.inl (dgD I L S 16))))]) (n := 1) (c_X9_add l D g ad I L S (z4 (u2 Z 3 0 (nI 0)) uX26.1 uX26.2.1 uX26.2.2) (dgF I L S 4) (FP.d2l (FP.dmul 4634204016564240384 (hlV (bdl I L S 16)))) ) rfl srcN hrdN w_1551 w_1548 w_1550 w_s42 w_6 (by decide +kernel) rfl ⟨Nat.le_of_ble_eq_true rfl, Nat.le_of_ble_eq_true rfl⟩ rfl rfl rfl (Nat.le_of_ble_eq_true rfl) ⟨Nat.le_of_ble_eq_true rfl, Nat.le_of_ble_eq_true rfl⟩ dX9_digest_330 (fun hu10 _ => ?_)
                          refine g_af (ws' := WM ad g I L S (z4 (u2 Z 3 0 (nI 0)) uX26.1 uX26.2.1 uX26.2.2) ((dgF I L S 4) * 31 + (FP.d2l (FP.dmul 4634204016564240384 (hlV (bdl I L S 16))))) ++ [(qa2, Sum.inl (g 0, 16, .inl (dgM I L S 16))), (qa3, Sum.inl (g 5, 16, .inr (.inl (dgD I L S 16))))]) (st' := []) (cells' := 18) (slots' := 272) (pc' := 333) rfl rfl rfl rfl rfl ?_
                          refine g_run X KX9_digest_333_22 KX9_digest_333_22_d 335 [(0, .ref (ad 0)), (1, .int (nI (ers I S 15))), (2, .int (nI (bdl I L S 16))), (3, .ref qa2), (4, .ref qa3), (5, .int (nI 4))] [.ref (ad 0), .ref (ad 0)] rfl ?_
                          refine g_callV X hSB hAf (srcW) (hrc1 := (rfl : CL[8]? = some _)) (wm_mem (k := 0) (by decide)) rfl (As := []) (wr := [(qa2, Sum.inl (g 0, 16, .inl (dgM I L S 16))), (qa3, Sum.inl (g 5, 16, .inr (.inl (dgD I L S 16))))]) (n := 0) (c_X9_isSoundNow l D g ad I L S (z4 (u2 Z 3 0 (nI 0)) uX26.1 uX26.2.1 uX26.2.2) ((dgF I L S 4) * 31 + (FP.d2l (FP.dmul 4634204016564240384 (hlV (bdl I L S 16))))) (hS18) (hpl)) rfl srcN hrdN w_1542 w_1539 w_1541 w_s41 w_6 (by decide +kernel) rfl ⟨Nat.le_of_ble_eq_true rfl, Nat.le_of_ble_eq_true rfl⟩ rfl rfl rfl (Nat.le_of_ble_eq_true rfl) ⟨Nat.le_of_ble_eq_true rfl, Nat.le_of_ble_eq_true rfl⟩ dX9_digest_335 (fun hu11 _ => ?_)
                          refine g_af (ws' := WM ad g I L S (z4 (u2 Z 3 0 (nI 0)) uX26.1 uX26.2.1 uX26.2.2) ((dgF I L S 4) * 31 + (FP.d2l (FP.dmul 4634204016564240384 (hlV (bdl I L S 16))))) ++ [(qa2, Sum.inl (g 0, 16, .inl (dgM I L S 16))), (qa3, Sum.inl (g 5, 16, .inr (.inl (dgD I L S 16))))]) (st' := [.int (nI (pB (snd I S))), .ref (ad 0)]) (cells' := 18) (slots' := 272) (pc' := 338) rfl rfl rfl rfl rfl ?_
                          refine g_if_eq X 345 dX9_digest_338 (by decide) (fun hc12 => ?_) (fun hc12 => ?_)
                          · rw [pB_eq0] at hc12; have hsn := hc12
                            refine g_run X KX9_digest_345_23 KX9_digest_345_23_d 346 [(0, .ref (ad 0)), (1, .int (nI (ers I S 15))), (2, .int (nI (bdl I L S 16))), (3, .ref qa2), (4, .ref qa3), (5, .int (nI 4))] [.long (lN 0), .ref (ad 0)] rfl ?_
                            refine g_callV X hSB hAf (srcW) (hrc1 := (rfl : CL[8]? = some _)) (wm_mem (k := 0) (by decide)) rfl (As := [.long (lN 0)]) (wr := [(qa2, Sum.inl (g 0, 16, .inl (dgM I L S 16))), (qa3, Sum.inl (g 5, 16, .inr (.inl (dgD I L S 16))))]) (n := 1) (c_X9_add l D g ad I L S (z4 (u2 Z 3 0 (nI 0)) uX26.1 uX26.2.1 uX26.2.2) ((dgF I L S 4) * 31 + (FP.d2l (FP.dmul 4634204016564240384 (hlV (bdl I L S 16))))) (lN 0) ) rfl srcN hrdN w_1551 w_1548 w_1550 w_s42 w_6 (by decide +kernel) rfl ⟨Nat.le_of_ble_eq_true rfl, Nat.le_of_ble_eq_true rfl⟩ rfl rfl rfl (Nat.le_of_ble_eq_true rfl) ⟨Nat.le_of_ble_eq_true rfl, Nat.le_of_ble_eq_true rfl⟩ dX9_digest_346 (fun hu13 _ => ?_)
                            refine g_af (ws' := WM ad g I L S (z4 (u2 Z 3 0 (nI 0)) uX26.1 uX26.2.1 uX26.2.2) (((dgF I L S 4) * 31 + (FP.d2l (FP.dmul 4634204016564240384 (hlV (bdl I L S 16))))) * 31 + (lN 0)) ++ [(qa2, Sum.inl (g 0, 16, .inl (dgM I L S 16))), (qa3, Sum.inl (g 5, 16, .inr (.inl (dgD I L S 16))))]) (st' := []) (cells' := 18) (slots' := 272) (pc' := 349) rfl rfl rfl rfl rfl ?_
                            refine g_run X KX9_digest_349_24 KX9_digest_349_24_d 350 [(0, .ref (ad 0)), (1, .int (nI (ers I S 15))), (2, .int (nI (bdl I L S 16))), (3, .ref qa2), (4, .ref qa3), (5, .int (nI 4))] [.ref (ad 0)] rfl ?_
                            refine g_get X srcW (v := .long (((dgF I L S 4) * 31 + (FP.d2l (FP.dmul 4634204016564240384 (hlV (bdl I L S 16))))) * 31 + (lN 0))) hinX9 rfl 21 (by decide) w_1201 rfl (wm_mem (k := 0) (by decide)) rfl dX9_digest_350 ?_
                            exact g_lret X hr (uX26.1, uX26.2.1, uX26.2.2) (by show some (Value.long _) = some (Value.long _); first | (rw [dgV, pB_t hsn]; rfl) | (rw [dgV, pB_f hsn]; rfl)) (by assumption) (by first | (rw [dgV, pB_t hsn]; rfl) | (rw [dgV, pB_f hsn]; rfl)) (Nat.le_of_ble_eq_true rfl) (Nat.le_of_ble_eq_true rfl) dX9_digest_353
                          · rw [pB_eq0, Classical.not_not] at hc12; have hsn := hc12
                            refine g_run X KX9_digest_341_25 KX9_digest_341_25_d 346 [(0, .ref (ad 0)), (1, .int (nI (ers I S 15))), (2, .int (nI (bdl I L S 16))), (3, .ref qa2), (4, .ref qa3), (5, .int (nI 4))] [.long (lN 1), .ref (ad 0)] rfl ?_
                            refine g_callV X hSB hAf (srcW) (hrc1 := (rfl : CL[8]? = some _)) (wm_mem (k := 0) (by decide)) rfl (As := [.long (lN 1)]) (wr := [(qa2, Sum.inl (g 0, 16, .inl (dgM I L S 16))), (qa3, Sum.inl (g 5, 16, .inr (.inl (dgD I L S 16))))]) (n := 1) (c_X9_add l D g ad I L S (z4 (u2 Z 3 0 (nI 0)) uX26.1 uX26.2.1 uX26.2.2) ((dgF I L S 4) * 31 + (FP.d2l (FP.dmul 4634204016564240384 (hlV (bdl I L S 16))))) (lN 1) ) rfl srcN hrdN w_1551 w_1548 w_1550 w_s42 w_6 (by decide +kernel) rfl ⟨Nat.le_of_ble_eq_true rfl, Nat.le_of_ble_eq_true rfl⟩ rfl rfl rfl (Nat.le_of_ble_eq_true rfl) ⟨Nat.le_of_ble_eq_true rfl, Nat.le_of_ble_eq_true rfl⟩ dX9_digest_346 (fun hu14 _ => ?_)
                            refine g_af (ws' := WM ad g I L S (z4 (u2 Z 3 0 (nI 0)) uX26.1 uX26.2.1 uX26.2.2) (((dgF I L S 4) * 31 + (FP.d2l (FP.dmul 4634204016564240384 (hlV (bdl I L S 16))))) * 31 + (lN 1)) ++ [(qa2, Sum.inl (g 0, 16, .inl (dgM I L S 16))), (qa3, Sum.inl (g 5, 16, .inr (.inl (dgD I L S 16))))]) (st' := []) (cells' := 18) (slots' := 272) (pc' := 349) rfl rfl rfl rfl rfl ?_
                            refine g_run X KX9_digest_349_24 KX9_digest_349_24_d 350 [(0, .ref (ad 0)), (1, .int (nI (ers I S 15))), (2, .int (nI (bdl I L S 16))), (3, .ref qa2), (4, .ref qa3), (5, .int (nI 4))] [.ref (ad 0)] rfl ?_
                            refine g_get X srcW (v := .long (((dgF I L S 4) * 31 + (FP.d2l (FP.dmul 4634204016564240384 (hlV (bdl I L S 16))))) * 31 + (lN 1))) hinX9 rfl 21 (by decide) w_1201 rfl (wm_mem (k := 0) (by decide)) rfl dX9_digest_350 ?_
                            exact g_lret X hr (uX26.1, uX26.2.1, uX26.2.2) (by show some (Value.long _) = some (Value.long _); first | (rw [dgV, pB_t hsn]; rfl) | (rw [dgV, pB_f hsn]; rfl)) (by assumption) (by first | (rw [dgV, pB_t hsn]; rfl) | (rw [dgV, pB_f hsn]; rfl)) (Nat.le_of_ble_eq_true rfl) (Nat.le_of_ble_eq_true rfl) dX9_digest_353
                        · rw [nI_leI (by omega) (by omega)] at hc9; first | omega | (simp at hc9)
                      · intro fk hfk k272
                        refine g_run X KX9_digest_272_20 KX9_digest_272_20_d 275 [(0, .ref (ad 0)), (1, .int (nI (ers I S 15))), (2, .int (nI (bdl I L S 16))), (3, .ref qa2), (4, .ref qa3), (5, .int (nI fk))] [.int (nI 4), .int (nI fk)] rfl ?_
                        refine g_icmp_ge X 322 dX9_digest_275 (by decide) (fun hc15 => ?_) (fun hc15 => ?_)
                        · rw [nI_leI (by omega) (by omega)] at hc15; first | omega | (simp at hc15)
                        · refine g_run X KX9_digest_278_26 KX9_digest_278_26_d 281 [(6, .int (nI 0)), (0, .ref (ad 0)), (1, .int (nI (ers I S 15))), (2, .int (nI (bdl I L S 16))), (3, .ref qa2), (4, .ref qa3), (5, .int (nI fk))] [] rfl ?_
                          refine g_lv (lv' := [(0, .ref (ad 0)), (1, .int (nI (ers I S 15))), (2, .int (nI (bdl I L S 16))), (3, .ref qa2), (4, .ref qa3), (5, .int (nI fk)), (6, .int (nI 0))]) (lsub_c 1 rfl (lsub_c 2 rfl (lsub_c 3 rfl (lsub_c 4 rfl (lsub_c 5 rfl (lsub_c 6 rfl (lsub_c 0 rfl (lsub_n)))))))) ?_
                          refine g_for 3 (fun w => WM ad g I L S (z4 (u2 Z 3 0 (nI 0)) uX26.1 uX26.2.1 uX26.2.2) (dgF0 I fk (dgF I L S fk) w) ++ [(qa2, Sum.inl (g 0, 16, .inl (dgM I L S 16))), (qa3, Sum.inl (g 5, 16, .inr (.inl (dgD I L S 16))))]) (fun w => [(0, .ref (ad 0)), (1, .int (nI (ers I S 15))), (2, .int (nI (bdl I L S 16))), (3, .ref qa2), (4, .ref qa3), (5, .int (nI fk)), (6, .int (nI w))]) (by rw [dgF0_0]) (rfl) ?_ ?_
                          · refine g_run X KX9_digest_281_27 KX9_digest_281_27_d 284 [(0, .ref (ad 0)), (1, .int (nI (ers I S 15))), (2, .int (nI (bdl I L S 16))), (3, .ref qa2), (4, .ref qa3), (5, .int (nI fk)), (6, .int (nI 3))] [.int (nI 3), .int (nI 3)] rfl ?_
                            refine g_icmp_ge X 306 dX9_digest_284 (by decide) (fun hc16 => ?_) (fun hc16 => ?_)
                            · refine g_run X KX9_digest_306_28 KX9_digest_306_28_d 310 [(0, .ref (ad 0)), (1, .int (nI (ers I S 15))), (2, .int (nI (bdl I L S 16))), (3, .ref qa2), (4, .ref qa3), (5, .int (nI fk)), (6, .int (nI 3))] [.int (nI fk), .ref (ad 0), .ref (ad 0)] rfl ?_
                              refine g_callV X hSB hAf (srcW) (hrc1 := (rfl : CL[8]? = some _)) (wm_mem (k := 0) (by decide)) rfl (As := [.int (nI fk)]) (wr := [(qa2, Sum.inl (g 0, 16, .inl (dgM I L S 16))), (qa3, Sum.inl (g 5, 16, .inr (.inl (dgD I L S 16))))]) (n := 1) (c_X9_heldNow l D g ad I L S (z4 (u2 Z 3 0 (nI 0)) uX26.1 uX26.2.1 uX26.2.2) (dgF0 I fk (dgF I L S fk) 3) fk (by omega) (hin fk (by omega))) rfl srcN hrdN w_1488 w_1485 w_1487 w_s36 w_6 (by decide +kernel) rfl ⟨Nat.le_of_ble_eq_true rfl, Nat.le_of_ble_eq_true rfl⟩ rfl rfl rfl (Nat.le_of_ble_eq_true rfl) ⟨Nat.le_of_ble_eq_true rfl, Nat.le_of_ble_eq_true rfl⟩ dX9_digest_310 (fun hu17 _ => ?_)
                              refine g_af (ws' := WM ad g I L S (z4 (u2 Z 3 0 (nI 0)) uX26.1 uX26.2.1 uX26.2.2) (dgF0 I fk (dgF I L S fk) 3) ++ [(qa2, Sum.inl (g 0, 16, .inl (dgM I L S 16))), (qa3, Sum.inl (g 5, 16, .inr (.inl (dgD I L S 16))))]) (st' := [.long (dtO (L 3 fk)), .ref (ad 0)]) (cells' := 18) (slots' := 272) (pc' := 313) rfl rfl rfl rfl rfl ?_
                              refine g_callV X hSB hAf (srcW) (hrc1 := (rfl : CL[8]? = some _)) (wm_mem (k := 0) (by decide)) rfl (As := [.long (dtO (L 3 fk))]) (wr := [(qa2, Sum.inl (g 0, 16, .inl (dgM I L S 16))), (qa3, Sum.inl (g 5, 16, .inr (.inl (dgD I L S 16))))]) (n := 1) (c_X9_add l D g ad I L S (z4 (u2 Z 3 0 (nI 0)) uX26.1 uX26.2.1 uX26.2.2) (dgF0 I fk (dgF I L S fk) 3) (dtO (L 3 fk)) ) rfl srcN hrdN w_1551 w_1548 w_1550 w_s42 w_6 (by decide +kernel) rfl ⟨Nat.le_of_ble_eq_true rfl, Nat.le_of_ble_eq_true rfl⟩ rfl rfl rfl (Nat.le_of_ble_eq_true rfl) ⟨Nat.le_of_ble_eq_true rfl, Nat.le_of_ble_eq_true rfl⟩ dX9_digest_313 (fun hu18 _ => ?_)
                              refine g_af (ws' := WM ad g I L S (z4 (u2 Z 3 0 (nI 0)) uX26.1 uX26.2.1 uX26.2.2) ((dgF0 I fk (dgF I L S fk) 3) * 31 + (dtO (L 3 fk))) ++ [(qa2, Sum.inl (g 0, 16, .inl (dgM I L S 16))), (qa3, Sum.inl (g 5, 16, .inr (.inl (dgD I L S 16))))]) (st' := []) (cells' := 18) (slots' := 272) (pc' := 316) rfl rfl rfl rfl rfl ?_
                              refine g_run X KX9_digest_316_29 KX9_digest_316_29_d 272 [(5, .int ((nI fk) + (nI 1))), (0, .ref (ad 0)), (1, .int (nI (ers I S 15))), (2, .int (nI (bdl I L S 16))), (3, .ref qa2), (4, .ref qa3), (6, .int (nI 3))] [] rfl ?_
                              refine g_nm (lv' := [(5, .int (nI (fk + 1))), (0, .ref (ad 0)), (1, .int (nI (ers I S 15))), (2, .int (nI (bdl I L S 16))), (3, .ref qa2), (4, .ref qa3), (6, .int (nI 3))]) (st' := []) (by simp only [nI_add]) (by simp only [nI_add]) ?_
                              refine g_lv (lv' := [(0, .ref (ad 0)), (1, .int (nI (ers I S 15))), (2, .int (nI (bdl I L S 16))), (3, .ref qa2), (4, .ref qa3), (5, .int (nI (fk + 1)))]) (lsub_c 1 rfl (lsub_c 2 rfl (lsub_c 3 rfl (lsub_c 4 rfl (lsub_c 5 rfl (lsub_c 0 rfl (lsub_n))))))) ?_
                              refine g_cs (ws' := WM ad g I L S (z4 (u2 Z 3 0 (nI 0)) uX26.1 uX26.2.1 uX26.2.2) (dgF I L S (fk + 1)) ++ [(qa2, Sum.inl (g 0, 16, .inl (dgM I L S 16))), (qa3, Sum.inl (g 5, 16, .inr (.inl (dgD I L S 16))))]) (lv' := [(0, .ref (ad 0)), (1, .int (nI (ers I S 15))), (2, .int (nI (bdl I L S 16))), (3, .ref qa2), (4, .ref qa3), (5, .int (nI (fk + 1)))]) (by rw [dgF_s]) (rfl) ?_
                              exact k272
                            · rw [nI_leI (by omega) (by omega)] at hc16; first | omega | (simp at hc16)
                          · intro w hw k281
                            refine g_run X KX9_digest_281_27 KX9_digest_281_27_d 284 [(0, .ref (ad 0)), (1, .int (nI (ers I S 15))), (2, .int (nI (bdl I L S 16))), (3, .ref qa2), (4, .ref qa3), (5, .int (nI fk)), (6, .int (nI w))] [.int (nI 3), .int (nI w)] rfl ?_
                            refine g_icmp_ge X 306 dX9_digest_284 (by decide) (fun hc19 => ?_) (fun hc19 => ?_)
                            · rw [nI_leI (by omega) (by omega)] at hc19; first | omega | (simp at hc19)
                            · refine g_run X KX9_digest_287_30 KX9_digest_287_30_d 293 [(0, .ref (ad 0)), (1, .int (nI (ers I S 15))), (2, .int (nI (bdl I L S 16))), (3, .ref qa2), (4, .ref qa3), (5, .int (nI fk)), (6, .int (nI w))] [.int (nI w), .int (nI fk), .ref (ad 0), .ref (ad 0)] rfl ?_
                              rcases (show w = 0 ∨ w = 1 ∨ w = 2 by omega) with hi3 | hi3 | hi3
                              · refine g_st (st' := [.int (nI 0), .int (nI fk), .ref (ad 0), .ref (ad 0)]) (by rw [hi3]) ?_
                                refine g_callV X hSB hAf (srcW) (hrc1 := (rfl : CL[8]? = some _)) (wm_mem (k := 0) (by decide)) rfl (As := [.int (nI fk), .int (nI 0)]) (wr := [(qa2, Sum.inl (g 0, 16, .inl (dgM I L S 16))), (qa3, Sum.inl (g 5, 16, .inr (.inl (dgD I L S 16))))]) (n := 2) (c_X9_ofFrameNow_0 l D g ad I L S (z4 (u2 Z 3 0 (nI 0)) uX26.1 uX26.2.1 uX26.2.2) (dgF0 I fk (dgF I L S fk) w) fk (by omega)) rfl srcN hrdN w_1480 w_1477 w_1479 w_s35 w_6 (by decide +kernel) rfl ⟨Nat.le_of_ble_eq_true rfl, Nat.le_of_ble_eq_true rfl⟩ rfl rfl rfl (Nat.le_of_ble_eq_true rfl) ⟨Nat.le_of_ble_eq_true rfl, Nat.le_of_ble_eq_true rfl⟩ dX9_digest_293 (fun hu20 _ => ?_)
                                refine g_af (ws' := WM ad g I L S (z4 (u2 Z 3 0 (nI 0)) uX26.1 uX26.2.1 uX26.2.2) (dgF0 I fk (dgF I L S fk) w) ++ [(qa2, Sum.inl (g 0, 16, .inl (dgM I L S 16))), (qa3, Sum.inl (g 5, 16, .inr (.inl (dgD I L S 16))))]) (st' := [.int (ofV I fk 0), .ref (ad 0)]) (cells' := 18) (slots' := 272) (pc' := 296) rfl rfl rfl rfl rfl ?_
                                refine g_st (st' := [.int (ofV I fk w), .ref (ad 0)]) (by rw [hi3]) ?_
                                refine g_run X KX9_digest_296_31 KX9_digest_296_31_d 297 [(0, .ref (ad 0)), (1, .int (nI (ers I S 15))), (2, .int (nI (bdl I L S 16))), (3, .ref qa2), (4, .ref qa3), (5, .int (nI fk)), (6, .int (nI w))] [.long ((ofV I fk w).toInt64), .ref (ad 0)] rfl ?_
                                refine g_callV X hSB hAf (srcW) (hrc1 := (rfl : CL[8]? = some _)) (wm_mem (k := 0) (by decide)) rfl (As := [.long ((ofV I fk w).toInt64)]) (wr := [(qa2, Sum.inl (g 0, 16, .inl (dgM I L S 16))), (qa3, Sum.inl (g 5, 16, .inr (.inl (dgD I L S 16))))]) (n := 1) (c_X9_add l D g ad I L S (z4 (u2 Z 3 0 (nI 0)) uX26.1 uX26.2.1 uX26.2.2) (dgF0 I fk (dgF I L S fk) w) ((ofV I fk w).toInt64) ) rfl srcN hrdN w_1551 w_1548 w_1550 w_s42 w_6 (by decide +kernel) rfl ⟨Nat.le_of_ble_eq_true rfl, Nat.le_of_ble_eq_true rfl⟩ rfl rfl rfl (Nat.le_of_ble_eq_true rfl) ⟨Nat.le_of_ble_eq_true rfl, Nat.le_of_ble_eq_true rfl⟩ dX9_digest_297 (fun hu21 _ => ?_)
                                refine g_af (ws' := WM ad g I L S (z4 (u2 Z 3 0 (nI 0)) uX26.1 uX26.2.1 uX26.2.2) ((dgF0 I fk (dgF I L S fk) w) * 31 + ((ofV I fk w).toInt64)) ++ [(qa2, Sum.inl (g 0, 16, .inl (dgM I L S 16))), (qa3, Sum.inl (g 5, 16, .inr (.inl (dgD I L S 16))))]) (st' := []) (cells' := 18) (slots' := 272) (pc' := 300) rfl rfl rfl rfl rfl ?_
                                refine g_run X KX9_digest_300_32 KX9_digest_300_32_d 281 [(6, .int ((nI w) + (nI 1))), (0, .ref (ad 0)), (1, .int (nI (ers I S 15))), (2, .int (nI (bdl I L S 16))), (3, .ref qa2), (4, .ref qa3), (5, .int (nI fk))] [] rfl ?_
                                refine g_nm (lv' := [(6, .int (nI (w + 1))), (0, .ref (ad 0)), (1, .int (nI (ers I S 15))), (2, .int (nI (bdl I L S 16))), (3, .ref qa2), (4, .ref qa3), (5, .int (nI fk))]) (st' := []) (by simp only [nI_add]) (by simp only [nI_add]) ?_
                                refine g_lv (lv' := [(0, .ref (ad 0)), (1, .int (nI (ers I S 15))), (2, .int (nI (bdl I L S 16))), (3, .ref qa2), (4, .ref qa3), (5, .int (nI fk)), (6, .int (nI (w + 1)))]) (lsub_c 1 rfl (lsub_c 2 rfl (lsub_c 3 rfl (lsub_c 4 rfl (lsub_c 5 rfl (lsub_c 6 rfl (lsub_c 0 rfl (lsub_n)))))))) ?_
                                refine g_cs (ws' := WM ad g I L S (z4 (u2 Z 3 0 (nI 0)) uX26.1 uX26.2.1 uX26.2.2) (dgF0 I fk (dgF I L S fk) (w + 1)) ++ [(qa2, Sum.inl (g 0, 16, .inl (dgM I L S 16))), (qa3, Sum.inl (g 5, 16, .inr (.inl (dgD I L S 16))))]) (lv' := [(0, .ref (ad 0)), (1, .int (nI (ers I S 15))), (2, .int (nI (bdl I L S 16))), (3, .ref qa2), (4, .ref qa3), (5, .int (nI fk)), (6, .int (nI (w + 1)))]) (by rw [dgF0_s]) (rfl) ?_
                                exact k281
                              · refine g_st (st' := [.int (nI 1), .int (nI fk), .ref (ad 0), .ref (ad 0)]) (by rw [hi3]) ?_
                                refine g_callV X hSB hAf (srcW) (hrc1 := (rfl : CL[8]? = some _)) (wm_mem (k := 0) (by decide)) rfl (As := [.int (nI fk), .int (nI 1)]) (wr := [(qa2, Sum.inl (g 0, 16, .inl (dgM I L S 16))), (qa3, Sum.inl (g 5, 16, .inr (.inl (dgD I L S 16))))]) (n := 2) (c_X9_ofFrameNow_1 l D g ad I L S (z4 (u2 Z 3 0 (nI 0)) uX26.1 uX26.2.1 uX26.2.2) (dgF0 I fk (dgF I L S fk) w) fk (by omega)) rfl srcN hrdN w_1480 w_1477 w_1479 w_s35 w_6 (by decide +kernel) rfl ⟨Nat.le_of_ble_eq_true rfl, Nat.le_of_ble_eq_true rfl⟩ rfl rfl rfl (Nat.le_of_ble_eq_true rfl) ⟨Nat.le_of_ble_eq_true rfl, Nat.le_of_ble_eq_true rfl⟩ dX9_digest_293 (fun hu22 _ => ?_)
                                refine g_af (ws' := WM ad g I L S (z4 (u2 Z 3 0 (nI 0)) uX26.1 uX26.2.1 uX26.2.2) (dgF0 I fk (dgF I L S fk) w) ++ [(qa2, Sum.inl (g 0, 16, .inl (dgM I L S 16))), (qa3, Sum.inl (g 5, 16, .inr (.inl (dgD I L S 16))))]) (st' := [.int (ofV I fk 1), .ref (ad 0)]) (cells' := 18) (slots' := 272) (pc' := 296) rfl rfl rfl rfl rfl ?_
                                refine g_st (st' := [.int (ofV I fk w), .ref (ad 0)]) (by rw [hi3]) ?_
                                refine g_run X KX9_digest_296_31 KX9_digest_296_31_d 297 [(0, .ref (ad 0)), (1, .int (nI (ers I S 15))), (2, .int (nI (bdl I L S 16))), (3, .ref qa2), (4, .ref qa3), (5, .int (nI fk)), (6, .int (nI w))] [.long ((ofV I fk w).toInt64), .ref (ad 0)] rfl ?_
                                refine g_callV X hSB hAf (srcW) (hrc1 := (rfl : CL[8]? = some _)) (wm_mem (k := 0) (by decide)) rfl (As := [.long ((ofV I fk w).toInt64)]) (wr := [(qa2, Sum.inl (g 0, 16, .inl (dgM I L S 16))), (qa3, Sum.inl (g 5, 16, .inr (.inl (dgD I L S 16))))]) (n := 1) (c_X9_add l D g ad I L S (z4 (u2 Z 3 0 (nI 0)) uX26.1 uX26.2.1 uX26.2.2) (dgF0 I fk (dgF I L S fk) w) ((ofV I fk w).toInt64) ) rfl srcN hrdN w_1551 w_1548 w_1550 w_s42 w_6 (by decide +kernel) rfl ⟨Nat.le_of_ble_eq_true rfl, Nat.le_of_ble_eq_true rfl⟩ rfl rfl rfl (Nat.le_of_ble_eq_true rfl) ⟨Nat.le_of_ble_eq_true rfl, Nat.le_of_ble_eq_true rfl⟩ dX9_digest_297 (fun hu23 _ => ?_)
                                refine g_af (ws' := WM ad g I L S (z4 (u2 Z 3 0 (nI 0)) uX26.1 uX26.2.1 uX26.2.2) ((dgF0 I fk (dgF I L S fk) w) * 31 + ((ofV I fk w).toInt64)) ++ [(qa2, Sum.inl (g 0, 16, .inl (dgM I L S 16))), (qa3, Sum.inl (g 5, 16, .inr (.inl (dgD I L S 16))))]) (st' := []) (cells' := 18) (slots' := 272) (pc' := 300) rfl rfl rfl rfl rfl ?_
                                refine g_run X KX9_digest_300_32 KX9_digest_300_32_d 281 [(6, .int ((nI w) + (nI 1))), (0, .ref (ad 0)), (1, .int (nI (ers I S 15))), (2, .int (nI (bdl I L S 16))), (3, .ref qa2), (4, .ref qa3), (5, .int (nI fk))] [] rfl ?_
                                refine g_nm (lv' := [(6, .int (nI (w + 1))), (0, .ref (ad 0)), (1, .int (nI (ers I S 15))), (2, .int (nI (bdl I L S 16))), (3, .ref qa2), (4, .ref qa3), (5, .int (nI fk))]) (st' := []) (by simp only [nI_add]) (by simp only [nI_add]) ?_
                                refine g_lv (lv' := [(0, .ref (ad 0)), (1, .int (nI (ers I S 15))), (2, .int (nI (bdl I L S 16))), (3, .ref qa2), (4, .ref qa3), (5, .int (nI fk)), (6, .int (nI (w + 1)))]) (lsub_c 1 rfl (lsub_c 2 rfl (lsub_c 3 rfl (lsub_c 4 rfl (lsub_c 5 rfl (lsub_c 6 rfl (lsub_c 0 rfl (lsub_n)))))))) ?_
                                refine g_cs (ws' := WM ad g I L S (z4 (u2 Z 3 0 (nI 0)) uX26.1 uX26.2.1 uX26.2.2) (dgF0 I fk (dgF I L S fk) (w + 1)) ++ [(qa2, Sum.inl (g 0, 16, .inl (dgM I L S 16))), (qa3, Sum.inl (g 5, 16, .inr (.inl (dgD I L S 16))))]) (lv' := [(0, .ref (ad 0)), (1, .int (nI (ers I S 15))), (2, .int (nI (bdl I L S 16))), (3, .ref qa2), (4, .ref qa3), (5, .int (nI fk)), (6, .int (nI (w + 1)))]) (by rw [dgF0_s]) (rfl) ?_
                                exact k281
                              · refine g_st (st' := [.int (nI 2), .int (nI fk), .ref (ad 0), .ref (ad 0)]) (by rw [hi3]) ?_
                                refine g_callV X hSB hAf (srcW) (hrc1 := (rfl : CL[8]? = some _)) (wm_mem (k := 0) (by decide)) rfl (As := [.int (nI fk), .int (nI 2)]) (wr := [(qa2, Sum.inl (g 0, 16, .inl (dgM I L S 16))), (qa3, Sum.inl (g 5, 16, .inr (.inl (dgD I L S 16))))]) (n := 2) (c_X9_ofFrameNow_2 l D g ad I L S (z4 (u2 Z 3 0 (nI 0)) uX26.1 uX26.2.1 uX26.2.2) (dgF0 I fk (dgF I L S fk) w) fk (by omega)) rfl srcN hrdN w_1480 w_1477 w_1479 w_s35 w_6 (by decide +kernel) rfl ⟨Nat.le_of_ble_eq_true rfl, Nat.le_of_ble_eq_true rfl⟩ rfl rfl rfl (Nat.le_of_ble_eq_true rfl) ⟨Nat.le_of_ble_eq_true rfl, Nat.le_of_ble_eq_true rfl⟩ dX9_digest_293 (fun hu24 _ => ?_)
                                refine g_af (ws' := WM ad g I L S (z4 (u2 Z 3 0 (nI 0)) uX26.1 uX26.2.1 uX26.2.2) (dgF0 I fk (dgF I L S fk) w) ++ [(qa2, Sum.inl (g 0, 16, .inl (dgM I L S 16))), (qa3, Sum.inl (g 5, 16, .inr (.inl (dgD I L S 16))))]) (st' := [.int (ofV I fk 2), .ref (ad 0)]) (cells' := 18) (slots' := 272) (pc' := 296) rfl rfl rfl rfl rfl ?_
                                refine g_st (st' := [.int (ofV I fk w), .ref (ad 0)]) (by rw [hi3]) ?_
                                refine g_run X KX9_digest_296_31 KX9_digest_296_31_d 297 [(0, .ref (ad 0)), (1, .int (nI (ers I S 15))), (2, .int (nI (bdl I L S 16))), (3, .ref qa2), (4, .ref qa3), (5, .int (nI fk)), (6, .int (nI w))] [.long ((ofV I fk w).toInt64), .ref (ad 0)] rfl ?_
                                refine g_callV X hSB hAf (srcW) (hrc1 := (rfl : CL[8]? = some _)) (wm_mem (k := 0) (by decide)) rfl (As := [.long ((ofV I fk w).toInt64)]) (wr := [(qa2, Sum.inl (g 0, 16, .inl (dgM I L S 16))), (qa3, Sum.inl (g 5, 16, .inr (.inl (dgD I L S 16))))]) (n := 1) (c_X9_add l D g ad I L S (z4 (u2 Z 3 0 (nI 0)) uX26.1 uX26.2.1 uX26.2.2) (dgF0 I fk (dgF I L S fk) w) ((ofV I fk w).toInt64) ) rfl srcN hrdN w_1551 w_1548 w_1550 w_s42 w_6 (by decide +kernel) rfl ⟨Nat.le_of_ble_eq_true rfl, Nat.le_of_ble_eq_true rfl⟩ rfl rfl rfl (Nat.le_of_ble_eq_true rfl) ⟨Nat.le_of_ble_eq_true rfl, Nat.le_of_ble_eq_true rfl⟩ dX9_digest_297 (fun hu25 _ => ?_)
                                refine g_af (ws' := WM ad g I L S (z4 (u2 Z 3 0 (nI 0)) uX26.1 uX26.2.1 uX26.2.2) ((dgF0 I fk (dgF I L S fk) w) * 31 + ((ofV I fk w).toInt64)) ++ [(qa2, Sum.inl (g 0, 16, .inl (dgM I L S 16))), (qa3, Sum.inl (g 5, 16, .inr (.inl (dgD I L S 16))))]) (st' := []) (cells' := 18) (slots' := 272) (pc' := 300) rfl rfl rfl rfl rfl ?_
                                refine g_run X KX9_digest_300_32 KX9_digest_300_32_d 281 [(6, .int ((nI w) + (nI 1))), (0, .ref (ad 0)), (1, .int (nI (ers I S 15))), (2, .int (nI (bdl I L S 16))), (3, .ref qa2), (4, .ref qa3), (5, .int (nI fk))] [] rfl ?_
                                refine g_nm (lv' := [(6, .int (nI (w + 1))), (0, .ref (ad 0)), (1, .int (nI (ers I S 15))), (2, .int (nI (bdl I L S 16))), (3, .ref qa2), (4, .ref qa3), (5, .int (nI fk))]) (st' := []) (by simp only [nI_add]) (by simp only [nI_add]) ?_
                                refine g_lv (lv' := [(0, .ref (ad 0)), (1, .int (nI (ers I S 15))), (2, .int (nI (bdl I L S 16))), (3, .ref qa2), (4, .ref qa3), (5, .int (nI fk)), (6, .int (nI (w + 1)))]) (lsub_c 1 rfl (lsub_c 2 rfl (lsub_c 3 rfl (lsub_c 4 rfl (lsub_c 5 rfl (lsub_c 6 rfl (lsub_c 0 rfl (lsub_n)))))))) ?_
                                refine g_cs (ws' := WM ad g I L S (z4 (u2 Z 3 0 (nI 0)) uX26.1 uX26.2.1 uX26.2.2) (dgF0 I fk (dgF I L S fk) (w + 1)) ++ [(qa2, Sum.inl (g 0, 16, .inl (dgM I L S 16))), (qa3, Sum.inl (g 5, 16, .inr (.inl (dgD I L S 16))))]) (lv' := [(0, .ref (ad 0)), (1, .int (nI (ers I S 15))), (2, .int (nI (bdl I L S 16))), (3, .ref qa2), (4, .ref qa3), (5, .int (nI fk)), (6, .int (nI (w + 1)))]) (by rw [dgF0_s]) (rfl) ?_
                                exact k281
                    · rw [nI_leI (by omega) (by omega)] at hc8; first | omega | (simp at hc8)
                  · intro j hj k242
                    refine g_run X KX9_digest_242_18 KX9_digest_242_18_d 246 [(0, .ref (ad 0)), (1, .int (nI (ers I S 15))), (2, .int (nI (bdl I L S 16))), (3, .ref qa2), (4, .ref qa3), (5, .ref (ad 3)), (6, .int (nI 288)), (7, .int (nI j))] [.int (nI 288), .int (nI j)] rfl ?_
                    refine g_icmp_ge X 269 dX9_digest_246 (by decide) (fun hc26 => ?_) (fun hc26 => ?_)
                    · rw [nI_leI (by omega) (by omega)] at hc26; first | omega | (simp at hc26)
                    · refine g_run X KX9_digest_249_33 KX9_digest_249_33_d 253 [(0, .ref (ad 0)), (1, .int (nI (ers I S 15))), (2, .int (nI (bdl I L S 16))), (3, .ref qa2), (4, .ref qa3), (5, .ref (ad 3)), (6, .int (nI 288)), (7, .int (nI j))] [.int (nI j), .ref (ad 3)] rfl ?_
                      refine g_iald X srcW (v := nI (nib (L 0 (j / 16)) (j % 16))) 0 rfl (wm_mem (k := 3) (by decide)) j rfl (by omega) (by decide) (rfl) dX9_digest_253 ?_
                      refine g_run X KX9_digest_254_34 KX9_digest_254_34_d 260 [(8, .int (nI (nib (L 0 (j / 16)) (j % 16)))), (0, .ref (ad 0)), (1, .int (nI (ers I S 15))), (2, .int (nI (bdl I L S 16))), (3, .ref qa2), (4, .ref qa3), (5, .ref (ad 3)), (6, .int (nI 288)), (7, .int (nI j))] [.long ((nI (nib (L 0 (j / 16)) (j % 16))).toInt64), .ref (ad 0)] rfl ?_
                      refine g_callV X hSB hAf (srcW) (hrc1 := (rfl : CL[8]? = some _)) (wm_mem (k := 0) (by decide)) rfl (As := [.long ((nI (nib (L 0 (j / 16)) (j % 16))).toInt64)]) (wr := [(qa2, Sum.inl (g 0, 16, .inl (dgM I L S 16))), (qa3, Sum.inl (g 5, 16, .inr (.inl (dgD I L S 16))))]) (n := 1) (c_X9_add l D g ad I L S (z4 (u2 Z 3 0 (nI 0)) uX26.1 uX26.2.1 uX26.2.2) (dgS I L S j) ((nI (nib (L 0 (j / 16)) (j % 16))).toInt64) ) rfl srcN hrdN w_1551 w_1548 w_1550 w_s42 w_6 (by decide +kernel) rfl ⟨Nat.le_of_ble_eq_true rfl, Nat.le_of_ble_eq_true rfl⟩ rfl rfl rfl (Nat.le_of_ble_eq_true rfl) ⟨Nat.le_of_ble_eq_true rfl, Nat.le_of_ble_eq_true rfl⟩ dX9_digest_260 (fun hu27 _ => ?_)
                      refine g_af (ws' := WM ad g I L S (z4 (u2 Z 3 0 (nI 0)) uX26.1 uX26.2.1 uX26.2.2) ((dgS I L S j) * 31 + ((nI (nib (L 0 (j / 16)) (j % 16))).toInt64)) ++ [(qa2, Sum.inl (g 0, 16, .inl (dgM I L S 16))), (qa3, Sum.inl (g 5, 16, .inr (.inl (dgD I L S 16))))]) (st' := []) (cells' := 18) (slots' := 272) (pc' := 263) rfl rfl rfl rfl rfl ?_
                      refine g_run X KX9_digest_263_35 KX9_digest_263_35_d 242 [(7, .int ((nI j) + (nI 1))), (8, .int (nI (nib (L 0 (j / 16)) (j % 16)))), (0, .ref (ad 0)), (1, .int (nI (ers I S 15))), (2, .int (nI (bdl I L S 16))), (3, .ref qa2), (4, .ref qa3), (5, .ref (ad 3)), (6, .int (nI 288))] [] rfl ?_
                      refine g_nm (lv' := [(7, .int (nI (j + 1))), (8, .int (nI (nib (L 0 (j / 16)) (j % 16)))), (0, .ref (ad 0)), (1, .int (nI (ers I S 15))), (2, .int (nI (bdl I L S 16))), (3, .ref qa2), (4, .ref qa3), (5, .ref (ad 3)), (6, .int (nI 288))]) (st' := []) (by simp only [nI_add]) (by simp only [nI_add]) ?_
                      refine g_lv (lv' := [(0, .ref (ad 0)), (1, .int (nI (ers I S 15))), (2, .int (nI (bdl I L S 16))), (3, .ref qa2), (4, .ref qa3), (5, .ref (ad 3)), (6, .int (nI 288)), (7, .int (nI (j + 1)))]) (lsub_c 2 rfl (lsub_c 3 rfl (lsub_c 4 rfl (lsub_c 5 rfl (lsub_c 6 rfl (lsub_c 7 rfl (lsub_c 8 rfl (lsub_c 0 rfl (lsub_n))))))))) ?_
                      refine g_cs (ws' := WM ad g I L S (z4 (u2 Z 3 0 (nI 0)) uX26.1 uX26.2.1 uX26.2.2) (dgS I L S (j + 1)) ++ [(qa2, Sum.inl (g 0, 16, .inl (dgM I L S 16))), (qa3, Sum.inl (g 5, 16, .inr (.inl (dgD I L S 16))))]) (lv' := [(0, .ref (ad 0)), (1, .int (nI (ers I S 15))), (2, .int (nI (bdl I L S 16))), (3, .ref qa2), (4, .ref qa3), (5, .ref (ad 3)), (6, .int (nI 288)), (7, .int (nI (j + 1)))]) (by rw [dgS_s]) (rfl) ?_
                      exact k242
                · rw [nI_leI (by omega) (by omega)] at hc7; first | omega | (simp at hc7)
              · intro i hi k183
                refine g_run X KX9_digest_183_14 KX9_digest_183_14_d 187 [(0, .ref (ad 0)), (1, .int (nI (ers I S 15))), (2, .int (nI (bdl I L S 16))), (3, .ref qa2), (4, .ref qa3), (5, .int (nI i))] [.int (nI 16), .int (nI i)] rfl ?_
                refine g_icmp_ge X 228 dX9_digest_187 (by decide) (fun hc28 => ?_) (fun hc28 => ?_)
                · rw [nI_leI (by omega) (by omega)] at hc28; first | omega | (simp at hc28)
                · refine g_run X KX9_digest_190_36 KX9_digest_190_36_d 194 [(0, .ref (ad 0)), (1, .int (nI (ers I S 15))), (2, .int (nI (bdl I L S 16))), (3, .ref qa2), (4, .ref qa3), (5, .int (nI i))] [.int (nI i), .ref qa2, .ref (ad 0)] rfl ?_
                  refine g_iald X srcW (v := mdV I L S i) 0 rfl (wt_mem (List.mem_cons_self ..)) i rfl (by omega) (by decide) (dgM_at (by omega)) dX9_digest_194 ?_
                  refine g_run X KX9_digest_195_37 KX9_digest_195_37_d 196 [(0, .ref (ad 0)), (1, .int (nI (ers I S 15))), (2, .int (nI (bdl I L S 16))), (3, .ref qa2), (4, .ref qa3), (5, .int (nI i))] [.long ((mdV I L S i).toInt64), .ref (ad 0)] rfl ?_
                  refine g_callV X hSB hAf (srcW) (hrc1 := (rfl : CL[8]? = some _)) (wm_mem (k := 0) (by decide)) rfl (As := [.long ((mdV I L S i).toInt64)]) (wr := [(qa2, Sum.inl (g 0, 16, .inl (dgM I L S 16))), (qa3, Sum.inl (g 5, 16, .inr (.inl (dgD I L S 16))))]) (n := 1) (c_X9_add l D g ad I L S (z4 (u2 Z 3 0 (nI 0)) uX26.1 uX26.2.1 uX26.2.2) (dgC I L S i) ((mdV I L S i).toInt64) ) rfl srcN hrdN w_1551 w_1548 w_1550 w_s42 w_6 (by decide +kernel) rfl ⟨Nat.le_of_ble_eq_true rfl, Nat.le_of_ble_eq_true rfl⟩ rfl rfl rfl (Nat.le_of_ble_eq_true rfl) ⟨Nat.le_of_ble_eq_true rfl, Nat.le_of_ble_eq_true rfl⟩ dX9_digest_196 (fun hu29 _ => ?_)
                  refine g_af (ws' := WM ad g I L S (z4 (u2 Z 3 0 (nI 0)) uX26.1 uX26.2.1 uX26.2.2) ((dgC I L S i) * 31 + ((mdV I L S i).toInt64)) ++ [(qa2, Sum.inl (g 0, 16, .inl (dgM I L S 16))), (qa3, Sum.inl (g 5, 16, .inr (.inl (dgD I L S 16))))]) (st' := []) (cells' := 18) (slots' := 272) (pc' := 199) rfl rfl rfl rfl rfl ?_
                  refine g_run X KX9_digest_199_38 KX9_digest_199_38_d 204 [(0, .ref (ad 0)), (1, .int (nI (ers I S 15))), (2, .int (nI (bdl I L S 16))), (3, .ref qa2), (4, .ref qa3), (5, .int (nI i))] [.int (nI i), .ref qa3, .ref (ad 0)] rfl ?_
                  refine g_lald X srcW (v := dtO (oL (mwd I L S i))) 5 rfl (wt_mem (List.mem_cons_of_mem _ (List.mem_cons_self ..))) i rfl (by omega) (by decide) (dgD_at (by omega)) dX9_digest_204 ?_
                  refine g_callV X hSB hAf (srcW) (hrc1 := (rfl : CL[8]? = some _)) (wm_mem (k := 0) (by decide)) rfl (As := [.long (dtO (oL (mwd I L S i)))]) (wr := [(qa2, Sum.inl (g 0, 16, .inl (dgM I L S 16))), (qa3, Sum.inl (g 5, 16, .inr (.inl (dgD I L S 16))))]) (n := 1) (c_X9_add l D g ad I L S (z4 (u2 Z 3 0 (nI 0)) uX26.1 uX26.2.1 uX26.2.2) ((dgC I L S i) * 31 + ((mdV I L S i).toInt64)) (dtO (oL (mwd I L S i))) ) rfl srcN hrdN w_1551 w_1548 w_1550 w_s42 w_6 (by decide +kernel) rfl ⟨Nat.le_of_ble_eq_true rfl, Nat.le_of_ble_eq_true rfl⟩ rfl rfl rfl (Nat.le_of_ble_eq_true rfl) ⟨Nat.le_of_ble_eq_true rfl, Nat.le_of_ble_eq_true rfl⟩ dX9_digest_205 (fun hu30 _ => ?_)
                  refine g_af (ws' := WM ad g I L S (z4 (u2 Z 3 0 (nI 0)) uX26.1 uX26.2.1 uX26.2.2) (((dgC I L S i) * 31 + ((mdV I L S i).toInt64)) * 31 + (dtO (oL (mwd I L S i)))) ++ [(qa2, Sum.inl (g 0, 16, .inl (dgM I L S 16))), (qa3, Sum.inl (g 5, 16, .inr (.inl (dgD I L S 16))))]) (st' := []) (cells' := 18) (slots' := 272) (pc' := 208) rfl rfl rfl rfl rfl ?_
                  refine g_run X KX9_digest_208_39 KX9_digest_208_39_d 213 [(0, .ref (ad 0)), (1, .int (nI (ers I S 15))), (2, .int (nI (bdl I L S 16))), (3, .ref qa2), (4, .ref qa3), (5, .int (nI i))] [.int (nI i), .ref qa2, .ref (ad 0), .ref (ad 0)] rfl ?_
                  refine g_iald X srcW (v := mdV I L S i) 0 rfl (wt_mem (List.mem_cons_self ..)) i rfl (by omega) (by decide) (dgM_at (by omega)) dX9_digest_213 ?_
                  refine g_run X KX9_digest_214_40 KX9_digest_214_40_d 215 [(0, .ref (ad 0)), (1, .int (nI (ers I S 15))), (2, .int (nI (bdl I L S 16))), (3, .ref qa2), (4, .ref qa3), (5, .int (nI i))] [.int (nI (ers I S 15)), .int (mdV I L S i), .ref (ad 0), .ref (ad 0)] rfl ?_
                  rcases mw_or (ers I S 15) (rwd I L S i 15) with hn | ⟨y, hy⟩
                  · refine g_st (st' := [.int (nI (ers I S 15)), .int (-nI 1), .ref (ad 0), .ref (ad 0)]) (by rw [mdV, mwd, hn, if_pos (by rfl)]) ?_
                    refine g_callV X hSB hAf (srcW) (hrc1 := (rfl : CL[8]? = some _)) (wm_mem (k := 0) (by decide)) rfl (As := [.int (-nI 1), .int (nI (ers I S 15))]) (wr := [(qa2, Sum.inl (g 0, 16, .inl (dgM I L S 16))), (qa3, Sum.inl (g 5, 16, .inr (.inl (dgD I L S 16))))]) (n := 2) (c_X9_spareNow_n l D g ad I L S (z4 (u2 Z 3 0 (nI 0)) uX26.1 uX26.2.1 uX26.2.2) (((dgC I L S i) * 31 + ((mdV I L S i).toInt64)) * 31 + (dtO (oL (mwd I L S i)))) (nI (ers I S 15)) ) rfl srcN hrdN w_1525 w_1522 w_1524 w_s40 w_6 (by decide +kernel) rfl ⟨Nat.le_of_ble_eq_true rfl, Nat.le_of_ble_eq_true rfl⟩ rfl rfl rfl (Nat.le_of_ble_eq_true rfl) ⟨Nat.le_of_ble_eq_true rfl, Nat.le_of_ble_eq_true rfl⟩ dX9_digest_215 (fun hu31 _ => ?_)
                    refine g_af (ws' := WM ad g I L S (z4 (u2 Z 3 0 (nI 0)) uX26.1 uX26.2.1 uX26.2.2) (((dgC I L S i) * 31 + ((mdV I L S i).toInt64)) * 31 + (dtO (oL (mwd I L S i)))) ++ [(qa2, Sum.inl (g 0, 16, .inl (dgM I L S 16))), (qa3, Sum.inl (g 5, 16, .inr (.inl (dgD I L S 16))))]) (st' := [.int (-nI 1), .ref (ad 0)]) (cells' := 18) (slots' := 272) (pc' := 218) rfl rfl rfl rfl rfl ?_
                    refine g_st (st' := [.int (spV I L S i), .ref (ad 0)]) (by rw [spV, mwd, hn, if_pos (by rfl)]) ?_
                    refine g_run X KX9_digest_218_41 KX9_digest_218_41_d 219 [(0, .ref (ad 0)), (1, .int (nI (ers I S 15))), (2, .int (nI (bdl I L S 16))), (3, .ref qa2), (4, .ref qa3), (5, .int (nI i))] [.long ((spV I L S i).toInt64), .ref (ad 0)] rfl ?_
                    refine g_callV X hSB hAf (srcW) (hrc1 := (rfl : CL[8]? = some _)) (wm_mem (k := 0) (by decide)) rfl (As := [.long ((spV I L S i).toInt64)]) (wr := [(qa2, Sum.inl (g 0, 16, .inl (dgM I L S 16))), (qa3, Sum.inl (g 5, 16, .inr (.inl (dgD I L S 16))))]) (n := 1) (c_X9_add l D g ad I L S (z4 (u2 Z 3 0 (nI 0)) uX26.1 uX26.2.1 uX26.2.2) (((dgC I L S i) * 31 + ((mdV I L S i).toInt64)) * 31 + (dtO (oL (mwd I L S i)))) ((spV I L S i).toInt64) ) rfl srcN hrdN w_1551 w_1548 w_1550 w_s42 w_6 (by decide +kernel) rfl ⟨Nat.le_of_ble_eq_true rfl, Nat.le_of_ble_eq_true rfl⟩ rfl rfl rfl (Nat.le_of_ble_eq_true rfl) ⟨Nat.le_of_ble_eq_true rfl, Nat.le_of_ble_eq_true rfl⟩ dX9_digest_219 (fun hu32 _ => ?_)
                    refine g_af (ws' := WM ad g I L S (z4 (u2 Z 3 0 (nI 0)) uX26.1 uX26.2.1 uX26.2.2) ((((dgC I L S i) * 31 + ((mdV I L S i).toInt64)) * 31 + (dtO (oL (mwd I L S i)))) * 31 + ((spV I L S i).toInt64)) ++ [(qa2, Sum.inl (g 0, 16, .inl (dgM I L S 16))), (qa3, Sum.inl (g 5, 16, .inr (.inl (dgD I L S 16))))]) (st' := []) (cells' := 18) (slots' := 272) (pc' := 222) rfl rfl rfl rfl rfl ?_
                    refine g_run X KX9_digest_222_42 KX9_digest_222_42_d 183 [(5, .int ((nI i) + (nI 1))), (0, .ref (ad 0)), (1, .int (nI (ers I S 15))), (2, .int (nI (bdl I L S 16))), (3, .ref qa2), (4, .ref qa3)] [] rfl ?_
                    refine g_nm (lv' := [(5, .int (nI (i + 1))), (0, .ref (ad 0)), (1, .int (nI (ers I S 15))), (2, .int (nI (bdl I L S 16))), (3, .ref qa2), (4, .ref qa3)]) (st' := []) (by simp only [nI_add]) (by simp only [nI_add]) ?_
                    refine g_lv (lv' := [(0, .ref (ad 0)), (1, .int (nI (ers I S 15))), (2, .int (nI (bdl I L S 16))), (3, .ref qa2), (4, .ref qa3), (5, .int (nI (i + 1)))]) (lsub_c 1 rfl (lsub_c 2 rfl (lsub_c 3 rfl (lsub_c 4 rfl (lsub_c 5 rfl (lsub_c 0 rfl (lsub_n))))))) ?_
                    refine g_cs (ws' := WM ad g I L S (z4 (u2 Z 3 0 (nI 0)) uX26.1 uX26.2.1 uX26.2.2) (dgC I L S (i + 1)) ++ [(qa2, Sum.inl (g 0, 16, .inl (dgM I L S 16))), (qa3, Sum.inl (g 5, 16, .inr (.inl (dgD I L S 16))))]) (lv' := [(0, .ref (ad 0)), (1, .int (nI (ers I S 15))), (2, .int (nI (bdl I L S 16))), (3, .ref qa2), (4, .ref qa3), (5, .int (nI (i + 1)))]) (by rw [dgC_s]) (rfl) ?_
                    exact k183
                  · refine g_st (st' := [.int (nI (ers I S 15)), .int (nI (pl (rwd I L S i 15 ^^^ y) 15)), .ref (ad 0), .ref (ad 0)]) (by rw [mdV, mwd, hy, show oL (some y) = y from rfl, if_neg (ne_m1 (mw_15 (rwd_15 _ _ _ _ _ (Nat.le_refl _)) hy))]) ?_
                    refine g_callV X hSB hAf (srcW) (hrc1 := (rfl : CL[8]? = some _)) (wm_mem (k := 0) (by decide)) rfl (As := [.int (nI (pl (rwd I L S i 15 ^^^ y) 15)), .int (nI (ers I S 15))]) (wr := [(qa2, Sum.inl (g 0, 16, .inl (dgM I L S 16))), (qa3, Sum.inl (g 5, 16, .inr (.inl (dgD I L S 16))))]) (n := 2) (c_X9_spareNow l D g ad I L S (z4 (u2 Z 3 0 (nI 0)) uX26.1 uX26.2.1 uX26.2.2) (((dgC I L S i) * 31 + ((mdV I L S i).toInt64)) * 31 + (dtO (oL (mwd I L S i)))) (pl (rwd I L S i 15 ^^^ y) 15) (ers I S 15) (pl_lt _ _) (ers_lt _ _ _)) rfl srcN hrdN w_1525 w_1522 w_1524 w_s40 w_6 (by decide +kernel) rfl ⟨Nat.le_of_ble_eq_true rfl, Nat.le_of_ble_eq_true rfl⟩ rfl rfl rfl (Nat.le_of_ble_eq_true rfl) ⟨Nat.le_of_ble_eq_true rfl, Nat.le_of_ble_eq_true rfl⟩ dX9_digest_215 (fun hu33 _ => ?_)
                    refine g_af (ws' := WM ad g I L S (z4 (u2 Z 3 0 (nI 0)) uX26.1 uX26.2.1 uX26.2.2) (((dgC I L S i) * 31 + ((mdV I L S i).toInt64)) * 31 + (dtO (oL (mwd I L S i)))) ++ [(qa2, Sum.inl (g 0, 16, .inl (dgM I L S 16))), (qa3, Sum.inl (g 5, 16, .inr (.inl (dgD I L S 16))))]) (st' := [.int ((nI 4 - nI (pcn (ers I S 15) 15)) - nI (2 * pcn ((pl (rwd I L S i 15 ^^^ y) 15) &&& (32767 ^^^ (ers I S 15))) 15)), .ref (ad 0)]) (cells' := 18) (slots' := 272) (pc' := 218) rfl rfl rfl rfl rfl ?_
                    refine g_st (st' := [.int (spV I L S i), .ref (ad 0)]) (by rw [spV, mwd, hy, show oL (some y) = y from rfl, if_neg (ne_m1 (mw_15 (rwd_15 _ _ _ _ _ (Nat.le_refl _)) hy))]) ?_
                    refine g_run X KX9_digest_218_41 KX9_digest_218_41_d 219 [(0, .ref (ad 0)), (1, .int (nI (ers I S 15))), (2, .int (nI (bdl I L S 16))), (3, .ref qa2), (4, .ref qa3), (5, .int (nI i))] [.long ((spV I L S i).toInt64), .ref (ad 0)] rfl ?_
                    refine g_callV X hSB hAf (srcW) (hrc1 := (rfl : CL[8]? = some _)) (wm_mem (k := 0) (by decide)) rfl (As := [.long ((spV I L S i).toInt64)]) (wr := [(qa2, Sum.inl (g 0, 16, .inl (dgM I L S 16))), (qa3, Sum.inl (g 5, 16, .inr (.inl (dgD I L S 16))))]) (n := 1) (c_X9_add l D g ad I L S (z4 (u2 Z 3 0 (nI 0)) uX26.1 uX26.2.1 uX26.2.2) (((dgC I L S i) * 31 + ((mdV I L S i).toInt64)) * 31 + (dtO (oL (mwd I L S i)))) ((spV I L S i).toInt64) ) rfl srcN hrdN w_1551 w_1548 w_1550 w_s42 w_6 (by decide +kernel) rfl ⟨Nat.le_of_ble_eq_true rfl, Nat.le_of_ble_eq_true rfl⟩ rfl rfl rfl (Nat.le_of_ble_eq_true rfl) ⟨Nat.le_of_ble_eq_true rfl, Nat.le_of_ble_eq_true rfl⟩ dX9_digest_219 (fun hu34 _ => ?_)
                    refine g_af (ws' := WM ad g I L S (z4 (u2 Z 3 0 (nI 0)) uX26.1 uX26.2.1 uX26.2.2) ((((dgC I L S i) * 31 + ((mdV I L S i).toInt64)) * 31 + (dtO (oL (mwd I L S i)))) * 31 + ((spV I L S i).toInt64)) ++ [(qa2, Sum.inl (g 0, 16, .inl (dgM I L S 16))), (qa3, Sum.inl (g 5, 16, .inr (.inl (dgD I L S 16))))]) (st' := []) (cells' := 18) (slots' := 272) (pc' := 222) rfl rfl rfl rfl rfl ?_
                    refine g_run X KX9_digest_222_42 KX9_digest_222_42_d 183 [(5, .int ((nI i) + (nI 1))), (0, .ref (ad 0)), (1, .int (nI (ers I S 15))), (2, .int (nI (bdl I L S 16))), (3, .ref qa2), (4, .ref qa3)] [] rfl ?_
                    refine g_nm (lv' := [(5, .int (nI (i + 1))), (0, .ref (ad 0)), (1, .int (nI (ers I S 15))), (2, .int (nI (bdl I L S 16))), (3, .ref qa2), (4, .ref qa3)]) (st' := []) (by simp only [nI_add]) (by simp only [nI_add]) ?_
                    refine g_lv (lv' := [(0, .ref (ad 0)), (1, .int (nI (ers I S 15))), (2, .int (nI (bdl I L S 16))), (3, .ref qa2), (4, .ref qa3), (5, .int (nI (i + 1)))]) (lsub_c 1 rfl (lsub_c 2 rfl (lsub_c 3 rfl (lsub_c 4 rfl (lsub_c 5 rfl (lsub_c 0 rfl (lsub_n))))))) ?_
                    refine g_cs (ws' := WM ad g I L S (z4 (u2 Z 3 0 (nI 0)) uX26.1 uX26.2.1 uX26.2.2) (dgC I L S (i + 1)) ++ [(qa2, Sum.inl (g 0, 16, .inl (dgM I L S 16))), (qa3, Sum.inl (g 5, 16, .inr (.inl (dgD I L S 16))))]) (lv' := [(0, .ref (ad 0)), (1, .int (nI (ers I S 15))), (2, .int (nI (bdl I L S 16))), (3, .ref qa2), (4, .ref qa3), (5, .int (nI (i + 1)))]) (by rw [dgC_s]) (rfl) ?_
                    exact k183
            · rw [nI_leI (by omega) (by omega)] at hc6; first | omega | (simp at hc6)
          · intro ch hch k138
            refine g_run X KX9_digest_138_12 KX9_digest_138_12_d 142 [(0, .ref (ad 0)), (1, .int (nI (ers I S 15))), (2, .int (nI (bdl I L S 16))), (3, .ref qa2), (4, .ref qa3), (5, .int (nI ch))] [.int (nI 18), .int (nI ch)] rfl ?_
            refine g_icmp_ge X 180 dX9_digest_142 (by decide) (fun hc35 => ?_) (fun hc35 => ?_)
            · rw [nI_leI (by omega) (by omega)] at hc35; first | omega | (simp at hc35)
            · refine g_run X KX9_digest_145_43 KX9_digest_145_43_d 148 [(6, .int (nI 0)), (0, .ref (ad 0)), (1, .int (nI (ers I S 15))), (2, .int (nI (bdl I L S 16))), (3, .ref qa2), (4, .ref qa3), (5, .int (nI ch))] [] rfl ?_
              refine g_lv (lv' := [(0, .ref (ad 0)), (1, .int (nI (ers I S 15))), (2, .int (nI (bdl I L S 16))), (3, .ref qa2), (4, .ref qa3), (5, .int (nI ch)), (6, .int (nI 0))]) (lsub_c 1 rfl (lsub_c 2 rfl (lsub_c 3 rfl (lsub_c 4 rfl (lsub_c 5 rfl (lsub_c 6 rfl (lsub_c 0 rfl (lsub_n)))))))) ?_
              refine g_for 6 (fun w => WM ad g I L S (z4 (u2 Z 3 0 (nI 0)) uX26.1 uX26.2.1 uX26.2.2) (dgB0 I L ch (dgB I L S ch) w) ++ [(qa2, Sum.inl (g 0, 16, .inl (dgM I L S 16))), (qa3, Sum.inl (g 5, 16, .inr (.inl (dgD I L S 16))))]) (fun w => [(0, .ref (ad 0)), (1, .int (nI (ers I S 15))), (2, .int (nI (bdl I L S 16))), (3, .ref qa2), (4, .ref qa3), (5, .int (nI ch)), (6, .int (nI w))]) (by rw [dgB0_0]) (rfl) ?_ ?_
              · refine g_run X KX9_digest_148_44 KX9_digest_148_44_d 152 [(0, .ref (ad 0)), (1, .int (nI (ers I S 15))), (2, .int (nI (bdl I L S 16))), (3, .ref qa2), (4, .ref qa3), (5, .int (nI ch)), (6, .int (nI 6))] [.int (nI 6), .int (nI 6)] rfl ?_
                refine g_icmp_ge X 174 dX9_digest_152 (by decide) (fun hc36 => ?_) (fun hc36 => ?_)
                · refine g_run X KX9_digest_174_45 KX9_digest_174_45_d 138 [(5, .int ((nI ch) + (nI 1))), (0, .ref (ad 0)), (1, .int (nI (ers I S 15))), (2, .int (nI (bdl I L S 16))), (3, .ref qa2), (4, .ref qa3), (6, .int (nI 6))] [] rfl ?_
                  refine g_nm (lv' := [(5, .int (nI (ch + 1))), (0, .ref (ad 0)), (1, .int (nI (ers I S 15))), (2, .int (nI (bdl I L S 16))), (3, .ref qa2), (4, .ref qa3), (6, .int (nI 6))]) (st' := []) (by simp only [nI_add]) (by simp only [nI_add]) ?_
                  refine g_lv (lv' := [(0, .ref (ad 0)), (1, .int (nI (ers I S 15))), (2, .int (nI (bdl I L S 16))), (3, .ref qa2), (4, .ref qa3), (5, .int (nI (ch + 1)))]) (lsub_c 1 rfl (lsub_c 2 rfl (lsub_c 3 rfl (lsub_c 4 rfl (lsub_c 5 rfl (lsub_c 0 rfl (lsub_n))))))) ?_
                  refine g_cs (ws' := WM ad g I L S (z4 (u2 Z 3 0 (nI 0)) uX26.1 uX26.2.1 uX26.2.2) (dgB I L S (ch + 1)) ++ [(qa2, Sum.inl (g 0, 16, .inl (dgM I L S 16))), (qa3, Sum.inl (g 5, 16, .inr (.inl (dgD I L S 16))))]) (lv' := [(0, .ref (ad 0)), (1, .int (nI (ers I S 15))), (2, .int (nI (bdl I L S 16))), (3, .ref qa2), (4, .ref qa3), (5, .int (nI (ch + 1)))]) (by rw [dgB_s]) (rfl) ?_
                  exact k138
                · rw [nI_leI (by omega) (by omega)] at hc36; first | omega | (simp at hc36)
              · intro w hw k148
                refine g_run X KX9_digest_148_44 KX9_digest_148_44_d 152 [(0, .ref (ad 0)), (1, .int (nI (ers I S 15))), (2, .int (nI (bdl I L S 16))), (3, .ref qa2), (4, .ref qa3), (5, .int (nI ch)), (6, .int (nI w))] [.int (nI 6), .int (nI w)] rfl ?_
                refine g_icmp_ge X 174 dX9_digest_152 (by decide) (fun hc37 => ?_) (fun hc37 => ?_)
                · rw [nI_leI (by omega) (by omega)] at hc37; first | omega | (simp at hc37)
                · refine g_run X KX9_digest_155_46 KX9_digest_155_46_d 161 [(0, .ref (ad 0)), (1, .int (nI (ers I S 15))), (2, .int (nI (bdl I L S 16))), (3, .ref qa2), (4, .ref qa3), (5, .int (nI ch)), (6, .int (nI w))] [.int (nI w), .int (nI ch), .ref (ad 0), .ref (ad 0)] rfl ?_
                  rcases (show w < 5 ∨ w = 5 by omega) with hi3 | hi3
                  · refine g_callV X hSB hAf (srcW) (hrc1 := (rfl : CL[8]? = some _)) (wm_mem (k := 0) (by decide)) rfl (As := [.int (nI ch), .int (nI w)]) (wr := [(qa2, Sum.inl (g 0, 16, .inl (dgM I L S 16))), (qa3, Sum.inl (g 5, 16, .inr (.inl (dgD I L S 16))))]) (n := 2) (c_X9_ofChipNow l D g ad I L S (z4 (u2 Z 3 0 (nI 0)) uX26.1 uX26.2.1 uX26.2.2) (dgB0 I L ch (dgB I L S ch) w) ch w (by omega) (by omega)) rfl srcN hrdN w_1468 w_1465 w_1467 w_s34 w_6 (by decide +kernel) rfl ⟨Nat.le_of_ble_eq_true rfl, Nat.le_of_ble_eq_true rfl⟩ rfl rfl rfl (Nat.le_of_ble_eq_true rfl) ⟨Nat.le_of_ble_eq_true rfl, Nat.le_of_ble_eq_true rfl⟩ dX9_digest_161 (fun hu38 _ => ?_)
                    refine g_af (ws' := WM ad g I L S (z4 (u2 Z 3 0 (nI 0)) uX26.1 uX26.2.1 uX26.2.2) (dgB0 I L ch (dgB I L S ch) w) ++ [(qa2, Sum.inl (g 0, 16, .inl (dgM I L S 16))), (qa3, Sum.inl (g 5, 16, .inr (.inl (dgD I L S 16))))]) (st' := [.int (ocV I L ch w), .ref (ad 0)]) (cells' := 18) (slots' := 272) (pc' := 164) rfl rfl rfl rfl rfl ?_
                    refine g_run X KX9_digest_164_47 KX9_digest_164_47_d 165 [(0, .ref (ad 0)), (1, .int (nI (ers I S 15))), (2, .int (nI (bdl I L S 16))), (3, .ref qa2), (4, .ref qa3), (5, .int (nI ch)), (6, .int (nI w))] [.long ((ocV I L ch w).toInt64), .ref (ad 0)] rfl ?_
                    refine g_callV X hSB hAf (srcW) (hrc1 := (rfl : CL[8]? = some _)) (wm_mem (k := 0) (by decide)) rfl (As := [.long ((ocV I L ch w).toInt64)]) (wr := [(qa2, Sum.inl (g 0, 16, .inl (dgM I L S 16))), (qa3, Sum.inl (g 5, 16, .inr (.inl (dgD I L S 16))))]) (n := 1) (c_X9_add l D g ad I L S (z4 (u2 Z 3 0 (nI 0)) uX26.1 uX26.2.1 uX26.2.2) (dgB0 I L ch (dgB I L S ch) w) ((ocV I L ch w).toInt64) ) rfl srcN hrdN w_1551 w_1548 w_1550 w_s42 w_6 (by decide +kernel) rfl ⟨Nat.le_of_ble_eq_true rfl, Nat.le_of_ble_eq_true rfl⟩ rfl rfl rfl (Nat.le_of_ble_eq_true rfl) ⟨Nat.le_of_ble_eq_true rfl, Nat.le_of_ble_eq_true rfl⟩ dX9_digest_165 (fun hu39 _ => ?_)
                    refine g_af (ws' := WM ad g I L S (z4 (u2 Z 3 0 (nI 0)) uX26.1 uX26.2.1 uX26.2.2) ((dgB0 I L ch (dgB I L S ch) w) * 31 + ((ocV I L ch w).toInt64)) ++ [(qa2, Sum.inl (g 0, 16, .inl (dgM I L S 16))), (qa3, Sum.inl (g 5, 16, .inr (.inl (dgD I L S 16))))]) (st' := []) (cells' := 18) (slots' := 272) (pc' := 168) rfl rfl rfl rfl rfl ?_
                    refine g_run X KX9_digest_168_48 KX9_digest_168_48_d 148 [(6, .int ((nI w) + (nI 1))), (0, .ref (ad 0)), (1, .int (nI (ers I S 15))), (2, .int (nI (bdl I L S 16))), (3, .ref qa2), (4, .ref qa3), (5, .int (nI ch))] [] rfl ?_
                    refine g_nm (lv' := [(6, .int (nI (w + 1))), (0, .ref (ad 0)), (1, .int (nI (ers I S 15))), (2, .int (nI (bdl I L S 16))), (3, .ref qa2), (4, .ref qa3), (5, .int (nI ch))]) (st' := []) (by simp only [nI_add]) (by simp only [nI_add]) ?_
                    refine g_lv (lv' := [(0, .ref (ad 0)), (1, .int (nI (ers I S 15))), (2, .int (nI (bdl I L S 16))), (3, .ref qa2), (4, .ref qa3), (5, .int (nI ch)), (6, .int (nI (w + 1)))]) (lsub_c 1 rfl (lsub_c 2 rfl (lsub_c 3 rfl (lsub_c 4 rfl (lsub_c 5 rfl (lsub_c 6 rfl (lsub_c 0 rfl (lsub_n)))))))) ?_
                    refine g_cs (ws' := WM ad g I L S (z4 (u2 Z 3 0 (nI 0)) uX26.1 uX26.2.1 uX26.2.2) (dgB0 I L ch (dgB I L S ch) (w + 1)) ++ [(qa2, Sum.inl (g 0, 16, .inl (dgM I L S 16))), (qa3, Sum.inl (g 5, 16, .inr (.inl (dgD I L S 16))))]) (lv' := [(0, .ref (ad 0)), (1, .int (nI (ers I S 15))), (2, .int (nI (bdl I L S 16))), (3, .ref qa2), (4, .ref qa3), (5, .int (nI ch)), (6, .int (nI (w + 1)))]) (by rw [dgB0_s]) (rfl) ?_
                    exact k148
                  · refine g_st (st' := [.int (nI 5), .int (nI ch), .ref (ad 0), .ref (ad 0)]) (by rw [hi3]) ?_
                    refine g_callV X hSB hAf (srcW) (hrc1 := (rfl : CL[8]? = some _)) (wm_mem (k := 0) (by decide)) rfl (As := [.int (nI ch), .int (nI 5)]) (wr := [(qa2, Sum.inl (g 0, 16, .inl (dgM I L S 16))), (qa3, Sum.inl (g 5, 16, .inr (.inl (dgD I L S 16))))]) (n := 2) (c_X9_ofChipNow_d l D g ad I L S (z4 (u2 Z 3 0 (nI 0)) uX26.1 uX26.2.1 uX26.2.2) (dgB0 I L ch (dgB I L S ch) w) ch (by omega)) rfl srcN hrdN w_1468 w_1465 w_1467 w_s34 w_6 (by decide +kernel) rfl ⟨Nat.le_of_ble_eq_true rfl, Nat.le_of_ble_eq_true rfl⟩ rfl rfl rfl (Nat.le_of_ble_eq_true rfl) ⟨Nat.le_of_ble_eq_true rfl, Nat.le_of_ble_eq_true rfl⟩ dX9_digest_161 (fun hu40 _ => ?_)
                    refine g_af (ws' := WM ad g I L S (z4 (u2 Z 3 0 (nI 0)) uX26.1 uX26.2.1 uX26.2.2) (dgB0 I L ch (dgB I L S ch) w) ++ [(qa2, Sum.inl (g 0, 16, .inl (dgM I L S 16))), (qa3, Sum.inl (g 5, 16, .inr (.inl (dgD I L S 16))))]) (st' := [.int (ocV I L ch 5), .ref (ad 0)]) (cells' := 18) (slots' := 272) (pc' := 164) rfl rfl rfl rfl rfl ?_
                    refine g_st (st' := [.int (ocV I L ch w), .ref (ad 0)]) (by rw [hi3]) ?_
                    refine g_run X KX9_digest_164_47 KX9_digest_164_47_d 165 [(0, .ref (ad 0)), (1, .int (nI (ers I S 15))), (2, .int (nI (bdl I L S 16))), (3, .ref qa2), (4, .ref qa3), (5, .int (nI ch)), (6, .int (nI w))] [.long ((ocV I L ch w).toInt64), .ref (ad 0)] rfl ?_
                    refine g_callV X hSB hAf (srcW) (hrc1 := (rfl : CL[8]? = some _)) (wm_mem (k := 0) (by decide)) rfl (As := [.long ((ocV I L ch w).toInt64)]) (wr := [(qa2, Sum.inl (g 0, 16, .inl (dgM I L S 16))), (qa3, Sum.inl (g 5, 16, .inr (.inl (dgD I L S 16))))]) (n := 1) (c_X9_add l D g ad I L S (z4 (u2 Z 3 0 (nI 0)) uX26.1 uX26.2.1 uX26.2.2) (dgB0 I L ch (dgB I L S ch) w) ((ocV I L ch w).toInt64) ) rfl srcN hrdN w_1551 w_1548 w_1550 w_s42 w_6 (by decide +kernel) rfl ⟨Nat.le_of_ble_eq_true rfl, Nat.le_of_ble_eq_true rfl⟩ rfl rfl rfl (Nat.le_of_ble_eq_true rfl) ⟨Nat.le_of_ble_eq_true rfl, Nat.le_of_ble_eq_true rfl⟩ dX9_digest_165 (fun hu41 _ => ?_)
                    refine g_af (ws' := WM ad g I L S (z4 (u2 Z 3 0 (nI 0)) uX26.1 uX26.2.1 uX26.2.2) ((dgB0 I L ch (dgB I L S ch) w) * 31 + ((ocV I L ch w).toInt64)) ++ [(qa2, Sum.inl (g 0, 16, .inl (dgM I L S 16))), (qa3, Sum.inl (g 5, 16, .inr (.inl (dgD I L S 16))))]) (st' := []) (cells' := 18) (slots' := 272) (pc' := 168) rfl rfl rfl rfl rfl ?_
                    refine g_run X KX9_digest_168_48 KX9_digest_168_48_d 148 [(6, .int ((nI w) + (nI 1))), (0, .ref (ad 0)), (1, .int (nI (ers I S 15))), (2, .int (nI (bdl I L S 16))), (3, .ref qa2), (4, .ref qa3), (5, .int (nI ch))] [] rfl ?_
                    refine g_nm (lv' := [(6, .int (nI (w + 1))), (0, .ref (ad 0)), (1, .int (nI (ers I S 15))), (2, .int (nI (bdl I L S 16))), (3, .ref qa2), (4, .ref qa3), (5, .int (nI ch))]) (st' := []) (by simp only [nI_add]) (by simp only [nI_add]) ?_
                    refine g_lv (lv' := [(0, .ref (ad 0)), (1, .int (nI (ers I S 15))), (2, .int (nI (bdl I L S 16))), (3, .ref qa2), (4, .ref qa3), (5, .int (nI ch)), (6, .int (nI (w + 1)))]) (lsub_c 1 rfl (lsub_c 2 rfl (lsub_c 3 rfl (lsub_c 4 rfl (lsub_c 5 rfl (lsub_c 6 rfl (lsub_c 0 rfl (lsub_n)))))))) ?_
                    refine g_cs (ws' := WM ad g I L S (z4 (u2 Z 3 0 (nI 0)) uX26.1 uX26.2.1 uX26.2.2) (dgB0 I L ch (dgB I L S ch) (w + 1)) ++ [(qa2, Sum.inl (g 0, 16, .inl (dgM I L S 16))), (qa3, Sum.inl (g 5, 16, .inr (.inl (dgD I L S 16))))]) (lv' := [(0, .ref (ad 0)), (1, .int (nI (ers I S 15))), (2, .int (nI (bdl I L S 16))), (3, .ref qa2), (4, .ref qa3), (5, .int (nI ch)), (6, .int (nI (w + 1)))]) (by rw [dgB0_s]) (rfl) ?_
                    exact k148
        · rw [nI_leI (by omega) (by omega)] at hc5; first | omega | (simp at hc5)
      · intro i hi k110
        refine g_run X KX9_digest_110_10 KX9_digest_110_10_d 114 [(0, .ref (ad 0)), (1, .int (nI (ers I S 15))), (2, .int (nI (bdl I L S 16))), (3, .ref qa2), (4, .ref qa3), (5, .int (nI i))] [.int (nI 13), .int (nI i)] rfl ?_
        refine g_icmp_ge X 135 dX9_digest_114 (by decide) (fun hc42 => ?_) (fun hc42 => ?_)
        · rw [nI_leI (by omega) (by omega)] at hc42; first | omega | (simp at hc42)
        · refine g_run X KX9_digest_117_49 KX9_digest_117_49_d 122 [(0, .ref (ad 0)), (1, .int (nI (ers I S 15))), (2, .int (nI (bdl I L S 16))), (3, .ref qa2), (4, .ref qa3), (5, .int (nI i))] [.int (nI (bdl I L S 16)), .int (nI i), .ref (ad 0), .ref (ad 0)] rfl ?_
          rcases (show i < 12 ∧ i ≠ 10 ∨ i = 10 ∨ i = 12 by omega) with hi3 | hi3 | hi3
          · refine g_callV X hSB hAf (srcW) (hrc1 := (rfl : CL[8]? = some _)) (wm_mem (k := 0) (by decide)) rfl (As := [.int (nI i), .int (nI (bdl I L S 16))]) (wr := [(qa2, Sum.inl (g 0, 16, .inl (dgM I L S 16))), (qa3, Sum.inl (g 5, 16, .inr (.inl (dgD I L S 16))))]) (n := 2) (c_X9_bankNow l D g ad I L S (z4 (u2 Z 3 0 (nI 0)) uX26.1 uX26.2.1 uX26.2.2) (dgA I L S i) i (nI (bdl I L S 16)) (hS18) (hsp) (hi3.1) (hi3.2)) rfl srcN hrdN w_1500 w_1497 w_1499 w_s38 w_6 (by decide +kernel) rfl ⟨Nat.le_of_ble_eq_true rfl, Nat.le_of_ble_eq_true rfl⟩ rfl rfl rfl (Nat.le_of_ble_eq_true rfl) ⟨Nat.le_of_ble_eq_true rfl, Nat.le_of_ble_eq_true rfl⟩ dX9_digest_122 (fun hu43 _ => ?_)
            refine g_af (ws' := WM ad g I L S (z4 (u2 Z 3 0 (nI 0)) uX26.1 uX26.2.1 uX26.2.2) (dgA I L S i) ++ [(qa2, Sum.inl (g 0, 16, .inl (dgM I L S 16))), (qa3, Sum.inl (g 5, 16, .inr (.inl (dgD I L S 16))))]) (st' := [.int (bkV I L S i), .ref (ad 0)]) (cells' := 18) (slots' := 272) (pc' := 125) rfl rfl rfl rfl rfl ?_
            refine g_run X KX9_digest_125_50 KX9_digest_125_50_d 126 [(0, .ref (ad 0)), (1, .int (nI (ers I S 15))), (2, .int (nI (bdl I L S 16))), (3, .ref qa2), (4, .ref qa3), (5, .int (nI i))] [.long ((bkV I L S i).toInt64), .ref (ad 0)] rfl ?_
            refine g_callV X hSB hAf (srcW) (hrc1 := (rfl : CL[8]? = some _)) (wm_mem (k := 0) (by decide)) rfl (As := [.long ((bkV I L S i).toInt64)]) (wr := [(qa2, Sum.inl (g 0, 16, .inl (dgM I L S 16))), (qa3, Sum.inl (g 5, 16, .inr (.inl (dgD I L S 16))))]) (n := 1) (c_X9_add l D g ad I L S (z4 (u2 Z 3 0 (nI 0)) uX26.1 uX26.2.1 uX26.2.2) (dgA I L S i) ((bkV I L S i).toInt64) ) rfl srcN hrdN w_1551 w_1548 w_1550 w_s42 w_6 (by decide +kernel) rfl ⟨Nat.le_of_ble_eq_true rfl, Nat.le_of_ble_eq_true rfl⟩ rfl rfl rfl (Nat.le_of_ble_eq_true rfl) ⟨Nat.le_of_ble_eq_true rfl, Nat.le_of_ble_eq_true rfl⟩ dX9_digest_126 (fun hu44 _ => ?_)
            refine g_af (ws' := WM ad g I L S (z4 (u2 Z 3 0 (nI 0)) uX26.1 uX26.2.1 uX26.2.2) ((dgA I L S i) * 31 + ((bkV I L S i).toInt64)) ++ [(qa2, Sum.inl (g 0, 16, .inl (dgM I L S 16))), (qa3, Sum.inl (g 5, 16, .inr (.inl (dgD I L S 16))))]) (st' := []) (cells' := 18) (slots' := 272) (pc' := 129) rfl rfl rfl rfl rfl ?_
            refine g_run X KX9_digest_129_51 KX9_digest_129_51_d 110 [(5, .int ((nI i) + (nI 1))), (0, .ref (ad 0)), (1, .int (nI (ers I S 15))), (2, .int (nI (bdl I L S 16))), (3, .ref qa2), (4, .ref qa3)] [] rfl ?_
            refine g_nm (lv' := [(5, .int (nI (i + 1))), (0, .ref (ad 0)), (1, .int (nI (ers I S 15))), (2, .int (nI (bdl I L S 16))), (3, .ref qa2), (4, .ref qa3)]) (st' := []) (by simp only [nI_add]) (by simp only [nI_add]) ?_
            refine g_lv (lv' := [(0, .ref (ad 0)), (1, .int (nI (ers I S 15))), (2, .int (nI (bdl I L S 16))), (3, .ref qa2), (4, .ref qa3), (5, .int (nI (i + 1)))]) (lsub_c 1 rfl (lsub_c 2 rfl (lsub_c 3 rfl (lsub_c 4 rfl (lsub_c 5 rfl (lsub_c 0 rfl (lsub_n))))))) ?_
            refine g_cs (ws' := WM ad g I L S (z4 (u2 Z 3 0 (nI 0)) uX26.1 uX26.2.1 uX26.2.2) (dgA I L S (i + 1)) ++ [(qa2, Sum.inl (g 0, 16, .inl (dgM I L S 16))), (qa3, Sum.inl (g 5, 16, .inr (.inl (dgD I L S 16))))]) (lv' := [(0, .ref (ad 0)), (1, .int (nI (ers I S 15))), (2, .int (nI (bdl I L S 16))), (3, .ref qa2), (4, .ref qa3), (5, .int (nI (i + 1)))]) (by rw [dgA_s]) (rfl) ?_
            exact k110
          · refine g_st (st' := [.int (nI (bdl I L S 16)), .int (nI 10), .ref (ad 0), .ref (ad 0)]) (by rw [hi3]) ?_
            refine g_callV X hSB hAf (srcW) (hrc1 := (rfl : CL[8]? = some _)) (wm_mem (k := 0) (by decide)) rfl (As := [.int (nI 10), .int (nI (bdl I L S 16))]) (wr := [(qa2, Sum.inl (g 0, 16, .inl (dgM I L S 16))), (qa3, Sum.inl (g 5, 16, .inr (.inl (dgD I L S 16))))]) (n := 2) (c_X9_bankNow_b l D g ad I L S (z4 (u2 Z 3 0 (nI 0)) uX26.1 uX26.2.1 uX26.2.2) (dgA I L S i) (nI (bdl I L S 16)) ) rfl srcN hrdN w_1500 w_1497 w_1499 w_s38 w_6 (by decide +kernel) rfl ⟨Nat.le_of_ble_eq_true rfl, Nat.le_of_ble_eq_true rfl⟩ rfl rfl rfl (Nat.le_of_ble_eq_true rfl) ⟨Nat.le_of_ble_eq_true rfl, Nat.le_of_ble_eq_true rfl⟩ dX9_digest_122 (fun hu45 _ => ?_)
            refine g_af (ws' := WM ad g I L S (z4 (u2 Z 3 0 (nI 0)) uX26.1 uX26.2.1 uX26.2.2) (dgA I L S i) ++ [(qa2, Sum.inl (g 0, 16, .inl (dgM I L S 16))), (qa3, Sum.inl (g 5, 16, .inr (.inl (dgD I L S 16))))]) (st' := [.int (nI (bdl I L S 16)), .ref (ad 0)]) (cells' := 18) (slots' := 272) (pc' := 125) rfl rfl rfl rfl rfl ?_
            refine g_st (st' := [.int (bkV I L S i), .ref (ad 0)]) (by first | (rw [hi3]; done) | (rw [hi3]; rfl)) ?_
            refine g_run X KX9_digest_125_50 KX9_digest_125_50_d 126 [(0, .ref (ad 0)), (1, .int (nI (ers I S 15))), (2, .int (nI (bdl I L S 16))), (3, .ref qa2), (4, .ref qa3), (5, .int (nI i))] [.long ((bkV I L S i).toInt64), .ref (ad 0)] rfl ?_
            refine g_callV X hSB hAf (srcW) (hrc1 := (rfl : CL[8]? = some _)) (wm_mem (k := 0) (by decide)) rfl (As := [.long ((bkV I L S i).toInt64)]) (wr := [(qa2, Sum.inl (g 0, 16, .inl (dgM I L S 16))), (qa3, Sum.inl (g 5, 16, .inr (.inl (dgD I L S 16))))]) (n := 1) (c_X9_add l D g ad I L S (z4 (u2 Z 3 0 (nI 0)) uX26.1 uX26.2.1 uX26.2.2) (dgA I L S i) ((bkV I L S i).toInt64) ) rfl srcN hrdN w_1551 w_1548 w_1550 w_s42 w_6 (by decide +kernel) rfl ⟨Nat.le_of_ble_eq_true rfl, Nat.le_of_ble_eq_true rfl⟩ rfl rfl rfl (Nat.le_of_ble_eq_true rfl) ⟨Nat.le_of_ble_eq_true rfl, Nat.le_of_ble_eq_true rfl⟩ dX9_digest_126 (fun hu46 _ => ?_)
            refine g_af (ws' := WM ad g I L S (z4 (u2 Z 3 0 (nI 0)) uX26.1 uX26.2.1 uX26.2.2) ((dgA I L S i) * 31 + ((bkV I L S i).toInt64)) ++ [(qa2, Sum.inl (g 0, 16, .inl (dgM I L S 16))), (qa3, Sum.inl (g 5, 16, .inr (.inl (dgD I L S 16))))]) (st' := []) (cells' := 18) (slots' := 272) (pc' := 129) rfl rfl rfl rfl rfl ?_
            refine g_run X KX9_digest_129_51 KX9_digest_129_51_d 110 [(5, .int ((nI i) + (nI 1))), (0, .ref (ad 0)), (1, .int (nI (ers I S 15))), (2, .int (nI (bdl I L S 16))), (3, .ref qa2), (4, .ref qa3)] [] rfl ?_
            refine g_nm (lv' := [(5, .int (nI (i + 1))), (0, .ref (ad 0)), (1, .int (nI (ers I S 15))), (2, .int (nI (bdl I L S 16))), (3, .ref qa2), (4, .ref qa3)]) (st' := []) (by simp only [nI_add]) (by simp only [nI_add]) ?_
            refine g_lv (lv' := [(0, .ref (ad 0)), (1, .int (nI (ers I S 15))), (2, .int (nI (bdl I L S 16))), (3, .ref qa2), (4, .ref qa3), (5, .int (nI (i + 1)))]) (lsub_c 1 rfl (lsub_c 2 rfl (lsub_c 3 rfl (lsub_c 4 rfl (lsub_c 5 rfl (lsub_c 0 rfl (lsub_n))))))) ?_
            refine g_cs (ws' := WM ad g I L S (z4 (u2 Z 3 0 (nI 0)) uX26.1 uX26.2.1 uX26.2.2) (dgA I L S (i + 1)) ++ [(qa2, Sum.inl (g 0, 16, .inl (dgM I L S 16))), (qa3, Sum.inl (g 5, 16, .inr (.inl (dgD I L S 16))))]) (lv' := [(0, .ref (ad 0)), (1, .int (nI (ers I S 15))), (2, .int (nI (bdl I L S 16))), (3, .ref qa2), (4, .ref qa3), (5, .int (nI (i + 1)))]) (by rw [dgA_s]) (rfl) ?_
            exact k110
          · refine g_st (st' := [.int (nI (bdl I L S 16)), .int (nI 12), .ref (ad 0), .ref (ad 0)]) (by rw [hi3]) ?_
            refine g_callV X hSB hAf (srcW) (hrc1 := (rfl : CL[8]? = some _)) (wm_mem (k := 0) (by decide)) rfl (As := [.int (nI 12), .int (nI (bdl I L S 16))]) (wr := [(qa2, Sum.inl (g 0, 16, .inl (dgM I L S 16))), (qa3, Sum.inl (g 5, 16, .inr (.inl (dgD I L S 16))))]) (n := 2) (c_X9_bankNow_d l D g ad I L S (z4 (u2 Z 3 0 (nI 0)) uX26.1 uX26.2.1 uX26.2.2) (dgA I L S i) (nI (bdl I L S 16)) ) rfl srcN hrdN w_1500 w_1497 w_1499 w_s38 w_6 (by decide +kernel) rfl ⟨Nat.le_of_ble_eq_true rfl, Nat.le_of_ble_eq_true rfl⟩ rfl rfl rfl (Nat.le_of_ble_eq_true rfl) ⟨Nat.le_of_ble_eq_true rfl, Nat.le_of_ble_eq_true rfl⟩ dX9_digest_122 (fun hu47 _ => ?_)
            refine g_af (ws' := WM ad g I L S (z4 (u2 Z 3 0 (nI 0)) uX26.1 uX26.2.1 uX26.2.2) (dgA I L S i) ++ [(qa2, Sum.inl (g 0, 16, .inl (dgM I L S 16))), (qa3, Sum.inl (g 5, 16, .inr (.inl (dgD I L S 16))))]) (st' := [.int (bkV I L S 12), .ref (ad 0)]) (cells' := 18) (slots' := 272) (pc' := 125) rfl rfl rfl rfl rfl ?_
            refine g_st (st' := [.int (bkV I L S i), .ref (ad 0)]) (by rw [hi3]) ?_
            refine g_run X KX9_digest_125_50 KX9_digest_125_50_d 126 [(0, .ref (ad 0)), (1, .int (nI (ers I S 15))), (2, .int (nI (bdl I L S 16))), (3, .ref qa2), (4, .ref qa3), (5, .int (nI i))] [.long ((bkV I L S i).toInt64), .ref (ad 0)] rfl ?_
            refine g_callV X hSB hAf (srcW) (hrc1 := (rfl : CL[8]? = some _)) (wm_mem (k := 0) (by decide)) rfl (As := [.long ((bkV I L S i).toInt64)]) (wr := [(qa2, Sum.inl (g 0, 16, .inl (dgM I L S 16))), (qa3, Sum.inl (g 5, 16, .inr (.inl (dgD I L S 16))))]) (n := 1) (c_X9_add l D g ad I L S (z4 (u2 Z 3 0 (nI 0)) uX26.1 uX26.2.1 uX26.2.2) (dgA I L S i) ((bkV I L S i).toInt64) ) rfl srcN hrdN w_1551 w_1548 w_1550 w_s42 w_6 (by decide +kernel) rfl ⟨Nat.le_of_ble_eq_true rfl, Nat.le_of_ble_eq_true rfl⟩ rfl rfl rfl (Nat.le_of_ble_eq_true rfl) ⟨Nat.le_of_ble_eq_true rfl, Nat.le_of_ble_eq_true rfl⟩ dX9_digest_126 (fun hu48 _ => ?_)
            refine g_af (ws' := WM ad g I L S (z4 (u2 Z 3 0 (nI 0)) uX26.1 uX26.2.1 uX26.2.2) ((dgA I L S i) * 31 + ((bkV I L S i).toInt64)) ++ [(qa2, Sum.inl (g 0, 16, .inl (dgM I L S 16))), (qa3, Sum.inl (g 5, 16, .inr (.inl (dgD I L S 16))))]) (st' := []) (cells' := 18) (slots' := 272) (pc' := 129) rfl rfl rfl rfl rfl ?_
            refine g_run X KX9_digest_129_51 KX9_digest_129_51_d 110 [(5, .int ((nI i) + (nI 1))), (0, .ref (ad 0)), (1, .int (nI (ers I S 15))), (2, .int (nI (bdl I L S 16))), (3, .ref qa2), (4, .ref qa3)] [] rfl ?_
            refine g_nm (lv' := [(5, .int (nI (i + 1))), (0, .ref (ad 0)), (1, .int (nI (ers I S 15))), (2, .int (nI (bdl I L S 16))), (3, .ref qa2), (4, .ref qa3)]) (st' := []) (by simp only [nI_add]) (by simp only [nI_add]) ?_
            refine g_lv (lv' := [(0, .ref (ad 0)), (1, .int (nI (ers I S 15))), (2, .int (nI (bdl I L S 16))), (3, .ref qa2), (4, .ref qa3), (5, .int (nI (i + 1)))]) (lsub_c 1 rfl (lsub_c 2 rfl (lsub_c 3 rfl (lsub_c 4 rfl (lsub_c 5 rfl (lsub_c 0 rfl (lsub_n))))))) ?_
            refine g_cs (ws' := WM ad g I L S (z4 (u2 Z 3 0 (nI 0)) uX26.1 uX26.2.1 uX26.2.2) (dgA I L S (i + 1)) ++ [(qa2, Sum.inl (g 0, 16, .inl (dgM I L S 16))), (qa3, Sum.inl (g 5, 16, .inr (.inl (dgD I L S 16))))]) (lv' := [(0, .ref (ad 0)), (1, .int (nI (ers I S 15))), (2, .int (nI (bdl I L S 16))), (3, .ref qa2), (4, .ref qa3), (5, .int (nI (i + 1)))]) (by rw [dgA_s]) (rfl) ?_
            exact k110
    · rw [nI_leI (by omega) (by omega)] at hc4; first | omega | (simp at hc4)
  · intro i hi uX26 hP26 k26
    have hR26 : R16 uX26.1 := hP26
    refine g_run X KX9_digest_26_7 KX9_digest_26_7_d 30 [(0, .ref (ad 0)), (1, .int (nI (ers I S 15))), (2, .int (nI (bdl I L S i))), (3, .ref qa2), (4, .ref qa3), (5, .int (nI i))] [.int (nI 16), .int (nI i)] rfl ?_
    refine g_icmp_ge X 100 dX9_digest_30 (by decide) (fun hc49 => ?_) (fun hc49 => ?_)
    · rw [nI_leI (by omega) (by omega)] at hc49; first | omega | (simp at hc49)
    · refine g_run X KX9_digest_33_52 KX9_digest_33_52_d 36 [(0, .ref (ad 0)), (1, .int (nI (ers I S 15))), (2, .int (nI (bdl I L S i))), (3, .ref qa2), (4, .ref qa3), (5, .int (nI i))] [.int (nI i), .ref (ad 0)] rfl ?_
      refine g_callV X hSB hAf (srcW) (hrc1 := (rfl : CL[8]? = some _)) (wm_mem (k := 0) (by decide)) rfl (As := [.int (nI i)]) (wr := [(qa2, Sum.inl (g 0, 16, .inl (dgM I L S i))), (qa3, Sum.inl (g 5, 16, .inr (.inl (dgD I L S i))))]) (n := 1) (c_X9_read l D g ad I L S (z4 (u2 Z 3 0 (nI 0)) uX26.1 uX26.2.1 uX26.2.2) Y i (hS18) (by omega) (by omega)) rfl srcN hrdN w_1272 w_1269 w_1271 w_s13 w_6 (by decide +kernel) rfl ⟨Nat.le_of_ble_eq_true rfl, Nat.le_of_ble_eq_true rfl⟩ rfl rfl rfl (Nat.le_of_ble_eq_true rfl) ⟨by show (2 + i * 1) + 1 ≤ 18; omega, by show (32 + i * 15) + 15 ≤ 272; omega⟩ dX9_digest_36 (fun hu50 _ => ?_)
      refine g_af (ws' := WM ad g I L S (z4 (u2 Z 3 0 (nI 0)) uX26.1 uX26.2.1 uX26.2.2) Y ++ [(hu50, Sum.inl (g 0, 15, .inl (wA (rwd I L S i 15)))), (qa2, Sum.inl (g 0, 16, .inl (dgM I L S i))), (qa3, Sum.inl (g 5, 16, .inr (.inl (dgD I L S i))))]) (st' := [.ref hu50]) (cells' := 2 + i * 1 + 1) (slots' := 32 + i * 15 + 15) (pc' := 39) ((List.append_assoc _ ([(hu50, Sum.inl (g 0, 15, .inl (wA (rwd I L S i 15))))] : va_W) [(qa2, Sum.inl (g 0, 16, .inl (dgM I L S i))), (qa3, Sum.inl (g 5, 16, .inr (.inl (dgD I L S i))))]).symm) rfl rfl rfl rfl ?_
      refine g_run X KX9_digest_39_53 KX9_digest_39_53_d 48 [(6, .ref hu50), (0, .ref (ad 0)), (1, .int (nI (ers I S 15))), (2, .int (nI (bdl I L S i))), (3, .ref qa2), (4, .ref qa3), (5, .int (nI i))] [.int (nI (ers I S 15)), .ref hu50, .ref (ad 0), .int (nI i), .ref qa2] rfl ?_
      refine g_callV X hSB hAf (srcW) (hrc1 := (rfl : CL[8]? = some _)) (wm_mem (k := 0) (by decide)) rfl (As := [.ref hu50, .int (nI (ers I S 15))]) (wr := [(hu50, Sum.inl (g 0, 15, .inl (wA (rwd I L S i 15)))), (qa2, Sum.inl (g 0, 16, .inl (dgM I L S i))), (qa3, Sum.inl (g 5, 16, .inr (.inl (dgD I L S i))))]) (n := 2) (c_X9_mendedNow l D g ad I L S (z4 (u2 Z 3 0 (nI 0)) uX26.1 uX26.2.1 uX26.2.2) Y hu50 (rwd I L S i 15) (ers I S 15) uX26.1 (by assumption) (rfl) (ers_lt _ _ _)) rfl (src_sub (wt_mem (by simp))) (hrdT rfl (by simp)) w_1456 w_1453 w_1455 w_s33 w_6 (by decide +kernel) rfl ⟨Nat.le_of_ble_eq_true rfl, Nat.le_of_ble_eq_true rfl⟩ rfl rfl rfl (Nat.le_of_ble_eq_true rfl) ⟨by show (2 + i * 1 + 1) + 0 ≤ 18; omega, by show (32 + i * 15 + 15) + 0 ≤ 272; omega⟩ dX9_digest_48 (fun hu51 hp_hu51 => ?_)
      refine g_af (ws' := WM ad g I L S (z4 (u2 Z 3 0 (nI 0)) hu51.1 hu51.2 (mdA uX26.2.2 (mw (ers I S 15) (rwd I L S i 15)))) Y ++ [(hu50, Sum.inl (g 0, 15, .inl (wA (rwd I L S i 15)))), (qa2, Sum.inl (g 0, 16, .inl (dgM I L S i))), (qa3, Sum.inl (g 5, 16, .inr (.inl (dgD I L S i))))]) (st' := [.int (mdO (rwd I L S i 15) (mw (ers I S 15) (rwd I L S i 15))), .int (nI i), .ref qa2]) (cells' := 2 + i * 1 + 1) (slots' := 32 + i * 15 + 15) (pc' := 51) (congrArg (fun z => (WM ad g I L S z Y) ++ [(hu50, Sum.inl (g 0, 15, .inl (wA (rwd I L S i 15)))), (qa2, Sum.inl (g 0, 16, .inl (dgM I L S i))), (qa3, Sum.inl (g 5, 16, .inr (.inl (dgD I L S i))))]) z4_z4.symm) rfl rfl rfl rfl ?_
      refine g_st (st' := [.int (mdV I L S i), .int (nI i), .ref qa2]) (by rw [mdV_eq]) ?_
      refine g_iast X (ws' := WM ad g I L S (z4 (u2 Z 3 0 (nI 0)) hu51.1 hu51.2 (mdA uX26.2.2 (mw (ers I S 15) (rwd I L S i 15)))) Y ++ [(hu50, Sum.inl (g 0, 15, .inl (wA (rwd I L S i 15)))), (qa2, Sum.inl (g 0, 16, .inl (dgM I L S (i + 1)))), (qa3, Sum.inl (g 5, 16, .inr (.inl (dgD I L S i))))]) 0 rfl 36 wt_get1 i rfl (by omega) (by decide) (by rw [dgM_s]; exact wt_set1) dX9_digest_51 ?_
      refine g_run X KX9_digest_52_54 KX9_digest_52_54_d 59 [(6, .ref hu50), (0, .ref (ad 0)), (1, .int (nI (ers I S 15))), (2, .int (nI (bdl I L S i))), (3, .ref qa2), (4, .ref qa3), (5, .int (nI i))] [.int (nI i), .ref qa2, .int (nI i), .ref qa3] rfl ?_
      refine g_iald X srcW (v := mdV I L S i) 0 rfl (wt_mem (List.mem_cons_of_mem _ (List.mem_cons_self ..))) i rfl (by omega) (by decide) (dgM_at (by omega)) dX9_digest_59 ?_
      refine g_run X KX9_digest_60_55 KX9_digest_60_55_d 61 [(6, .ref hu50), (0, .ref (ad 0)), (1, .int (nI (ers I S 15))), (2, .int (nI (bdl I L S i))), (3, .ref qa2), (4, .ref qa3), (5, .int (nI i))] [.int (-nI 1), .int (mdV I L S i), .int (nI i), .ref qa3] rfl ?_
      refine g_icmp_ne X 70 dX9_digest_61 (by decide) (fun hc52 => ?_) (fun hc52 => ?_)
      · have hmv := hc52
        have hbd : ¬ oL (mwd I L S i) = -1 := fun z => hmv (mdV_m1.mpr z)
        obtain ⟨y, hy⟩ := oL_ne hbd
        refine g_ws (ws' := WM ad g I L S (z4 (u2 Z 3 0 (nI 0)) hu51.1 hu51.2 (wA y)) Y ++ [(hu50, Sum.inl (g 0, 15, .inl (wA (rwd I L S i 15)))), (qa2, Sum.inl (g 0, 16, .inl (dgM I L S (i + 1)))), (qa3, Sum.inl (g 5, 16, .inr (.inl (dgD I L S i))))]) (by first | (rw [show mw (ers I S 15) (rwd I L S i 15) = some y from hy]; done) | (rw [show mw (ers I S 15) (rwd I L S i 15) = some y from hy]; rfl)) ?_
        refine g_run X KX9_digest_70_56 KX9_digest_70_56_d 71 [(6, .ref hu50), (0, .ref (ad 0)), (1, .int (nI (ers I S 15))), (2, .int (nI (bdl I L S i))), (3, .ref qa2), (4, .ref qa3), (5, .int (nI i))] [.ref (ad 0), .int (nI i), .ref qa3] rfl ?_
        refine g_get X srcW (v := .ref (ad 10)) hinX9 rfl 18 (by decide) w_1198 rfl (wm_mem (k := 0) (by decide)) rfl dX9_digest_71 ?_
        refine g_callS X hSB hAf (As := [.ref (ad 10)]) (wr := WM ad g I L S (z4 (u2 Z 3 0 (nI 0)) hu51.1 hu51.2 (wA y)) Y ++ [(hu50, Sum.inl (g 0, 15, .inl (wA (rwd I L S i 15)))), (qa2, Sum.inl (g 0, 16, .inl (dgM I L S (i + 1)))), (qa3, Sum.inl (g 5, 16, .inr (.inl (dgD I L S i))))]) (n := 1) (c_X9_dataOf l D g (ad 10) y (fn_15 hy)) rfl (src_sub (wm_mem (k := 10) (by decide))) hrdC w_1400 w_1398 w_1399 w_6 (by decide +kernel) rfl ⟨Nat.le_of_ble_eq_true rfl, Nat.le_of_ble_eq_true rfl⟩ rfl rfl rfl (Nat.le_of_ble_eq_true rfl) ⟨by show (2 + i * 1 + 1) + 0 ≤ 18; omega, by show (32 + i * 15 + 15) + 0 ≤ 272; omega⟩ dX9_digest_74 (fun hu53 _ => ?_)
        refine g_af (ws' := WM ad g I L S (z4 (u2 Z 3 0 (nI 0)) hu51.1 hu51.2 (wA y)) Y ++ [(hu50, Sum.inl (g 0, 15, .inl (wA (rwd I L S i 15)))), (qa2, Sum.inl (g 0, 16, .inl (dgM I L S (i + 1)))), (qa3, Sum.inl (g 5, 16, .inr (.inl (dgD I L S i))))]) (st' := [.long (dtW y), .int (nI i), .ref qa3]) (cells' := 2 + i * 1 + 1) (slots' := 32 + i * 15 + 15) (pc' := 77) rfl rfl rfl rfl rfl ?_
        refine g_st (st' := [.long (dtO (oL (mwd I L S i))), .int (nI i), .ref qa3]) (by rw [hy, dtO_s (fn_15 hy)]) ?_
        refine g_last X (ws' := WM ad g I L S (z4 (u2 Z 3 0 (nI 0)) hu51.1 hu51.2 (wA y)) Y ++ [(hu50, Sum.inl (g 0, 15, .inl (wA (rwd I L S i 15)))), (qa2, Sum.inl (g 0, 16, .inl (dgM I L S (i + 1)))), (qa3, Sum.inl (g 5, 16, .inr (.inl (dgD I L S (i + 1)))))]) 5 rfl 37 wt_get2 i rfl (by omega) (by decide) (by rw [dgD_s]; exact wt_set2) dX9_digest_77 ?_
        refine g_run X KX9_digest_78_57 KX9_digest_78_57_d 82 [(6, .ref hu50), (0, .ref (ad 0)), (1, .int (nI (ers I S 15))), (2, .int (nI (bdl I L S i))), (3, .ref qa2), (4, .ref qa3), (5, .int (nI i))] [.int (nI i), .ref qa2, .int (nI (bdl I L S i))] rfl ?_
        refine g_iald X srcW (v := mdV I L S i) 0 rfl (wt_mem (List.mem_cons_of_mem _ (List.mem_cons_self ..))) i rfl (by omega) (by decide) (dgM_at (by omega)) dX9_digest_82 ?_
        refine g_run X KX9_digest_83_58 KX9_digest_83_58_d 84 [(6, .ref hu50), (0, .ref (ad 0)), (1, .int (nI (ers I S 15))), (2, .int (nI (bdl I L S i))), (3, .ref qa2), (4, .ref qa3), (5, .int (nI i))] [.int (-nI 1), .int (mdV I L S i), .int (nI (bdl I L S i))] rfl ?_
        refine g_icmp_ne X 91 dX9_digest_84 (by decide) (fun hc54 => ?_) (fun hc54 => ?_)
        · refine g_run X KX9_digest_91_59 KX9_digest_91_59_d 26 [(5, .int ((nI i) + (nI 1))), (2, .int ((nI (bdl I L S i)) + (nI 0))), (6, .ref hu50), (0, .ref (ad 0)), (1, .int (nI (ers I S 15))), (3, .ref qa2), (4, .ref qa3)] [] rfl ?_
          refine g_nm (lv' := [(5, .int (nI (i + 1))), (2, .int (nI ((bdl I L S i) + 0))), (6, .ref hu50), (0, .ref (ad 0)), (1, .int (nI (ers I S 15))), (3, .ref qa2), (4, .ref qa3)]) (st' := []) (by simp only [nI_add]) (by simp only [nI_add]) ?_
          refine g_lv (lv' := [(0, .ref (ad 0)), (1, .int (nI (ers I S 15))), (2, .int (nI ((bdl I L S i) + 0))), (3, .ref qa2), (4, .ref qa3), (5, .int (nI (i + 1)))]) (lsub_c 3 rfl (lsub_c 4 rfl (lsub_c 1 rfl (lsub_c 5 rfl (lsub_c 6 rfl (lsub_c 0 rfl (lsub_n))))))) ?_
          refine g_dropM (a := WM ad g I L S (z4 (u2 Z 3 0 (nI 0)) hu51.1 hu51.2 (wA y)) Y) (b := [(qa2, Sum.inl (g 0, 16, .inl (dgM I L S (i + 1)))), (qa3, Sum.inl (g 5, 16, .inr (.inl (dgD I L S (i + 1)))))]) rfl ?_
          refine g_cs (ws' := WM ad g I L S (z4 (u2 Z 3 0 (nI 0)) ((hu51.1, hu51.2, (wA y)).1) ((hu51.1, hu51.2, (wA y)).2.1) ((hu51.1, hu51.2, (wA y)).2.2)) Y ++ [(qa2, Sum.inl (g 0, 16, .inl (dgM I L S (i + 1)))), (qa3, Sum.inl (g 5, 16, .inr (.inl (dgD I L S (i + 1)))))]) (lv' := [(0, .ref (ad 0)), (1, .int (nI (ers I S 15))), (2, .int (nI (bdl I L S (i + 1)))), (3, .ref qa2), (4, .ref qa3), (5, .int (nI (i + 1)))]) (rfl) (by first | (rw [bdl, if_pos hbd]; done) | (rw [bdl, if_neg hbd]; done) | (rw [bdl, if_pos hbd]; rfl) | (rw [bdl, if_neg hbd]; rfl)) ?_
          exact k26 (hu51.1, hu51.2, (wA y)) (by assumption)
        · exact absurd (mdV_m1.mp hc54) hbd
      · have hmv := hc52
        have hbd := mdV_m1.mp hmv
        refine g_ldc2 X (v := (-1 : Int64)) w_1397 dX9_digest_64 ?_
        refine g_run X KX9_digest_67_60 KX9_digest_67_60_d 77 [(6, .ref hu50), (0, .ref (ad 0)), (1, .int (nI (ers I S 15))), (2, .int (nI (bdl I L S i))), (3, .ref qa2), (4, .ref qa3), (5, .int (nI i))] [.long (-1 : Int64), .int (nI i), .ref qa3] rfl ?_
        refine g_st (st' := [.long (dtO (oL (mwd I L S i))), .int (nI i), .ref qa3]) (by first | (rw [hbd]; done) | (rw [hbd]; rfl)) ?_
        refine g_last X (ws' := WM ad g I L S (z4 (u2 Z 3 0 (nI 0)) hu51.1 hu51.2 (mdA uX26.2.2 (mw (ers I S 15) (rwd I L S i 15)))) Y ++ [(hu50, Sum.inl (g 0, 15, .inl (wA (rwd I L S i 15)))), (qa2, Sum.inl (g 0, 16, .inl (dgM I L S (i + 1)))), (qa3, Sum.inl (g 5, 16, .inr (.inl (dgD I L S (i + 1)))))]) 5 rfl 37 wt_get2 i rfl (by omega) (by decide) (by rw [dgD_s]; exact wt_set2) dX9_digest_77 ?_
        refine g_run X KX9_digest_78_57 KX9_digest_78_57_d 82 [(6, .ref hu50), (0, .ref (ad 0)), (1, .int (nI (ers I S 15))), (2, .int (nI (bdl I L S i))), (3, .ref qa2), (4, .ref qa3), (5, .int (nI i))] [.int (nI i), .ref qa2, .int (nI (bdl I L S i))] rfl ?_
        refine g_iald X srcW (v := mdV I L S i) 0 rfl (wt_mem (List.mem_cons_of_mem _ (List.mem_cons_self ..))) i rfl (by omega) (by decide) (dgM_at (by omega)) dX9_digest_82 ?_
        refine g_run X KX9_digest_83_58 KX9_digest_83_58_d 84 [(6, .ref hu50), (0, .ref (ad 0)), (1, .int (nI (ers I S 15))), (2, .int (nI (bdl I L S i))), (3, .ref qa2), (4, .ref qa3), (5, .int (nI i))] [.int (-nI 1), .int (mdV I L S i), .int (nI (bdl I L S i))] rfl ?_
        refine g_icmp_ne X 91 dX9_digest_84 (by decide) (fun hc55 => ?_) (fun hc55 => ?_)
        · exact absurd (mdV_m1.mpr hbd) hc55
        · refine g_run X KX9_digest_87_61 KX9_digest_87_61_d 26 [(5, .int ((nI i) + (nI 1))), (2, .int ((nI (bdl I L S i)) + (nI 1))), (6, .ref hu50), (0, .ref (ad 0)), (1, .int (nI (ers I S 15))), (3, .ref qa2), (4, .ref qa3)] [] rfl ?_
          refine g_nm (lv' := [(5, .int (nI (i + 1))), (2, .int (nI ((bdl I L S i) + 1))), (6, .ref hu50), (0, .ref (ad 0)), (1, .int (nI (ers I S 15))), (3, .ref qa2), (4, .ref qa3)]) (st' := []) (by simp only [nI_add]) (by simp only [nI_add]) ?_
          refine g_lv (lv' := [(0, .ref (ad 0)), (1, .int (nI (ers I S 15))), (2, .int (nI ((bdl I L S i) + 1))), (3, .ref qa2), (4, .ref qa3), (5, .int (nI (i + 1)))]) (lsub_c 3 rfl (lsub_c 4 rfl (lsub_c 1 rfl (lsub_c 5 rfl (lsub_c 6 rfl (lsub_c 0 rfl (lsub_n))))))) ?_
          refine g_dropM (a := WM ad g I L S (z4 (u2 Z 3 0 (nI 0)) hu51.1 hu51.2 (mdA uX26.2.2 (mw (ers I S 15) (rwd I L S i 15)))) Y) (b := [(qa2, Sum.inl (g 0, 16, .inl (dgM I L S (i + 1)))), (qa3, Sum.inl (g 5, 16, .inr (.inl (dgD I L S (i + 1)))))]) rfl ?_
          refine g_cs (ws' := WM ad g I L S (z4 (u2 Z 3 0 (nI 0)) ((hu51.1, hu51.2, mdA uX26.2.2 (mw (ers I S 15) (rwd I L S i 15))).1) ((hu51.1, hu51.2, mdA uX26.2.2 (mw (ers I S 15) (rwd I L S i 15))).2.1) ((hu51.1, hu51.2, mdA uX26.2.2 (mw (ers I S 15) (rwd I L S i 15))).2.2)) Y ++ [(qa2, Sum.inl (g 0, 16, .inl (dgM I L S (i + 1)))), (qa3, Sum.inl (g 5, 16, .inr (.inl (dgD I L S (i + 1)))))]) (lv' := [(0, .ref (ad 0)), (1, .int (nI (ers I S 15))), (2, .int (nI (bdl I L S (i + 1)))), (3, .ref qa2), (4, .ref qa3), (5, .int (nI (i + 1)))]) (rfl) (by first | (rw [bdl, if_pos hbd]; done) | (rw [bdl, if_neg hbd]; done) | (rw [bdl, if_pos hbd]; rfl) | (rw [bdl, if_neg hbd]; rfl)) ?_
          exact k26 (hu51.1, hu51.2, mdA uX26.2.2 (mw (ers I S 15) (rwd I L S i 15))) (by assumption)

