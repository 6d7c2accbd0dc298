section GLS
variable {p : Program} {l : Launch} {e : Env} {R : Room} {s : State} {m : MethodId} {args : Array Value} {below : List Frame} {meth : Method} {c : Code} {Q : State → Prop} {D : va_G} {cl : List vw_C} {tys : List (ClassId × FieldType)} {A : Nat → Prop} {nL : Nat} {ws : va_W} {cells slots : Nat} {cc : ByteArray} {own : String} {pc : Nat} {lv : List (Nat × Value)} {st : List Value}

theorem g_lrem (X : BX p m c cc nL s args own meth) {x y v : Int64} (hne : ¬ y = 0) (hv : x - x / y * y = v) (hd : decode cc pc = .ok (.lrem, 1))
    (kk : GL p l e R s m args below meth c Q D cl tys A nL ws cells slots (pc + 1) lv (.long v :: st)) : GL p l e R s m args below meth c Q D cl tys A nL ws cells slots pc lv (.long y :: .long x :: st) := by
  subst hv
  intro H locs ls hK hP hD hS hl
  exact lv_lrem X.1 X.2.1 hd hne (kk H locs ls hK hP hD hS hl)
theorem g_ldiv (X : BX p m c cc nL s args own meth) {x y v : Int64} (hne : ¬ y = 0) (hv : x / y = v) (hd : decode cc pc = .ok (.ldiv, 1))
    (kk : GL p l e R s m args below meth c Q D cl tys A nL ws cells slots (pc + 1) lv (.long v :: st)) : GL p l e R s m args below meth c Q D cl tys A nL ws cells slots pc lv (.long y :: .long x :: st) := by
  subst hv
  intro H locs ls hK hP hD hS hl
  exact lv_ldiv X.1 X.2.1 hd hne (kk H locs ls hK hP hD hS hl)
end GLS

/-- data as the places 4 and on of a word, the first i -/
def wd (X : Nat) : Nat → Int64
  | 0 => lN 0
  | i + 1 => wn (wd X i) (i + 4) (X / 16 ^ i % 16)
theorem wd_n {X i : Nat} (hi : i ≤ 11) {p : Nat} (hp : p < 16) : nib (wd X i) p = if 4 ≤ p ∧ p < i + 4 then X / 16 ^ (p - 4) % 16 else 0 := by
  induction i with
  | zero => rw [wd, nib_0, if_neg (fun h => by omega)]
  | succ i ih =>
    rw [wd, nib_wn (by omega) (Nat.mod_lt _ (by decide)) hp]
    by_cases e : p = i + 4
    · rw [if_pos e, if_pos ⟨by omega, by omega⟩, show p - 4 = i by omega]
    · rw [if_neg e, ih (by omega)]
      by_cases h : 4 ≤ p ∧ p < i + 4
      · rw [if_pos h, if_pos ⟨h.1, by omega⟩]
      · rw [if_neg h, if_neg (fun z => h ⟨z.1, by omega⟩)]
theorem nib_sh (x : Int64) (p : Nat) (hp : p < 16) : nib (x <<< ((nI 16).toInt64 &&& 63)) p = if 4 ≤ p then nib x (p - 4) else 0 := by
  apply Nat.eq_of_testBit_eq
  intro i
  rw [nib_bit, shl_bit _ (by decide)]
  by_cases h : 4 ≤ p
  · rw [if_pos h, nib_bit]
    by_cases hi : i < 4
    · simp only [hi, decide_true, Bool.true_and, show 4 * p + i < 64 by omega, show ¬ 4 * p + i < 16 by omega, decide_false, Bool.not_false]
      congr 1; omega
    · simp [hi]
  · rw [if_neg h, Nat.zero_testBit]
    by_cases hi : i < 4
    · simp [hi, show 4 * p + i < 16 by omega]
    · simp [hi]
theorem wd_sh {X : Nat} (hX : X < 2 ^ 44) : wd X 11 = lN X <<< ((nI 16).toInt64 &&& 63) := by
  apply nib_ext
  intro p hp
  rw [wd_n (Nat.le_refl _) hp, nib_sh _ _ hp]
  have hn : ∀ q, nib (lN X) q = X / 16 ^ q % 16 := fun q => by unfold nib; rw [lN_nat (by omega)]
  by_cases h : 4 ≤ p
  · rw [if_pos h, hn]
    by_cases h2 : p < 15
    · rw [if_pos ⟨h, by omega⟩]
    · rw [if_neg (fun z => by omega), show p - 4 = 11 by omega, Nat.div_eq_of_lt (show X < 16 ^ 11 by omega)]
  · rw [if_neg h, if_neg (fun z => h z.1)]
theorem p1515 : pcn 15 15 = 4 := by decide
theorem wd_some {X : Nat} (hX : X < 2 ^ 44) {R : Nat → Nat} (hR : R16 R) : slv 15 (wd X 11) = some (wdO (lN X)) := by
  have h := slv_s (b := 15) (by decide) (sv_ok (x := wd X 11) hR (by decide) (fun j h1 h2 => by rw [p1515] at h1; omega))
  have h2 := slv_is h
  rw [h]
  unfold wdO
  rw [← wd_sh hX, mw_ok ⟨h2.1, h2.2.1, Or.inl ⟨by decide, h2.2.2⟩⟩]
  rfl
theorem dOK_n {x : Int64} (h : dOK x) : x.toBitVec.toNat < 2 ^ 44 := by
  have h1 := h.1; have h2 := h.2
  rw [Int64.lt_iff_toInt_lt] at h1
  rw [Int64.le_iff_toInt_le, show (17592186044415 : Int64).toInt = 17592186044415 from by decide +kernel] at h2
  rw [show (lN 0).toInt = 0 from by decide +kernel] at h1
  have h3 : x.toInt = x.toBitVec.toInt := rfl
  rw [h3, BitVec.toInt_eq_toNat_cond] at h1 h2
  have h4 := x.toBitVec.isLt
  split at h1 <;> split at h2 <;> omega

def KX9_wordOf_0_0 : List (Nat × Instr × Nat) := [(0, .bipush 15, 2)]
theorem KX9_wordOf_0_0_d : ∀ z ∈ KX9_wordOf_0_0, decode cX9_wordOf z.1 = .ok z.2 := by decide +kernel
def KX9_wordOf_4_1 : List (Nat × Instr × Nat) := [(4, .astore_n 3, 1), (5, .lload_n 1, 1), (6, .lstore 4, 2), (8, .iconst 4, 1), (9, .istore 6, 2)]
theorem KX9_wordOf_4_1_d : ∀ z ∈ KX9_wordOf_4_1, decode cX9_wordOf z.1 = .ok z.2 := by decide +kernel
def KX9_wordOf_11_2 : List (Nat × Instr × Nat) := [(11, .iload 6, 2), (13, .bipush 15, 2)]
theorem KX9_wordOf_11_2_d : ∀ z ∈ KX9_wordOf_11_2, decode cX9_wordOf z.1 = .ok z.2 := by decide +kernel
def KX9_wordOf_43_3 : List (Nat × Instr × Nat) := [(43, .aload_n 0, 1), (44, .aload_n 3, 1), (45, .bipush 15, 2)]
theorem KX9_wordOf_43_3_d : ∀ z ∈ KX9_wordOf_43_3, decode cX9_wordOf z.1 = .ok z.2 := by decide +kernel
def KX9_wordOf_50_4 : List (Nat × Instr × Nat) := [(50, .pop, 1), (51, .aload_n 0, 1)]
theorem KX9_wordOf_50_4_d : ∀ z ∈ KX9_wordOf_50_4, decode cX9_wordOf z.1 = .ok z.2 := by decide +kernel
def KX9_wordOf_55_5 : List (Nat × Instr × Nat) := [(55, .iconst 0, 1), (56, .aload_n 3, 1), (57, .iconst 0, 1), (58, .bipush 15, 2)]
theorem KX9_wordOf_55_5_d : ∀ z ∈ KX9_wordOf_55_5, decode cX9_wordOf z.1 = .ok z.2 := by decide +kernel
def KX9_wordOf_63_6 : List (Nat × Instr × Nat) := [(63, .aload_n 3, 1)]
theorem KX9_wordOf_63_6_d : ∀ z ∈ KX9_wordOf_63_6, decode cX9_wordOf z.1 = .ok z.2 := by decide +kernel
def KX9_wordOf_18_7 : List (Nat × Instr × Nat) := [(18, .aload_n 3, 1), (19, .iload 6, 2), (21, .lload 4, 2)]
theorem KX9_wordOf_18_7_d : ∀ z ∈ KX9_wordOf_18_7, decode cX9_wordOf z.1 = .ok z.2 := by decide +kernel
def KX9_wordOf_27_8 : List (Nat × Instr × Nat) := [(27, .l2i, 1)]
theorem KX9_wordOf_27_8_d : ∀ z ∈ KX9_wordOf_27_8, decode cX9_wordOf z.1 = .ok z.2 := by decide +kernel
def KX9_wordOf_29_9 : List (Nat × Instr × Nat) := [(29, .lload 4, 2)]
theorem KX9_wordOf_29_9_d : ∀ z ∈ KX9_wordOf_29_9, decode cX9_wordOf z.1 = .ok z.2 := by decide +kernel
def KX9_wordOf_35_10 : List (Nat × Instr × Nat) := [(35, .lstore 4, 2), (37, .iinc 6 1, 3), (40, .goto (-29), 3)]
theorem KX9_wordOf_35_10_d : ∀ z ∈ KX9_wordOf_35_10, decode cX9_wordOf z.1 = .ok z.2 := by decide +kernel
set_option maxHeartbeats 4000000 in
set_option maxRecDepth 100000 in
theorem c_X9_wordOf (l : Launch) (D : va_G) (g : Nat → ClassId) (ad : Nat → Nat) (I : Nat → Nat → Int32) (L : Nat → Nat → Int64) (S : Nat → Nat) (Z : Nat → Nat → Int32) (Y : Int64) (dd : Nat) (R : Nat → Nat) (hR : R16 R) (hZ : Z 0 = fun j => nI (R j)) (hX : dd < 2 ^ 44) : CT l yX9_wordOf cX9_wordOf 7 ((Option.some (FieldType.array FieldType.int))) ({ frames := 3, cells := 1, slots := 15, locals := 76 } : Room) [.ref (ad 0), .long (lN dd)] D CL (TYS g) ([]) (WM ad g I L S Z Y) (S := (Nat → Nat) × (Nat → Int32) × Nat) (fun u => some (.ref u.2.2)) (fun u => WM ad g I L S (z4 Z u.1 u.2.1 (wA (wdO (lN dd)))) Y ++ [(u.2.2, Sum.inl (g 0, 15, .inl (wA (wdO (lN dd)))))]) (fun u => R16 u.1) 1 15 := by
  refine ct_of (by decide +kernel) (Nat.le_of_ble_eq_true rfl) ?_
  intro p e s m below meth c A X hr hnm hSB hRO hAf
  refine g_cs (ws' := WM ad g I L S (z4 Z R (Z 1) (Z 2)) Y ++ []) (lv' := [(0, .ref (ad 0)), (1, .long (lN dd))]) (by rw [z4_e hZ]; exact List.append_nil _) rfl ?_
  refine g_run X KX9_wordOf_0_0 KX9_wordOf_0_0_d 2 [(0, .ref (ad 0)), (1, .long (lN dd))] [.int (nI 15)] rfl ?_
  refine g_newI X hAf 0 rfl w_1087 15 rfl (by decide) (Nat.le_of_ble_eq_true rfl) (Nat.le_of_ble_eq_true rfl) dX9_wordOf_2 (fun qa1 => ?_)
  refine g_af (ws' := WM ad g I L S (z4 Z R (Z 1) (Z 2)) Y ++ [(qa1, Sum.inl (g 0, 15, .inl (fun _ => 0)))]) (st' := [.ref qa1]) (cells' := 1) (slots' := 15) (pc' := 4) (by rw [List.append_nil]) rfl rfl rfl rfl ?_
  refine g_run X KX9_wordOf_4_1 KX9_wordOf_4_1_d 11 [(6, .int (nI 4)), (4, .long (lN dd)), (3, .ref qa1), (0, .ref (ad 0)), (1, .long (lN dd))] [] rfl ?_
  refine g_lv (lv' := [(0, .ref (ad 0)), (1, .long (lN dd)), (3, .ref qa1), (4, .long (lN dd)), (6, .int (nI 4))]) (lsub_c 3 rfl (lsub_c 4 rfl (lsub_c 2 rfl (lsub_c 1 rfl (lsub_c 0 rfl (lsub_n)))))) ?_
  refine g_for 11 (fun i => WM ad g I L S (z4 Z R (Z 1) (Z 2)) Y ++ [(qa1, Sum.inl (g 0, 15, .inl (wA (wd dd i))))]) (fun i => [(0, .ref (ad 0)), (1, .long (lN dd)), (3, .ref qa1), (4, .long (lN (dd / 16 ^ i))), (6, .int (nI (i + 4)))]) (by rw [wd, wA_0]) (by rw [Nat.pow_zero, Nat.div_one]) ?_ ?_
  · refine g_run X KX9_wordOf_11_2 KX9_wordOf_11_2_d 15 [(0, .ref (ad 0)), (1, .long (lN dd)), (3, .ref qa1), (4, .long (lN (dd / 16 ^ 11))), (6, .int (nI (11 + 4)))] [.int (nI 15), .int (nI (11 + 4))] rfl ?_
    refine g_icmp_ge X 43 dX9_wordOf_15 (by decide) (fun hc2 => ?_) (fun hc2 => ?_)
    · refine g_run X KX9_wordOf_43_3 KX9_wordOf_43_3_d 47 [(0, .ref (ad 0)), (1, .long (lN dd)), (3, .ref qa1), (4, .long (lN (dd / 16 ^ 11))), (6, .int (nI (11 + 4)))] [.int (nI 15), .ref qa1, .ref (ad 0)] rfl ?_
      refine g_callV X hSB hAf (srcW) (hrc1 := (rfl : CL[8]? = some _)) (wm_mem (k := 0) (by decide)) rfl (As := [.ref qa1, .int (nI 15)]) (wr := [(qa1, Sum.inl (g 0, 15, .inl (wA (wd dd 11))))]) (n := 2) (c_X9_solve l D g ad I L S (z4 Z R (Z 1) (Z 2)) Y qa1 (wd dd 11) 15 R (by assumption) (rfl) (by decide) (by decide)) rfl (src_sub (wt_mem (by simp))) (hrdT rfl (by simp)) w_1285 w_1282 w_1284 w_s16 w_6 (by decide +kernel) rfl ⟨Nat.le_of_ble_eq_true rfl, Nat.le_of_ble_eq_true rfl⟩ rfl rfl rfl (Nat.le_of_ble_eq_true rfl) ⟨Nat.le_of_ble_eq_true rfl, Nat.le_of_ble_eq_true rfl⟩ dX9_wordOf_47 (fun hu3 hp_hu3 => ?_)
      refine g_af (ws' := WM ad g I L S (z4 Z hu3.1 hu3.2 (mdA (Z 2) (slv 15 (wd dd 11)))) Y ++ [(qa1, Sum.inl (g 0, 15, .inl (wA (wd dd 11))))]) (st' := [.int (nI (sB (slv 15 (wd dd 11))))]) (cells' := 1) (slots' := 15) (pc' := 50) (congrArg (fun z => (WM ad g I L S z Y) ++ [(qa1, Sum.inl (g 0, 15, .inl (wA (wd dd 11))))]) z4_z4.symm) rfl rfl rfl rfl ?_
      have hsl := wd_some hX hR
      refine g_ws (ws' := WM ad g I L S (z4 Z hu3.1 hu3.2 (wA (wdO (lN dd)))) Y ++ [(qa1, Sum.inl (g 0, 15, .inl (wA (wd dd 11))))]) (by rw [hsl]; rfl) ?_
      refine g_run X KX9_wordOf_50_4 KX9_wordOf_50_4_d 52 [(0, .ref (ad 0)), (1, .long (lN dd)), (3, .ref qa1), (4, .long (lN (dd / 16 ^ 11))), (6, .int (nI (11 + 4)))] [.ref (ad 0)] rfl ?_
      refine g_get X srcW (v := .ref (ad 10)) hinX9 rfl 18 (by decide) w_1198 rfl (wm_mem (k := 0) (by decide)) rfl dX9_wordOf_52 ?_
      refine g_run X KX9_wordOf_55_5 KX9_wordOf_55_5_d 60 [(0, .ref (ad 0)), (1, .long (lN dd)), (3, .ref qa1), (4, .long (lN (dd / 16 ^ 11))), (6, .int (nI (11 + 4)))] [.int (nI 15), .int (nI 0), .ref qa1, .int (nI 0), .ref (ad 10)] rfl ?_
      refine g_copyR X (ws' := WM ad g I L S (z4 Z hu3.1 hu3.2 (wA (wdO (lN dd)))) Y ++ [(qa1, Sum.inl (g 0, 15, .inl (wA (wdO (lN dd)))))]) srcW 15 0 rfl (wm_mem (k := 10) (by decide)) 35 wt_get0 (by decide) (by decide) (by decide) (fun j hj => (if_pos hj).symm) w_1305 w_841 w_840 w_15 wt_set0 (Nat.le_of_ble_eq_true rfl) (Nat.le_of_ble_eq_true rfl) (Nat.le_of_ble_eq_true rfl) dX9_wordOf_60 ?_
      refine g_run X KX9_wordOf_63_6 KX9_wordOf_63_6_d 64 [(0, .ref (ad 0)), (1, .long (lN dd)), (3, .ref qa1), (4, .long (lN (dd / 16 ^ 11))), (6, .int (nI (11 + 4)))] [.ref qa1] rfl ?_
      exact g_aret X hr (Or.inr ⟨_, rfl⟩) (Or.inr ⟨_, rfl⟩) (hu3.1, hu3.2, qa1) (rfl) (by assumption) ((List.append_nil _).symm) (Nat.le_of_ble_eq_true rfl) (Nat.le_of_ble_eq_true rfl) dX9_wordOf_64
    · rw [nI_leI (by omega) (by omega)] at hc2; first | omega | (simp at hc2)
  · intro i hi k11
    have hXi : dd / 16 ^ i < 2 ^ 63 := Nat.lt_of_le_of_lt (Nat.div_le_self _ _) (by omega)
    refine g_run X KX9_wordOf_11_2 KX9_wordOf_11_2_d 15 [(0, .ref (ad 0)), (1, .long (lN dd)), (3, .ref qa1), (4, .long (lN (dd / 16 ^ i))), (6, .int (nI (i + 4)))] [.int (nI 15), .int (nI (i + 4))] rfl ?_
    refine g_icmp_ge X 43 dX9_wordOf_15 (by decide) (fun hc4 => ?_) (fun hc4 => ?_)
    · rw [nI_leI (by omega) (by omega)] at hc4; first | omega | (simp at hc4)
    · refine g_run X KX9_wordOf_18_7 KX9_wordOf_18_7_d 23 [(0, .ref (ad 0)), (1, .long (lN dd)), (3, .ref qa1), (4, .long (lN (dd / 16 ^ i))), (6, .int (nI (i + 4)))] [.long (lN (dd / 16 ^ i)), .int (nI (i + 4)), .ref qa1] rfl ?_
      refine g_ldc2 X (v := (16 : Int64)) w_1281 dX9_wordOf_23 ?_
      refine g_lrem X (v := lN (dd / 16 ^ i % 16)) (by decide) (pk_lRem (b := 16) hXi (by decide) (by decide)) dX9_wordOf_26 ?_
      refine g_run X KX9_wordOf_27_8 KX9_wordOf_27_8_d 28 [(0, .ref (ad 0)), (1, .long (lN dd)), (3, .ref qa1), (4, .long (lN (dd / 16 ^ i))), (6, .int (nI (i + 4)))] [.int ((lN (dd / 16 ^ i % 16)).toInt32), .int (nI (i + 4)), .ref qa1] rfl ?_
      refine g_st (st' := [.int (nI (dd / 16 ^ i % 16)), .int (nI (i + 4)), .ref qa1]) (by rw [lN_i]) ?_
      refine g_iast X (ws' := WM ad g I L S (z4 Z R (Z 1) (Z 2)) Y ++ [(qa1, Sum.inl (g 0, 15, .inl (wA (wd dd (i + 1)))))]) 0 rfl 35 (wt_get0) (i + 4) rfl (by omega) (by decide) (by rw [wA_up (by omega) (Nat.mod_lt _ (by decide))]; exact wt_set0) dX9_wordOf_28 ?_
      refine g_run X KX9_wordOf_29_9 KX9_wordOf_29_9_d 31 [(0, .ref (ad 0)), (1, .long (lN dd)), (3, .ref qa1), (4, .long (lN (dd / 16 ^ i))), (6, .int (nI (i + 4)))] [.long (lN (dd / 16 ^ i))] rfl ?_
      refine g_ldc2 X (v := (16 : Int64)) w_1281 dX9_wordOf_31 ?_
      refine g_ldiv X (v := lN (dd / 16 ^ i / 16)) (by decide) (pk_lDiv (b := 16) hXi (by decide) (by decide)) dX9_wordOf_34 ?_
      refine g_run X KX9_wordOf_35_10 KX9_wordOf_35_10_d 11 [(6, .int ((nI (i + 4)) + (nI 1))), (4, .long (lN (dd / 16 ^ i / 16))), (0, .ref (ad 0)), (1, .long (lN dd)), (3, .ref qa1)] [] rfl ?_
      refine g_nm (lv' := [(6, .int (nI ((i + 4) + 1))), (4, .long (lN (dd / 16 ^ i / 16))), (0, .ref (ad 0)), (1, .long (lN dd)), (3, .ref qa1)]) (st' := []) (by simp only [nI_add]) (by simp only [nI_add]) ?_
      refine g_lv (lv' := [(0, .ref (ad 0)), (1, .long (lN dd)), (3, .ref qa1), (4, .long (lN (dd / 16 ^ i / 16))), (6, .int (nI ((i + 4) + 1)))]) (lsub_c 2 rfl (lsub_c 3 rfl (lsub_c 4 rfl (lsub_c 1 rfl (lsub_c 0 rfl (lsub_n)))))) ?_
      refine g_cs (ws' := WM ad g I L S (z4 Z R (Z 1) (Z 2)) Y ++ [(qa1, Sum.inl (g 0, 15, .inl (wA (wd dd (i + 1)))))]) (lv' := [(0, .ref (ad 0)), (1, .long (lN dd)), (3, .ref qa1), (4, .long (lN (dd / 16 ^ (i + 1)))), (6, .int (nI ((i + 1) + 4)))]) (rfl) (by rw [Nat.pow_succ, ← Nat.div_div_eq_div_mul, show i + 1 + 4 = i + 4 + 1 by omega]) ?_
      exact k11

