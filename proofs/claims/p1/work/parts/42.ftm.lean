/-! fetching: the reference's way is the class's -/
theorem rwd_c {I J : Nat → Nat → Int32} {L : Nat → Nat → Int64} {S : Nat → Nat} {q : Nat} (h : ∀ c, J 1 c = I 1 c) (n : Nat) : rwd J L S q n = rwd I L S q n := by
  induction n with
  | zero => rfl
  | succ n ih =>
    have e : rd J L (S n) q = rd I L (S n) q := by unfold rd; rw [h]
    show wn (rwd J L S q n) n (rd J L (S n) q) = wn (rwd I L S q n) n (rd I L (S n) q)
    rw [ih, e]
theorem ers_c {I J : Nat → Nat → Int32} {S : Nat → Nat} (h : ∀ c, J 3 c = I 3 c) (n : Nat) : ers J S n = ers I S n := by
  induction n with
  | zero => rfl
  | succ n ih =>
    show (if J 3 (S n) = 0 then ers J S n else ers J S n ||| 2 ^ n) = (if I 3 (S n) = 0 then ers I S n else ers I S n ||| 2 ^ n)
    rw [ih, h]
section F8
variable {I : Nat → Nat → Int32} {L : Nat → Nat → Int64} {S : Nat → Nat} {q j n : Nat} {v : Int32}
theorem rwd_8 : rwd (u2 I 8 j v) L S q n = rwd I L S q n := rwd_c (fun _ => u2_n (by decide)) n
theorem ers_8 : ers (u2 I 8 j v) S n = ers I S n := ers_c (fun _ => u2_n (by decide)) n
theorem mwd_8 : mwd (u2 I 8 j v) L S q = mwd I L S q := by unfold mwd; rw [rwd_8, ers_8]
end F8
theorem pl0 {x y : Int64} (h : pl (x ^^^ y) 15 = 0) (h15 : nib x 15 = nib y 15) : x = y := by
  apply nib_ext
  intro p hp
  by_cases e : p < 15
  · have h1 := pl_tb (x ^^^ y) 15 p
    rw [h, Nat.zero_testBit, nib_xor] at h1
    have h2 : nib x p ^^^ nib y p = 0 := by
      by_cases z : nib x p ^^^ nib y p = 0
      · exact z
      · simp [e, z] at h1
    exact xx0 h2
  · rw [show p = 15 by omega]; exact h15
theorem cm_0 (I : Nat → Nat → Int32) (S : Nat → Nat) (i : Nat) : cm I S 0 i = I := by
  induction i with
  | zero => rfl
  | succ i ih => rw [cm, if_pos (Nat.zero_testBit i), ih]
theorem pcn_00 (n : Nat) : pcn 0 n = 0 := by
  induction n with
  | zero => rfl
  | succ n ih => rw [pcn, ih, Nat.zero_testBit]; rfl
section FN
variable {I : Nat → Nat → Int32} {L : Nat → Nat → Int64} {S : Nat → Nat} {q : Nat} {y : Int64}
theorem fn_ne (h : mwd I L S q = some y) : ¬ y = -1 := ne_m1 (mw_15 (rwd_15 _ _ _ _ _ (Nat.le_refl _)) h)
theorem fn_15 (h : mwd I L S q = some y) : nib y 15 = 0 := mw_15 (rwd_15 _ _ _ _ _ (Nat.le_refl _)) h
theorem fn_a (h : mwd I L S q = none) : ftI I L S q = u2 (u2 I 8 2 (I 8 2 + nI 1)) 8 3 ((u2 I 8 2 (I 8 2 + nI 1)) 8 3 + nI 1) ∧ ftL I L S q = L := ft_a (by rw [h]; rfl)
theorem fn_s (h : mwd I L S q = some y) : ftI I L S q = u2 (bm (u2 I 8 2 (I 8 2 + nI 1)) S (pl (rwd I L S q 15 ^^^ y) 15 &&& (32767 ^^^ ers I S 15)) 15) 8 4 (bm (u2 I 8 2 (I 8 2 + nI 1)) S (pl (rwd I L S q 15 ^^^ y) 15 &&& (32767 ^^^ ers I S 15)) 15 8 4 + nI (pcn (pl (rwd I L S q 15 ^^^ y) 15) 15)) ∧ (pl (rwd I L S q 15 ^^^ y) 15 = 0 → ftL I L S q = L) ∧ (¬ pl (rwd I L S q 15 ^^^ y) 15 = 0 → ftL I L S q = wrw S L q y 15) := by
  have h15 : nib (rwd I L S q 15) 15 = nib y 15 := by rw [fn_15 h, rwd_15 _ _ _ _ _ (Nat.le_refl _)]
  have ho : oL (mwd I L S q) = y := by rw [h]; rfl
  have hne : ¬ oL (mwd I L S q) = -1 := by rw [ho]; exact fn_ne h
  rw [← ers_8 (I := I) (j := 2) (v := I 8 2 + nI 1) (n := 15), bm_cm 15 (Nat.le_refl _)]
  by_cases b0 : pl (rwd I L S q 15 ^^^ y) 15 = 0
  · have e := pl0 b0 h15
    have hf := ft_b hne (by rw [ho]; exact e.symm)
    refine ⟨?_, fun _ => hf.2, fun z => absurd b0 z⟩
    rw [hf.1, b0, cm_0, pcn_00]
    exact (u2_id (by show _ + nI 0 = _; rw [nI_0, Int32.add_zero])).symm
  · have e : ¬ oL (mwd I L S q) = rwd I L S q 15 := by
      intro z
      rw [ho] at z
      apply b0
      rw [z]
      apply Nat.eq_of_testBit_eq
      intro i
      rw [pl_tb, nib_xor, Nat.xor_self, Nat.zero_testBit]; simp
    have hf := ft_c hne e
    rw [ho] at hf
    refine ⟨?_, fun z => absurd z b0, fun _ => hf.2⟩
    rw [hf.1, cmA, cm_84, cm_n (I := u2 I 8 2 (I 8 2 + nI 1)) (a := 8) (x := 4) (by decide)]
theorem wrO_m1 {x y : Int64} : wrO x y = -nI 1 ↔ y = -1 := by
  unfold wrO
  have h15 := pcn_15 (pl (x ^^^ y) 15)
  split
  next h => exact ⟨fun _ => h, fun _ => rfl⟩
  next h => exact ⟨fun z => absurd z (m1_ne (by omega)), fun z => absurd z h⟩
theorem wr_n (h : mwd I L S q = none) : wrO (rwd I L S q 15) (oL (mwd I L S q)) = -nI 1 := wrO_m1.mpr (by rw [h]; rfl)
theorem wr_s (h : mwd I L S q = some y) : wrO (rwd I L S q 15) (oL (mwd I L S q)) = nI (pcn (pl (rwd I L S q 15 ^^^ y) 15) 15) := by
  rw [h]
  show wrO _ y = _
  rw [wrO, if_neg (fn_ne h)]
end FN
/-- marks are 0 or 1 -/
def bOK (I : Nat → Nat → Int32) : Prop := ∀ c, c < 18 → I 3 c = 0 ∨ I 3 c = nI 1
section ER
variable {J : Nat → Nat → Int32} {S : Nat → Nat} {i : Nat}
theorem erb_s1 (h : (erb J S i).1 2 (S i) < (erb J S i).1 8 0) : (erb J S (i + 1)).1 = (erb J S i).1 := by
  by_cases h4 : 4 ≤ (erb J S i).2
  · rw [erb, if_pos h4]
  · rw [erb, if_neg h4, if_pos h]
theorem erb_s2 (h : 4 ≤ (erb J S i).2) : (erb J S (i + 1)).1 = (erb J S i).1 := by rw [erb, if_pos h]
theorem erb_s3 (h4 : ¬ 4 ≤ (erb J S i).2) (h : ¬ (erb J S i).1 2 (S i) < (erb J S i).1 8 0) (hB : (erb J S i).1 3 (S i) = 0 ∨ (erb J S i).1 3 (S i) = nI 1) : (erb J S (i + 1)).1 = u2 (erb J S i).1 3 (S i) (nI 1) := by
  rw [erb, if_neg h4, if_neg h]
  split
  · rfl
  next hn => exact (u2_id ((hB.resolve_left hn).symm)).symm
theorem bOK.put {c : Nat} (h : bOK J) : bOK (u2 J 3 c (nI 1)) := fun x hx => by
  unfold u2
  rw [if_pos rfl]
  split
  · exact Or.inr rfl
  · exact h x hx
theorem bOK.of {I : Nat → Nat → Int32} (h : bOK I) (e : ∀ c, J 3 c = I 3 c) : bOK J := fun c hc => by rw [e]; exact h c hc
theorem erb_b (hB : bOK J) (i : Nat) : bOK (erb J S i).1 := by
  induction i with
  | zero => exact hB
  | succ i ih =>
    rw [erb]
    split
    · exact ih
    · split
      · exact ih
      · split
        · exact ih.put
        · exact ih
theorem kOK.of {I : Nat → Nat → Int32} (h : kOK I) (e : ∀ c, J 1 c = I 1 c) : kOK J := fun c hc => by rw [e]; exact h c hc
end ER
section FT
variable {I : Nat → Nat → Int32} {L : Nat → Nat → Int64} {S : Nat → Nat} {q : Nat} {v : Int32}
theorem bOK.ftI (h : bOK I) : bOK (ftI I L S q) := h.of (fun _ => ftI_n (by decide) (by decide))
theorem bOK.ft (h : bOK I) : bOK (ftA I L S q) := by rw [ftA, erA]; exact erb_b h.ftI 15
theorem kOK.ft (h : kOK I) : kOK (ftA I L S q) := h.of (fun _ => ftA_n (by decide) (by decide) (by decide))
theorem cm_81 {b : Nat} (i : Nat) : cm (u2 I 8 1 v) S b i = u2 (cm I S b i) 8 1 v := by
  induction i with
  | zero => rfl
  | succ i ih =>
    rw [cm, cm, ih]
    have h3 : u2 (cm I S b i) 8 1 v 3 (S i) = cm I S b i 3 (S i) := u2_n (by decide)
    have h2 : u2 (cm I S b i) 8 1 v 2 (S i) = cm I S b i 2 (S i) := u2_n (by decide)
    rw [h3, h2]
    split
    · rfl
    · split
      · exact u2_cc (by decide)
      · rfl
theorem u2_88 {f : Nat → Nat → Int32} {a b d : Nat} {x y : Int32} (h : b ≠ d) : u2 (u2 f a b x) a d y = u2 (u2 f a d y) a b x := by
  funext i j; unfold u2
  by_cases hi : i = a
  · subst hi
    by_cases hb : j = b
    · subst hb; simp [h]
    · simp [hb]
  · simp [hi]
theorem ftI_81 : ftI (u2 I 8 1 v) L S q = u2 (ftI I L S q) 8 1 v := by
  have e : u2 I 8 1 v 8 2 = I 8 2 := u2_m (by decide)
  have e2 : u2 (u2 I 8 1 v) 8 2 (I 8 2 + nI 1) = u2 (u2 I 8 2 (I 8 2 + nI 1)) 8 1 v := u2_88 (by decide)
  unfold ftI
  rw [mwd_8, rwd_8, e, e2]
  split
  · have e3 : u2 (u2 I 8 2 (I 8 2 + nI 1)) 8 1 v 8 3 = (u2 I 8 2 (I 8 2 + nI 1)) 8 3 := u2_m (by decide)
    rw [e3]; exact u2_88 (by decide)
  · split
    · rfl
    · unfold cmA
      have e4 : u2 (u2 I 8 2 (I 8 2 + nI 1)) 8 1 v 8 4 = (u2 I 8 2 (I 8 2 + nI 1)) 8 4 := u2_m (by decide)
      rw [e4, ← cm_81, u2_88 (f := u2 I 8 2 (I 8 2 + nI 1)) (b := 1) (d := 4) (by decide)]
theorem erb_81 {J : Nat → Nat → Int32} (i : Nat) : erb (u2 J 8 1 v) S i = (u2 (erb J S i).1 8 1 v, (erb J S i).2) := by
  induction i with
  | zero => rw [erb, ers_8]; rfl
  | succ i ih =>
    rw [erb, ih, erb]
    dsimp only
    have h2 : u2 (erb J S i).1 8 1 v 2 (S i) = (erb J S i).1 2 (S i) := u2_n (by decide)
    have h3 : u2 (erb J S i).1 8 1 v 3 (S i) = (erb J S i).1 3 (S i) := u2_n (by decide)
    have h8 : u2 (erb J S i).1 8 1 v 8 0 = (erb J S i).1 8 0 := u2_m (by decide)
    simp only [h2, h3, h8]
    split
    · rfl
    · split
      · rfl
      · split
        · rw [u2_cc (by decide)]
        · rfl
theorem ftA_81 : ftA (u2 I 8 1 v) L S q = u2 (ftA I L S q) 8 1 v := by
  unfold ftA erA
  rw [ftI_81, erb_81]
theorem ftL_81 : ftL (u2 I 8 1 v) L S q = ftL I L S q := by
  unfold ftL
  rw [mwd_8, rwd_8]
end FT
