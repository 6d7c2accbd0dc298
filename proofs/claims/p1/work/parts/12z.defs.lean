/-! the cache's loads and stores, and what they leave alone -/
theorem u2_n {α : Type} {f : Nat → Nat → α} {a b x y : Nat} {v : α} (h : x ≠ a) : u2 f a b v x y = f x y := by simp [u2, h]
theorem u2_m {α : Type} {f : Nat → Nat → α} {a b y : Nat} {v : α} (h : y ≠ b) : u2 f a b v a y = f a y := by simp [u2, h]
theorem cm_n {I : Nat → Nat → Int32} {S : Nat → Nat} {b i a x : Nat} (h : a ≠ 2) : cm I S b i a x = I a x := by
  induction i with
  | zero => rfl
  | succ i ih =>
    rw [cm]
    split
    · exact ih
    · split
      · rw [u2_n h, ih]
      · exact ih
theorem cmA_n {I : Nat → Nat → Int32} {S : Nat → Nat} {b a x : Nat} (h : a ≠ 2) (h8 : a ≠ 8) : cmA I S b a x = I a x := by
  rw [cmA, cm_n h, u2_n h8]
theorem erb_n {I : Nat → Nat → Int32} {S : Nat → Nat} {i a x : Nat} (h : a ≠ 3) : (erb I S i).1 a x = I a x := by
  induction i with
  | zero => rfl
  | succ i ih =>
    rw [erb]
    split
    · exact ih
    · split
      · exact ih
      · split
        · show u2 (erb I S i).1 3 (S i) (nI 1) a x = _
          rw [u2_n h, ih]
        · exact ih
theorem ftI_n {I : Nat → Nat → Int32} {L : Nat → Nat → Int64} {S : Nat → Nat} {q a x : Nat} (h2 : a ≠ 2) (h8 : a ≠ 8) : ftI I L S q a x = I a x := by
  rw [ftI]
  split
  · rw [u2_n h8, u2_n h8]
  · split
    · rw [u2_n h8]
    · rw [cmA_n h2 h8, u2_n h8]
theorem ftA_n {I : Nat → Nat → Int32} {L : Nat → Nat → Int64} {S : Nat → Nat} {q a x : Nat} (h2 : a ≠ 2) (h3 : a ≠ 3) (h8 : a ≠ 8) : ftA I L S q a x = I a x := by
  rw [ftA, erA, erb_n h3, ftI_n h2 h8]
/-- frames that are dirty have a line -/
def FrI (I : Nat → Nat → Int32) : Prop := ∀ k, k < 4 → ¬ I 6 k = 0 → lnN I k < 16 ∧ I 5 k = nI (lnN I k)
theorem FrI.of {I J : Nat → Nat → Int32} (h : FrI I) (h5 : ∀ k, J 5 k = I 5 k) (h6 : ∀ k, J 6 k = I 6 k) : FrI J := fun k hk hn => by
  rw [h6] at hn
  have := h k hk hn
  unfold lnN at this ⊢
  rw [h5]
  exact this
theorem FrI.ft {I : Nat → Nat → Int32} {L : Nat → Nat → Int64} {S : Nat → Nat} {q : Nat} (h : FrI I) : FrI (ftA I L S q) := h.of (fun _ => ftA_n (by decide) (by decide) (by decide)) (fun _ => ftA_n (by decide) (by decide) (by decide))
theorem FrI.u8 {I : Nat → Nat → Int32} {j : Nat} {v : Int32} (h : FrI I) : FrI (u2 I 8 j v) := h.of (fun _ => u2_n (by decide)) (fun _ => u2_n (by decide))
/-- a line put into the oldest frame -/
def rmI (I : Nat → Nat → Int32) (q : Nat) : Nat → Nat → Int32 := useI (u2 (wbI I (old I 3)) 5 (old I 3) (nI q)) (old I 3)
def rmL (I : Nat → Nat → Int32) (L : Nat → Nat → Int64) (S : Nat → Nat) (x : Int64) : Nat → Nat → Int64 := u2 (wbL I L S (old I 3)) 3 (old I 3) x
def hit (I : Nat → Nat → Int32) : Nat → Nat → Int32 := u2 I 8 6 (I 8 6 + nI 1)
def mis (I : Nat → Nat → Int32) : Nat → Nat → Int32 := u2 I 8 7 (I 8 7 + nI 1)
/-- a load through the cache -/
def ldI (I : Nat → Nat → Int32) (L : Nat → Nat → Int64) (S : Nat → Nat) (q : Nat) : Nat → Nat → Int32 := match fof I q with
  | some k => useI (hit I) k
  | none => if oL (mwd (mis I) L S q) = -1 then ftA (mis I) L S q else rmI (ftA (mis I) L S q) q
def ldL (I : Nat → Nat → Int32) (L : Nat → Nat → Int64) (S : Nat → Nat) (q : Nat) : Nat → Nat → Int64 := match fof I q with
  | some _ => L
  | none => if oL (mwd (mis I) L S q) = -1 then ftL (mis I) L S q else rmL (ftA (mis I) L S q) (ftL (mis I) L S q) S (oL (mwd (mis I) L S q))
def ldV (I : Nat → Nat → Int32) (L : Nat → Nat → Int64) (S : Nat → Nat) (q : Nat) : Int64 := match fof I q with
  | some k => L 3 k
  | none => oL (mwd (mis I) L S q)
theorem ld_s {I : Nat → Nat → Int32} {L : Nat → Nat → Int64} {S : Nat → Nat} {q k : Nat} (h : fof I q = some k) : ldI I L S q = useI (hit I) k ∧ ldL I L S q = L ∧ ldV I L S q = L 3 k := by
  rw [ldI, ldL, ldV, h]; exact ⟨rfl, rfl, rfl⟩
theorem ld_b {I : Nat → Nat → Int32} {L : Nat → Nat → Int64} {S : Nat → Nat} {q : Nat} (h : fof I q = none) (hb : oL (mwd (mis I) L S q) = -1) : ldI I L S q = ftA (mis I) L S q ∧ ldL I L S q = ftL (mis I) L S q ∧ ldV I L S q = oL (mwd (mis I) L S q) := by
  rw [ldI, ldL, ldV, h]; dsimp only; rw [if_pos hb, if_pos hb]; exact ⟨rfl, rfl, rfl⟩
theorem ld_n {I : Nat → Nat → Int32} {L : Nat → Nat → Int64} {S : Nat → Nat} {q : Nat} (h : fof I q = none) (hb : ¬ oL (mwd (mis I) L S q) = -1) : ldI I L S q = rmI (ftA (mis I) L S q) q ∧ ldL I L S q = rmL (ftA (mis I) L S q) (ftL (mis I) L S q) S (oL (mwd (mis I) L S q)) ∧ ldV I L S q = oL (mwd (mis I) L S q) := by
  rw [ldI, ldL, ldV, h]; dsimp only; rw [if_neg hb, if_neg hb]; exact ⟨rfl, rfl, rfl⟩
/-- a store through the cache -/
def stK (I : Nat → Nat → Int32) (q : Nat) : Nat := match fof I q with
  | some k => k
  | none => old (mis I) 3
def stI (I : Nat → Nat → Int32) (q : Nat) : Nat → Nat → Int32 := match fof I q with
  | some k => u2 (useI (u2 (hit I) 5 k (nI q)) k) 6 k (nI 1)
  | none => u2 (rmI (mis I) q) 6 (old (mis I) 3) (nI 1)
def stL (I : Nat → Nat → Int32) (L : Nat → Nat → Int64) (S : Nat → Nat) (q : Nat) (x : Int64) : Nat → Nat → Int64 := match fof I q with
  | some k => u2 L 3 k x
  | none => rmL (mis I) L S x
theorem st_s {I : Nat → Nat → Int32} {L : Nat → Nat → Int64} {S : Nat → Nat} {q k : Nat} {x : Int64} (h : fof I q = some k) : stI I q = u2 (useI (u2 (hit I) 5 k (nI q)) k) 6 k (nI 1) ∧ stL I L S q x = u2 L 3 k x ∧ stK I q = k := by
  rw [stI, stL, stK, h]; exact ⟨rfl, rfl, rfl⟩
theorem st_n {I : Nat → Nat → Int32} {L : Nat → Nat → Int64} {S : Nat → Nat} {q : Nat} {x : Int64} (h : fof I q = none) : stI I q = u2 (rmI (mis I) q) 6 (old (mis I) 3) (nI 1) ∧ stL I L S q x = rmL (mis I) L S x ∧ stK I q = old (mis I) 3 := by
  rw [stI, stL, stK, h]; exact ⟨rfl, rfl, rfl⟩
/-- all frames written, the first i -/
def wba (I : Nat → Nat → Int32) (L : Nat → Nat → Int64) (S : Nat → Nat) : Nat → (Nat → Nat → Int32) × (Nat → Nat → Int64)
  | 0 => (I, L)
  | i + 1 => (wbI (wba I L S i).1 i, wbL (wba I L S i).1 (wba I L S i).2 S i)
theorem wbI_n {I : Nat → Nat → Int32} {k a x : Nat} (h : a ≠ 6 ∨ x ≠ k) : wbI I k a x = I a x := by
  rw [wbI]
  split
  · rfl
  · unfold u2
    by_cases ha : a = 6
    · subst ha
      have hx : x ≠ k := by omega
      simp [hx]
    · simp [ha]
theorem wba_n {I : Nat → Nat → Int32} {L : Nat → Nat → Int64} {S : Nat → Nat} {i a x : Nat} (h : a ≠ 6 ∨ i ≤ x) : (wba I L S i).1 a x = I a x := by
  induction i with
  | zero => rfl
  | succ i ih =>
    show wbI (wba I L S i).1 i a x = _
    rw [wbI_n (by omega), ih (by omega)]
theorem wba_ln {I : Nat → Nat → Int32} {L : Nat → Nat → Int64} {S : Nat → Nat} {i : Nat} (h : FrI I) (hi : i < 4) : ¬ (wba I L S i).1 6 i = 0 → lnN (wba I L S i).1 i < 16 ∧ (wba I L S i).1 5 i = nI (lnN (wba I L S i).1 i) := by
  intro hn
  rw [wba_n (Or.inr (Nat.le_refl i))] at hn
  have := h i hi hn
  unfold lnN at this ⊢
  rw [wba_n (Or.inl (by decide))]
  exact this
