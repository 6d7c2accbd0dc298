/-! places that are erased, counted anew -/
theorem ers_tb (I : Nat → Nat → Int32) (S : Nat → Nat) (n p : Nat) : (ers I S n).testBit p = (decide (p < n) && !(I 3 (S p) == 0)) := by
  induction n with
  | zero => rw [ers, Nat.zero_testBit]; rfl
  | succ n ih =>
    rw [ers]
    by_cases h : I 3 (S n) = 0
    · rw [if_pos h, ih]
      by_cases e : p = n
      · subst e; simp [h]
      · rw [show decide (p < n + 1) = decide (p < n) from decide_eq_decide.mpr ⟨fun g => by omega, fun g => by omega⟩]
    · rw [if_neg h, Nat.testBit_or, ih, Nat.testBit_two_pow]
      by_cases e : p = n
      · subst e; simp [h]
      · rw [show decide (p < n + 1) = decide (p < n) from decide_eq_decide.mpr ⟨fun g => by omega, fun g => by omega⟩, show decide (n = p) = false from decide_eq_false (fun g => e g.symm), Bool.or_false]
theorem pcn_set {a b i : Nat} (h1 : a.testBit i = true) (h0 : b.testBit i = false) (n : Nat) (h : ∀ p, p < n → p ≠ i → a.testBit p = b.testBit p) : pcn a n = pcn b n + (if i < n then 1 else 0) := by
  induction n with
  | zero => rfl
  | succ n ih =>
    rw [pcn, pcn, ih (fun p hp => h p (by omega))]
    by_cases e : n = i
    · subst e
      rw [h1, h0, if_neg (by omega), if_pos (by omega)]
      simp [bN]
    · rw [h n (by omega) e]
      have e1 : (if i < n + 1 then 1 else 0) = (if i < n then 1 else 0) := by split <;> split <;> omega
      rw [e1]; omega
theorem ers_set {I : Nat → Nat → Int32} {S : Nat → Nat} {i : Nat} (hS : ∀ p q, p < 15 → q < 15 → S p = S q → p = q) (hi : i < 15) (h : I 3 (S i) = 0) : pcn (ers (u2 I 3 (S i) (nI 1)) S 15) 15 = pcn (ers I S 15) 15 + 1 := by
  have hu : ∀ p, p < 15 → p ≠ i → u2 I 3 (S i) (nI 1) 3 (S p) = I 3 (S p) := fun p hp hne => by
    unfold u2; rw [if_pos rfl, if_neg (fun e => hne (hS p i hp hi e))]
  have hui : u2 I 3 (S i) (nI 1) 3 (S i) = nI 1 := u2_s
  rw [pcn_set (i := i) (b := ers I S 15) (by rw [ers_tb, hui]; simp [hi]; decide) (by rw [ers_tb, h]; simp) 15 (fun p hp hne => by rw [ers_tb, ers_tb, hu p hp hne]), if_pos hi]
/-- the count that goes along is the count made anew -/
theorem erb_cnt {I : Nat → Nat → Int32} {S : Nat → Nat} (hS : ∀ p q, p < 15 → q < 15 → S p = S q → p = q) (i : Nat) (hi : i ≤ 15) : (erb I S i).2 = pcn (ers (erb I S i).1 S 15) 15 := by
  induction i with
  | zero => rfl
  | succ i ih =>
    have ih := ih (by omega)
    rw [erb]
    split
    · exact ih
    · split
      · exact ih
      · split
        next h => rw [ers_set hS (by omega) h, ih]
        · exact ih
