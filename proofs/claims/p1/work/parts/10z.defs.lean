/-! what the class's writing methods do to its state -/
section WC2
variable {ad : Nat → Nat} {g : Nat → ClassId} {I : Nat → Nat → Int32} {L : Nat → Nat → Int64} {S : Nat → Nat}
theorem ws_seat {q n : Nat} : (WC ad g I L S).set 3 (ad 3, .inl (g 1, 15, .inr (.inr (.inr (.inr (va_up (fun j => some (ad (S j + 10))) q (some (ad (n + 10))))))))) = WC ad g I L (u1 S q n) := by
  refine map_set (fun j hj hne => ?_) ?_
  · rcases j with _ | _ | _ | _ | _ | _ | _ | _ | _ | _ | j
    all_goals first | rfl | exact absurd rfl hne
  · show (ad 3, Sum.inl (g 1, 15, _)) = (ad 3, Sum.inl (g 1, 15, _))
    have e : (fun j => some (ad (u1 S q n j + 10))) = va_up (fun j => some (ad (S j + 10))) q (some (ad (n + 10))) := by
      funext j
      unfold va_up u1
      by_cases h : j = q
      · rw [if_pos h, if_pos h]
      · rw [if_neg h, if_neg h]
    rw [e]
end WC2
/-- blame for the places of b, the first i -/
def cm (I : Nat → Nat → Int32) (S : Nat → Nat) (b : Nat) : Nat → Nat → Nat → Int32
  | 0 => I
  | i + 1 => if b.testBit i = false then cm I S b i else if cm I S b i 3 (S i) = 0 then u2 (cm I S b i) 2 (S i) (cm I S b i 2 (S i) + nI 1) else cm I S b i
def cmA (I : Nat → Nat → Int32) (S : Nat → Nat) (b : Nat) : Nat → Nat → Int32 := cm (u2 I 8 4 (I 8 4 + nI (pcn b 15))) S b 15
/-- chips with much blame become erased, the first i places -/
def erb (I : Nat → Nat → Int32) (S : Nat → Nat) : Nat → (Nat → Nat → Int32) × Nat
  | 0 => (I, pcn (ers I S 15) 15)
  | i + 1 => if 4 ≤ (erb I S i).2 then erb I S i else if (erb I S i).1 2 (S i) < (erb I S i).1 8 0 then erb I S i else if (erb I S i).1 3 (S i) = 0 then (u2 (erb I S i).1 3 (S i) (nI 1), (erb I S i).2 + 1) else erb I S i
theorem erb_stop {I : Nat → Nat → Int32} {S : Nat → Nat} {i : Nat} (h : 4 ≤ (erb I S i).2) {j : Nat} (hj : i ≤ j) : erb I S j = erb I S i := by
  induction hj with
  | refl => rfl
  | step _ ih => rw [erb, ih, if_pos h]
theorem erb_lt (I : Nat → Nat → Int32) (S : Nat → Nat) (i : Nat) : (erb I S i).2 < 100 := by
  have h : ∀ i, (erb I S i).2 ≤ 15 + i := by
    intro i
    induction i with
    | zero =>
      have h : ∀ b n, pcn b n ≤ n := by
        intro b n
        induction n with
        | zero => exact Nat.le_refl _
        | succ n ih => have := bN_lt (b.testBit n); rw [pcn]; omega
      exact h _ 15
    | succ i ih =>
      rw [erb]
      split
      · omega
      · split
        · omega
        · split
          · show (erb I S i).2 + 1 ≤ _; omega
          · omega
  have h2 : (erb I S i).2 ≤ 4 ∨ (erb I S i).2 ≤ 15 := by
    induction i with
    | zero => exact Or.inr (h 0)
    | succ i ih =>
      rw [erb]
      split
      · exact ih
      · split
        · exact ih
        · split
          · left; show (erb I S i).2 + 1 ≤ 4; omega
          · exact ih
  omega
def erA (I : Nat → Nat → Int32) (S : Nat → Nat) : Nat → Nat → Int32 := (erb I S 15).1
/-- a line fetched, ahead of the blame's end -/
def ftI (I : Nat → Nat → Int32) (L : Nat → Nat → Int64) (S : Nat → Nat) (q : Nat) : Nat → Nat → Int32 :=
  if oL (mwd I L S q) = -1 then u2 (u2 I 8 2 (I 8 2 + nI 1)) 8 3 ((u2 I 8 2 (I 8 2 + nI 1)) 8 3 + nI 1) else
  if oL (mwd I L S q) = rwd I L S q 15 then u2 I 8 2 (I 8 2 + nI 1) else cmA (u2 I 8 2 (I 8 2 + nI 1)) S (pl (rwd I L S q 15 ^^^ oL (mwd I L S q)) 15)
def ftL (I : Nat → Nat → Int32) (L : Nat → Nat → Int64) (S : Nat → Nat) (q : Nat) : Nat → Nat → Int64 :=
  if oL (mwd I L S q) = -1 then L else if oL (mwd I L S q) = rwd I L S q 15 then L else wrw S L q (oL (mwd I L S q)) 15
def ftA (I : Nat → Nat → Int32) (L : Nat → Nat → Int64) (S : Nat → Nat) (q : Nat) : Nat → Nat → Int32 := erA (ftI I L S q) S
theorem ft_a {I : Nat → Nat → Int32} {L : Nat → Nat → Int64} {S : Nat → Nat} {q : Nat} (h : oL (mwd I L S q) = -1) : ftI I L S q = u2 (u2 I 8 2 (I 8 2 + nI 1)) 8 3 ((u2 I 8 2 (I 8 2 + nI 1)) 8 3 + nI 1) ∧ ftL I L S q = L := by
  rw [ftI, ftL, if_pos h, if_pos h]; exact ⟨rfl, rfl⟩
theorem ft_b {I : Nat → Nat → Int32} {L : Nat → Nat → Int64} {S : Nat → Nat} {q : Nat} (h : ¬ oL (mwd I L S q) = -1) (h2 : oL (mwd I L S q) = rwd I L S q 15) : ftI I L S q = u2 I 8 2 (I 8 2 + nI 1) ∧ ftL I L S q = L := by
  rw [ftI, ftL, if_neg h, if_neg h, if_pos h2, if_pos h2]; exact ⟨rfl, rfl⟩
theorem ft_c {I : Nat → Nat → Int32} {L : Nat → Nat → Int64} {S : Nat → Nat} {q : Nat} (h : ¬ oL (mwd I L S q) = -1) (h2 : ¬ oL (mwd I L S q) = rwd I L S q 15) : ftI I L S q = cmA (u2 I 8 2 (I 8 2 + nI 1)) S (pl (rwd I L S q 15 ^^^ oL (mwd I L S q)) 15) ∧ ftL I L S q = wrw S L q (oL (mwd I L S q)) 15 := by
  rw [ftI, ftL, if_neg h, if_neg h, if_neg h2, if_neg h2]; exact ⟨rfl, rfl⟩
/-- the erased places for a replaced one -/
def ffb (I : Nat → Nat → Int32) (S : Nat → Nat) (q : Nat) : Nat := if pcn (ers I S 15 ||| 2 ^ q) 15 ≤ 4 then ers I S 15 ||| 2 ^ q else ers I S 15
def ffw (I : Nat → Nat → Int32) (L : Nat → Nat → Int64) (S : Nat → Nat) (b i : Nat) : Int64 := if oL (mw b (rwd I L S i 15)) = -1 then rwd I L S i 15 else oL (mw b (rwd I L S i 15))
/-- a spare filled for a place, the first i lines -/
def ffl (I : Nat → Nat → Int32) (L : Nat → Nat → Int64) (S : Nat → Nat) (q ch b : Nat) : Nat → Nat → Nat → Int64
  | 0 => L
  | i + 1 => u2 (ffl I L S q ch b i) 0 ch (wn (ffl I L S q ch b i 0 ch) i (nib (ffw I (ffl I L S q ch b i) S b i) q))
theorem ffb_lt {I : Nat → Nat → Int32} {S : Nat → Nat} {q : Nat} (hq : q < 15) : ffb I S q < 2 ^ 15 := by
  unfold ffb
  split
  · exact or_lt (ers_lt _ _ _) (two_lt hq)
  · exact ers_lt _ _ _
def sset (S : Nat → Nat) : Nat → Nat
  | 0 => 0
  | i + 1 => sset S i ||| 2 ^ S i
theorem sset_lt {S : Nat → Nat} (h : ∀ p, p < 15 → S p < 18) {i : Nat} (hi : i ≤ 15) : sset S i < 2 ^ 18 := by
  induction i with
  | zero => exact Nat.zero_lt_succ _
  | succ i ih => exact or_lt (ih (by omega)) (Nat.pow_lt_pow_right (by decide) (h i (by omega)))
/-- seats are sound -/
def sok1 (I : Nat → Nat → Int32) (S : Nat → Nat) (k : Nat) : Prop := I 4 (S k) = 0 ∧ (sset S k).testBit (S k) = false
def sok (I : Nat → Nat → Int32) (S : Nat → Nat) : Prop := ∀ k, k < 15 → sok1 I S k
/-- a proposition as a number -/
noncomputable def pB (P : Prop) : Nat := @ite _ P (Classical.propDecidable P) 1 0
theorem pB_t {P : Prop} (h : P) : pB P = 1 := if_pos h
theorem pB_f {P : Prop} (h : ¬ P) : pB P = 0 := if_neg h
theorem pB_lt (P : Prop) : pB P < 2 := by
  by_cases h : P
  · rw [pB_t h]; decide
  · rw [pB_f h]; decide
/-- frames are sound: one pair -/
def fpr (I : Nat → Nat → Int32) (j k : Nat) : Prop := I 5 j = -nI 1 ∨ I 5 k = -nI 1 ∨ (I 5 j ≠ I 5 k ∧ I 7 j ≠ I 7 k)
def fok (I : Nat → Nat → Int32) : Prop := ∀ j, j < 4 → ∀ k, k < 4 → j < k → fpr I j k
/-- a frame used -/
def useI (I : Nat → Nat → Int32) (k : Nat) : Nat → Nat → Int32 := u2 (u2 I 8 8 (I 8 8 + nI 1)) 7 k (I 8 8 + nI 1)
def lnN (I : Nat → Nat → Int32) (k : Nat) : Nat := (I 5 k).toBitVec.toNat
def wbI (I : Nat → Nat → Int32) (k : Nat) : Nat → Nat → Int32 := if I 6 k = 0 then I else u2 I 6 k (nI 0)
def wbL (I : Nat → Nat → Int32) (L : Nat → Nat → Int64) (S : Nat → Nat) (k : Nat) : Nat → Nat → Int64 := if I 6 k = 0 then L else wrw S L (lnN I k) (L 3 k) 15
/-- the frame of a line -/
def fof (I : Nat → Nat → Int32) (q : Nat) : Option Nat := fsome (fun k => if I 5 k = nI q then some k else none) 4 0
def fofV (ad : Nat → Nat) : Option Nat → Value
  | some k => .ref (ad (k + 6))
  | none => .null
theorem fof_lt {I : Nat → Nat → Int32} {q k : Nat} (h : fof I q = some k) : k < 4 ∧ I 5 k = nI q := by
  obtain ⟨j, h1, h2, h3⟩ := fs_in 4 0 h
  split at h3
  next e => cases h3; exact ⟨by omega, e⟩
  next => cases h3
def old (I : Nat → Nat → Int32) : Nat → Nat
  | 0 => 0
  | i + 1 => if I 7 (i + 1) < I 7 (old I i) then i + 1 else old I i
theorem old_le (I : Nat → Nat → Int32) (i : Nat) : old I i ≤ i := by
  induction i with
  | zero => exact Nat.le_refl _
  | succ i ih => rw [old]; split <;> omega
theorem old_lt {I : Nat → Nat → Int32} {i : Nat} (h : i < 4) : old I i < 4 := Nat.lt_of_le_of_lt (old_le I i) h
