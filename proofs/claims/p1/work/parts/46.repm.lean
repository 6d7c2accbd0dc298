/-! replacing: the reference's way is the class's; words with a symbol told anew -/
theorem wn_wn {x : Int64} {p v w : Nat} (hp : p < 16) (hv : v < 16) (hw : w < 16) : wn (wn x p v) p w = wn x p w := by
  apply nib_ext
  intro j hj
  rw [nib_wn hp hw hj, nib_wn hp hw hj, nib_wn hp hv hj]
  split <;> rfl
theorem wn_z {x : Int64} {p : Nat} (hp : p < 16) (h : nib x p = 0) : wn x p 0 = x := by
  apply nib_ext
  intro j hj
  rw [nib_wn hp (by decide) hj]
  split
  next e => rw [e, h]
  next => rfl
theorem wn_15 {x : Int64} {p v : Nat} (hp : p < 15) (hv : v < 16) (h : nib x 15 = 0) : nib (wn x p v) 15 = 0 := by
  rw [nib_wn (by omega) hv (by decide), if_neg (by omega), h]
/-- which chips are spares: from n on -/
def SPI (I : Nat → Nat → Int32) (n : Nat) : Prop := I 8 5 = nI n ∧ 15 ≤ n ∧ n ≤ 18 ∧ (∀ c, c < 18 → ((I 0 c = -nI 1 ∧ I 4 c = 0) ↔ n ≤ c)) ∧ ∀ c, n ≤ c → c < 18 → I 2 c = 0 ∧ I 3 c = 0
section SP
variable {I : Nat → Nat → Int32} {L : Nat → Nat → Int64} {S : Nat → Nat} {n q c b : Nat} {v : Int32}
theorem spn_i (h : SPI I n) (i : Nat) (hi : i ≤ 18) : spn I i = i - n := by
  induction i with
  | zero => rw [spn]; omega
  | succ i ih =>
    rw [spn, ih (by omega)]
    by_cases e : n ≤ i
    · rw [if_pos ((h.2.2.2.1 i (by omega)).mpr e)]; omega
    · rw [if_neg (fun z => e ((h.2.2.2.1 i (by omega)).mp z))]; omega
theorem spn_n (h : SPI I n) : spn I 18 = 18 - n := spn_i h 18 (Nat.le_refl _)
theorem sp_bank (h : SPI I n) : nI (spn I 18) = nI 18 - I 8 5 := by rw [spn_n h, h.1, pk_sub h.2.2.1]
theorem sp_at (h : SPI I n) (hn : n < 18) : I 0 n = -nI 1 ∧ I 4 n = 0 := (h.2.2.2.1 n hn).mpr (Nat.le_refl _)
theorem sp_no (h : SPI I n) (hc : c < n) : ¬ (I 0 c = -nI 1 ∧ I 4 c = 0) := fun z => by
  have := (h.2.2.2.1 c (by have := h.2.2.1; omega)).mp z
  omega
theorem ffb_8 {j : Nat} : ffb (u2 I 8 j v) S q = ffb I S q := by unfold ffb; rw [ers_8]
theorem ffl_8 {j : Nat} (i : Nat) : ffl (u2 I 8 j v) L S q c b i = ffl I L S q c b i := by
  induction i with
  | zero => rfl
  | succ i ih =>
    have e : ffw (u2 I 8 j v) (ffl I L S q c b i) S b i = ffw I (ffl I L S q c b i) S b i := by unfold ffw; rw [rwd_8]
    show u2 (ffl (u2 I 8 j v) L S q c b i) 0 c (wn (ffl (u2 I 8 j v) L S q c b i 0 c) i (nib (ffw (u2 I 8 j v) (ffl (u2 I 8 j v) L S q c b i) S b i) q)) = u2 (ffl I L S q c b i) 0 c (wn (ffl I L S q c b i 0 c) i (nib (ffw I (ffl I L S q c b i) S b i) q))
    rw [ih, e]
theorem ffl_s (i : Nat) : ffl I L S q c b (i + 1) = u2 (ffl I L S q c b i) 0 c (wn (ffl I L S q c b i 0 c) i (nib (ffw I (ffl I L S q c b i) S b i) q)) := rfl
/-- what is told of the chips when one is replaced -/
def rpI (I : Nat → Nat → Int32) (S : Nat → Nat) (q n : Nat) : Nat → Nat → Int32 := u2 (u2 (u2 (u2 I 8 5 (nI (n + 1))) 0 (S q) (-nI 1)) 4 (S q) (nI 1)) 0 n (nI q)
theorem rp_85 : rpI I S q n = u2 (u2 (u2 (u2 I 0 (S q) (-nI 1)) 4 (S q) (nI 1)) 0 n (nI q)) 8 5 (nI (n + 1)) := by
  unfold rpI
  rw [u2_cc (f := I) (a := 8) (c := 0) (by decide), u2_cc (a := 8) (c := 4) (by decide), u2_cc (a := 8) (c := 0) (by decide)]
theorem rp_23 (h : SPI I n) (hn : n < 18) : u2 (u2 (u2 (u2 (u2 I 0 (S q) (-nI 1)) 4 (S q) (nI 1)) 0 n (nI q)) 3 n (nI 0)) 2 n (nI 0) = u2 (u2 (u2 I 0 (S q) (-nI 1)) 4 (S q) (nI 1)) 0 n (nI q) := by
  have hz := h.2.2.2.2 n (Nat.le_refl _) hn
  rw [u2_id (f := u2 (u2 (u2 I 0 (S q) (-nI 1)) 4 (S q) (nI 1)) 0 n (nI q)) (a := 3) (by rw [u2_n (by decide), u2_n (by decide), u2_n (by decide), hz.2]; rfl)]
  exact u2_id (by rw [u2_n (by decide), u2_n (by decide), u2_n (by decide), hz.1]; rfl)
theorem rp_w {ad : Nat → Nat} {g : Nat → ClassId} {Z : Nat → Nat → Int32} {Y : Int64} {M : Nat → Nat → Int64} {T : Nat → Nat} (h : SPI I n) (hn : n < 18) : WM ad g (rpI I S q n) M T Z Y = WM ad g (u2 (u2 (u2 (u2 (u2 I 0 (S q) (-nI 1)) 4 (S q) (nI 1)) 0 n (nI q)) 3 n (nI 0)) 2 n (nI 0)) M T Z Y := by
  rw [rp_23 h hn, rp_85, wm_85]
end SP
