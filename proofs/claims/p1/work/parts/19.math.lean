/-! mending: what the sums know of the errors -/
theorem tp_mod (a n : Nat) : tp a (n % 15) = tp a n := by unfold tp; rw [Nat.mod_mod]
theorem tp_z (n : Nat) : tp 0 n = 0 := by unfold tp; rw [if_pos rfl]
theorem gf1' : ∀ n, n < 15 → ∀ a, a < 16 → ∀ b, b < 16 → tp (a ^^^ b) n = tp a n ^^^ tp b n := by decide +kernel
theorem gf1 {a b : Nat} (n : Nat) (ha : a < 16) (hb : b < 16) : tp (a ^^^ b) n = tp a n ^^^ tp b n := by
  rw [← tp_mod (a ^^^ b), ← tp_mod a, ← tp_mod b, gf1' _ (Nat.mod_lt _ (by decide)) _ ha _ hb]
theorem gf2' : ∀ m, m < 15 → ∀ n, n < 15 → ∀ a, a < 16 → tp (tp a m) n = tp a (m + n) := by decide +kernel
theorem gf2 {a : Nat} (m n : Nat) (ha : a < 16) : tp (tp a m) n = tp a (m + n) := by
  rw [← tp_mod a m, ← tp_mod _ n, gf2' _ (Nat.mod_lt _ (by decide)) _ (Nat.mod_lt _ (by decide)) _ ha, ← tp_mod a (m % 15 + n % 15), ← Nat.add_mod, tp_mod]
theorem gf4 : ∀ c, c < 16 → ∀ p, p < 15 → ∀ q, q < 15 → tp c p ^^^ tp c q = gm c (pw p ^^^ pw q) := by decide +kernel
theorem gf5' : ∀ m, m < 15 → ∀ a, a < 16 → ∀ d, d < 16 → gm (tp a m) d = tp (gm a d) m := by decide +kernel
theorem gf5 {a d : Nat} (m : Nat) (ha : a < 16) (hd : d < 16) : gm (tp a m) d = tp (gm a d) m := by
  rw [← tp_mod a m, ← tp_mod _ m, gf5' _ (Nat.mod_lt _ (by decide)) _ ha _ hd]
theorem gf6 : ∀ a, a < 16 → ∀ d, d < 16 → gm a d = 0 → a = 0 ∨ d = 0 := by decide +kernel
theorem gf7 : ∀ a, a < 16 → ∀ d, d < 16 → d ≠ 0 → gq (gm a d) d = a ∧ gm (gq a d) d = a := by decide +kernel
theorem gf8 : ∀ a, a < 16 → ∀ b, b < 16 → ∀ d, d < 16 → gm (a ^^^ b) d = gm a d ^^^ gm b d := by decide +kernel
theorem gf9 : ∀ p, p < 15 → ∀ q, q < 15 → pw p ^^^ pw q = 0 → p = q := by decide +kernel
theorem gf10 : ∀ a, a < 16 → ∀ b, b < 16 → ∀ d, d < 16 → gm (gm a b) d = gm a (gm b d) := by decide +kernel
theorem gf11 : ∀ a, a < 16 → gm a 1 = a := by decide +kernel
theorem gf12 : ∀ a, a < 16 → tp a 15 = a := by decide +kernel
theorem gf13' : ∀ n, n < 15 → ∀ a, a < 16 → tp a n = 0 → a = 0 := by decide +kernel
theorem gf13 {a n : Nat} (ha : a < 16) (h : tp a n = 0) : a = 0 := gf13' (n % 15) (Nat.mod_lt _ (by decide)) a ha (by rw [tp_mod]; exact h)
theorem gm_z (d : Nat) : gm 0 d = 0 := by
  unfold gm; split
  · rfl
  · exact tp_z _
theorem gm_z2 (a : Nat) : gm a 0 = 0 := by unfold gm; rw [if_pos rfl]
theorem pw_lt15 {p : Nat} (h : p < 15) : pw p < 16 := pw_lt p h
theorem px_lt {p q : Nat} (hp : p < 15) (hq : q < 15) : pw p ^^^ pw q < 16 := xor_lt16 (pw_lt p hp) (pw_lt q hq)
theorem xx4 (a b c d : Nat) : (a ^^^ b) ^^^ (c ^^^ d) = (a ^^^ c) ^^^ (b ^^^ d) := by
  apply Nat.eq_of_testBit_eq; intro i
  simp only [Nat.testBit_xor]
  cases a.testBit i <;> cases b.testBit i <;> cases c.testBit i <;> cases d.testBit i <;> rfl
theorem xx0 {a b : Nat} (h : a ^^^ b = 0) : a = b := by
  apply Nat.eq_of_testBit_eq; intro i
  have := congrArg (fun n => Nat.testBit n i) h
  simp only [Nat.testBit_xor, Nat.zero_testBit] at this
  cases ha : a.testBit i <;> cases hb : b.testBit i <;> rw [ha, hb] at this <;> first | rfl | cases this
theorem xxs (a b : Nat) : (a ^^^ b) ^^^ b = a := by rw [Nat.xor_assoc, Nat.xor_self, Nat.xor_zero]
/-- the sum k + 1 of what is wrong, e, at the first places -/
def SYi (e : Nat → Nat) (k : Nat) : Nat → Nat
  | 0 => 0
  | q + 1 => SYi e k q ^^^ tp (e q) (q * (k + 1))
def SY (e : Nat → Nat) (k : Nat) : Nat := SYi e k 15
theorem SYi_lt (e : Nat → Nat) (k i : Nat) : SYi e k i < 16 := by
  induction i with
  | zero => exact Nat.zero_lt_succ _
  | succ i ih => exact xor_lt16 ih tp_lt
theorem SYi_cg {e f : Nat → Nat} {k i : Nat} (h : ∀ q, q < i → e q = f q) : SYi e k i = SYi f k i := by
  induction i with
  | zero => rfl
  | succ i ih => rw [SYi, SYi, ih (fun q hq => h q (by omega)), h i (by omega)]
theorem SYi_add {e f : Nat → Nat} {k : Nat} (he : ∀ q, e q < 16) (hf : ∀ q, f q < 16) (i : Nat) : SYi (fun q => e q ^^^ f q) k i = SYi e k i ^^^ SYi f k i := by
  induction i with
  | zero => simp [SYi]
  | succ i ih => rw [SYi, SYi, SYi, ih, gf1 _ (he i) (hf i), xx4]
theorem SYi_z {k : Nat} (i : Nat) {e : Nat → Nat} (h : ∀ q, q < i → e q = 0) : SYi e k i = 0 := by
  induction i with
  | zero => rfl
  | succ i ih => rw [SYi, ih (fun q hq => h q (by omega)), h i (by omega), tp_z]; rfl
theorem SYi_one {k p : Nat} {e : Nat → Nat} (h : ∀ q, q ≠ p → e q = 0) (i : Nat) (hp : p < i) : SYi e k i = tp (e p) (p * (k + 1)) := by
  induction i with
  | zero => omega
  | succ i ih =>
    rw [SYi]
    by_cases hi : p = i
    · subst hi; rw [SYi_z p (fun q hq => h q (by omega)), Nat.zero_xor]
    · rw [ih (by omega), h i (fun q => hi q.symm), tp_z, Nat.xor_zero]
/-- sums blinded to the places of c below i -/
def bs (c : Nat → Bool) (s : Nat → Nat) : Nat → Nat → Nat
  | 0 => s
  | i + 1 => if c i = true then fun k => tp (bs c s i k) i ^^^ bs c s i (k + 1) else bs c s i
theorem bs_t {c : Nat → Bool} {s : Nat → Nat} {i : Nat} (h : c i = true) (k : Nat) : bs c s (i + 1) k = tp (bs c s i k) i ^^^ bs c s i (k + 1) := by rw [bs, if_pos h]
theorem bs_f {c : Nat → Bool} {s : Nat → Nat} {i : Nat} (h : ¬ c i = true) (k : Nat) : bs c s (i + 1) k = bs c s i k := by rw [bs, if_neg h]
def cnt (c : Nat → Bool) : Nat → Nat
  | 0 => 0
  | i + 1 => if c i = true then cnt c i + 1 else cnt c i
def fac (c : Nat → Bool) (q : Nat) : Nat → Nat
  | 0 => 1
  | i + 1 => if c i = true then gm (fac c q i) (pw i ^^^ pw q) else fac c q i
theorem fac_lt (c : Nat → Bool) (q i : Nat) : fac c q i < 16 := by
  induction i with
  | zero => show 1 < 16; decide
  | succ i ih => rw [fac]; split
                 · exact gm_lt
                 · exact ih
theorem fac_nz {c : Nat → Bool} {q i : Nat} (hi : i ≤ 15) (hq : q < 15) (h : ∀ p, p < i → c p = true → p ≠ q) : fac c q i ≠ 0 := by
  induction i with
  | zero => exact Nat.one_ne_zero
  | succ i ih =>
    rw [fac]; split
    next hc =>
      intro hz
      rcases gf6 _ (fac_lt c q i) _ (px_lt (by omega) hq) hz with z | z
      · exact ih (by omega) (fun p hp => h p (by omega)) z
      · exact h i (by omega) hc (gf9 i (by omega) q hq z)
    next => exact ih (by omega) (fun p hp => h p (by omega))
theorem fac_z {c : Nat → Bool} {q i : Nat} (hq : q < i) (hc : c q = true) : fac c q i = 0 := by
  induction i with
  | zero => omega
  | succ i ih =>
    rw [fac]
    by_cases e : q = i
    · subst e; rw [if_pos hc, Nat.xor_self, gm_z2]
    · rw [ih (by omega)]; split
      · exact gm_z _
      · rfl
theorem bs_lt {c : Nat → Bool} {s : Nat → Nat} (hs : ∀ k, s k < 16) (i k : Nat) : bs c s i k < 16 := by
  induction i generalizing k with
  | zero => exact hs k
  | succ i ih => rw [bs]; split
                 · exact xor_lt16 tp_lt (ih _)
                 · exact ih k
theorem SY_bl {f : Nat → Nat} (hf : ∀ q, f q < 16) {p : Nat} (hp : p < 15) (k : Nat) (i : Nat) (hi : i ≤ 15) : tp (SYi f k i) p ^^^ SYi f (k + 1) i = SYi (fun q => gm (f q) (pw p ^^^ pw q)) k i := by
  induction i with
  | zero => rw [SYi, SYi, SYi, tp_z]; rfl
  | succ i ih =>
    rw [SYi, SYi, SYi, gf1 _ (SYi_lt _ _ _) tp_lt, xx4, ih (by omega)]
    congr 1
    rw [show i * (k + 1 + 1) = i * (k + 1) + i by rw [Nat.mul_succ i (k + 1)], ← gf2 _ _ (hf i), gf4 _ tp_lt _ hp _ (by omega), gf5 _ (hf i) (px_lt hp (by omega))]
theorem bs_SY (c : Nat → Bool) {f : Nat → Nat} (hf : ∀ q, f q < 16) (i : Nat) (hi : i ≤ 15) (k : Nat) : bs c (SY f) i k = SY (fun q => gm (f q) (fac c q i)) k := by
  induction i generalizing k with
  | zero =>
    rw [bs]; exact SYi_cg (fun q hq => (gf11 _ (hf q)).symm)
  | succ i ih =>
    by_cases hc : c i = true
    · rw [bs_t hc, ih (by omega), ih (by omega)]
      unfold SY
      rw [SY_bl (fun q => gm_lt) (by omega) k 15 (Nat.le_refl _)]
      refine SYi_cg (fun q hq => ?_)
      rw [fac, if_pos hc, gf10 _ (hf q) _ (fac_lt _ _ _) _ (px_lt (by omega) hq)]
    · rw [bs_f hc, ih (by omega)]
      refine SYi_cg (fun q hq => ?_)
      rw [fac, if_neg hc]
theorem bs_add (c : Nat → Bool) {s t : Nat → Nat} (hs : ∀ k, s k < 16) (ht : ∀ k, t k < 16) (i k : Nat) : bs c (fun k => s k ^^^ t k) i k = bs c s i k ^^^ bs c t i k := by
  induction i generalizing k with
  | zero => rfl
  | succ i ih =>
    by_cases hc : c i = true
    · rw [bs_t hc, bs_t hc, bs_t hc, ih, ih, gf1 _ (bs_lt hs _ _) (bs_lt ht _ _), xx4]
    · rw [bs_f hc, bs_f hc, bs_f hc]; exact ih k
theorem bs_cg {c : Nat → Bool} {s t : Nat → Nat} {N : Nat} (h : ∀ k, k < N → s k = t k) (i k : Nat) (hk : k < N - cnt c i) : bs c s i k = bs c t i k := by
  induction i generalizing k with
  | zero => exact h k hk
  | succ i ih =>
    rw [cnt] at hk
    by_cases hc : c i = true
    · rw [if_pos hc] at hk; rw [bs_t hc, bs_t hc, ih k (by omega), ih (k + 1) (by omega)]
    · rw [if_neg hc] at hk; rw [bs_f hc, bs_f hc]; exact ih k hk
theorem bs_zero {c : Nat → Bool} (i k : Nat) : bs c (fun _ => 0) i k = 0 := by
  induction i generalizing k with
  | zero => rfl
  | succ i ih =>
    by_cases hc : c i = true
    · rw [bs_t hc, ih, ih, tp_z]; rfl
    · rw [bs_f hc]; exact ih k
/-- what is wrong at few places is known by the sums -/
theorem sy_uniq {c : Nat → Bool} {e : Nat → Nat} {N : Nat} (he : ∀ q, e q < 16) (hc : ∀ q, q < 15 → e q ≠ 0 → c q = true) (hN : cnt c 15 ≤ N) (h : ∀ k, k < N → SY e k = 0) : ∀ q, q < 15 → e q = 0 := by
  intro q hq
  by_cases hz : e q = 0
  · exact hz
  exfalso
  have hcq := hc q hq hz
  have hcnt : ∀ i, cnt (fun i => !(i == q) && c i) i + (if q < i then 1 else 0) = cnt c i := by
    intro i
    induction i with
    | zero => rfl
    | succ i ih =>
      rw [cnt, cnt]
      by_cases hi : i = q
      · subst hi
        rw [if_neg (show ¬ i < i by omega)] at ih
        simp [hcq, ih]
        rw [← ih]; simp
      · have e1 : (if q < i + 1 then 1 else 0) = (if q < i then 1 else 0) := by split <;> split <;> omega
        have e2 : (!(i == q)) = true := by simp [hi]
        rw [e1]
        simp only [e2, Bool.true_and]
        split <;> omega
  have h15 := hcnt 15
  rw [if_pos hq] at h15
  have h0 : bs (fun i => !(i == q) && c i) (SY e) 15 0 = 0 := by
    rw [bs_cg (t := fun _ => 0) (N := N) h 15 0 (by omega), bs_zero]
  rw [bs_SY _ he 15 (Nat.le_refl _)] at h0
  unfold SY at h0
  rw [SYi_cg (f := fun r => if r = q then gm (e q) (fac (fun i => !(i == q) && c i) q 15) else 0) (fun r hr => by
    by_cases hrq : r = q
    · subst hrq; simp
    · rw [if_neg hrq]
      by_cases hr0 : e r = 0
      · rw [hr0, gm_z]
      · rw [fac_z hr (by simp [hrq, hc r hr hr0]), gm_z2]), SYi_one (p := q) (fun r hr => by simp [hr]) 15 hq] at h0
  simp only [if_true] at h0
  have h1 := gf13 gm_lt h0
  rcases gf6 _ (he q) _ (fac_lt _ _ _) h1 with z | z
  · exact hz z
  · exact fac_nz (Nat.le_refl _) hq (fun p _ hp hpq => by subst hpq; simp at hp) z
theorem geo {t : Nat → Nat} {i N : Nat} (ht : ∀ k, t k < 16) (hi : i < 15) (h : ∀ k, k + 1 < N → t (k + 1) = tp (t k) i) : ∀ k, k < N → t k = tp (tp (t 0) (15 - i)) (i * (k + 1)) := by
  intro k
  induction k with
  | zero => intro _; rw [gf2 _ _ (ht 0), show 15 - i + i * (0 + 1) = 15 by omega, gf12 _ (ht 0)]
  | succ k ih => intro hk; rw [h k hk, ih (by omega), gf2 _ _ tp_lt, ← Nat.mul_succ]
/-- sums that are blinded to nothing come from what is wrong at those places -/
theorem sy_some {c : Nat → Bool} {N : Nat} (i : Nat) (hi : i ≤ 15) {s : Nat → Nat} (hs : ∀ k, s k < 16) (h : ∀ k, k < N - cnt c i → bs c s i k = 0) : ∃ e : Nat → Nat, (∀ q, e q < 16) ∧ (∀ q, e q ≠ 0 → q < i ∧ c q = true) ∧ ∀ k, k < N → SY e k = s k := by
  induction i generalizing s with
  | zero => exact ⟨fun _ => 0, fun _ => Nat.zero_lt_succ _, fun q hq => absurd rfl hq, fun k hk => by rw [SY, SYi_z 15 (fun _ _ => rfl)]; exact (h k hk).symm⟩
  | succ i ih =>
    by_cases hc : c i = true
    · have hcn : cnt c (i + 1) = cnt c i + 1 := by rw [cnt, if_pos hc]
      rw [hcn] at h
      have hg := geo (t := bs c s i) (i := i) (N := N - cnt c i) (bs_lt hs i) (by omega) (fun k hk => by
        have h1 := h k (by omega)
        rw [bs_t hc] at h1
        exact (xx0 h1).symm)
      have hF := fac_nz (c := c) (q := i) (i := i) (by omega) (by omega) (fun p hp _ => by omega)
      have hgq := (gf7 (tp (bs c s i 0) (15 - i)) tp_lt _ (fac_lt c i i) hF).2
      have hA : gq (tp (bs c s i 0) (15 - i)) (fac c i i) < 16 := gq_lt
      generalize gq (tp (bs c s i 0) (15 - i)) (fac c i i) = A at hgq hA
      have hd : ∀ q, (if q = i then A else 0) < 16 := fun q => by split <;> omega
      have hbd : ∀ k, bs c (SY (fun q => if q = i then A else 0)) i k = tp (tp (bs c s i 0) (15 - i)) (i * (k + 1)) := by
        intro k
        rw [bs_SY c hd i (by omega)]
        unfold SY
        rw [SYi_one (p := i) (fun q hq => by simp [hq, gm_z]) 15 (by omega)]
        simp only [if_true]
        rw [hgq]
      obtain ⟨e, e1, e2, e3⟩ := ih (by omega) (s := fun k => s k ^^^ SY (fun q => if q = i then A else 0) k) (fun k => xor_lt16 (hs k) (SYi_lt _ _ _)) (fun k hk => by
        rw [bs_add c (t := SY (fun q => if q = i then A else 0)) hs (fun k => SYi_lt _ _ _), hbd, ← hg k hk, Nat.xor_self])
      refine ⟨fun q => e q ^^^ (if q = i then A else 0), fun q => xor_lt16 (e1 q) (hd q), fun q hq => ?_, fun k hk => ?_⟩
      · by_cases hqi : q = i
        · subst hqi; exact ⟨by omega, hc⟩
        · dsimp only at hq; rw [if_neg hqi, Nat.xor_zero] at hq
          have := e2 q hq
          exact ⟨by omega, this.2⟩
      · unfold SY
        rw [SYi_add e1 hd]
        show SY e k ^^^ SY _ k = s k
        rw [e3 k hk, xxs]
    · obtain ⟨e, e1, e2, e3⟩ := ih (by omega) hs (fun k hk => by
        have h1 := h k (by rw [cnt, if_neg hc]; exact hk)
        rw [bs_f hc] at h1
        exact h1)
      exact ⟨e, e1, fun q hq => ⟨by have := (e2 q hq).1; omega, (e2 q hq).2⟩, e3⟩
