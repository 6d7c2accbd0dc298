/-! mending: what the class computes is what the sums say -/
theorem nib_xor (x y : Int64) (p : Nat) : nib (x ^^^ y) p = nib x p ^^^ nib y p := by
  apply Nat.eq_of_testBit_eq; intro i
  rw [Nat.testBit_xor, nib_bit, nib_bit, nib_bit, Int64.toBitVec_xor, BitVec.getLsbD_xor]
  cases decide (i < 4) <;> simp
theorem nib_0 (p : Nat) : nib (lN 0) p = 0 := by
  unfold nib
  rw [show (lN 0).toBitVec.toNat = 0 from rfl, Nat.zero_div]
/-- the places of a set -/
def bc (b : Nat) : Nat → Bool := fun i => b.testBit i
def bcx (q b : Nat) : Nat → Bool := fun i => !(i == q) && b.testBit i
theorem cnt_bc (b i : Nat) : cnt (bc b) i = pcn b i := by
  induction i with
  | zero => rfl
  | succ i ih =>
    rw [cnt, pcn, ih]
    unfold bc
    cases b.testBit i
    · rw [if_neg (by decide)]; rfl
    · rw [if_pos rfl]; rfl
theorem cnt_bcx (q b i : Nat) : cnt (bcx q b) i = pcx q b i := by
  induction i with
  | zero => rfl
  | succ i ih =>
    rw [cnt, pcx, ih]
    unfold bcx
    by_cases h : i ≠ q ∧ b.testBit i = true
    · rw [if_pos h, if_pos (by simp [h.1, h.2])]
    · rw [if_neg h, if_neg (by simpa using h)]
theorem cnt_rm {q b : Nat} (h : b.testBit q = true) (i : Nat) : cnt (bcx q b) i + (if q < i then 1 else 0) = cnt (bc b) i := by
  induction i with
  | zero => rfl
  | succ i ih =>
    rw [cnt, cnt]
    by_cases hi : i = q
    · subst hi
      rw [if_neg (show ¬ i < i by omega)] at ih
      rw [if_pos (show i < i + 1 by omega), if_pos (show bc b i = true from h), if_neg (by simp [bcx])]
      omega
    · have e1 : (if q < i + 1 then 1 else 0) = (if q < i then 1 else 0) := by split <;> split <;> omega
      have e2 : bcx q b i = bc b i := by simp [bcx, bc, hi]
      rw [e1, e2]
      split <;> omega
theorem bl_n (q : Nat) (x : Int64) {n : Nat} (hn : n ≤ 15) {k : Nat} (hk : k < 16) : nib (bl q x n) k = if k < n then tp (nib x k) q ^^^ nib x (k + 1) else 0 := by
  induction n with
  | zero => rw [bl, nib_0]; rfl
  | succ n ih =>
    rw [bl, nib_wn (by omega) (xor_lt16 tp_lt (nib_lt _ _)) hk]
    by_cases h : k = n
    · subst h; rw [if_pos rfl, if_pos (by omega)]
    · rw [if_neg h, ih (by omega)]
      by_cases h2 : k < n
      · rw [if_pos h2, if_pos (by omega)]
      · rw [if_neg h2, if_neg (by omega)]
theorem ebl_n {b : Nat} {x : Int64} (hx : ∀ k, k < 16 → 4 ≤ k → nib x k = 0) (i : Nat) {k : Nat} (hk : k < 16) : nib (ebl b x i) k = if k < 4 - cnt (bc b) i then bs (bc b) (nib x) i k else 0 := by
  induction i generalizing k with
  | zero =>
    rw [ebl, cnt]
    by_cases h : k < 4
    · rw [if_pos (by omega)]; rfl
    · rw [if_neg (by omega), hx k hk (by omega)]
  | succ i ih =>
    rw [ebl, cnt]
    by_cases h : b.testBit i = true
    · have hc : bc b i = true := h
      rw [if_pos h, if_pos hc, bl_n _ _ (by omega) hk, ← cnt_bc]
      by_cases h2 : k < 4 - cnt (bc b) i - 1
      · rw [if_pos h2, if_pos (by omega), bs_t hc, ih hk, ih (by omega), if_pos (by omega), if_pos (by omega)]
      · rw [if_neg h2, if_neg (by omega)]
    · have hc : ¬ bc b i = true := h
      rw [if_neg h, if_neg hc, ih hk, bs_f hc]
theorem eal_n {q b : Nat} {x : Int64} (hx : ∀ k, k < 16 → 4 ≤ k → nib x k = 0) (i : Nat) {k : Nat} (hk : k < 16) : nib (eal q b x i) k = if k < 4 - cnt (bcx q b) i then bs (bcx q b) (nib x) i k else 0 := by
  induction i generalizing k with
  | zero =>
    rw [eal, cnt]
    by_cases h : k < 4
    · rw [if_pos (by omega)]; rfl
    · rw [if_neg (by omega), hx k hk (by omega)]
  | succ i ih =>
    rw [eal, cnt]
    by_cases h : i ≠ q ∧ b.testBit i = true
    · have hc : bcx q b i = true := by simp [bcx, h.1, h.2]
      rw [if_pos h, if_pos hc, bl_n _ _ (by omega) hk, ← cnt_bcx]
      by_cases h2 : k < 4 - cnt (bcx q b) i - 1
      · rw [if_pos h2, if_pos (by omega), bs_t hc, ih hk, ih (by omega), if_pos (by omega), if_pos (by omega)]
      · rw [if_neg h2, if_neg (by omega)]
    · have hc : ¬ bcx q b i = true := by simpa [bcx] using h
      rw [if_neg h, if_neg hc, ih hk, bs_f hc]
theorem sm_SY (x : Int64) (k i : Nat) : sm x (k + 1) i = SYi (nib x) k i := by
  induction i with
  | zero => rfl
  | succ i ih => rw [sm, SYi, ih]
theorem sms_n (x : Int64) {j : Nat} (hj : j ≤ 4) {k : Nat} (hk : k < 16) : nib (sms x j) k = if k < j then SY (nib x) k else 0 := by
  induction j with
  | zero => rw [sms, nib_0]; rfl
  | succ j ih =>
    rw [sms, nib_wn (by omega) (sm_lt _ _ _) hk]
    by_cases h : k = j
    · subst h; rw [if_pos rfl, if_pos (by omega), sm_SY]; rfl
    · rw [if_neg h, ih (by omega)]
      by_cases h2 : k < j
      · rw [if_pos h2, if_pos (by omega)]
      · rw [if_neg h2, if_neg (by omega)]
theorem gf14 : ∀ p, p < 15 → tp 1 p = pw p := by decide +kernel
theorem gf15' : ∀ m, m < 15 → ∀ a, a < 16 → ∀ d, d < 16 → tp (gm a d) m = gm a (tp d m) := by decide +kernel
theorem eaf_fac {q b : Nat} (hq : q < 15) (i : Nat) (hi : i ≤ 15) : eaf q b i = tp (fac (bcx q b) q i) q := by
  induction i with
  | zero => rfl
  | succ i ih =>
    rw [eaf, fac]
    by_cases h : i ≠ q ∧ b.testBit i = true
    · rw [if_pos h, if_pos (by simp [bcx, h.1, h.2]), ih (by omega), gf14 _ hq, gf14 _ (by omega), Nat.xor_comm (pw q), gf5 _ (fac_lt _ _ _) (px_lt (by omega) hq)]
    · rw [if_neg h, if_neg (by simpa [bcx] using h), ih (by omega)]
/-- blinded to all but q, what is wrong at q is left -/
theorem bs_only {q b : Nat} (hq : q < 15) {e : Nat → Nat} (he : ∀ q, e q < 16) (hs : ∀ r, r < 15 → e r ≠ 0 → b.testBit r = true) (k : Nat) : bs (bcx q b) (SY e) 15 k = tp (gm (e q) (fac (bcx q b) q 15)) (q * (k + 1)) := by
  rw [bs_SY _ he 15 (Nat.le_refl _)]
  unfold SY
  rw [SYi_cg (f := fun r => if r = q then gm (e q) (fac (bcx q b) q 15) else 0) (fun r hr => by
    by_cases hrq : r = q
    · subst hrq; simp
    · rw [if_neg hrq]
      by_cases hr0 : e r = 0
      · rw [hr0, gm_z]
      · rw [fac_z hr (by simp [bcx, hrq, hs r hr hr0]), gm_z2]), SYi_one (p := q) (fun r hr => by simp [hr]) 15 hq]
  simp only [if_true]
theorem ea_ok {q b : Nat} {z : Int64} {e : Nat → Nat} (hq : q < 15) (hbq : b.testBit q = true) (hb : pcn b 15 ≤ 4) (he : ∀ q, e q < 16) (hs : ∀ r, r < 15 → e r ≠ 0 → b.testBit r = true) (hz : ∀ k, k < 16 → 4 ≤ k → nib z k = 0) (h4 : ∀ k, k < 4 → nib z k = SY e k) : ea q b z = e q := by
  have hc := cnt_rm hbq 15
  rw [if_pos hq, cnt_bc] at hc
  have hF := fac_nz (c := bcx q b) (q := q) (i := 15) (Nat.le_refl _) hq (fun p _ hp hpq => by subst hpq; simp [bcx] at hp)
  rw [ea, eal_n hz 15 (by decide), if_pos (by omega), bs_cg (t := SY e) (N := 4) h4 15 0 (by omega), bs_only hq he hs, eaf_fac hq 15 (Nat.le_refl _)]
  rw [show q * (0 + 1) = q by omega, gf15' _ hq _ (he q) _ (fac_lt _ _ _)]
  exact (gf7 _ (he q) _ tp_lt (fun h => hF (gf13 (fac_lt _ _ _) h))).1
theorem mwl_n {b : Nat} {z x : Int64} (i : Nat) (hi : i ≤ 15) {q : Nat} (hq : q < 16) : nib (mwl b z x i) q = if q < i ∧ b.testBit q = true then nib x q ^^^ ea q b z else nib x q := by
  induction i with
  | zero => rw [mwl, if_neg (fun h => by omega)]
  | succ i ih =>
    rw [mwl]
    by_cases h : b.testBit i = true
    · rw [if_pos h, nib_xor, ih (by omega), nib_wn (by omega) (show ea i b z < 16 from gq_lt) hq, nib_0]
      by_cases hqi : q = i
      · subst hqi; rw [if_neg (fun z => by omega), if_pos rfl, if_pos ⟨by omega, h⟩]
      · rw [if_neg hqi, Nat.xor_zero]
        by_cases h2 : q < i ∧ b.testBit q = true
        · rw [if_pos h2, if_pos ⟨by omega, h2.2⟩]
        · rw [if_neg h2, if_neg (fun z => h2 ⟨by omega, z.2⟩)]
    · rw [if_neg h, ih (by omega)]
      by_cases h2 : q < i ∧ b.testBit q = true
      · rw [if_pos h2, if_pos ⟨by omega, h2.2⟩]
      · have hne : q = i → b.testBit q = true → False := fun e z => h (e ▸ z)
        rw [if_neg h2, if_neg (fun z => h2 ⟨Nat.lt_of_le_of_ne (by omega) (fun e => hne e z.2), z.2⟩)]
theorem mwl_ok {b : Nat} {x : Int64} {e : Nat → Nat} (hb : pcn b 15 ≤ 4) (he : ∀ q, e q < 16) (hs : ∀ r, r < 15 → e r ≠ 0 → b.testBit r = true) (h4 : ∀ k, k < 4 → SY e k = SY (nib x) k) {q : Nat} (hq : q < 15) : nib (mwl b (sms x 4) x 15) q = nib x q ^^^ e q := by
  rw [mwl_n 15 (Nat.le_refl _) (by omega)]
  by_cases h : b.testBit q = true
  · rw [if_pos ⟨hq, h⟩, ea_ok hq h hb he hs (fun k hk h2 => by rw [sms_n x (Nat.le_refl _) hk, if_neg (by omega)]) (fun k hk => by rw [sms_n x (Nat.le_refl _) (by omega), if_pos hk, h4 k hk])]
  · rw [if_neg (fun z => h z.2)]
    by_cases h0 : e q = 0
    · rw [h0, Nat.xor_zero]
    · exact absurd (hs q hq h0) h
theorem mwl_15 {b : Nat} {z x : Int64} : nib (mwl b z x 15) 15 = nib x 15 := by
  rw [mwl_n 15 (Nat.le_refl _) (by decide), if_neg (fun z => by omega)]
/-! the only error -/
theorem oe1' : ∀ P, P < 15 → ∀ a, a < 16 → a ≠ 0 → (ex (tp a (P * 2)) + 15 - ex (tp a (P * 1))) % 15 = P := by decide +kernel
theorem oe_1 {x : Int64} {n P a : Nat} (hn : 2 ≤ n) (hP : P < 15) (ha : a < 16) (h0 : a ≠ 0) (h : ∀ k, k < n → nib x k = tp a (P * (k + 1))) : oe x n = some P := by
  have e0 := h 0 (by omega); have e1 := h 1 (by omega)
  have hp : oeP x = P := by unfold oeP; rw [e0, e1]; exact oe1' P hP a ha h0
  rw [oe, if_neg (by
    rintro (z | z | z)
    · omega
    · rw [e0] at z; exact h0 (gf13 ha z)
    · rw [e1] at z; exact h0 (gf13 ha z)), hp, if_pos (fun k hk => by rw [h k (by omega), h (k + 1) (by omega), gf2 _ _ ha, ← Nat.mul_succ])]
theorem oe_2 {x : Int64} {n P : Nat} (h : oe x n = some P) : 2 ≤ n ∧ P < 15 ∧ ∃ a, a < 16 ∧ ∀ k, k < n → nib x k = tp a (P * (k + 1)) := by
  have hP := oe_lt h
  unfold oe at h
  split at h
  · cases h
  next h1 =>
    split at h
    next h2 =>
      cases h
      refine ⟨by omega, hP, _, tp_lt, geo (t := nib x) (fun k => nib_lt _ _) hP (fun k hk => (h2 k (by omega)).symm)⟩
    · cases h

/-! what a mended word is -/
theorem cnt3 : ∀ p, p < 15 → ∀ q, q < 15 → ∀ t, t < 15 → cnt (fun i => i == p || i == q || i == t) 15 ≤ 3 := by decide +kernel
/-- two places that are wrong don't look like one -/
theorem two_one {f : Nat → Nat} {p q t a N : Nat} (hf : ∀ r, f r < 16) (hp : p < 15) (hq : q < 15) (ht : t < 15) (hpq : p ≠ q) (fp : f p ≠ 0) (fq : f q ≠ 0) (hs : ∀ r, r < 15 → f r ≠ 0 → r = p ∨ r = q) (ha : a < 16) (hN : 3 ≤ N) (h : ∀ k, k < N → SY f k = tp a (t * (k + 1))) : False := by
  have hd : ∀ r, (if r = t then a else 0) < 16 := fun r => by split <;> omega
  have hz := sy_uniq (c := fun i => i == p || i == q || i == t) (e := fun r => f r ^^^ (if r = t then a else 0)) (N := N) (fun r => xor_lt16 (hf r) (hd r)) (fun r hr hn => by
    by_cases h1 : r = t
    · simp [h1]
    · rw [if_neg h1, Nat.xor_zero] at hn
      rcases hs r hr hn with e | e <;> simp [e]) (Nat.le_trans (cnt3 p hp q hq t ht) hN) (fun k hk => by
    unfold SY
    rw [SYi_add hf hd, SYi_one (e := fun r => if r = t then a else 0) (p := t) (fun r hr => by simp [hr]) 15 ht]
    simp only [if_true]
    rw [← h k hk]
    exact Nat.xor_self _)
  by_cases h1 : p = t
  · have := hz q hq
    rw [if_neg (by omega), Nat.xor_zero] at this
    exact fq this
  · have := hz p hp
    rw [if_neg h1, Nat.xor_zero] at this
    exact fp this
/-- sums blinded to c that look like one error at P: from c and P -/
theorem sy_more {c : Nat → Bool} {N P a : Nat} {s : Nat → Nat} (hs : ∀ k, s k < 16) (hP : P < 15) (hc : c P = false) (ha : a < 16) (h : ∀ k, k < N - cnt c 15 → bs c s 15 k = tp a (P * (k + 1))) : ∃ e : Nat → Nat, (∀ q, e q < 16) ∧ (∀ q, e q ≠ 0 → q = P ∨ (q < 15 ∧ c q = true)) ∧ ∀ k, k < N → SY e k = s k := by
  have hF := fac_nz (c := c) (q := P) (i := 15) (Nat.le_refl _) hP (fun p _ hp hpq => by subst hpq; rw [hc] at hp; cases hp)
  have hgq := (gf7 a ha _ (fac_lt c P 15) hF).2
  have hA : gq a (fac c P 15) < 16 := gq_lt
  generalize gq a (fac c P 15) = A at hgq hA
  have hd : ∀ q, (if q = P then A else 0) < 16 := fun q => by split <;> omega
  have hbd : ∀ k, bs c (SY (fun q => if q = P then A else 0)) 15 k = tp a (P * (k + 1)) := by
    intro k
    rw [bs_SY c hd 15 (Nat.le_refl _)]
    unfold SY
    rw [SYi_one (p := P) (fun q hq => by simp [hq, gm_z]) 15 hP]
    simp only [if_true]
    rw [hgq]
  obtain ⟨e, e1, e2, e3⟩ := sy_some (c := c) (N := N) 15 (Nat.le_refl _) (s := fun k => s k ^^^ SY (fun q => if q = P then A else 0) k) (fun k => xor_lt16 (hs k) (SYi_lt _ _ _)) (fun k hk => by
    rw [bs_add c (t := SY (fun q => if q = P then A else 0)) hs (fun k => SYi_lt _ _ _), hbd, h k hk, Nat.xor_self])
  refine ⟨fun q => e q ^^^ (if q = P then A else 0), fun q => xor_lt16 (e1 q) (hd q), fun q hq => ?_, fun k hk => ?_⟩
  · by_cases hqi : q = P
    · exact Or.inl hqi
    · dsimp only at hq; rw [if_neg hqi, Nat.xor_zero] at hq
      exact Or.inr (e2 q hq)
  · unfold SY
    rw [SYi_add e1 hd]
    show SY e k ^^^ SY _ k = s k
    rw [e3 k hk, xxs]
theorem bs_sing {i : Nat} (hi : i < 15) (s : Nat → Nat) (k : Nat) : bs (fun j => j == i) s 15 k = tp (s k) i ^^^ s (k + 1) := by
  have h : ∀ n, (∀ k, bs (fun j => j == i) s n k = if i < n then tp (s k) i ^^^ s (k + 1) else s k) := by
    intro n
    induction n with
    | zero => intro k; rfl
    | succ n ih =>
      intro k
      by_cases e : n = i
      · subst e
        rw [bs_t (by simp), ih, ih, if_neg (by omega), if_neg (by omega), if_pos (by omega)]
      · rw [bs_f (by simp [e]), ih]
        by_cases h2 : i < n
        · rw [if_pos h2, if_pos (by omega)]
        · rw [if_neg h2, if_neg (by omega)]
  rw [h, if_pos hi]
theorem cnt_sing : ∀ i, i < 15 → cnt (fun j => j == i) 15 = 1 := by decide +kernel
theorem pcn_ort (a b i : Nat) : pcn (a ||| b) i ≤ pcn a i + pcn b i := by
  induction i with
  | zero => exact Nat.le_refl _
  | succ i ih =>
    rw [pcn, pcn, pcn, Nat.testBit_or]
    cases a.testBit i <;> cases b.testBit i <;> simp [bN] <;> omega
theorem pcn_p : ∀ p, p < 15 → pcn (2 ^ p) 15 = 1 := by decide +kernel
theorem tb_p {p q : Nat} : (2 ^ p).testBit q = true ↔ p = q := by rw [Nat.testBit_two_pow]; simp
theorem pcn_0 {b i : Nat} (h : pcn b 15 = 0) (hi : i < 15) : b.testBit i = false := by
  have := pcn_mono b (show i + 1 ≤ 15 by omega)
  rw [pcn] at this
  cases hb : b.testBit i
  · rfl
  · rw [hb] at this; simp [bN] at this; omega
/-- a word of the code -/
def cw (y : Int64) : Prop := ∀ k, k < 4 → SY (nib y) k = 0
/-- wrong in this set at most -/
def sub_ (b : Nat) (x y : Int64) : Prop := ∀ q, q < 15 → nib x q ≠ nib y q → b.testBit q = true
/-- y is the word that x is mended to, b erased -/
def Adm (b : Nat) (x y : Int64) : Prop := cw y ∧ nib y 15 = nib x 15 ∧ ((pcn b 15 ≤ 4 ∧ sub_ b x y) ∨ (∃ p, p < 15 ∧ pcn b 15 + 2 ≤ 4 ∧ sub_ (b ||| 2 ^ p) x y) ∨ ∃ p q, q < p ∧ p < 15 ∧ pcn b 15 = 0 ∧ sub_ (2 ^ p ||| 2 ^ q) x y)
