/-! four sums solved: rows of five numbers -/
theorem gq1 : ∀ a, a < 16 → ∀ b, b < 16 → ∀ d, d < 16 → gq (a ^^^ b) d = gq a d ^^^ gq b d := by decide +kernel
theorem gq2 : ∀ y, y < 16 → ∀ a, a < 16 → ∀ d, d < 16 → gm y (gq a d) = gq (gm y a) d := by decide +kernel
theorem gq3 : ∀ a, a < 16 → ∀ d, d < 16 → d ≠ 0 → gq a d = 0 → a = 0 := by decide +kernel
theorem gq4 : ∀ d, d < 16 → d ≠ 0 → gq d d = 1 := by decide +kernel
theorem gq_z (d : Nat) : gq 0 d = 0 := by
  unfold gq; split
  · rfl
  · exact tp_z _
theorem gm1 : ∀ a, a < 16 → gm 1 a = a := by decide +kernel
theorem gm8 : ∀ y, y < 16 → ∀ a, a < 16 → ∀ b, b < 16 → gm y (a ^^^ b) = gm y a ^^^ gm y b := by decide +kernel
theorem gm9 : ∀ y, y < 16 → ∀ t, t < 16 → ∀ a, a < 16 → gm y (gm t a) = gm t (gm y a) := by decide +kernel
/-- a row with weights -/
def rs (y r : Nat → Nat) : Nat → Nat
  | 0 => 0
  | c + 1 => rs y r c ^^^ gm (y c) (r c)
theorem rs_lt (y r : Nat → Nat) (n : Nat) : rs y r n < 16 := by
  induction n with
  | zero => exact Nat.zero_lt_succ _
  | succ n ih => exact xor_lt16 ih gm_lt
theorem rs_cg {y z r s : Nat → Nat} {n : Nat} (h : ∀ c, c < n → gm (y c) (r c) = gm (z c) (s c)) : rs y r n = rs z s n := by
  induction n with
  | zero => rfl
  | succ n ih => rw [rs, rs, ih (fun c hc => h c (by omega)), h n (by omega)]
theorem rs_z {y r : Nat → Nat} {n : Nat} (h : ∀ c, c < n → gm (y c) (r c) = 0) : rs y r n = 0 := by
  induction n with
  | zero => rfl
  | succ n ih => rw [rs, ih (fun c hc => h c (by omega)), h n (by omega)]; rfl
theorem rs_q {y r : Nat → Nat} {d : Nat} (hy : ∀ c, y c < 16) (hr : ∀ c, r c < 16) (hd : d < 16) (n : Nat) : rs y (fun c => gq (r c) d) n = gq (rs y r n) d := by
  induction n with
  | zero => exact (gq_z d).symm
  | succ n ih => rw [rs, rs, ih, gq1 _ (rs_lt _ _ _) _ gm_lt _ hd, gq2 _ (hy n) _ (hr n) _ hd]
theorem rs_a {y r s : Nat → Nat} {t : Nat} (hy : ∀ c, y c < 16) (hr : ∀ c, r c < 16) (hs : ∀ c, s c < 16) (ht : t < 16) (n : Nat) : rs y (fun c => r c ^^^ gm t (s c)) n = rs y r n ^^^ gm t (rs y s n) := by
  induction n with
  | zero => rw [rs, rs, rs, gm_z2]; rfl
  | succ n ih =>
    rw [rs, rs, rs, ih, gm8 _ (hy n) _ (hr n) _ gm_lt, gm9 _ (hy n) _ ht _ (hs n), gm8 _ ht _ (rs_lt _ _ _) _ gm_lt, xx4]
/-- row j of the twenty -/
def rw_ (R : Nat → Nat) (j : Nat) : Nat → Nat := fun c => R (j * 5 + c)
/-- weights of columns that make nothing -/
def Ker (R y : Nat → Nat) : Prop := ∀ j, j < 4 → rs y (rw_ R j) 5 = 0
def R16 (R : Nat → Nat) : Prop := ∀ j, R j < 16
/-- rows k and r exchanged -/
def gSw (R : Nat → Nat) (k r : Nat) : Nat → Nat := fun i => if i / 5 = k then R (r * 5 + i % 5) else if i / 5 = r then R (k * 5 + i % 5) else R i
/-- row k divided -/
def gSc (R : Nat → Nat) (k d : Nat) : Nat → Nat := fun i => if i / 5 = k then gq (R i) d else R i
/-- row k times t added to row o -/
def gAd (R : Nat → Nat) (k o t : Nat) : Nat → Nat := fun i => if i / 5 = o then R i ^^^ gm t (R (k * 5 + i % 5)) else R i
theorem Ker_cg {R R' y : Nat → Nat} (h : ∀ j c, j < 4 → c < 5 → R' (j * 5 + c) = R (j * 5 + c)) : Ker R' y ↔ Ker R y := by
  have e : ∀ j, j < 4 → rs y (rw_ R' j) 5 = rs y (rw_ R j) 5 := fun j hj => rs_cg (fun c hc => by unfold rw_; rw [h j c hj hc])
  exact ⟨fun k j hj => by rw [← e j hj]; exact k j hj, fun k j hj => by rw [e j hj]; exact k j hj⟩
theorem d5 {j c : Nat} (hc : c < 5) : (j * 5 + c) / 5 = j ∧ (j * 5 + c) % 5 = c := by omega
theorem Ker_sw {R y : Nat → Nat} {k r : Nat} (hk : k < 4) (hr : r < 4) : Ker (gSw R k r) y ↔ Ker R y := by
  have e : ∀ j, rs y (rw_ (gSw R k r) j) 5 = rs y (rw_ R (if j = k then r else if j = r then k else j)) 5 := fun j => rs_cg (fun c hc => by
    unfold rw_ gSw
    rw [(d5 hc).1, (d5 hc).2]
    by_cases h1 : j = k
    · rw [if_pos h1, if_pos h1]
    · rw [if_neg h1, if_neg h1]
      by_cases h2 : j = r
      · rw [if_pos h2, if_pos h2]
      · rw [if_neg h2, if_neg h2])
  constructor
  · intro h j hj
    have h1 := h (if j = k then r else if j = r then k else j) (by split; exact hr; split; exact hk; exact hj)
    rw [e] at h1
    have e2 : (if (if j = k then r else if j = r then k else j) = k then r else if (if j = k then r else if j = r then k else j) = r then k else (if j = k then r else if j = r then k else j)) = j := by
      by_cases a : j = k
      · by_cases b : r = k
        · simp [a, b]
        · simp [a, b]
      · by_cases b : j = r
        · simp [a, b]
        · simp [a, b]
    rw [e2] at h1
    exact h1
  · intro h j hj
    rw [e]
    exact h _ (by split; exact hr; split; exact hk; exact hj)
theorem Ker_sc {R y : Nat → Nat} {k d : Nat} (hR : R16 R) (hy : ∀ c, y c < 16) (hd : d < 16) (h0 : d ≠ 0) : Ker (gSc R k d) y ↔ Ker R y := by
  have e : ∀ j, rs y (rw_ (gSc R k d) j) 5 = if j = k then gq (rs y (rw_ R j) 5) d else rs y (rw_ R j) 5 := fun j => by
    by_cases h1 : j = k
    · rw [if_pos h1, ← rs_q (r := rw_ R j) hy (fun c => hR _) hd]
      exact rs_cg (fun c hc => by unfold rw_ gSc; rw [(d5 hc).1, if_pos h1])
    · rw [if_neg h1]
      exact rs_cg (fun c hc => by unfold rw_ gSc; rw [(d5 hc).1, if_neg h1])
  constructor
  · intro h j hj
    have h1 := h j hj
    rw [e] at h1
    by_cases h2 : j = k
    · rw [if_pos h2] at h1; exact gq3 _ (rs_lt _ _ _) _ hd h0 h1
    · rw [if_neg h2] at h1; exact h1
  · intro h j hj
    rw [e]; split
    · rw [h j hj, gq_z]
    · exact h j hj
theorem Ker_ad {R y : Nat → Nat} {k o t : Nat} (hR : R16 R) (hy : ∀ c, y c < 16) (ht : t < 16) (hk : k < 4) (hko : k ≠ o) : Ker (gAd R k o t) y ↔ Ker R y := by
  have e : ∀ j, rs y (rw_ (gAd R k o t) j) 5 = if j = o then rs y (rw_ R j) 5 ^^^ gm t (rs y (rw_ R k) 5) else rs y (rw_ R j) 5 := fun j => by
    by_cases h1 : j = o
    · rw [if_pos h1, ← rs_a (r := rw_ R j) (s := rw_ R k) hy (fun c => hR _) (fun c => hR _) ht]
      exact rs_cg (fun c hc => by unfold rw_ gAd; rw [(d5 hc).1, (d5 hc).2, if_pos h1])
    · rw [if_neg h1]
      exact rs_cg (fun c hc => by unfold rw_ gAd; rw [(d5 hc).1, if_neg h1])
  constructor
  · intro h j hj
    have h1 := h j hj
    have h2 := h k hk
    rw [e] at h1 h2
    rw [if_neg hko] at h2
    by_cases h3 : j = o
    · rw [if_pos h3, h2, gm_z2, Nat.xor_zero] at h1; exact h1
    · rw [if_neg h3] at h1; exact h1
  · intro h j hj
    rw [e]; split
    · rw [h j hj, h k hk, gm_z2]; rfl
    · exact h j hj
theorem gSw_16 {R : Nat → Nat} {k r : Nat} (h : R16 R) : R16 (gSw R k r) := fun i => by unfold gSw; split; exact h _; split; exact h _; exact h _
theorem gSc_16 {R : Nat → Nat} {k d : Nat} (h : R16 R) : R16 (gSc R k d) := fun i => by unfold gSc; split; exact gq_lt; exact h _
theorem gAd_16 {R : Nat → Nat} {k o t : Nat} (h : R16 R) : R16 (gAd R k o t) := fun i => by unfold gAd; split; exact xor_lt16 (h _) gm_lt; exact h _
/-- the row of the pivot: from k on, the first that has something in column k -/
def pvf (R : Nat → Nat) (k : Nat) : Nat → Nat → Nat
  | 0, r => r
  | n + 1, r => if R (r * 5 + k) = 0 then pvf R k n (r + 1) else r
def pv (R : Nat → Nat) (k : Nat) : Nat := pvf R k (4 - k) k
theorem pvf_ge (R : Nat → Nat) (k n r : Nat) : r ≤ pvf R k n r ∧ pvf R k n r ≤ r + n ∧ (∀ i, r ≤ i → i < pvf R k n r → R (i * 5 + k) = 0) ∧ (pvf R k n r < r + n → R (pvf R k n r * 5 + k) ≠ 0) := by
  induction n generalizing r with
  | zero => exact ⟨Nat.le_refl _, Nat.le_refl _, fun i h1 h2 => by rw [pvf] at h2; omega, fun h => by rw [pvf] at h; omega⟩
  | succ n ih =>
    rw [pvf]
    by_cases h : R (r * 5 + k) = 0
    · rw [if_pos h]
      obtain ⟨a, b, c, d⟩ := ih (r + 1)
      refine ⟨by omega, by omega, fun i h1 h2 => ?_, fun h2 => d (by omega)⟩
      by_cases e : i = r
      · rw [e]; exact h
      · exact c i (by omega) h2
    · rw [if_neg h]
      exact ⟨Nat.le_refl _, by omega, fun i h1 h2 => by omega, fun _ => h⟩
/-- all other rows cleared, the first i -/
def gEl (R : Nat → Nat) (k : Nat) : Nat → Nat → Nat
  | 0 => R
  | o + 1 => if o = k ∨ gEl R k o (o * 5 + k) = 0 then gEl R k o else gAd (gEl R k o) k o (gEl R k o (o * 5 + k))
/-- a column done -/
def gSt (R : Nat → Nat) (k : Nat) : Nat → Nat := gEl (gSc (gSw R k (pv R k)) k (gSw R k (pv R k) (k * 5 + k))) k 4
def gG (R : Nat → Nat) : Nat → Nat → Nat
  | 0 => R
  | k + 1 => gSt (gG R k) k
theorem gEl_16 {R : Nat → Nat} {k : Nat} (h : R16 R) (i : Nat) : R16 (gEl R k i) := by
  induction i with
  | zero => exact h
  | succ i ih => rw [gEl]; split; exact ih; exact gAd_16 ih
theorem gSt_16 {R : Nat → Nat} {k : Nat} (h : R16 R) : R16 (gSt R k) := gEl_16 (gSc_16 (gSw_16 h)) 4
theorem gG_16 {R : Nat → Nat} (h : R16 R) (k : Nat) : R16 (gG R k) := by
  induction k with
  | zero => exact h
  | succ k ih => exact gSt_16 ih
theorem Ker_el {R y : Nat → Nat} {k : Nat} (hR : R16 R) (hy : ∀ c, y c < 16) (hk : k < 4) (i : Nat) : Ker (gEl R k i) y ↔ Ker R y := by
  induction i with
  | zero => exact Iff.rfl
  | succ i ih =>
    rw [gEl]; split
    · exact ih
    next h => rw [Ker_ad (gEl_16 hR i) hy (gEl_16 hR i _) hk (fun e => h (Or.inl e.symm))]; exact ih
/-- the pivot is there -/
def Pv (R : Nat → Nat) (k : Nat) : Prop := pv R k < 4 ∧ R (pv R k * 5 + k) ≠ 0
theorem sw_kk {R : Nat → Nat} {k : Nat} (hk : k < 5) : gSw R k (pv R k) (k * 5 + k) = R (pv R k * 5 + k) := by
  unfold gSw; rw [(d5 hk).1, (d5 hk).2, if_pos rfl]
theorem Ker_st {R y : Nat → Nat} {k : Nat} (hR : R16 R) (hy : ∀ c, y c < 16) (hk : k < 4) (hp : Pv R k) : Ker (gSt R k) y ↔ Ker R y := by
  unfold gSt
  rw [Ker_el (gSc_16 (gSw_16 hR)) hy hk, Ker_sc (gSw_16 hR) hy (gSw_16 hR _) (by rw [sw_kk (by omega)]; exact hp.2), Ker_sw hk hp.1]

theorem gEl_at {Q : Nat → Nat} {k : Nat} (hk : k < 5) (i : Nat) {o c : Nat} (hc : c < 5) : gEl Q k i (o * 5 + c) = if o < i ∧ o ≠ k then Q (o * 5 + c) ^^^ gm (Q (o * 5 + k)) (Q (k * 5 + c)) else Q (o * 5 + c) := by
  induction i generalizing o c with
  | zero => rw [gEl, if_neg (fun h => by omega)]
  | succ i ih =>
    rw [gEl]
    have e1 : gEl Q k i (i * 5 + k) = Q (i * 5 + k) := by rw [ih hk, if_neg (fun h => by omega)]
    rw [e1]
    by_cases h : i = k ∨ Q (i * 5 + k) = 0
    · rw [if_pos h, ih hc]
      by_cases h2 : o < i ∧ o ≠ k
      · rw [if_pos h2, if_pos ⟨by omega, h2.2⟩]
      · rw [if_neg h2]
        by_cases h3 : o < i + 1 ∧ o ≠ k
        · have e : o = i := by omega
          subst e
          rw [if_pos h3, h.resolve_left h3.2, gm_z, Nat.xor_zero]
        · rw [if_neg h3]
    · rw [if_neg h]
      unfold gAd
      rw [(d5 hc).1, (d5 hc).2, ih hc]
      have e2 : gEl Q k i (k * 5 + c) = Q (k * 5 + c) := by rw [ih hc, if_neg (fun h => h.2 rfl)]
      rw [e2]
      by_cases h2 : o = i
      · subst h2
        rw [if_pos rfl, if_neg (fun h => by omega), if_pos ⟨by omega, fun e => h (Or.inl e)⟩]
      · rw [if_neg h2]
        by_cases h3 : o < i ∧ o ≠ k
        · rw [if_pos h3, if_pos ⟨by omega, h3.2⟩]
        · rw [if_neg h3, if_neg (fun z => h3 ⟨by omega, z.2⟩)]
/-- the first k columns are done -/
def Un (R : Nat → Nat) (k : Nat) : Prop := ∀ c, c < k → ∀ j, j < 4 → R (j * 5 + c) = if j = c then 1 else 0
theorem Un_st {R : Nat → Nat} {k : Nat} (hR : R16 R) (hk : k < 4) (hp : Pv R k) (hU : Un R k) : Un (gSt R k) (k + 1) := by
  intro c hc j hj
  have hpk : k ≤ pv R k := (pvf_ge R k (4 - k) k).1
  have hd := hp.2
  have hdl := hR (pv R k * 5 + k)
  unfold gSt
  rw [sw_kk (by omega)]
  have hB : ∀ o c, c < 5 → gSc (gSw R k (pv R k)) k (R (pv R k * 5 + k)) (o * 5 + c) = if o = k then gq (R (pv R k * 5 + c)) (R (pv R k * 5 + k)) else if o = pv R k then R (k * 5 + c) else R (o * 5 + c) := fun o c hc => by
    unfold gSc gSw
    rw [(d5 hc).1, (d5 hc).2]
    by_cases h1 : o = k
    · rw [if_pos h1, if_pos h1, if_pos h1]
    · rw [if_neg h1, if_neg h1, if_neg h1]
  rw [gEl_at (by omega) 4 (by omega), hB j c (by omega), hB j k (by omega), hB k c (by omega), if_pos rfl]
  by_cases hck : c = k
  · subst hck
    rw [gq4 _ hdl hd]
    by_cases h1 : j = c
    · rw [if_neg (fun z => z.2 h1), if_pos h1, if_pos h1]
    · rw [if_pos ⟨hj, h1⟩, if_neg h1, if_neg h1, gf11 _ (by split; exact hR _; exact hR _), Nat.xor_self]
  · have hcl : c < k := by omega
    have hz : R (pv R k * 5 + c) = 0 := by rw [hU c hcl _ hp.1, if_neg (by omega)]
    have hzk : R (k * 5 + c) = 0 := by rw [hU c hcl _ hk, if_neg (by omega)]
    rw [hz, gq_z, gm_z2, Nat.xor_zero]
    have hfin : (if j = k then 0 else if j = pv R k then R (k * 5 + c) else R (j * 5 + c)) = if j = c then 1 else 0 := by
      by_cases h1 : j = k
      · rw [if_pos h1, if_neg (by omega)]
      · rw [if_neg h1]
        by_cases h2 : j = pv R k
        · rw [if_pos h2, hzk, if_neg (by omega)]
        · rw [if_neg h2, hU c hcl j hj]
    split <;> exact hfin
/-- no pivot: the column hangs on those ahead -/
theorem no_pv {R : Nat → Nat} {k : Nat} (hR : R16 R) (hk : k < 4) (hU : Un R k) (hp : ¬ Pv R k) : Ker R (fun c => if c < k then R (c * 5 + k) else if c = k then 1 else 0) := by
  obtain ⟨g1, g2, g3, g4⟩ := pvf_ge R k (4 - k) k
  have hz : ∀ i, k ≤ i → i < 4 → R (i * 5 + k) = 0 := fun i h1 h2 => by
    by_cases h : pvf R k (4 - k) k < 4
    · exact absurd ⟨h, g4 (by omega)⟩ hp
    · exact g3 i h1 (by omega)
  intro j hj
  have key : ∀ n, rs (fun c => if c < k then R (c * 5 + k) else if c = k then 1 else 0) (rw_ R j) n = if n ≤ k then (if j < n then R (j * 5 + k) else 0) else 0 := by
    intro n
    induction n with
    | zero => rw [rs, if_pos (by omega), if_neg (by omega)]
    | succ n ih =>
      rw [rs, ih]
      unfold rw_
      by_cases h1 : n < k
      · rw [if_pos (by omega), if_pos (show n + 1 ≤ k by omega), if_pos h1, hU n h1 j hj]
        by_cases h2 : j = n
        · subst h2; rw [if_neg (by omega), if_pos rfl, if_pos (by omega), gf11 _ (hR _), Nat.zero_xor]
        · rw [if_neg h2, gm_z2, Nat.xor_zero]
          by_cases h3 : j < n
          · rw [if_pos h3, if_pos (by omega)]
          · rw [if_neg h3, if_neg (by omega)]
      · rw [if_neg (show ¬ n + 1 ≤ k by omega), if_neg h1]
        by_cases h2 : n = k
        · subst h2
          rw [if_pos (Nat.le_refl _), if_pos rfl, gm1 _ (hR _)]
          by_cases h3 : j < n
          · rw [if_pos h3, Nat.xor_self]
          · rw [if_neg h3, hz j (by omega) hj]; rfl
        · rw [if_neg (by omega), if_neg h2, gm_z]; rfl
  rw [key 5, if_neg (by omega)]
/-- columns that don't hang together -/
def Ind (R : Nat → Nat) (n : Nat) : Prop := ∀ y : Nat → Nat, (∀ c, y c < 16) → (∀ c, n ≤ c → y c = 0) → Ker R y → ∀ c, c < n → y c = 0
theorem gG_ok {R : Nat → Nat} {n : Nat} (hR : R16 R) (hn : n ≤ 4) (hI : Ind R n) (k : Nat) (hk : k ≤ n) : Un (gG R k) k ∧ (∀ y, (∀ c, y c < 16) → (Ker (gG R k) y ↔ Ker R y)) ∧ (k < n → Pv (gG R k) k) := by
  have pvOf : ∀ k, k < n → Un (gG R k) k → (∀ y, (∀ c, y c < 16) → (Ker (gG R k) y ↔ Ker R y)) → Pv (gG R k) k := by
    intro k hk hU hK
    refine Classical.byContradiction fun hp => ?_
    have hy : ∀ c, (if c < k then gG R k (c * 5 + k) else if c = k then 1 else 0) < 16 := fun c => by
      split
      · exact gG_16 hR k _
      · split <;> decide
    have h1 := hI _ hy (fun c hc => by rw [if_neg (by omega), if_neg (by omega)]) ((hK _ hy).mp (no_pv (gG_16 hR k) (by omega) hU hp)) k hk
    rw [if_neg (by omega), if_pos rfl] at h1
    exact absurd h1 (by decide)
  have key : Un (gG R k) k ∧ (∀ y, (∀ c, y c < 16) → (Ker (gG R k) y ↔ Ker R y)) := by
    induction k with
    | zero => exact ⟨fun c hc => by omega, fun y hy => Iff.rfl⟩
    | succ k ih =>
      obtain ⟨a, b⟩ := ih (by omega)
      have hp := pvOf k (by omega) a b
      exact ⟨Un_st (gG_16 hR k) (by omega) hp a, fun y hy => (Ker_st (gG_16 hR k) hy (by omega) hp).trans (b y hy)⟩
  exact ⟨key.1, key.2, fun h => pvOf k h key.1 key.2⟩
/-- what the last column says, when all others are done -/
theorem Ker_end {R y : Nat → Nat} {n : Nat} (hR : R16 R) (hn : n ≤ 4) (hU : Un R n) (hy : ∀ c, y c < 16) (h4 : y 4 = 1) (hz : ∀ c, n ≤ c → c < 4 → y c = 0) : Ker R y ↔ (∀ j, j < n → y j = R (j * 5 + 4)) ∧ ∀ j, n ≤ j → j < 4 → R (j * 5 + 4) = 0 := by
  have key : ∀ j, j < 4 → ∀ m, m ≤ 4 → rs y (rw_ R j) m = if j < n ∧ j < m then y j else 0 := by
    intro j hj m hm
    induction m with
    | zero => rw [rs, if_neg (fun h => by omega)]
    | succ m ih =>
      rw [rs, ih (by omega)]
      unfold rw_
      by_cases h1 : m < n
      · rw [hU m h1 j hj]
        by_cases h2 : j = m
        · subst h2; rw [if_neg (fun h => by omega), if_pos rfl, if_pos ⟨h1, by omega⟩, gf11 _ (hy _), Nat.zero_xor]
        · rw [if_neg h2, gm_z2, Nat.xor_zero]
          by_cases h3 : j < n ∧ j < m
          · rw [if_pos h3, if_pos ⟨h3.1, by omega⟩]
          · rw [if_neg h3, if_neg (fun z => h3 ⟨z.1, by omega⟩)]
      · rw [hz m (by omega) (by omega), gm_z, Nat.xor_zero]
        by_cases h3 : j < n ∧ j < m
        · rw [if_pos h3, if_pos ⟨h3.1, by omega⟩]
        · rw [if_neg h3, if_neg (fun z => h3 ⟨z.1, by omega⟩)]
  have e : ∀ j, j < 4 → rs y (rw_ R j) 5 = (if j < n then y j else 0) ^^^ R (j * 5 + 4) := fun j hj => by
    rw [rs, key j hj 4 (Nat.le_refl _), h4, gm1 _ (show rw_ R j 4 < 16 from hR _)]
    unfold rw_
    by_cases h : j < n
    · rw [if_pos ⟨h, hj⟩, if_pos h]
    · rw [if_neg (fun z => h z.1), if_neg h]
  constructor
  · intro h
    refine ⟨fun j hj => ?_, fun j h1 h2 => ?_⟩
    · have := h j (by omega)
      rw [e j (by omega), if_pos hj] at this
      exact xx0 this
    · have := h j h2
      rw [e j h2, if_neg (by omega), Nat.zero_xor] at this
      exact this
  · intro h j hj
    rw [e j hj]
    by_cases h1 : j < n
    · rw [if_pos h1, h.1 j h1, Nat.xor_self]
    · rw [if_neg h1, h.2 j (by omega) hj]; rfl
