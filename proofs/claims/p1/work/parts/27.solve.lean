/-! what is solved, of a word and a set of places -/
def un (R : Nat → Nat) (i v : Nat) : Nat → Nat := fun j => if j = i then v else R j
theorem un_16 {R : Nat → Nat} {i v : Nat} (h : R16 R) (hv : v < 16) : R16 (un R i v) := fun j => by unfold un; split; exact hv; exact h j
/-- place k of a set, of the first i -/
def pkf (b k : Nat) : Nat → Nat
  | 0 => 0
  | i + 1 => if b.testBit i = true ∧ pcn b i = k then i else pkf b k i
theorem pk_ok {b k : Nat} (i : Nat) (h : k < pcn b i) : pkf b k i < i ∧ b.testBit (pkf b k i) = true ∧ pcn b (pkf b k i) = k := by
  induction i with
  | zero => rw [pcn] at h; omega
  | succ i ih =>
    rw [pkf]
    by_cases h1 : b.testBit i = true ∧ pcn b i = k
    · rw [if_pos h1]; exact ⟨by omega, h1.1, h1.2⟩
    · rw [if_neg h1]
      rw [pcn] at h
      have h2 : k < pcn b i := by
        cases hb : b.testBit i
        · rw [hb] at h; simp [bN] at h; exact h
        · rw [hb] at h; simp [bN] at h
          exact Nat.lt_of_le_of_ne (by omega) (fun e => h1 ⟨hb, e.symm⟩)
      obtain ⟨a, c, d⟩ := ih h2
      exact ⟨by omega, c, d⟩
theorem pk_at {b p : Nat} (hb : b.testBit p = true) (i : Nat) (hp : p < i) : pkf b (pcn b p) i = p := by
  induction i with
  | zero => omega
  | succ i ih =>
    rw [pkf]
    by_cases e : p = i
    · subst e; rw [if_pos ⟨hb, rfl⟩]
    · have h1 := pcn_mono b (show p + 1 ≤ i by omega)
      rw [pcn, hb] at h1
      simp [bN] at h1
      rw [if_neg (fun z => by omega)]
      exact ih (by omega)
/-- the columns of a set, the sums of a word -/
def gI (b : Nat) (R : Nat → Nat) (j : Nat) : Nat → Nat → Nat
  | 0 => R
  | k + 1 => un (gI b R j k) (j * 5 + k) (pw ((pkf b k 15 * (j + 1)) % 15))
def gO (b : Nat) (x : Int64) (R : Nat → Nat) : Nat → Nat → Nat
  | 0 => R
  | j + 1 => un (gI b (gO b x R j) j (pcn b 15)) (j * 5 + 4) (sm x (j + 1) 15)
theorem gI_16 {b j : Nat} {R : Nat → Nat} (h : R16 R) (k : Nat) : R16 (gI b R j k) := by
  induction k with
  | zero => exact h
  | succ k ih => exact un_16 ih (pw_lt _ (Nat.mod_lt _ (by decide)))
theorem gO_16 {b : Nat} {x : Int64} {R : Nat → Nat} (h : R16 R) (j : Nat) : R16 (gO b x R j) := by
  induction j with
  | zero => exact h
  | succ j ih => exact un_16 (gI_16 ih _) (sm_lt _ _ _)
theorem gI_at {b : Nat} {R : Nat → Nat} {j : Nat} (k : Nat) (hk : k ≤ 4) {o c : Nat} (hc : c < 5) : gI b R j k (o * 5 + c) = if o = j ∧ c < k then pw ((pkf b c 15 * (j + 1)) % 15) else R (o * 5 + c) := by
  induction k with
  | zero => rw [gI, if_neg (fun h => by omega)]
  | succ k ih =>
    rw [gI]; unfold un
    by_cases h : o * 5 + c = j * 5 + k
    · have h1 : o = j := by omega
      have h2 : c = k := by omega
      subst h1; subst h2
      rw [if_pos rfl, if_pos ⟨rfl, by omega⟩]
    · rw [if_neg h, ih (by omega)]
      by_cases h3 : o = j ∧ c < k
      · rw [if_pos h3, if_pos ⟨h3.1, by omega⟩]
      · rw [if_neg h3, if_neg (fun z => h3 ⟨z.1, Nat.lt_of_le_of_ne (by omega) (fun e => h (by rw [z.1, e]))⟩)]
theorem gO_at {b : Nat} {x : Int64} {R : Nat → Nat} (hb : pcn b 15 ≤ 4) (m : Nat) (hm : m ≤ 4) {j : Nat} (hj : j < m) : (∀ c, c < pcn b 15 → gO b x R m (j * 5 + c) = pw ((pkf b c 15 * (j + 1)) % 15)) ∧ gO b x R m (j * 5 + 4) = sm x (j + 1) 15 := by
  induction m with
  | zero => omega
  | succ m ih =>
    rw [gO]
    by_cases e : j = m
    · subst e
      constructor
      · intro c hc
        unfold un
        rw [if_neg (by omega), gI_at _ hb (by omega), if_pos ⟨rfl, hc⟩]
      · unfold un; rw [if_pos rfl]
    · obtain ⟨a, d⟩ := ih (by omega) (by omega)
      constructor
      · intro c hc
        unfold un
        rw [if_neg (by omega), gI_at _ hb (by omega), if_neg (fun z => e z.1), a c hc]
      · unfold un; rw [if_neg (by omega), gI_at _ hb (by omega), if_neg (fun z => e z.1), d]
/-- sums over places are rows with weights -/
theorem SY_rs {b j : Nat} {e : Nat → Nat} (he : ∀ q, e q < 16) (hs : ∀ r, r < 15 → e r ≠ 0 → b.testBit r = true) (i : Nat) (hi : i ≤ 15) : SYi e j i = rs (fun c => e (pkf b c 15)) (fun c => pw ((pkf b c 15 * (j + 1)) % 15)) (pcn b i) := by
  induction i with
  | zero => rfl
  | succ i ih =>
    rw [SYi, pcn, ih (by omega)]
    by_cases h : b.testBit i = true
    · rw [h]
      show _ = rs _ _ (pcn b i + 1)
      rw [rs, pk_at h 15 (by omega), gmp _ (he i)]
    · have h0 : e i = 0 := Classical.byContradiction fun z => h (hs i (by omega) z)
      have hf : b.testBit i = false := by
        cases hb : b.testBit i
        · rfl
        · exact absurd hb h
      rw [h0, tp_z, Nat.xor_zero, hf]
      rfl
theorem rs_up {y r : Nat → Nat} {n : Nat} (m : Nat) (h : ∀ c, n ≤ c → c < n + m → y c = 0) : rs y r (n + m) = rs y r n := by
  induction m with
  | zero => rfl
  | succ m ih => rw [← Nat.add_assoc, rs, ih (fun c h1 h2 => h c h1 (by omega)), h _ (by omega) (by omega), gm_z, Nat.xor_zero]
section SV
variable {b : Nat} {x : Int64} {R : Nat → Nat}
/-- a weight and the sums -/
theorem Ker_gO (hR : R16 R) (hb : pcn b 15 ≤ 4) {e : Nat → Nat} {w : Nat} (he : ∀ q, e q < 16) (hs : ∀ r, r < 15 → e r ≠ 0 → b.testBit r = true) {y : Nat → Nat} (h1 : ∀ c, c < pcn b 15 → y c = e (pkf b c 15)) (h2 : ∀ c, pcn b 15 ≤ c → c < 4 → y c = 0) (h3 : y 4 = w) : Ker (gO b x R 4) y ↔ ∀ j, j < 4 → SY e j ^^^ gm w (SY (nib x) j) = 0 := by
  have key : ∀ j, j < 4 → rs y (rw_ (gO b x R 4) j) 5 = SY e j ^^^ gm w (SY (nib x) j) := by
    intro j hj
    obtain ⟨a, d⟩ := gO_at (x := x) (R := R) hb 4 (Nat.le_refl _) hj
    rw [rs, h3]
    have e1 : rw_ (gO b x R 4) j 4 = SY (nib x) j := by
      show gO b x R 4 (j * 5 + 4) = _
      rw [d, sm_SY]; rfl
    rw [e1]
    congr 1
    obtain ⟨m, hm⟩ : ∃ m, 4 = pcn b 15 + m := ⟨4 - pcn b 15, by omega⟩
    rw [show rs y (rw_ (gO b x R 4) j) 4 = rs y (rw_ (gO b x R 4) j) (pcn b 15 + m) by rw [← hm], rs_up m (fun c h4 h5 => h2 c h4 (by omega))]
    unfold SY
    rw [SY_rs he hs 15 (Nat.le_refl _)]
    exact rs_cg (fun c hc => by rw [h1 c hc]; show gm _ (gO b x R 4 (j * 5 + c)) = _; rw [a c hc])
  exact ⟨fun h j hj => by rw [← key j hj]; exact h j hj, fun h j hj => by rw [key j hj]; exact h j hj⟩
theorem gO_ind (hR : R16 R) (hb : pcn b 15 ≤ 4) : Ind (gO b x R 4) (pcn b 15) := by
  intro y hy hz hK c hc
  have he : ∀ q, (if b.testBit q = true then y (pcn b q) else 0) < 16 := fun q => by split; exact hy _; decide
  have hs : ∀ r, r < 15 → (if b.testBit r = true then y (pcn b r) else 0) ≠ 0 → b.testBit r = true := fun r _ h => by
    by_cases h1 : b.testBit r = true
    · exact h1
    · rw [if_neg h1] at h; exact absurd rfl h
  have h1 := (Ker_gO (x := x) hR hb (e := fun q => if b.testBit q = true then y (pcn b q) else 0) (w := 0) he hs (fun c hc => by
    obtain ⟨a1, a2, a3⟩ := pk_ok 15 hc
    rw [if_pos a2, a3]) (fun c h1 _ => hz c h1) (hz 4 hb)).mp hK
  have h2 := sy_uniq (c := bc b) (N := 4) he hs (by rw [cnt_bc]; exact hb) (fun k hk => by
    have := h1 k hk
    rw [gm_z, Nat.xor_zero] at this
    exact this)
  obtain ⟨a1, a2, a3⟩ := pk_ok 15 hc
  have h3 := h2 _ a1
  rw [if_pos a2, a3] at h3
  exact h3
/-- rows at the end -/
def gF (b : Nat) (x : Int64) (R : Nat → Nat) : Nat → Nat := gG (gO b x R 4) (pcn b 15)
theorem gF_16 (hR : R16 R) : R16 (gF b x R) := gG_16 (gO_16 hR 4) _
theorem gF_yes (hR : R16 R) (hb : pcn b 15 ≤ 4) (h : ∀ j, pcn b 15 ≤ j → j < 4 → gF b x R (j * 5 + 4) = 0) {j : Nat} (hj : j < 4) : SY (fun q => if b.testBit q = true then gF b x R (pcn b q * 5 + 4) else 0) j = SY (nib x) j := by
  have hG := gG_ok (gO_16 (b := b) (x := x) hR 4) hb (gO_ind hR hb) (pcn b 15) (Nat.le_refl _)
  have hy : ∀ c, (if c < pcn b 15 then gF b x R (c * 5 + 4) else if c = 4 then 1 else 0) < 16 := fun c => by
    split
    · exact gF_16 hR _
    · split <;> decide
  have h1 := (Ker_end (y := fun c => if c < pcn b 15 then gF b x R (c * 5 + 4) else if c = 4 then 1 else 0) (gF_16 (b := b) (x := x) hR) hb hG.1 hy (by rw [if_neg (by omega), if_pos rfl]) (fun c h1 h2 => by rw [if_neg (by omega), if_neg (by omega)])).mpr ⟨fun j hj => by rw [if_pos hj], h⟩
  have h2 := (hG.2.1 _ hy).mp h1
  have he : ∀ q, (if b.testBit q = true then gF b x R (pcn b q * 5 + 4) else 0) < 16 := fun q => by split; exact gF_16 hR _; decide
  have h3 := (Ker_gO (x := x) hR hb (e := fun q => if b.testBit q = true then gF b x R (pcn b q * 5 + 4) else 0) (w := 1) he (fun r _ h => by
    by_cases h1 : b.testBit r = true
    · exact h1
    · rw [if_neg h1] at h; exact absurd rfl h) (fun c hc => by
    obtain ⟨a1, a2, a3⟩ := pk_ok 15 hc
    rw [if_pos hc, if_pos a2, a3]) (fun c h1 h2 => by rw [if_neg (by omega), if_neg (by omega)]) (by rw [if_neg (by omega), if_pos rfl])).mp h2 j hj
  rw [gm1 _ (show SY (nib x) j < 16 from SYi_lt _ _ _)] at h3
  exact xx0 h3
theorem gF_no (hR : R16 R) (hb : pcn b 15 ≤ 4) {z : Int64} (hz : cw z) (hs : sub_ b x z) : ∀ j, pcn b 15 ≤ j → j < 4 → gF b x R (j * 5 + 4) = 0 := by
  have hG := gG_ok (gO_16 (b := b) (x := x) hR 4) hb (gO_ind hR hb) (pcn b 15) (Nat.le_refl _)
  have hy : ∀ c, (if c < pcn b 15 then nib x (pkf b c 15) ^^^ nib z (pkf b c 15) else if c = 4 then 1 else 0) < 16 := fun c => by
    split
    · exact er_lt _ _ _
    · split <;> decide
  have h3 := (Ker_gO (x := x) hR hb (e := fun q => nib x q ^^^ nib z q) (w := 1) (fun q => er_lt x z q) (fun r hr hn => hs r hr (fun e => hn (by rw [e, Nat.xor_self]))) (y := fun c => if c < pcn b 15 then nib x (pkf b c 15) ^^^ nib z (pkf b c 15) else if c = 4 then 1 else 0) (fun c hc => by rw [if_pos hc]) (fun c h1 h2 => by rw [if_neg (by omega), if_neg (by omega)]) (by rw [if_neg (by omega), if_pos rfl])).mpr (fun j hj => by
    rw [er_SY hz hj, gm1 _ (show SY (nib x) j < 16 from SYi_lt _ _ _), Nat.xor_self])
  exact ((Ker_end (gF_16 (b := b) (x := x) hR) hb hG.1 hy (by rw [if_neg (by omega), if_pos rfl]) (fun c h1 h2 => by rw [if_neg (by omega), if_neg (by omega)])).mp ((hG.2.1 _ hy).mpr h3)).2
/-- what is added, the first places of the set -/
def sv (b : Nat) (G : Nat → Nat) (x : Int64) : Nat → Int64
  | 0 => x
  | k + 1 => wn (sv b G x k) (pkf b k 15) (nib (sv b G x k) (pkf b k 15) ^^^ G (k * 5 + 4))
theorem sv_n {G : Nat → Nat} (hG : R16 G) (k : Nat) (hk : k ≤ pcn b 15) {p : Nat} (hp : p < 16) : nib (sv b G x k) p = if p < 15 ∧ b.testBit p = true ∧ pcn b p < k then nib x p ^^^ G (pcn b p * 5 + 4) else nib x p := by
  induction k with
  | zero => rw [sv, if_neg (fun h => by omega)]
  | succ k ih =>
    obtain ⟨a1, a2, a3⟩ := pk_ok (b := b) (k := k) 15 (by omega)
    rw [sv, nib_wn (by omega) (xor_lt16 (nib_lt _ _) (hG _)) hp]
    by_cases e : p = pkf b k 15
    · have e3 : pcn b p = k := by rw [e]; exact a3
      have e2 : b.testBit p = true := by rw [e]; exact a2
      rw [if_pos e, ← e, ih (by omega), if_neg (fun h => by omega), if_pos ⟨by omega, e2, by omega⟩, e3]
    · rw [if_neg e, ih (by omega)]
      by_cases h : p < 15 ∧ b.testBit p = true ∧ pcn b p < k
      · rw [if_pos h, if_pos ⟨h.1, h.2.1, by omega⟩]
      · rw [if_neg h, if_neg (fun z => h ⟨z.1, z.2.1, Nat.lt_of_le_of_ne (by omega) (fun e2 => e (by rw [← e2, pk_at z.2.1 15 z.1]))⟩)]
/-- the word of the code that differs from x at these places alone -/
def Slv (b : Nat) (x y : Int64) : Prop := cw y ∧ nib y 15 = nib x 15 ∧ sub_ b x y
theorem sv_ok (hR : R16 R) (hb : pcn b 15 ≤ 4) (h : ∀ j, pcn b 15 ≤ j → j < 4 → gF b x R (j * 5 + 4) = 0) : Slv b x (sv b (gF b x R) x (pcn b 15)) := by
  have hn : ∀ p, p < 15 → nib (sv b (gF b x R) x (pcn b 15)) p = nib x p ^^^ (if b.testBit p = true then gF b x R (pcn b p * 5 + 4) else 0) := fun p hp => by
    rw [sv_n (gF_16 hR) _ (Nat.le_refl _) (by omega)]
    by_cases h1 : b.testBit p = true
    · have h2 := pcn_mono b (show p + 1 ≤ 15 by omega)
      rw [pcn, h1] at h2
      simp [bN] at h2
      rw [if_pos ⟨hp, h1, by omega⟩, if_pos h1]
    · rw [if_neg (fun z => h1 z.2.1), if_neg h1, Nat.xor_zero]
  refine ⟨fun k hk => ?_, ?_, fun q hq hne => ?_⟩
  · unfold SY
    rw [SYi_cg (f := fun p => nib x p ^^^ (if b.testBit p = true then gF b x R (pcn b p * 5 + 4) else 0)) hn, SYi_add (fun q => nib_lt _ _) (fun q => by split; exact gF_16 hR _; decide)]
    show SY (nib x) k ^^^ SY _ k = 0
    rw [gF_yes hR hb h hk, Nat.xor_self]
  · rw [sv_n (gF_16 hR) _ (Nat.le_refl _) (by decide), if_neg (fun z => by omega)]
  · rw [hn q hq] at hne
    by_cases h1 : b.testBit q = true
    · exact h1
    · rw [if_neg h1, Nat.xor_zero] at hne; exact absurd rfl hne
theorem slv_one {y z : Int64} (hb : pcn b 15 ≤ 4) (h : Slv b x y) (g : Slv b x z) : y = z := adm_one (b := b) (x := x) ⟨h.1, h.2.1, Or.inl ⟨hb, h.2.2⟩⟩ ⟨g.1, g.2.1, Or.inl ⟨hb, g.2.2⟩⟩
end SV
