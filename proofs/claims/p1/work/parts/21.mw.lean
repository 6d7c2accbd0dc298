/-! the class's mending is the mending of the document -/
theorem xxl (a b : Nat) : a ^^^ (a ^^^ b) = b := by rw [← Nat.xor_assoc, Nat.xor_self, Nat.zero_xor]
theorem er_lt (x y : Int64) (q : Nat) : nib x q ^^^ nib y q < 16 := xor_lt16 (nib_lt _ _) (nib_lt _ _)
theorem er_SY {x y : Int64} (hy : cw y) {k : Nat} (hk : k < 4) : SY (fun q => nib x q ^^^ nib y q) k = SY (nib x) k := by
  unfold SY
  rw [SYi_add (fun q => nib_lt _ _) (fun q => nib_lt _ _)]
  show SY (nib x) k ^^^ SY (nib y) k = SY (nib x) k
  rw [hy k hk, Nat.xor_zero]
theorem zs_hi (x : Int64) : ∀ k, k < 16 → 4 ≤ k → nib (sms x 4) k = 0 := fun k hk h2 => by rw [sms_n x (Nat.le_refl _) hk, if_neg (by omega)]
theorem zs_lo (x : Int64) {k : Nat} (hk : k < 4) : nib (sms x 4) k = SY (nib x) k := by rw [sms_n x (Nat.le_refl _) (by omega), if_pos hk]
theorem mw_fin {b r : Nat} {x y : Int64} (hy : cw y) (h15 : nib y 15 = nib x 15) (hb : pcn b 15 ≤ 4) (hbr : pcn (b ||| r) 15 ≤ 4) (hs : sub_ (b ||| r) x y) (he : eb b (sms x 4) = some r) : mw b x = some y := by
  rw [mw, if_neg (by omega), he]
  show some _ = some y
  congr 1
  apply nib_ext
  intro q hq
  by_cases hq15 : q = 15
  · subst hq15; rw [mwl_15, h15]
  · rw [mwl_ok (e := fun q => nib x q ^^^ nib y q) hbr (fun q => er_lt x y q) (fun r hr hn => hs r hr (fun e => hn (by rw [e, Nat.xor_self]))) (fun k hk => er_SY hy hk) (by omega)]
    exact xxl _ _
section MW
variable {b : Nat} {x : Int64} {e : Nat → Nat}
theorem eb_left (h4 : ∀ k, k < 4 → SY e k = SY (nib x) k) {k : Nat} (hk : k < 16) : nib (ebl b (sms x 4) 15) k = if k < 4 - pcn b 15 then bs (bc b) (SY e) 15 k else 0 := by
  rw [ebl_n (zs_hi x) 15 hk, cnt_bc]
  by_cases h : k < 4 - pcn b 15
  · rw [if_pos h, if_pos h]
    exact bs_cg (N := 4) (fun j hj => by rw [zs_lo x hj, h4 j hj]) 15 k (by rw [cnt_bc]; exact h)
  · rw [if_neg h, if_neg h]
theorem eb_a (he : ∀ q, e q < 16) (h4 : ∀ k, k < 4 → SY e k = SY (nib x) k) (hs : ∀ r, r < 15 → e r ≠ 0 → b.testBit r = true) : eb b (sms x 4) = some 0 := by
  rw [eb, if_pos]
  apply nib_ext
  intro k hk
  rw [eb_left h4 hk, nib_0, bs_SY _ he 15 (Nat.le_refl _)]
  unfold SY
  rw [SYi_z 15 (fun q hq => by
    by_cases h0 : e q = 0
    · rw [h0, gm_z]
    · rw [fac_z (c := bc b) hq (hs q hq h0), gm_z2])]
  split <;> rfl
theorem bs_b (he : ∀ q, e q < 16) {P : Nat} (hP : P < 15) (hs : ∀ r, r < 15 → e r ≠ 0 → r = P ∨ b.testBit r = true) (k : Nat) : bs (bc b) (SY e) 15 k = tp (gm (e P) (fac (bc b) P 15)) (P * (k + 1)) := by
  rw [bs_SY _ he 15 (Nat.le_refl _)]
  unfold SY
  rw [SYi_cg (f := fun r => if r = P then gm (e P) (fac (bc b) P 15) else 0) (fun r hr => by
    by_cases hrq : r = P
    · subst hrq; simp
    · rw [if_neg hrq]
      by_cases hr0 : e r = 0
      · rw [hr0, gm_z]
      · rw [fac_z (c := bc b) hr ((hs r hr hr0).resolve_left hrq), gm_z2]), SYi_one (e := fun r => if r = P then gm (e P) (fac (bc b) P 15) else 0) (p := P) (fun r hr => by simp [hr]) 15 hP]
  simp only [if_true]
theorem ne_of_nib {x y : Int64} {k : Nat} (h : nib x k ≠ nib y k) : x ≠ y := fun e => h (by rw [e])
theorem eb_b (he : ∀ q, e q < 16) (h4 : ∀ k, k < 4 → SY e k = SY (nib x) k) {P : Nat} (hP : P < 15) (hbP : b.testBit P = false) (h0 : e P ≠ 0) (hc : pcn b 15 + 2 ≤ 4) (hs : ∀ r, r < 15 → e r ≠ 0 → r = P ∨ b.testBit r = true) : eb b (sms x 4) = some (2 ^ P) := by
  have hF := fac_nz (c := bc b) (q := P) (i := 15) (Nat.le_refl _) hP (fun p _ hp hpq => by subst hpq; rw [bc, hbP] at hp; cases hp)
  have hA : gm (e P) (fac (bc b) P 15) ≠ 0 := fun z => (gf6 _ (he P) _ (fac_lt _ _ _) z).elim h0 hF
  have hl : ∀ k, k < 4 - pcn b 15 → nib (ebl b (sms x 4) 15) k = tp (gm (e P) (fac (bc b) P 15)) (P * (k + 1)) := fun k hk => by
    rw [eb_left h4 (by omega), if_pos hk, bs_b he hP hs]
  have ho := oe_1 (x := ebl b (sms x 4) 15) (n := 4 - pcn b 15) (by omega) hP gm_lt hA hl
  rw [eb, if_neg (ne_of_nib (k := 0) (by rw [hl 0 (by omega), nib_0]; exact fun z => hA (gf13 gm_lt z))), ho]
  dsimp only
  rw [hbP]
  rfl
theorem fac_e {c : Nat → Bool} (h : ∀ i, i < 15 → c i = false) (q : Nat) (i : Nat) (hi : i ≤ 15) : fac c q i = 1 := by
  induction i with
  | zero => rfl
  | succ i ih => rw [fac, if_neg (by rw [h i (by omega)]; decide), ih (by omega)]
theorem bs_e {c : Nat → Bool} (h : ∀ i, i < 15 → c i = false) (s : Nat → Nat) (i : Nat) (hi : i ≤ 15) (k : Nat) : bs c s i k = s k := by
  induction i with
  | zero => rfl
  | succ i ih => rw [bs_f (by rw [h i (by omega)]; decide), ih (by omega)]
/-- errors at p and q, blinded to i -/
theorem bl_two (he : ∀ q, e q < 16) {z : Int64} (hz : ∀ k, k < 4 → nib z k = SY e k) {i k : Nat} (hi : i < 15) (hk : k < 3) : nib (bl i z 3) k = SY (fun r => gm (e r) (pw i ^^^ pw r)) k := by
  rw [bl_n _ _ (by decide) (by omega), if_pos hk, hz k (by omega), hz (k + 1) (by omega)]
  exact SY_bl he hi k 15 (Nat.le_refl _)
theorem eb_c (he : ∀ q, e q < 16) (h4 : ∀ k, k < 4 → SY e k = SY (nib x) k) {p q : Nat} (hpq : p < q) (hq : q < 15) (hb : pcn b 15 = 0) (fp : e p ≠ 0) (fq : e q ≠ 0) (hs : ∀ r, r < 15 → e r ≠ 0 → r = p ∨ r = q) : eb b (sms x 4) = some (2 ^ p ||| 2 ^ q) := by
  have hp : p < 15 := by omega
  have hbc : ∀ i, i < 15 → bc b i = false := fun i hi => pcn_0 hb hi
  have hl : ∀ k, k < 4 → nib (ebl b (sms x 4) 15) k = SY e k := fun k hk => by
    rw [eb_left h4 (by omega), if_pos (by omega), bs_e hbc _ 15 (Nat.le_refl _)]
  have hn0 : ¬ ebl b (sms x 4) 15 = lN 0 := fun hz => by
    have hz2 : ∀ k, k < 4 → SY e k = tp 0 (p * (k + 1)) := fun k hk => by rw [← hl k hk, hz, nib_0, tp_z]
    exact two_one he hp hq hp (by omega) fp fq hs (by decide) (by decide) hz2
  have ho : oe (ebl b (sms x 4) 15) (4 - pcn b 15) = none := by
    cases h : oe (ebl b (sms x 4) 15) (4 - pcn b 15) with
    | none => rfl
    | some P =>
      obtain ⟨_, h2, a, h3, h5⟩ := oe_2 h
      exact (two_one he hp hq h2 (by omega) fp fq hs h3 (by decide : 3 ≤ 4) (fun k hk => by rw [← hl k hk, h5 k (by omega)])).elim
  rw [eb, if_neg hn0, ho]
  dsimp only
  rw [if_pos (by omega)]
  generalize ebl b (sms x 4) 15 = z at hl
  have hnone : ∀ i, i < p → eb2f z i = none := by
    intro i hi
    have ho2 : oe (bl i z 3) 3 = none := by
      cases h : oe (bl i z 3) 3 with
      | none => rfl
      | some P =>
        obtain ⟨_, h2, a, h3, h5⟩ := oe_2 h
        refine (two_one (f := fun r => gm (e r) (pw i ^^^ pw r)) (fun r => gm_lt) hp hq h2 (by omega) ?_ ?_ ?_ h3 (by decide : 3 ≤ 3) (fun k hk => by rw [← bl_two he hl (by omega) hk, h5 k hk])).elim
        · intro z0
          rcases gf6 _ (he p) _ (px_lt (by omega) hp) z0 with w | w
          · exact fp w
          · have := gf9 i (by omega) p hp w; omega
        · intro z0
          rcases gf6 _ (he q) _ (px_lt (by omega) hq) z0 with w | w
          · exact fq w
          · have := gf9 i (by omega) q hq w; omega
        · intro r hr hn
          exact hs r hr (fun z0 => hn (by rw [z0, gm_z]))
    rw [eb2f, ho2]
  have hAt : eb2f z p = some (2 ^ p ||| 2 ^ q) := by
    have hA : gm (e q) (pw p ^^^ pw q) ≠ 0 := fun z0 => by
      rcases gf6 _ (he q) _ (px_lt hp hq) z0 with w | w
      · exact fq w
      · have := gf9 p hp q hq w; omega
    have ho2 : oe (bl p z 3) 3 = some q := oe_1 (by decide) hq gm_lt hA (fun k hk => by
      rw [bl_two he hl hp hk]
      unfold SY
      rw [SYi_cg (f := fun r => if r = q then gm (e q) (pw p ^^^ pw q) else 0) (fun r hr => by
        by_cases hrq : r = q
        · subst hrq; simp
        · rw [if_neg hrq]
          by_cases hr0 : e r = 0
          · rw [hr0, gm_z]
          · rw [(hs r hr hr0).resolve_right hrq, Nat.xor_self, gm_z2]), SYi_one (e := fun r => if r = q then gm (e q) (pw p ^^^ pw q) else 0) (p := q) (fun r hr => by simp [hr]) 15 hq]
      simp only [if_true])
    rw [eb2f, ho2]
    dsimp only
    rw [if_neg (by omega)]
  have key : ∀ n i, i + n = p → fsome (eb2f z) (15 - i) i = some (2 ^ p ||| 2 ^ q) := by
    intro n
    induction n with
    | zero => intro i hi; have : i = p := by omega
              subst this; exact fs_some (by omega) hAt
    | succ n ih => intro i hi; rw [fs_none (by omega) (hnone i (by omega))]; exact ih (i + 1) (by omega)
  exact key p 0 (by omega)
end MW
/-- what the document calls mended, the class finds -/
theorem mw_ok {b : Nat} {x y : Int64} (h : Adm b x y) : mw b x = some y := by
  obtain ⟨hy, h15, h⟩ := h
  have h4 : ∀ k, k < 4 → SY (fun q => nib x q ^^^ nib y q) k = SY (nib x) k := fun k hk => er_SY hy hk
  have hne : ∀ q, (nib x q ^^^ nib y q) ≠ 0 → nib x q ≠ nib y q := fun q hn e => hn (by rw [e, Nat.xor_self])
  have hen : ∀ q, nib x q ≠ nib y q → (nib x q ^^^ nib y q) ≠ 0 := fun q hn e => hn (xx0 e)
  have A : pcn b 15 ≤ 4 → sub_ b x y → mw b x = some y := fun hb hs =>
    mw_fin (r := 0) hy h15 hb (by rw [Nat.or_zero]; exact hb) (by rw [Nat.or_zero]; exact hs) (eb_a (fun q => er_lt x y q) h4 (fun r hr hn => hs r hr (hne r hn)))
  have B : ∀ p, p < 15 → pcn b 15 + 2 ≤ 4 → sub_ (b ||| 2 ^ p) x y → mw b x = some y := by
    intro p hp hb hs
    have hs2 : ∀ r, r < 15 → nib x r ≠ nib y r → r = p ∨ b.testBit r = true := fun r hr hn => by
      have := hs r hr hn
      rw [Nat.testBit_or, Bool.or_eq_true, tb_p] at this
      exact this.elim Or.inr (fun e => Or.inl e.symm)
    by_cases hA : b.testBit p = true ∨ nib x p = nib y p
    · refine A (by omega) (fun r hr hn => (hs2 r hr hn).elim (fun e => ?_) id)
      subst e
      exact hA.elim id (fun z => absurd z hn)
    · have hbp : b.testBit p = false := by
        cases hb2 : b.testBit p
        · rfl
        · exact absurd (Or.inl hb2) hA
      have hc := pcn_ort b (2 ^ p) 15
      rw [pcn_p p hp] at hc
      exact mw_fin (r := 2 ^ p) hy h15 (by omega) (by omega) hs (eb_b (fun q => er_lt x y q) h4 hp hbp (hen p (fun z => hA (Or.inr z))) hb (fun r hr hn => hs2 r hr (hne r hn)))
  rcases h with ⟨hb, hs⟩ | ⟨p, hp, hb, hs⟩ | ⟨p, q, hqp, hp, hb, hs⟩
  · exact A hb hs
  · exact B p hp hb hs
  · have hs2 : ∀ r, r < 15 → nib x r ≠ nib y r → r = q ∨ r = p := fun r hr hn => by
      have := hs r hr hn
      rw [Nat.testBit_or, Bool.or_eq_true, tb_p, tb_p] at this
      exact this.elim (fun e => Or.inr e.symm) (fun e => Or.inl e.symm)
    have one : ∀ t, t < 15 → (∀ r, r < 15 → nib x r ≠ nib y r → r = t) → mw b x = some y := fun t ht ho =>
      B t ht (by omega) (fun r hr hn => by rw [Nat.testBit_or, ho r hr hn, Bool.or_eq_true]; exact Or.inr (tb_p.mpr rfl))
    by_cases hq0 : nib x q = nib y q
    · exact one p hp (fun r hr hn => (hs2 r hr hn).elim (fun e => absurd (e ▸ hq0) hn) id)
    by_cases hp0 : nib x p = nib y p
    · exact one q (by omega) (fun r hr hn => (hs2 r hr hn).elim id (fun e => absurd (e ▸ hp0) hn))
    have hc1 := pcn_ort b (2 ^ q ||| 2 ^ p) 15
    have hc2 := pcn_ort (2 ^ q) (2 ^ p) 15
    rw [pcn_p p hp, pcn_p q (by omega)] at hc2
    refine mw_fin (r := 2 ^ q ||| 2 ^ p) hy h15 (by omega) (by omega) (fun r hr hn => ?_) (eb_c (fun q => er_lt x y q) h4 hqp hp hb (hen q hq0) (hen p hp0) (fun r hr hn => hs2 r hr (hne r hn)))
    rw [Nat.testBit_or, Nat.testBit_or, Bool.or_eq_true, Bool.or_eq_true, tb_p, tb_p]
    exact Or.inr ((hs2 r hr hn).elim (fun e => Or.inl e.symm) (fun e => Or.inr e.symm))

/-- what the class finds comes from errors at few places -/
def Fnd (b r : Nat) (x : Int64) : Prop := (∃ e : Nat → Nat, (∀ q, e q < 16) ∧ (∀ q, q < 15 → e q ≠ 0 → (b ||| r).testBit q = true) ∧ ∀ k, k < 4 → SY e k = SY (nib x) k) ∧ (r = 0 ∨ (∃ p, p < 15 ∧ pcn b 15 + 2 ≤ 4 ∧ r = 2 ^ p) ∨ ∃ p q, q < p ∧ p < 15 ∧ pcn b 15 = 0 ∧ r = 2 ^ p ||| 2 ^ q)
theorem fnd_c {b r : Nat} {x : Int64} (h0 : pcn b 15 = 0) (h : fsome (eb2f (ebl b (sms x 4) 15)) 15 0 = some r) : Fnd b r x := by
  obtain ⟨i, _, hi, h1⟩ := fs_in 15 0 h
  have hi15 : i < 15 := by omega
  unfold eb2f at h1
  split at h1
  next t ht =>
    split at h1
    · cases h1
    next hti =>
      obtain ⟨_, ht15, a, ha, h2⟩ := oe_2 ht
      have hbc : ∀ i, i < 15 → bc b i = false := fun i hi => pcn_0 h0 hi
      have hl : ∀ k, k < 4 → nib (ebl b (sms x 4) 15) k = nib (sms x 4) k := fun k hk => by
        rw [ebl_n (zs_hi x) 15 (by omega), cnt_bc, if_pos (by omega), bs_e hbc _ 15 (Nat.le_refl _)]
      obtain ⟨e, e1, e2, e3⟩ := sy_more (c := fun j => j == i) (N := 4) (P := t) (a := a) (s := nib (sms x 4)) (fun k => nib_lt _ _) ht15 (by simp [hti]) ha (fun k hk => by
        rw [cnt_sing i hi15] at hk
        rw [bs_sing hi15, ← hl k (by omega), ← hl (k + 1) (by omega)]
        have := h2 k (by omega)
        rw [bl_n _ _ (by decide) (by omega), if_pos (by omega)] at this
        exact this)
      have hr : r = 2 ^ i ||| 2 ^ t := (Option.some.inj h1).symm
      refine ⟨⟨e, e1, fun q hq hn => ?_, fun k hk => by rw [e3 k hk, zs_lo x hk]⟩, Or.inr (Or.inr ?_)⟩
      · rw [hr, Nat.testBit_or, Nat.testBit_or, Bool.or_eq_true, Bool.or_eq_true, tb_p, tb_p]
        rcases e2 q hn with z | ⟨_, z⟩
        · exact Or.inr (Or.inr z.symm)
        · have z2 : q = i := by simpa using z
          exact Or.inr (Or.inl z2.symm)
      · by_cases hlt : t < i
        · exact ⟨i, t, hlt, hi15, h0, hr⟩
        · exact ⟨t, i, by omega, ht15, h0, by rw [hr, Nat.or_comm]⟩
  · cases h1
theorem fnd {b r : Nat} {x : Int64} (hb : pcn b 15 ≤ 4) (h : eb b (sms x 4) = some r) : Fnd b r x := by
  unfold eb at h
  split at h
  next hz =>
    cases h
    obtain ⟨e, e1, e2, e3⟩ := sy_some (c := bc b) (N := 4) 15 (Nat.le_refl _) (s := nib (sms x 4)) (fun k => nib_lt _ _) (fun k hk => by
      have h1 := ebl_n (b := b) (zs_hi x) 15 (k := k) (by omega)
      rw [hz, nib_0, if_pos hk] at h1
      exact h1.symm)
    exact ⟨⟨e, e1, fun q hq hn => by rw [Nat.or_zero]; exact (e2 q hn).2, fun k hk => by rw [e3 k hk, zs_lo x hk]⟩, Or.inl rfl⟩
  · split at h
    next P hP =>
      split at h
      · split at h
        next h4 => exact fnd_c (by omega) h
        · cases h
      next hbP =>
        cases h
        obtain ⟨hn, hP15, a, ha, h2⟩ := oe_2 hP
        have hbPf : bc b P = false := by
          unfold bc
          cases hb2 : b.testBit P
          · rfl
          · exact absurd hb2 hbP
        obtain ⟨e, e1, e2, e3⟩ := sy_more (c := bc b) (N := 4) (P := P) (a := a) (s := nib (sms x 4)) (fun k => nib_lt _ _) hP15 hbPf ha (fun k hk => by
          have h1 := ebl_n (b := b) (zs_hi x) 15 (k := k) (by omega)
          rw [if_pos hk] at h1
          rw [← h1]
          exact h2 k (by rw [← cnt_bc]; exact hk))
        refine ⟨⟨e, e1, fun q hq hq0 => ?_, fun k hk => by rw [e3 k hk, zs_lo x hk]⟩, Or.inr (Or.inl ⟨P, hP15, by omega, rfl⟩)⟩
        rw [Nat.testBit_or, Bool.or_eq_true, tb_p]
        rcases e2 q hq0 with z | ⟨_, z⟩
        · exact Or.inr z.symm
        · exact Or.inl z
    · split at h
      next h4 => exact fnd_c (by omega) h
      · cases h
/-- what the class finds, the document calls mended -/
theorem mw_adm {b : Nat} {x y : Int64} (h : mw b x = some y) : Adm b x y := by
  unfold mw at h
  split at h
  · cases h
  next hb =>
    have hb4 : pcn b 15 ≤ 4 := by omega
    split at h
    · cases h
    next r hr =>
      cases h
      obtain ⟨⟨e, e1, e2, e3⟩, h3⟩ := fnd hb4 hr
      have hbr : pcn (b ||| r) 15 ≤ 4 := by
        have hc := pcn_ort b r 15
        rcases h3 with z | ⟨p, hp, hb, z⟩ | ⟨p, q, hqp, hp, hb, z⟩
        · rw [z, Nat.or_zero]; exact hb4
        · rw [z] at hc ⊢; rw [pcn_p p hp] at hc; omega
        · have hc2 := pcn_ort (2 ^ p) (2 ^ q) 15
          rw [z] at hc ⊢; rw [pcn_p p hp, pcn_p q (by omega)] at hc2; omega
      have hn : ∀ q, q < 15 → nib (mwl (b ||| r) (sms x 4) x 15) q = nib x q ^^^ e q := fun q hq => mwl_ok hbr e1 e2 e3 hq
      have hsub : sub_ (b ||| r) x (mwl (b ||| r) (sms x 4) x 15) := fun q hq hne => by
        rw [hn q hq] at hne
        exact e2 q hq (fun z => hne (by rw [z, Nat.xor_zero]))
      refine ⟨fun k hk => ?_, mwl_15, ?_⟩
      · unfold SY
        rw [SYi_cg (f := fun q => nib x q ^^^ e q) hn, SYi_add (fun q => nib_lt _ _) e1]
        show SY (nib x) k ^^^ SY e k = 0
        rw [e3 k hk, Nat.xor_self]
      · rcases h3 with z | ⟨p, hp, hb, z⟩ | ⟨p, q, hqp, hp, hb, z⟩
        · rw [z, Nat.or_zero] at hsub ⊢; exact Or.inl ⟨hb4, hsub⟩
        · rw [z] at hsub ⊢; exact Or.inr (Or.inl ⟨p, hp, hb, hsub⟩)
        · rw [z] at hsub ⊢
          refine Or.inr (Or.inr ⟨p, q, hqp, hp, hb, fun t ht hne => ?_⟩)
          have := hsub t ht hne
          rw [Nat.testBit_or, pcn_0 hb ht, Bool.false_or] at this
          exact this
theorem adm_one {b : Nat} {x y z : Int64} (h : Adm b x y) (g : Adm b x z) : y = z := Option.some.inj ((mw_ok h).symm.trans (mw_ok g))
