/-! numbers: symbols in rows of bits, elements -/
theorem lsub_n {lv : List (Nat × Value)} : ∀ z ∈ ([] : List (Nat × Value)), z ∈ lv := fun _ h => absurd h List.not_mem_nil
theorem lsub_c {lv lv' : List (Nat × Value)} {q : Nat × Value} (k : Nat) (h : lv[k]? = some q) (t : ∀ z ∈ lv', z ∈ lv) : ∀ z ∈ q :: lv', z ∈ lv := fun z hz => (List.mem_cons.mp hz).elim (fun e => by rw [e]; exact List.mem_of_getElem? h) (t z)
section GLN
variable {p : Program} {l : Launch} {e : Env} {R : Room} {s : State} {m : MethodId} {args : Array Value} {below : List Frame} {meth : Method} {c : Code} {Q : State → Prop} {D : va_G} {cl : List vw_C} {tys : List (ClassId × FieldType)} {A : Nat → Prop} {nL : Nat} {ws : va_W} {cells slots : Nat} {cc : ByteArray} {own : String} {pc : Nat} {lv : List (Nat × Value)} {st : List Value}
theorem g_nm {lv' : List (Nat × Value)} {st' : List Value} (h1 : lv' = lv) (h2 : st' = st) (kk : GL p l e R s m args below meth c Q D cl tys A nL ws cells slots pc lv' st') : GL p l e R s m args below meth c Q D cl tys A nL ws cells slots pc lv st := by subst h1; subst h2; exact kk
theorem g_cs {ws' : va_W} {lv' : List (Nat × Value)} (h1 : ws' = ws) (h2 : lv' = lv) (kk : GL p l e R s m args below meth c Q D cl tys A nL ws' cells slots pc lv' st) : GL p l e R s m args below meth c Q D cl tys A nL ws cells slots pc lv st := by subst h1; subst h2; exact kk
/-- behind a call: the words as they are -/
theorem g_af {ws' : va_W} {st' : List Value} {cells' slots' pc' : Nat} (h1 : ws' = ws) (h2 : st' = st) (h3 : cells' = cells) (h4 : slots' = slots) (h5 : pc' = pc) (kk : GL p l e R s m args below meth c Q D cl tys A nL ws' cells' slots' pc' lv st') : GL p l e R s m args below meth c Q D cl tys A nL ws cells slots pc lv st := by subst h1; subst h2; subst h3; subst h4; subst h5; exact kk
/-- a counted loop, from behind -/
theorem g_for (N : Nat) (wsF : Nat → va_W) (lvF : Nat → List (Nat × Value)) (h0 : wsF 0 = ws) (h1 : lvF 0 = lv) (hN : GL p l e R s m args below meth c Q D cl tys A nL (wsF N) cells slots pc (lvF N) st)
    (hs : ∀ i : Nat, i < N → GL p l e R s m args below meth c Q D cl tys A nL (wsF (i + 1)) cells slots pc (lvF (i + 1)) st → GL p l e R s m args below meth c Q D cl tys A nL (wsF i) cells slots pc (lvF i) st) : GL p l e R s m args below meth c Q D cl tys A nL ws cells slots pc lv st := by
  subst h0; subst h1
  have key : ∀ n i : Nat, i + n = N → GL p l e R s m args below meth c Q D cl tys A nL (wsF i) cells slots pc (lvF i) st := by
    intro n
    induction n with
    | zero => intro i hi; have e : i = N := by omega
              subst e; exact hN
    | succ n ih => intro i hi; exact hs i (by omega) (ih (i + 1) (by omega))
  exact key N 0 (by omega)
end GLN
theorem srcN {D : va_G} {cl : List vw_C} {A : Nat → Prop} {s : State} {ws : va_W} : Src D cl A s ws [] := fun _ _ _ _ k q h => by simp at h
theorem hrdN {A : Nat → Prop} {ws wc : va_W} : va_D A ws → ∀ x ∈ ([] : va_W), ∀ y ∈ wc, x.1 ≠ y.1 := fun _ _ hx => absurd hx List.not_mem_nil
theorem hrdC {A : Nat → Prop} {ws ro : va_W} : va_D A ws → ∀ x ∈ ro, ∀ y ∈ ([] : va_W), x.1 ≠ y.1 := fun _ _ _ _ hy => absurd hy List.not_mem_nil
/-- the symbol at a place of a row -/
def nib (x : Int64) (p : Nat) : Nat := x.toBitVec.toNat / 16 ^ p % 16
/-- a row with another symbol at a place -/
def wn (x : Int64) (p v : Nat) : Int64 := (x &&& (((15 : Int64) <<< ((nI (4 * p)).toInt64 &&& 63)) ^^^ (-1))) ||| ((nI v &&& nI 15).toInt64 <<< ((nI (4 * p)).toInt64 &&& 63))
theorem nib_lt (x : Int64) (p : Nat) : nib x p < 16 := Nat.mod_lt _ (by decide)
theorem pow16 (p : Nat) : 16 ^ p = 2 ^ (4 * p) := by rw [Nat.pow_mul]
theorem nib_bit (x : Int64) (p i : Nat) : (nib x p).testBit i = (decide (i < 4) && x.toBitVec.getLsbD (4 * p + i)) := by
  unfold nib
  rw [pow16, show (16 : Nat) = 2 ^ 4 from rfl, Nat.testBit_mod_two_pow, Nat.testBit_div_two_pow, BitVec.testBit_toNat, Nat.add_comm i]
theorem nA_eq {x : Int64} {p : Nat} (hp : p < 16) : ((x.toUInt64 >>> ((nI (4 * p)).toInt64.toUInt64 &&& Int64.toUInt64 63)).toInt64).toInt32 &&& nI 15 = nI (nib x p) := by
  obtain ⟨n, hn, rfl⟩ := wb_of x
  rw [wb_shr hn (by omega), lN_i, nx_and]
  unfold nib
  rw [wb_tn hn, pow16, show (15 : Nat) = 2 ^ 4 - 1 from rfl, Nat.and_two_pow_sub_one_eq_mod]
theorem shl_bit (a : Int64) {k : Nat} (hk : k < 64) (j : Nat) : (a <<< ((nI k).toInt64 &&& 63)).toBitVec.getLsbD j = (decide (j < 64) && !decide (j < k) && a.toBitVec.getLsbD (j - k)) := by
  rw [wb_c k hk, Int64.toBitVec_shiftLeft, wb_tb, wb_sm k hk, BitVec.shiftLeft_eq', BitVec.getLsbD_shiftLeft, BitVec.toNat_ofNat, Nat.mod_eq_of_lt (by omega)]
theorem b15 (j : Nat) : (15 : Int64).toBitVec.getLsbD j = decide (j < 4) := by
  rw [show (15 : Int64) = lN (2 ^ 4 - 1) from rfl, wb_tb, BitVec.getLsbD_ofNat, Nat.testBit_two_pow_sub_one]
  by_cases h : j < 4
  · simp [h, show j < 64 by omega]
  · simp [h]
theorem bm1 {j : Nat} (h : j < 64) : (-1 : Int64).toBitVec.getLsbD j = true := by
  have e : ∀ k, k < 64 → (-1 : Int64).toBitVec.getLsbD k = true := by decide +kernel
  exact e j h
theorem bv4 {v : Nat} (hv : v < 16) (j : Nat) : ((nI v &&& nI 15).toInt64).toBitVec.getLsbD j = (decide (j < 4) && v.testBit j) := by
  rw [nx_and, show (15 : Nat) = 2 ^ 4 - 1 from rfl, Nat.and_two_pow_sub_one_eq_mod, Nat.mod_eq_of_lt hv, nI_l (by omega), wb_tb, BitVec.getLsbD_ofNat]
  by_cases h : j < 4
  · simp [h, show j < 64 by omega]
  · have : v.testBit j = false := Nat.testBit_lt_two_pow (Nat.lt_of_lt_of_le hv (by rw [show (16 : Nat) = 2 ^ 4 from rfl]; exact Nat.pow_le_pow_right (by decide) (by omega)))
    simp [this]
theorem nib_wn {x : Int64} {p v q : Nat} (hp : p < 16) (hv : v < 16) (hq : q < 16) : nib (wn x p v) q = if q = p then v else nib x q := by
  apply Nat.eq_of_testBit_eq
  intro i
  rw [nib_bit]
  by_cases hi : i < 4
  · unfold wn
    rw [Int64.toBitVec_or, Int64.toBitVec_and, Int64.toBitVec_xor, BitVec.getLsbD_or, BitVec.getLsbD_and, BitVec.getLsbD_xor, shl_bit _ (by omega), shl_bit _ (by omega), b15, bv4 hv, bm1 (by omega)]
    by_cases hqp : q = p
    · subst hqp
      rw [if_pos rfl, Nat.add_sub_cancel_left]
      simp [hi, show 4 * q + i < 64 by omega, show ¬ 4 * q + i < 4 * q by omega]
    · rw [if_neg hqp, nib_bit]
      rcases Nat.lt_or_gt_of_ne hqp with h | h
      · simp [hi, show 4 * q + i < 64 by omega, show 4 * q + i < 4 * p by omega]
      · simp [hi, show 4 * q + i < 64 by omega, show ¬ 4 * q + i < 4 * p by omega, show ¬ 4 * q + i - 4 * p < 4 by omega]
  · have h1 : v.testBit i = false := Nat.testBit_lt_two_pow (Nat.lt_of_lt_of_le hv (by rw [show (16 : Nat) = 2 ^ 4 from rfl]; exact Nat.pow_le_pow_right (by decide) (by omega)))
    by_cases hqp : q = p
    · rw [if_pos hqp, h1]; simp [hi]
    · rw [if_neg hqp, nib_bit]; simp [hi]
theorem nib_ext {x y : Int64} (h : ∀ p, p < 16 → nib x p = nib y p) : x = y := by
  apply Int64.toBitVec_inj.mp
  apply BitVec.eq_of_getLsbD_eq
  intro j hj
  have h1 := congrArg (fun n => Nat.testBit n (j % 4)) (h (j / 4) (by omega))
  simp only [nib_bit] at h1
  have h2 : j % 4 < 4 := Nat.mod_lt _ (by decide)
  rw [show 4 * (j / 4) + j % 4 = j by omega] at h1
  simpa [h2] using h1
/-- elements: an element times the power n -/
def tp (a n : Nat) : Nat := if a = 0 then 0 else pw ((ex a + n % 15) % 15)
def gm (a b : Nat) : Nat := if b = 0 then 0 else tp a (ex b)
def gq (a b : Nat) : Nat := if b = 0 then 0 else tp a (15 - ex b)
theorem pw_lt : ∀ j, j < 15 → pw j < 16 := by decide +kernel
theorem ex_lt : ∀ a, a < 16 → ex a < 15 := by decide +kernel
theorem tp_lt {a n : Nat} : tp a n < 16 := by
  unfold tp
  split
  · decide
  · exact pw_lt _ (Nat.mod_lt _ (by decide))
theorem gm_lt {a b : Nat} : gm a b < 16 := by
  unfold gm; split
  · decide
  · exact tp_lt
theorem gq_lt {a b : Nat} : gq a b < 16 := by
  unfold gq; split
  · decide
  · exact tp_lt
theorem xor_lt16 {a b : Nat} (ha : a < 16) (hb : b < 16) : a ^^^ b < 16 := Nat.xor_lt_two_pow (n := 4) ha hb
section GLP
variable {p : Program} {l : Launch} {e : Env} {R : Room} {s : State} {m : MethodId} {args : Array Value} {below : List Frame} {meth : Method} {c : Code} {Q : State → Prop} {D : va_G} {cl : List vw_C} {tys : List (ClassId × FieldType)} {A : Nat → Prop} {nL : Nat} {ws : va_W} {cells slots : Nat} {cc : ByteArray} {own : String} {pc : Nat} {lv : List (Nat × Value)} {st : List Value}
/-- a counted loop, with a fact that goes along -/
theorem g_forP (N : Nat) (wsF : Nat → va_W) (lvF : Nat → List (Nat × Value)) (P : Nat → Prop) (hp0 : P 0) (h0 : wsF 0 = ws) (h1 : lvF 0 = lv) (hN : P N → GL p l e R s m args below meth c Q D cl tys A nL (wsF N) cells slots pc (lvF N) st)
    (hs : ∀ i : Nat, i < N → P i → (P (i + 1) → GL p l e R s m args below meth c Q D cl tys A nL (wsF (i + 1)) cells slots pc (lvF (i + 1)) st) → GL p l e R s m args below meth c Q D cl tys A nL (wsF i) cells slots pc (lvF i) st) : GL p l e R s m args below meth c Q D cl tys A nL ws cells slots pc lv st := by
  subst h0; subst h1
  have key : ∀ n i : Nat, i + n = N → P i → GL p l e R s m args below meth c Q D cl tys A nL (wsF i) cells slots pc (lvF i) st := by
    intro n
    induction n with
    | zero => intro i hi hp; have e : i = N := by omega
              subst e; exact hN hp
    | succ n ih => intro i hi hp; exact hs i (by omega) hp (fun hp => ih (i + 1) (by omega) hp)
  exact key N 0 (by omega) hp0
end GLP
theorem nx_or (a b : Nat) : nI a ||| nI b = nI (a ||| b) := by
  apply Int32.toBitVec_inj.1
  show BitVec.ofNat 32 a ||| BitVec.ofNat 32 b = BitVec.ofNat 32 (a ||| b)
  apply BitVec.eq_of_getLsbD_eq
  intro i hi
  simp [hi]
theorem sh1 {i : Nat} (h : i < 31) : nI 1 <<< (nI i &&& 31) = nI (2 ^ i) := by
  have e : ∀ i, i < 31 → nI 1 <<< (nI i &&& 31) = nI (2 ^ i) := by decide +kernel
  exact e i h
theorem nz_eq {a : Nat} (h : a < 2 ^ 31) : nI a = 0 ↔ a = 0 := by rw [← nI_0]; exact nI_eq h (by decide)
theorem nz_lt {a : Nat} (h : a < 2 ^ 31) : nI a < 0 ↔ False := ⟨fun q => nI_pos h q, fun q => q.elim⟩
theorem nz_ge {a : Nat} (h : a < 2 ^ 31) : 0 ≤ nI a ↔ True := ⟨fun _ => trivial, fun _ => nI_pos' h⟩
theorem nz_gt {a : Nat} (h : a < 2 ^ 31) : 0 < nI a ↔ 0 < a := by rw [← nI_0]; exact nI_ltI (by decide) h
theorem nz_le {a : Nat} (h : a < 2 ^ 31) : nI a ≤ 0 ↔ a = 0 := by
  rw [← nI_0, nI_leI h (by decide)]; omega
theorem m1s {c : Nat} (h : 1 ≤ c) : nI c + -nI 1 = nI (c - 1) := by
  obtain ⟨k, rfl⟩ : ∃ k, c = k + 1 := ⟨c - 1, by omega⟩
  rw [Nat.add_sub_cancel]
  exact pk_m1 k
theorem lc0 {x y : Int64} : lg_cmp x y = 0 ↔ x = y := by
  unfold lg_cmp
  by_cases h : x > y
  · rw [if_pos h]
    refine ⟨fun q => absurd q (by decide), fun q => ?_⟩
    subst q
    exact absurd h (by rw [gt_iff_lt, Int64.lt_iff_toInt_lt]; omega)
  · rw [if_neg h]
    by_cases h2 : x = y
    · rw [if_pos h2]; exact ⟨fun _ => h2, fun _ => rfl⟩
    · rw [if_neg h2]; exact ⟨fun q => absurd q (by decide), fun q => absurd q h2⟩
theorem in_eq {b q : Nat} (hb : b < 2 ^ 31) (hq : q < 31) : (nI b >>> (nI q &&& 31)) &&& nI 1 = nI (bN (b.testBit q)) := by
  rw [pk_shrN hb (nI q &&& 31) q (s_l q (by omega)), nx_and, Nat.and_one_is_mod, Nat.testBit_eq_decide_div_mod_eq]
  have := Nat.mod_two_eq_zero_or_one (b / 2 ^ q)
  rcases this with h | h <;> rw [h] <;> rfl
/-- an answer that may be none -/
def oI : Option Nat → Int32
  | none => -nI 1
  | some k => nI k
def oL : Option Int64 → Int64
  | none => -1
  | some w => w
/-- SUM j of a row, its first i places -/
def sm (x : Int64) (j : Nat) : Nat → Nat
  | 0 => 0
  | i + 1 => sm x j i ^^^ tp (nib x i) (i * j)
theorem sm_lt (x : Int64) (j i : Nat) : sm x j i < 16 := by
  induction i with
  | zero => exact Nat.zero_lt_succ _
  | succ i ih => exact xor_lt16 ih tp_lt
/-- the places that are not 0 -/
def pl (x : Int64) : Nat → Nat
  | 0 => 0
  | i + 1 => if nib x i = 0 then pl x i else pl x i ||| 2 ^ i
theorem or_lt {a b n : Nat} (ha : a < 2 ^ n) (hb : b < 2 ^ n) : a ||| b < 2 ^ n := Nat.or_lt_two_pow ha hb
theorem pl_lt (x : Int64) (i : Nat) : pl x i < 2 ^ i := by
  induction i with
  | zero => exact Nat.zero_lt_succ _
  | succ i ih =>
    have h1 : 2 ^ i < 2 ^ (i + 1) := Nat.pow_lt_pow_right (by decide) (by omega)
    unfold pl
    split
    · omega
    · exact or_lt (by omega) h1
/-- sums, one fewer, blind to a place -/
def bl (q : Nat) (x : Int64) : Nat → Int64
  | 0 => lN 0
  | k + 1 => wn (bl q x k) k (tp (nib x k) q ^^^ nib x (k + 1))
def oeP (x : Int64) : Nat := (ex (nib x 1) + 15 - ex (nib x 0)) % 15
/-- the place of the only error -/
def oe (x : Int64) (n : Nat) : Option Nat := if n < 2 ∨ nib x 0 = 0 ∨ nib x 1 = 0 then none else if ∀ k, k < n - 1 → tp (nib x k) (oeP x) = nib x (k + 1) then some (oeP x) else none
theorem oeP_lt (x : Int64) : oeP x < 15 := Nat.mod_lt _ (by decide)
theorem oe_lt {x : Int64} {n P : Nat} (h : oe x n = some P) : P < 15 := by
  unfold oe at h
  split at h
  · cases h
  · split at h
    · cases h; exact oeP_lt x
    · cases h
def fsome (f : Nat → Option Nat) : Nat → Nat → Option Nat
  | 0, _ => none
  | n + 1, i => match f i with
    | some v => some v
    | none => fsome f n (i + 1)
theorem fs_some {f : Nat → Option Nat} {N i v : Nat} (hi : i < N) (h : f i = some v) : fsome f (N - i) i = some v := by
  obtain ⟨k, hk⟩ : ∃ k, N - i = k + 1 := ⟨N - i - 1, by omega⟩
  rw [hk]; unfold fsome; rw [h]
theorem fs_none {f : Nat → Option Nat} {N i : Nat} (hi : i < N) (h : f i = none) : fsome f (N - i) i = fsome f (N - (i + 1)) (i + 1) := by
  obtain ⟨k, hk⟩ : ∃ k, N - i = k + 1 := ⟨N - i - 1, by omega⟩
  rw [hk, show N - (i + 1) = k by omega]; conv => lhs; unfold fsome
  rw [h]
def ebl (b : Nat) (x : Int64) : Nat → Int64
  | 0 => x
  | i + 1 => if b.testBit i then bl i (ebl b x i) (4 - pcn b i - 1) else ebl b x i
def eb2f (x : Int64) (i : Nat) : Option Nat := match oe (bl i x 3) 3 with
  | some t => if t = i then none else some (2 ^ i ||| 2 ^ t)
  | none => none
/-- the fewest places outside of b that explain the sums -/
def eb (b : Nat) (x : Int64) : Option Nat :=
  if ebl b x 15 = lN 0 then some 0 else
  match oe (ebl b x 15) (4 - pcn b 15) with
  | some P => if b.testBit P then (if 4 ≤ 4 - pcn b 15 then fsome (eb2f (ebl b x 15)) 15 0 else none) else some (2 ^ P)
  | none => if 4 ≤ 4 - pcn b 15 then fsome (eb2f (ebl b x 15)) 15 0 else none
/-- the suspects among the first i other than q -/
def pcx (q b : Nat) : Nat → Nat
  | 0 => 0
  | i + 1 => if i ≠ q ∧ b.testBit i = true then pcx q b i + 1 else pcx q b i
theorem pcx_mono (q b : Nat) {i j : Nat} (h : i ≤ j) : pcx q b i ≤ pcx q b j := by
  induction h with
  | refl => exact Nat.le_refl _
  | step _ ih =>
    refine Nat.le_trans ih ?_
    conv => rhs; unfold pcx
    split <;> omega
def eal (q b : Nat) (x : Int64) : Nat → Int64
  | 0 => x
  | i + 1 => if i ≠ q ∧ b.testBit i = true then bl i (eal q b x i) (4 - pcx q b i - 1) else eal q b x i
def eaf (q b : Nat) : Nat → Nat
  | 0 => tp 1 q
  | i + 1 => if i ≠ q ∧ b.testBit i = true then gm (eaf q b i) (tp 1 q ^^^ tp 1 i) else eaf q b i
theorem eaf_lt (q b i : Nat) : eaf q b i < 16 := by
  induction i with
  | zero => exact tp_lt
  | succ i ih => unfold eaf; split
                 · exact gm_lt
                 · exact ih
/-- what is wrong at a place -/
def ea (q b : Nat) (x : Int64) : Nat := gq (nib (eal q b x 15) 0) (eaf q b 15)
def sms (x : Int64) : Nat → Int64
  | 0 => lN 0
  | j + 1 => wn (sms x j) j (sm x (j + 1) 15)
def mwl (b : Nat) (z x : Int64) : Nat → Int64
  | 0 => x
  | i + 1 => if b.testBit i then mwl b z x i ^^^ wn (lN 0) i (ea i b z) else mwl b z x i
/-- the word that a row is mended to, b erased -/
def mw (b : Nat) (x : Int64) : Option Int64 := if 4 < pcn b 15 then none else match eb b (sms x 4) with
  | none => none
  | some r => some (mwl (b ||| r) (sms x 4) x 15)
