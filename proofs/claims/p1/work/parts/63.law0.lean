/-! the law: what stands fast, what goes with its loop -/
def LX (p : Program) (l : Launch) (s : State) (m : MethodId) (meth : Method) (c : Code) (A : Nat → Prop) (b N : Nat) (xs : Nat → Int32) : Prop :=
  BX p m c cL_law 9 s #[.ref b] "ChipfieldLaw" meth ∧ SB A s s.heap ∧ (∀ q : Nat, s.heap.size ≤ q → A q) ∧ NC s ∧ l.stackTraces = false ∧ va_X b N xs s s.heap ∧ b < s.heap.size ∧ ¬ A b ∧ N ≤ 3072
/-- behind a case: any state that holds -/
def LK (p : Program) (l : Launch) (e : Env) (s : State) (m : MethodId) (below : List Frame) (meth : Method) (c : Code) (Q : State → Prop) (D : va_G) (A : Nat → Prop) (b : Nat) (adC adM : Nat → Nat) (g : Nat → ClassId) (ao k cells slots pcE : Nat) : Prop :=
  ∀ (I : Nat → Nat → Int32) (L : Nat → Nat → Int64) (S : Nat → Nat) (n : Nat) (Z : Nat → Nat → Int32) (Y : Int64) (R : Nat → Nat) (on : Int64) (ov : Value), Inv I L S n → R16 R → Z 0 = (fun j => nI (R j)) →
    GL p l e room_1 s m #[.ref b] below meth c Q D CL (TYS g) A 9 (WL adC adM g ao I L S Z Y on ov) (cells + 60) (slots + 1200) pcE [(0, .ref b), (1, .ref (adC 0)), (2, .ref (adM 0)), (3, .ref ao), (4, .int (nI (6 * k)))] []
/-- two ints as one long -/
def lg2 (a b : Int32) : Int64 := (a.toInt64 <<< ((nI 32).toInt64 &&& 63)) ||| (b.toInt64 &&& (4294967295 : Int64))
theorem em_d (x : Int64) : (∃ dd, dd < 2 ^ 44 ∧ x = lN dd) ∨ ¬ dOK x := by
  by_cases h : dOK x
  · exact Or.inl ⟨_, dOK_n h, x_lN x⟩
  · exact Or.inr h
theorem rgm (x : Int32) : x = -nI 1 ∨ (∃ q, q < 16 ∧ x = nI q) ∨ (x.toInt < -1 ∨ (16 : Int) ≤ x.toInt) := by
  rcases rg x 0 16 with ⟨q, -, h, e⟩ | h
  · exact Or.inr (Or.inl ⟨q, h, e⟩)
  · by_cases e : x.toInt = -1
    · refine Or.inl (Int32.toInt_inj.mp ?_)
      rw [e]; decide
    · exact Or.inr (Or.inr (by omega))
theorem mad_c {x : Int32} (h : x.toInt < -1 ∨ (16 : Int) ≤ x.toInt) : x < 0 ∨ ¬ x ≤ nI 15 := by
  rw [Int32.lt_iff_toInt_lt, Int32.le_iff_toInt_le, nI_toInt (by decide), show (0 : Int32).toInt = 0 from by decide]; omega
theorem mad_m {x : Int32} (h : x.toInt < -1 ∨ (16 : Int) ≤ x.toInt) : x < -nI 1 ∨ ¬ x ≤ nI 15 := by
  rw [Int32.lt_iff_toInt_lt, Int32.le_iff_toInt_le, nI_toInt (by decide), show (-nI 1).toInt = -1 from by decide]; omega
theorem mad_e {x : Int32} (h : x.toInt < -1 ∨ (16 : Int) ≤ x.toInt) : ¬ x = -nI 1 := by
  rintro rfl
  rw [show (-nI 1).toInt = -1 from by decide] at h
  omega
theorem sw_and (x : Int32) : ∃ j, j < 64 ∧ x &&& nI 63 = nI j := by
  rcases rg (x &&& nI 63) 0 64 with ⟨q, -, h, e⟩ | h
  · exact ⟨q, h, e⟩
  · exfalso
    have e : (x &&& nI 63).toBitVec = x.toBitVec &&& 63#32 := rfl
    have h1 : (x &&& nI 63).toBitVec.toNat ≤ 63 := by
      rw [e, BitVec.toNat_and]
      exact Nat.and_le_right
    have h2 : (x &&& nI 63).toInt = (x &&& nI 63).toBitVec.toInt := rfl
    rw [BitVec.toInt_eq_toNat_cond] at h2
    omega
theorem six (k : Nat) : nI (6 * k + 6) = nI (6 * (k + 1)) := by rw [Nat.mul_succ]
theorem lw_end {k N : Nat} (hN : N ≤ 3072) (hk : k = N / 6) : nI N - nI 6 < nI (6 * k) := by
  rw [Int32.lt_iff_toInt_lt, pk_sub_toInt (by omega) (by omega), nI_toInt (by omega)]; omega
theorem lw_on {k N : Nat} (hN : N ≤ 3072) (hk : k < N / 6) : ¬ nI N - nI 6 < nI (6 * k) := by
  rw [Int32.lt_iff_toInt_lt, pk_sub_toInt (by omega) (by omega), nI_toInt (by omega)]; omega
