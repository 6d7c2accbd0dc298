/-! a word of the code is the word of its data -/
theorem tb15 : ∀ q, q < 4 → (15 : Nat).testBit q = true := by decide
theorem wd_back {y : Int64} (hy : cw y) (h15 : nib y 15 = 0) : wdO (lN (y.toBitVec.toNat / 65536)) = y ∧ y.toBitVec.toNat / 65536 < 2 ^ 44 := by
  have hX := x_60 h15
  have hd : y.toBitVec.toNat / 65536 < 2 ^ 44 := by omega
  refine ⟨?_, hd⟩
  have h1 := wd_some hd (R := fun _ => 0) (fun _ => Nat.zero_lt_succ _)
  have h2 : Slv 15 (wd (y.toBitVec.toNat / 65536) 11) y := by
    refine ⟨hy, ?_, fun q hq hne => ?_⟩
    · rw [h15, wd_n (Nat.le_refl _) (by decide), if_neg (fun z => by omega)]
    · by_cases h4 : q < 4
      · exact tb15 q h4
      · exfalso
        apply hne
        rw [wd_n (Nat.le_refl _) (by omega), if_pos ⟨by omega, by omega⟩]
        unfold nib
        rw [Nat.div_div_eq_div_mul, show (65536 : Nat) = 16 ^ 4 from rfl, ← Nat.pow_add, show 4 + (q - 4) = q by omega]
  exact Option.some.inj (h1.symm.trans (slv_s (by decide) h2))
theorem dtW_n {y : Int64} : dtW y = lN (y.toBitVec.toNat / 65536) := by
  have h1 := wb_shr (n := y.toBitVec.toNat) (k := 16) y.toBitVec.isLt (by decide)
  rw [← x_lN] at h1
  exact h1
/-- data that are kept: of a word, or of none -/
theorem mdt_n {y : Int64} (h15 : nib y 15 = 0) : mdt y = lN (y.toBitVec.toNat / 65536) := by
  rw [← dtW_n, mdt, if_neg (ne_m1 h15)]
  rfl
