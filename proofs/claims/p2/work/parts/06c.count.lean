/-- a truth as a number -/
def bN (b : Bool) : Nat := if b then 1 else 0
theorem bN_lt (b : Bool) : bN b < 2 := by cases b <;> decide
theorem bN_eq0 {b : Bool} : nI (bN b) = 0 ↔ b = false := by cases b <;> decide
/-- how many of the first i bits are set -/
def pcn (b : Nat) : Nat → Nat
  | 0 => 0
  | i + 1 => pcn b i + bN (b.testBit i)
theorem pcn_mono (b : Nat) {i j : Nat} (h : i ≤ j) : pcn b i ≤ pcn b j := by
  induction h with
  | refl => exact Nat.le_refl _
  | step _ ih => exact Nat.le_trans ih (Nat.le_add_right _ _)
def bcI (i : Int32) : Int32 :=
  let a := i - ((i.toUInt32 >>> ((nI 1).toUInt32 &&& Int32.toUInt32 31)).toInt32 &&& nI 1431655765)
  let b := (a &&& nI 858993459) + ((a.toUInt32 >>> ((nI 2).toUInt32 &&& Int32.toUInt32 31)).toInt32 &&& nI 858993459)
  let c := (b + (b.toUInt32 >>> ((nI 4).toUInt32 &&& Int32.toUInt32 31)).toInt32) &&& nI 252645135
  let d := c + (c.toUInt32 >>> ((nI 8).toUInt32 &&& Int32.toUInt32 31)).toInt32
  let f := d + (d.toUInt32 >>> ((nI 16).toUInt32 &&& Int32.toUInt32 31)).toInt32
  f &&& nI 63
def bcN5 (f : Nat) : Nat := (f + f / 65536) &&& 63
def bcN4 (d : Nat) : Nat := bcN5 (d + d / 256)
def bcN3 (c : Nat) : Nat := bcN4 ((c + c / 16) &&& 252645135)
def bcN2 (a : Nat) : Nat := bcN3 ((a &&& 858993459) + ((a / 4) &&& 858993459))
def bcN (b : Nat) : Nat := bcN2 (b - ((b / 2) &&& 1431655765))
theorem us_n {n : Nat} (h : n < 2 ^ 32) (k : Nat) (hk : k < 32) : ((nI n).toUInt32 >>> ((nI k).toUInt32 &&& Int32.toUInt32 31)).toInt32 = nI (n / 2 ^ k) := pk_ushrN h _ k (s_u k hk)
theorem bcI_N {b : Nat} (hb : b < 32768) : bcI (nI b) = nI (bcN b) := by
  unfold bcI bcN bcN2 bcN3 bcN4 bcN5
  have h1 : (b / 2) &&& 1431655765 ≤ b := Nat.le_trans Nat.and_le_left (Nat.div_le_self _ _)
  obtain ⟨a, ha⟩ : ∃ a, a = b - ((b / 2) &&& 1431655765) := ⟨_, rfl⟩
  have ha2 : a < 32768 := by omega
  dsimp only
  rw [us_n (by omega) 1 (by decide), nx_and, pk_sub h1, ← ha, us_n (by omega) 2 (by decide), nx_and, nx_and, nI_add]
  obtain ⟨c, hc⟩ : ∃ c, c = (a &&& 858993459) + ((a / 2 ^ 2) &&& 858993459) := ⟨_, rfl⟩
  have hc2 : c < 65536 := by
    have := @Nat.and_le_left a 858993459
    have := @Nat.and_le_left (a / 2 ^ 2) 858993459
    have := Nat.div_le_self a (2 ^ 2)
    omega
  rw [← hc, us_n (by omega) 4 (by decide), nI_add, nx_and]
  obtain ⟨d, hd⟩ : ∃ d, d = (c + c / 2 ^ 4) &&& 252645135 := ⟨_, rfl⟩
  have hd2 : d < 131072 := by
    have := @Nat.and_le_left (c + c / 2 ^ 4) 252645135
    have := Nat.div_le_self c (2 ^ 4)
    omega
  rw [← hd, us_n (by omega) 8 (by decide), nI_add]
  have hd3 := Nat.div_le_self d (2 ^ 8)
  rw [us_n (by omega) 16 (by decide), nI_add, nx_and]
/-! both sides by nibbles: byte by byte, then five values a nibble -/
def zq_n (x : Nat) : Nat := x % 2 + x / 2 % 2 + x / 4 % 2 + x / 8 % 2
theorem zq_lt (x : Nat) : zq_n x < 5 := by unfold zq_n; omega
theorem zq_and (x m : Nat) : x &&& m = 256 * (x / 256 &&& m / 256) + (x % 256 &&& m % 256) := by
  have h1 : (x &&& m) / 2 ^ 8 = x / 2 ^ 8 &&& m / 2 ^ 8 := Nat.and_div_two_pow
  have h2 : (x &&& m) % 2 ^ 8 = (x % 2 ^ 8) &&& (m % 2 ^ 8) := Nat.and_mod_two_pow
  have h3 := Nat.div_add_mod (x &&& m) (2 ^ 8)
  rw [h1, h2] at h3
  exact h3.symm
theorem zq_t1 : ∀ z, z < 2 → ∀ y, y < 128 → (128 * z + y) &&& 85 = y &&& 85 := by decide +kernel
theorem zq_t2 : ∀ z, z < 4 → ∀ y, y < 64 → (64 * z + y) &&& 51 = y &&& 51 := by decide +kernel
def zq_A (m x : Nat) : Nat := x - (x / 2 &&& m)
def zq_C (m a : Nat) : Nat := (a &&& m) + (a / 4 &&& m)
theorem zq_h : ∀ h, h < 128 → zq_C 3355443 (zq_A 5592405 h) = 16 * zq_n (h / 16) + zq_n (h % 16) := by decide +kernel
theorem zq_l : ∀ l, l < 256 → zq_C 51 (zq_A 85 l) = 16 * zq_n (l / 16) + zq_n (l % 16) := by decide +kernel
theorem zq_5 : ∀ a, a < 5 → ∀ b, b < 5 → ∀ c, c < 5 → ∀ d, d < 5 → bcN3 (256 * (16 * a + b) + (16 * c + d)) = a + b + c + d := by decide +kernel
theorem zq_Cb {a1 a0 : Nat} (h : a0 < 256) : zq_C 858993459 (256 * a1 + a0) = 256 * zq_C 3355443 a1 + zq_C 51 a0 := by
  unfold zq_C
  rw [zq_and (256 * a1 + a0) 858993459, zq_and ((256 * a1 + a0) / 4) 858993459, show (256 * a1 + a0) / 256 = a1 by omega, show (256 * a1 + a0) % 256 = a0 by omega, show (256 * a1 + a0) / 4 / 256 = a1 / 4 by omega, show (256 * a1 + a0) / 4 % 256 = 64 * (a1 % 4) + a0 / 4 by omega, show (858993459 : Nat) / 256 = 3355443 from rfl, show (858993459 : Nat) % 256 = 51 from rfl, zq_t2 _ (by omega) _ (by omega)]
  omega
theorem zq_b {h l : Nat} (hh : h < 128) (hl : l < 256) : bcN (256 * h + l) = zq_n (h / 16) + zq_n (h % 16) + zq_n (l / 16) + zq_n (l % 16) := by
  have e1 : (256 * h + l) / 2 &&& 1431655765 = 256 * (h / 2 &&& 5592405) + (l / 2 &&& 85) := by
    rw [zq_and, show (256 * h + l) / 2 / 256 = h / 2 by omega, show (256 * h + l) / 2 % 256 = 128 * (h % 2) + l / 2 by omega, show (1431655765 : Nat) / 256 = 5592405 from rfl, show (1431655765 : Nat) % 256 = 85 from rfl, zq_t1 _ (by omega) _ (by omega)]
  have hq1 : (h / 2 &&& 5592405) ≤ h := Nat.le_trans Nat.and_le_left (Nat.div_le_self _ _)
  have hq2 : (l / 2 &&& 85) ≤ l := Nat.le_trans Nat.and_le_left (Nat.div_le_self _ _)
  have e2 : 256 * h + l - ((256 * h + l) / 2 &&& 1431655765) = 256 * zq_A 5592405 h + zq_A 85 l := by
    rw [e1]; unfold zq_A; omega
  have ha0 : zq_A 85 l < 256 := by unfold zq_A; omega
  show bcN3 (zq_C 858993459 (256 * h + l - ((256 * h + l) / 2 &&& 1431655765))) = _
  rw [e2, zq_Cb ha0, zq_h _ hh, zq_l _ hl]
  exact zq_5 _ (zq_lt _) _ (zq_lt _) _ (zq_lt _) _ (zq_lt _)
theorem zq_tb (b i : Nat) : bN (b.testBit i) = b / 2 ^ i % 2 := by
  rw [Nat.testBit_eq_decide_div_mod_eq]
  have h2 : b / 2 ^ i % 2 < 2 := Nat.mod_lt _ (by decide)
  generalize b / 2 ^ i % 2 = z at h2 ⊢
  match z, h2 with
  | 0, _ => rfl
  | 1, _ => rfl
theorem zq_p (b : Nat) : pcn b 15 = b / 1 % 2 + b / 2 % 2 + b / 4 % 2 + b / 8 % 2 + b / 16 % 2 + b / 32 % 2 + b / 64 % 2 + b / 128 % 2 + b / 256 % 2 + b / 512 % 2 + b / 1024 % 2 + b / 2048 % 2 + b / 4096 % 2 + b / 8192 % 2 + b / 16384 % 2 := by
  show 0 + bN (b.testBit 0) + bN (b.testBit 1) + bN (b.testBit 2) + bN (b.testBit 3) + bN (b.testBit 4) + bN (b.testBit 5) + bN (b.testBit 6) + bN (b.testBit 7) + bN (b.testBit 8) + bN (b.testBit 9) + bN (b.testBit 10) + bN (b.testBit 11) + bN (b.testBit 12) + bN (b.testBit 13) + bN (b.testBit 14) = _
  have h0 : bN (b.testBit 0) = b / 1 % 2 := zq_tb b 0
  have h1 : bN (b.testBit 1) = b / 2 % 2 := zq_tb b 1
  have h2 : bN (b.testBit 2) = b / 4 % 2 := zq_tb b 2
  have h3 : bN (b.testBit 3) = b / 8 % 2 := zq_tb b 3
  have h4 : bN (b.testBit 4) = b / 16 % 2 := zq_tb b 4
  have h5 : bN (b.testBit 5) = b / 32 % 2 := zq_tb b 5
  have h6 : bN (b.testBit 6) = b / 64 % 2 := zq_tb b 6
  have h7 : bN (b.testBit 7) = b / 128 % 2 := zq_tb b 7
  have h8 : bN (b.testBit 8) = b / 256 % 2 := zq_tb b 8
  have h9 : bN (b.testBit 9) = b / 512 % 2 := zq_tb b 9
  have h10 : bN (b.testBit 10) = b / 1024 % 2 := zq_tb b 10
  have h11 : bN (b.testBit 11) = b / 2048 % 2 := zq_tb b 11
  have h12 : bN (b.testBit 12) = b / 4096 % 2 := zq_tb b 12
  have h13 : bN (b.testBit 13) = b / 8192 % 2 := zq_tb b 13
  have h14 : bN (b.testBit 14) = b / 16384 % 2 := zq_tb b 14
  rw [h0, h1, h2, h3, h4, h5, h6, h7, h8, h9, h10, h11, h12, h13, h14, Nat.zero_add]
theorem zq_eq {b : Nat} (hb : b < 32768) : bcN b = pcn b 15 := by
  have e := zq_b (h := b / 256) (l := b % 256) (by omega) (by omega)
  rw [show 256 * (b / 256) + b % 256 = b by omega] at e
  have n1 : zq_n (b / 256 / 16) = b / 4096 % 2 + b / 8192 % 2 + b / 16384 % 2 := by unfold zq_n; omega
  have n2 : zq_n (b / 256 % 16) = b / 256 % 2 + b / 512 % 2 + b / 1024 % 2 + b / 2048 % 2 := by unfold zq_n; omega
  have n3 : zq_n (b % 256 / 16) = b / 16 % 2 + b / 32 % 2 + b / 64 % 2 + b / 128 % 2 := by unfold zq_n; omega
  have n4 : zq_n (b % 256 % 16) = b / 1 % 2 + b / 2 % 2 + b / 4 % 2 + b / 8 % 2 := by unfold zq_n; omega
  rw [e, zq_p, n1, n2, n3, n4]
  omega
theorem bcI_eq {b : Nat} (hb : b < 32768) : bcI (nI b) = nI (pcn b 15) := by
  rw [bcI_N hb, zq_eq hb]
