/-- a truth as a number -/
def bN (b : Bool) : Nat := if b then 1 else 0
theorem bN_lt (b : Bool) : bN b < 2 := by cases b <;> decide
theorem bN_eq0 {b : Bool} : nI (bN b) = 0 ↔ b = false := by cases b <;> decide
/-- how many of the first i bits are set -/
def pcn (b : Nat) : Nat → Nat
  | 0 => 0
  | i + 1 => pcn b i + bN (b.testBit i)
theorem pcn_mono (b : Nat) {i j : Nat} (h : i ≤ j) : pcn b i ≤ pcn b j := by
  induction h with
  | refl => exact Nat.le_refl _
  | step _ ih => exact Nat.le_trans ih (Nat.le_add_right _ _)
def bcI (i : Int32) : Int32 :=
  let a := i - ((i.toUInt32 >>> ((nI 1).toUInt32 &&& Int32.toUInt32 31)).toInt32 &&& nI 1431655765)
  let b := (a &&& nI 858993459) + ((a.toUInt32 >>> ((nI 2).toUInt32 &&& Int32.toUInt32 31)).toInt32 &&& nI 858993459)
  let c := (b + (b.toUInt32 >>> ((nI 4).toUInt32 &&& Int32.toUInt32 31)).toInt32) &&& nI 252645135
  let d := c + (c.toUInt32 >>> ((nI 8).toUInt32 &&& Int32.toUInt32 31)).toInt32
  let f := d + (d.toUInt32 >>> ((nI 16).toUInt32 &&& Int32.toUInt32 31)).toInt32
  f &&& nI 63
def bcN5 (f : Nat) : Nat := (f + f / 65536) &&& 63
def bcN4 (d : Nat) : Nat := bcN5 (d + d / 256)
def bcN3 (c : Nat) : Nat := bcN4 ((c + c / 16) &&& 252645135)
def bcN2 (a : Nat) : Nat := bcN3 ((a &&& 858993459) + ((a / 4) &&& 858993459))
def bcN (b : Nat) : Nat := bcN2 (b - ((b / 2) &&& 1431655765))
theorem us_n {n : Nat} (h : n < 2 ^ 32) (k : Nat) (hk : k < 32) : ((nI n).toUInt32 >>> ((nI k).toUInt32 &&& Int32.toUInt32 31)).toInt32 = nI (n / 2 ^ k) := pk_ushrN h _ k (s_u k hk)
theorem bcI_N {b : Nat} (hb : b < 32768) : bcI (nI b) = nI (bcN b) := by
  unfold bcI bcN bcN2 bcN3 bcN4 bcN5
  have h1 : (b / 2) &&& 1431655765 ≤ b := Nat.le_trans Nat.and_le_left (Nat.div_le_self _ _)
  obtain ⟨a, ha⟩ : ∃ a, a = b - ((b / 2) &&& 1431655765) := ⟨_, rfl⟩
  have ha2 : a < 32768 := by omega
  dsimp only
  rw [us_n (by omega) 1 (by decide), nx_and, pk_sub h1, ← ha, us_n (by omega) 2 (by decide), nx_and, nx_and, nI_add]
  obtain ⟨c, hc⟩ : ∃ c, c = (a &&& 858993459) + ((a / 2 ^ 2) &&& 858993459) := ⟨_, rfl⟩
  have hc2 : c < 65536 := by
    have := @Nat.and_le_left a 858993459
    have := @Nat.and_le_left (a / 2 ^ 2) 858993459
    have := Nat.div_le_self a (2 ^ 2)
    omega
  rw [← hc, us_n (by omega) 4 (by decide), nI_add, nx_and]
  obtain ⟨d, hd⟩ : ∃ d, d = (c + c / 2 ^ 4) &&& 252645135 := ⟨_, rfl⟩
  have hd2 : d < 131072 := by
    have := @Nat.and_le_left (c + c / 2 ^ 4) 252645135
    have := Nat.div_le_self c (2 ^ 4)
    omega
  rw [← hd, us_n (by omega) 8 (by decide), nI_add]
  have hd3 := Nat.div_le_self d (2 ^ 8)
  rw [us_n (by omega) 16 (by decide), nI_add, nx_and]
theorem bcN_0 : ∀ k, k < 64 → ∀ j, j < 64 → bcN (0 + 64 * k + j) = pcn (0 + 64 * k + j) 15 := by decide +kernel
theorem bcN_1 : ∀ k, k < 64 → ∀ j, j < 64 → bcN (4096 + 64 * k + j) = pcn (4096 + 64 * k + j) 15 := by decide +kernel
theorem bcN_2 : ∀ k, k < 64 → ∀ j, j < 64 → bcN (8192 + 64 * k + j) = pcn (8192 + 64 * k + j) 15 := by decide +kernel
theorem bcN_3 : ∀ k, k < 64 → ∀ j, j < 64 → bcN (12288 + 64 * k + j) = pcn (12288 + 64 * k + j) 15 := by decide +kernel
theorem bcN_4 : ∀ k, k < 64 → ∀ j, j < 64 → bcN (16384 + 64 * k + j) = pcn (16384 + 64 * k + j) 15 := by decide +kernel
theorem bcN_5 : ∀ k, k < 64 → ∀ j, j < 64 → bcN (20480 + 64 * k + j) = pcn (20480 + 64 * k + j) 15 := by decide +kernel
theorem bcN_6 : ∀ k, k < 64 → ∀ j, j < 64 → bcN (24576 + 64 * k + j) = pcn (24576 + 64 * k + j) 15 := by decide +kernel
theorem bcN_7 : ∀ k, k < 64 → ∀ j, j < 64 → bcN (28672 + 64 * k + j) = pcn (28672 + 64 * k + j) 15 := by decide +kernel
theorem bcI_eq {b : Nat} (hb : b < 32768) : bcI (nI b) = nI (pcn b 15) := by
  rw [bcI_N hb]
  congr 1
  have hk : b % 4096 / 64 < 64 := by omega
  have hj : b % 64 < 64 := by omega
  rcases (show b / 4096 = 0 ∨ b / 4096 = 1 ∨ b / 4096 = 2 ∨ b / 4096 = 3 ∨ b / 4096 = 4 ∨ b / 4096 = 5 ∨ b / 4096 = 6 ∨ b / 4096 = 7 by omega) with h | h | h | h | h | h | h | h
  · have e := bcN_0 _ hk _ hj
    rwa [show 0 + 64 * (b % 4096 / 64) + b % 64 = b by omega] at e
  · have e := bcN_1 _ hk _ hj
    rwa [show 4096 + 64 * (b % 4096 / 64) + b % 64 = b by omega] at e
  · have e := bcN_2 _ hk _ hj
    rwa [show 8192 + 64 * (b % 4096 / 64) + b % 64 = b by omega] at e
  · have e := bcN_3 _ hk _ hj
    rwa [show 12288 + 64 * (b % 4096 / 64) + b % 64 = b by omega] at e
  · have e := bcN_4 _ hk _ hj
    rwa [show 16384 + 64 * (b % 4096 / 64) + b % 64 = b by omega] at e
  · have e := bcN_5 _ hk _ hj
    rwa [show 20480 + 64 * (b % 4096 / 64) + b % 64 = b by omega] at e
  · have e := bcN_6 _ hk _ hj
    rwa [show 24576 + 64 * (b % 4096 / 64) + b % 64 = b by omega] at e
  · have e := bcN_7 _ hk _ hj
    rwa [show 28672 + 64 * (b % 4096 / 64) + b % 64 = b by omega] at e
