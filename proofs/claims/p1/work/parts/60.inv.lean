/-! what holds of the state of both sides before and behind every call -/
def E4 (I : Nat → Nat → Int32) (S : Nat → Nat) : Prop := pcn (ers I S 15) 15 ≤ 4
def HIn (I : Nat → Nat → Int32) (L : Nat → Nat → Int64) : Prop := ∀ k, k < 4 → (I 5 k = -nI 1 ↔ L 3 k = -1)
def Seat (I : Nat → Nat → Int32) (S : Nat → Nat) : Prop := ∀ p, p < 15 → I 0 (S p) = nI p
def SOK (S : Nat → Nat) : Prop := (∀ p, p < 15 → S p < 18) ∧ ∀ p q, p < 15 → q < 15 → S p = S q → p = q
def Inv (I : Nat → Nat → Int32) (L : Nat → Nat → Int64) (S : Nat → Nat) (n : Nat) : Prop :=
  SOK S ∧ kOK I ∧ bOK I ∧ Seat I S ∧ SPI I n ∧ E4 I S ∧ FrI I ∧ FwI I L ∧ HIn I L ∧ ∃ k, k < 16 ∧ I 8 1 = nI k
section INV
variable {I J : Nat → Nat → Int32} {L M : Nat → Nat → Int64} {S : Nat → Nat} {n q k c : Nat} {x : Int64} {v : Int32}
theorem Inv.s18 (h : Inv I L S n) : ∀ p, p < 15 → S p < 18 := h.1.1
theorem Inv.sij (h : Inv I L S n) : ∀ p q, p < 15 → q < 15 → S p = S q → p = q := h.1.2
theorem Inv.ky (h : Inv I L S n) : kOK I := h.2.1
theorem Inv.b (h : Inv I L S n) : bOK I := h.2.2.1
theorem Inv.seat (h : Inv I L S n) : Seat I S := h.2.2.2.1
theorem Inv.sp (h : Inv I L S n) : SPI I n := h.2.2.2.2.1
theorem Inv.e4 (h : Inv I L S n) : E4 I S := h.2.2.2.2.2.1
theorem Inv.fr (h : Inv I L S n) : FrI I := h.2.2.2.2.2.2.1
theorem Inv.fw (h : Inv I L S n) : FwI I L := h.2.2.2.2.2.2.2.1
theorem Inv.hin (h : Inv I L S n) : HIn I L := h.2.2.2.2.2.2.2.2.1
theorem Inv.at_ (h : Inv I L S n) : ∃ k, k < 16 ∧ I 8 1 = nI k := h.2.2.2.2.2.2.2.2.2
theorem Inv.seat_lt (h : Inv I L S n) {p : Nat} (hp : p < 15) : S p < n := by
  apply Nat.lt_of_not_le
  intro hn
  have h1 := ((h.sp.2.2.2.1 (S p) (h.s18 p hp)).mpr hn).1
  rw [h.seat p hp] at h1
  exact m1_ne (by omega) h1
theorem SPI.of (h : SPI I n) (h0 : ∀ c, J 0 c = I 0 c) (h4 : ∀ c, J 4 c = I 4 c) (h85 : J 8 5 = I 8 5) (h2 : ∀ c, n ≤ c → c < 18 → J 2 c = I 2 c) (h3 : ∀ c, n ≤ c → c < 18 → J 3 c = I 3 c) : SPI J n := by
  refine ⟨by rw [h85]; exact h.1, h.2.1, h.2.2.1, fun c hc => ?_, fun c hc hc2 => ?_⟩
  · rw [h0, h4]; exact h.2.2.2.1 c hc
  · rw [h2 c hc hc2, h3 c hc hc2]; exact h.2.2.2.2 c hc hc2
theorem FrI.of6 (h : FrI I) (h5 : ∀ k, J 5 k = I 5 k) (h6 : ∀ k, ¬ J 6 k = 0 → ¬ I 6 k = 0) : FrI J := fun k hk hn => by
  have := h k hk (h6 k hn)
  unfold lnN at this ⊢
  rw [h5]; exact this
theorem FwI.of6 (h : FwI I L) (h6 : ∀ k, ¬ J 6 k = 0 → ¬ I 6 k = 0) (h3 : ∀ k, M 3 k = L 3 k) : FwI J M := fun k hk hn => by rw [h3]; exact h k hk (h6 k hn)
/-- most calls leave most alone -/
theorem Inv.keep (h : Inv I L S n) (h0 : ∀ c, J 0 c = I 0 c) (h1 : ∀ c, J 1 c = I 1 c) (h2 : ∀ c, J 2 c = I 2 c) (h3 : ∀ c, J 3 c = I 3 c) (h4 : ∀ c, J 4 c = I 4 c) (h5 : ∀ c, J 5 c = I 5 c) (h6 : ∀ k, ¬ J 6 k = 0 → ¬ I 6 k = 0) (h85 : J 8 5 = I 8 5) (h81 : J 8 1 = I 8 1) (hL : ∀ k, M 3 k = L 3 k) : Inv J M S n := by
  refine ⟨h.1, h.ky.of h1, h.b.of h3, fun p hp => by rw [h0]; exact h.seat p hp, h.sp.of h0 h4 h85 (fun c _ _ => h2 c) (fun c _ _ => h3 c), ?_, h.fr.of6 h5 h6, h.fw.of6 h6 hL, fun k hk => by rw [h5, hL]; exact h.hin k hk, ?_⟩
  · unfold E4; rw [ers_c h3]; exact h.e4
  · rw [h81]; exact h.at_
theorem Inv.ofL (h : Inv I L S n) (hL : ∀ k, M 3 k = L 3 k) : Inv I M S n := h.keep (fun _ => rfl) (fun _ => rfl) (fun _ => rfl) (fun _ => rfl) (fun _ => rfl) (fun _ => rfl) (fun _ h => h) rfl rfl hL
theorem Inv.u8 (h : Inv I L S n) {j : Nat} (h5 : j ≠ 5) (h1 : j ≠ 1) : Inv (u2 I 8 j v) L S n := h.keep (fun _ => u2_n (by decide)) (fun _ => u2_n (by decide)) (fun _ => u2_n (by decide)) (fun _ => u2_n (by decide)) (fun _ => u2_n (by decide)) (fun _ => u2_n (by decide)) (fun _ g => by rw [u2_n (by decide)] at g; exact g) (u2_m (fun e => h5 e.symm)) (u2_m (fun e => h1 e.symm)) (fun _ => rfl)
theorem Inv.u81 (h : Inv I L S n) (hk : k < 16) : Inv (u2 I 8 1 (nI k)) L S n := by
  have h2 : Inv (u2 (u2 I 8 1 (nI k)) 8 1 (I 8 1)) L S n := by rw [u2_uu, u2_id rfl]; exact h
  exact ⟨h.1, h.ky.of (fun _ => u2_n (by decide)), h.b.of (fun _ => u2_n (by decide)), fun p hp => by rw [u2_n (by decide)]; exact h.seat p hp, h.sp.of (fun _ => u2_n (by decide)) (fun _ => u2_n (by decide)) (u2_m (by decide)) (fun _ _ _ => u2_n (by decide)) (fun _ _ _ => u2_n (by decide)), by unfold E4; rw [ers_8]; exact h.e4, h.fr.of (fun _ => u2_n (by decide)) (fun _ => u2_n (by decide)), h.fw.of (fun _ => u2_n (by decide)) (fun _ => rfl), fun j hj => by rw [u2_n (by decide)]; exact h.hin j hj, k, hk, u2_s⟩
theorem Inv.mad (h : Inv I L S n) (hv : v = -nI 1 ∨ ∃ k, k < 16 ∧ v = nI k) : Inv (u2 I 1 c v) L S n := by
  refine ⟨h.1, fun d hd => ?_, h.b.of (fun _ => u2_n (by decide)), fun p hp => by rw [u2_n (by decide)]; exact h.seat p hp, h.sp.of (fun _ => u2_n (by decide)) (fun _ => u2_n (by decide)) (u2_n (by decide)) (fun _ _ _ => u2_n (by decide)) (fun _ _ _ => u2_n (by decide)), ?_, h.fr.of (fun _ => u2_n (by decide)) (fun _ => u2_n (by decide)), h.fw.of (fun _ => u2_n (by decide)) (fun _ => rfl), fun j hj => by rw [u2_n (by decide)]; exact h.hin j hj, ?_⟩
  · by_cases e : d = c
    · subst e; rw [u2_s]; exact hv
    · rw [u2_m e]; exact h.ky d hd
  · unfold E4; rw [ers_c (fun _ => u2_n (by decide))]; exact h.e4
  · rw [u2_n (by decide)]; exact h.at_
theorem pcn_mn {a b : Nat} (n : Nat) (h : ∀ p, p < n → a.testBit p = true → b.testBit p = true) : pcn a n ≤ pcn b n := by
  induction n with
  | zero => exact Nat.le_refl _
  | succ n ih =>
    rw [pcn, pcn]
    have h1 := ih (fun p hp => h p (by omega))
    have h2 : bN (a.testBit n) ≤ bN (b.testBit n) := by
      cases ha : a.testBit n
      · exact Nat.zero_le _
      · rw [h n (by omega) ha]; exact Nat.le_refl _
    omega
/-- others are erased: no more than four -/
theorem oth_le (h : E4 I S) : pcn (ers I S 15 &&& (32767 ^^^ 2 ^ q)) 15 ≤ 4 := Nat.le_trans (pcn_mn 15 (fun p _ hb => by rw [Nat.testBit_and] at hb; exact (Bool.and_eq_true_iff.mp hb).1)) h
theorem oth_tb {p : Nat} (hp : p < 15) : (ers I S 15 &&& (32767 ^^^ 2 ^ q)).testBit p = ((!(I 3 (S p) == 0)) && !decide (q = p)) := by
  rw [Nat.testBit_and, Nat.testBit_xor, ers_tb, show (32767 : Nat) = 2 ^ 15 - 1 from rfl, Nat.testBit_two_pow_sub_one, Nat.testBit_two_pow]
  simp [hp]
theorem ers_put_tb (hI : ∀ p q, p < 15 → q < 15 → S p = S q → p = q) (hq : q < 15) {p : Nat} (hp : p < 15) : (ers (u2 I 3 (S q) v) S 15).testBit p = if p = q then !(v == 0) else !(I 3 (S p) == 0) := by
  rw [ers_tb]
  by_cases e : p = q
  · subst e; rw [u2_s, if_pos rfl]; simp [hp]
  · rw [u2_m (fun z => e (hI p q hp hq z)), if_neg e]; simp [hp]
theorem Inv.erase0 (h : Inv I L S n) (hq : q < 15) : Inv (u2 I 3 (S q) (nI 0)) L S n := by
  have hlt := h.seat_lt hq
  refine ⟨h.1, h.ky.of (fun _ => u2_n (by decide)), fun d hd => ?_, fun p hp => by rw [u2_n (by decide)]; exact h.seat p hp, h.sp.of (fun _ => u2_n (by decide)) (fun _ => u2_n (by decide)) (u2_n (by decide)) (fun _ _ _ => u2_n (by decide)) (fun c hc _ => u2_m (by omega)), ?_, h.fr.of (fun _ => u2_n (by decide)) (fun _ => u2_n (by decide)), h.fw.of (fun _ => u2_n (by decide)) (fun _ => rfl), fun j hj => by rw [u2_n (by decide)]; exact h.hin j hj, by rw [u2_n (by decide)]; exact h.at_⟩
  · by_cases e : d = S q
    · subst e; rw [u2_s]; exact Or.inl rfl
    · rw [u2_m e]; exact h.b d hd
  · refine Nat.le_trans (pcn_mn 15 (fun p hp hb => ?_)) h.e4
    rw [ers_put_tb h.sij hq hp] at hb
    rw [ers_tb]
    by_cases e : p = q
    · rw [if_pos e] at hb; exact absurd hb (by decide)
    · rw [if_neg e] at hb; simp [hp, hb] at hb ⊢
theorem Inv.erase1 (h : Inv I L S n) (hq : q < 15) (h4 : pcn (ers I S 15 &&& (32767 ^^^ 2 ^ q)) 15 < 4) : Inv (u2 I 3 (S q) (nI 1)) L S n := by
  have hlt := h.seat_lt hq
  refine ⟨h.1, h.ky.of (fun _ => u2_n (by decide)), h.b.put, fun p hp => by rw [u2_n (by decide)]; exact h.seat p hp, h.sp.of (fun _ => u2_n (by decide)) (fun _ => u2_n (by decide)) (u2_n (by decide)) (fun _ _ _ => u2_n (by decide)) (fun c hc _ => u2_m (by omega)), ?_, h.fr.of (fun _ => u2_n (by decide)) (fun _ => u2_n (by decide)), h.fw.of (fun _ => u2_n (by decide)) (fun _ => rfl), fun j hj => by rw [u2_n (by decide)]; exact h.hin j hj, by rw [u2_n (by decide)]; exact h.at_⟩
  unfold E4
  have h1 := pcn_set (a := ers (u2 I 3 (S q) (nI 1)) S 15) (b := ers I S 15 &&& (32767 ^^^ 2 ^ q)) (i := q) (by rw [ers_put_tb h.sij hq hq, if_pos rfl]; decide) (by rw [oth_tb hq]; simp) 15 (fun p hp hne => by rw [ers_put_tb h.sij hq hp, if_neg hne, oth_tb hp]; simp; exact fun _ e => hne e.symm)
  rw [if_pos hq] at h1
  omega
theorem cm_o (h : ∀ p, p < 15 → S p ≠ c) {b : Nat} (i : Nat) (hi : i ≤ 15) : cm I S b i 2 c = I 2 c := by
  induction i with
  | zero => rfl
  | succ i ih =>
    rw [cm]
    split
    · exact ih (by omega)
    · split
      · rw [u2_m (fun e => h i (by omega) e.symm)]; exact ih (by omega)
      · exact ih (by omega)
theorem ftI_o (h : ∀ p, p < 15 → S p ≠ c) : ftI I L S q 2 c = I 2 c := by
  rw [ftI]
  split
  · rw [u2_n (by decide), u2_n (by decide)]
  · split
    · rw [u2_n (by decide)]
    · rw [cmA, cm_o h 15 (Nat.le_refl _), u2_n (by decide), u2_n (by decide)]
theorem erb_o (h : ∀ p, p < 15 → S p ≠ c) (i : Nat) (hi : i ≤ 15) : (erb I S i).1 3 c = I 3 c := by
  induction i with
  | zero => rfl
  | succ i ih =>
    rw [erb]
    split
    · exact ih (by omega)
    · split
      · exact ih (by omega)
      · split
        · show u2 (erb I S i).1 3 (S i) (nI 1) 3 c = _
          rw [u2_m (fun e => h i (by omega) e.symm)]; exact ih (by omega)
        · exact ih (by omega)
theorem erb_4 (h : E4 I S) (i : Nat) : (erb I S i).2 ≤ 4 := by
  induction i with
  | zero => exact h
  | succ i ih =>
    rw [erb]
    split
    · exact ih
    · split
      · exact ih
      · split
        · show (erb I S i).2 + 1 ≤ 4; omega
        · exact ih
theorem Inv.ft (h : Inv I L S n) : Inv (ftA I L S q) (ftL I L S q) S n := by
  have hns : ∀ c, n ≤ c → ∀ p, p < 15 → S p ≠ c := fun c hc p hp e => by have := h.seat_lt hp; omega
  refine ⟨h.1, h.ky.ft, h.b.ft, fun p hp => by rw [ftA_n (by decide) (by decide) (by decide)]; exact h.seat p hp, h.sp.of (fun _ => ftA_n (by decide) (by decide) (by decide)) (fun _ => ftA_n (by decide) (by decide) (by decide)) (ftA_8 (by decide) (by decide) (by decide)) (fun c hc _ => ?_) (fun c hc _ => ?_), ?_, h.fr.ft, h.fw.ft, fun k hk => ?_, ?_⟩
  · rw [ftA, erA, erb_n (by decide), ftI_o (hns c hc)]
  · rw [ftA, erA, erb_o (hns c hc) 15 (Nat.le_refl _), ftI_n (by decide) (by decide)]
  · have h4 : E4 (ftI I L S q) S := by unfold E4; rw [ers_c (fun _ => ftI_n (by decide) (by decide))]; exact h.e4
    have hc := erb_cnt (I := ftI I L S q) h.sij 15 (Nat.le_refl _)
    unfold E4 ftA erA
    rw [← hc]; exact erb_4 h4 15
  · rw [ftA_n (by decide) (by decide) (by decide), ftL_n (by decide)]; exact h.hin k hk
  · rw [ftA_8 (by decide) (by decide) (by decide)]; exact h.at_
theorem Inv.ptr {m : Nat} (h : Inv I L S n) (t : Nat) : Inv (ptr I L S m t).1 (ptr I L S m t).2 S n := by
  induction t with
  | zero => exact h
  | succ t ih =>
    rw [ptr_s1, ptr_s2]
    exact (ih.u81 (Nat.mod_lt _ (by decide))).ft
theorem Inv.use (h : Inv I L S n) : Inv (useI I k) L S n := by
  unfold useI
  exact (h.u8 (j := 8) (by decide) (by decide)).keep (fun _ => u2_n (by decide)) (fun _ => u2_n (by decide)) (fun _ => u2_n (by decide)) (fun _ => u2_n (by decide)) (fun _ => u2_n (by decide)) (fun _ => u2_n (by decide)) (fun _ g => by rw [u2_n (by decide)] at g; exact g) (u2_n (by decide)) (u2_n (by decide)) (fun _ => rfl)
theorem wbI_6 {j : Nat} (h : ¬ wbI I k 6 j = 0) : ¬ I 6 j = 0 := by
  rw [wbI] at h
  split at h
  · exact h
  · by_cases e : j = k
    · subst e; rw [u2_s] at h; exact absurd rfl h
    · rw [u2_m e] at h; exact h
theorem Inv.wb (h : Inv I L S n) : Inv (wbI I k) (wbL I L S k) S n :=
  h.keep (fun _ => wbI_n (Or.inl (by decide))) (fun _ => wbI_n (Or.inl (by decide))) (fun _ => wbI_n (Or.inl (by decide))) (fun _ => wbI_n (Or.inl (by decide))) (fun _ => wbI_n (Or.inl (by decide))) (fun _ => wbI_n (Or.inl (by decide))) (fun _ => wbI_6) (wbI_n (Or.inl (by decide))) (wbI_n (Or.inl (by decide))) (fun _ => wbL_n (by decide))
theorem ln_put (hq : q < 16) : lnN (u2 I 5 k (nI q)) k = q := by unfold lnN; rw [u2_s, pk_tn (by omega)]
theorem Inv.fill (h : Inv I L S n) (hq : q < 16) (hx : cw x ∧ nib x 15 = 0) : Inv (u2 I 5 k (nI q)) (u2 L 3 k x) S n := by
  refine ⟨h.1, h.ky.of (fun _ => u2_n (by decide)), h.b.of (fun _ => u2_n (by decide)), fun p hp => by rw [u2_n (by decide)]; exact h.seat p hp, h.sp.of (fun _ => u2_n (by decide)) (fun _ => u2_n (by decide)) (u2_n (by decide)) (fun _ _ _ => u2_n (by decide)) (fun _ _ _ => u2_n (by decide)), ?_, fun j hj hn => ?_, fun j hj hn => ?_, fun j hj => ?_, by rw [u2_n (by decide)]; exact h.at_⟩
  · unfold E4; rw [ers_c (fun _ => u2_n (by decide))]; exact h.e4
  · by_cases e : j = k
    · subst e; rw [ln_put hq]; exact ⟨hq, u2_s⟩
    · rw [u2_n (by decide)] at hn
      have := h.fr j hj hn
      unfold lnN at this ⊢
      rw [u2_m e]; exact this
  · rw [u2_n (by decide)] at hn
    by_cases e : j = k
    · subst e; rw [u2_s]; exact hx
    · rw [u2_m e]; exact h.fw j hj hn
  · by_cases e : j = k
    · subst e; rw [u2_s, u2_s]
      exact ⟨fun z => absurd z (m1_ne (by omega)), fun z => absurd z (ne_m1 hx.2)⟩
    · rw [u2_m e, u2_m e]; exact h.hin j hj
theorem Inv.dirty (h : Inv I L S n) (hl : lnN I k < 16 ∧ I 5 k = nI (lnN I k)) (hw : cw (L 3 k) ∧ nib (L 3 k) 15 = 0) : Inv (u2 I 6 k v) L S n := by
  refine ⟨h.1, h.ky.of (fun _ => u2_n (by decide)), h.b.of (fun _ => u2_n (by decide)), fun p hp => by rw [u2_n (by decide)]; exact h.seat p hp, h.sp.of (fun _ => u2_n (by decide)) (fun _ => u2_n (by decide)) (u2_n (by decide)) (fun _ _ _ => u2_n (by decide)) (fun _ _ _ => u2_n (by decide)), ?_, fun j hj hn => ?_, fun j hj hn => ?_, fun j hj => by rw [u2_n (by decide)]; exact h.hin j hj, by rw [u2_n (by decide)]; exact h.at_⟩
  · unfold E4; rw [ers_c (fun _ => u2_n (by decide))]; exact h.e4
  · have e5 : lnN (u2 I 6 k v) j = lnN I j := by unfold lnN; rw [u2_n (by decide)]
    rw [e5, u2_n (by decide)]
    by_cases e : j = k
    · subst e; exact hl
    · rw [u2_m e] at hn; exact h.fr j hj hn
  · by_cases e : j = k
    · subst e; exact hw
    · rw [u2_m e] at hn; exact h.fw j hj hn
theorem ln_use : lnN (useI I k) k = lnN I k := by unfold lnN useI; rw [u2_n (by decide), u2_n (by decide)]
theorem Inv.rm (h : Inv I L S n) (hq : q < 16) (hx : cw x ∧ nib x 15 = 0) : Inv (rmI I q) (rmL I L S x) S n := (h.wb.fill hq hx).use
theorem Inv.ld (h : Inv I L S n) (hq : q < 16) : Inv (ldI I L S q) (ldL I L S q) S n := by
  rcases hfo : fof I q with _ | k
  · by_cases hb : oL (mwd (mis I) L S q) = -1
    · rw [(ld_b (L := L) (S := S) hfo hb).1, (ld_b (L := L) (S := S) hfo hb).2.1]
      exact (h.u8 (by decide) (by decide)).ft
    · rw [(ld_n (L := L) (S := S) hfo hb).1, (ld_n (L := L) (S := S) hfo hb).2.1]
      obtain ⟨y, hy⟩ := oL_ne hb
      have hx : cw (oL (mwd (mis I) L S q)) ∧ nib (oL (mwd (mis I) L S q)) 15 = 0 := by
        rw [hy]; exact ⟨(mw_adm hy).1, fn_15 hy⟩
      exact (h.u8 (j := 7) (by decide) (by decide)).ft.rm hq hx
  · rw [(ld_s (L := L) (S := S) hfo).1, (ld_s (L := L) (S := S) hfo).2.1]
    exact (h.u8 (j := 6) (by decide) (by decide)).use
theorem Inv.st (h : Inv I L S n) (hq : q < 16) (hx : cw x ∧ nib x 15 = 0) : Inv (stI I q) (stL I L S q x) S n := by
  rcases hfo : fof I q with _ | k
  · rw [(st_n (L := L) (S := S) (x := x) hfo).1, (st_n (L := L) (S := S) (x := x) hfo).2.1]
    have h1 := (show Inv (mis I) L S n from h.u8 (j := 7) (v := I 8 7 + nI 1) (by decide) (by decide)).rm hq hx
    refine h1.dirty ?_ ?_
    · rw [rmI, ln_use, ln_put hq]
      refine ⟨hq, ?_⟩
      unfold useI
      rw [u2_n (by decide), u2_n (by decide), u2_s]
    · rw [rmL, u2_s]; exact hx
  · rw [(st_s (L := L) (S := S) (x := x) hfo).1, (st_s (L := L) (S := S) (x := x) hfo).2.1]
    have h1 := ((h.u8 (j := 6) (v := I 8 6 + nI 1) (by decide) (by decide)).fill (k := k) hq hx).use (k := k)
    refine h1.dirty ?_ ?_
    · rw [ln_use, ln_put hq]
      refine ⟨hq, ?_⟩
      unfold useI
      rw [u2_n (by decide), u2_n (by decide), u2_s]
    · rw [u2_s]; exact hx
theorem Inv.wba (h : Inv I L S n) (i : Nat) : Inv (wba I L S i).1 (wba I L S i).2 S n := by
  induction i with
  | zero => exact h
  | succ i ih => exact ih.wb
theorem ffl_n {a b : Nat} (h : a ≠ 0) (i j : Nat) : ffl I L S q c b i a j = L a j := by
  induction i with
  | zero => rfl
  | succ i ih => rw [ffl_s, u2_n h, ih]
theorem Inv.rp {b : Nat} (h : Inv I L S n) (hq : q < 15) (hn : n < 18) : Inv (rpI I S q n) (ffl J L S q c b 16) (u1 S q n) (n + 1) := by
  have hsq := h.seat_lt hq
  have r0 : ∀ d, d ≠ n → d ≠ S q → rpI I S q n 0 d = I 0 d := fun d h1 h2 => by
    unfold rpI; rw [u2_m h1, u2_n (by decide), u2_m h2, u2_n (by decide)]
  have r0n : rpI I S q n 0 n = nI q := by unfold rpI; exact u2_s
  have r4 : ∀ d, d ≠ S q → rpI I S q n 4 d = I 4 d := fun d h1 => by
    unfold rpI; rw [u2_n (by decide), u2_m h1, u2_n (by decide), u2_n (by decide)]
  have r4s : rpI I S q n 4 (S q) = nI 1 := by unfold rpI; rw [u2_n (by decide)]; exact u2_s
  have ro : ∀ a d, a ≠ 0 → a ≠ 4 → a ≠ 8 → rpI I S q n a d = I a d := fun a d h0 h4 h8 => by
    unfold rpI; rw [u2_n h0, u2_n h4, u2_n h0, u2_n h8]
  have r85 : rpI I S q n 8 5 = nI (n + 1) := by unfold rpI; rw [u2_n (by decide), u2_n (by decide), u2_n (by decide)]; exact u2_s
  have r81 : rpI I S q n 8 1 = I 8 1 := by unfold rpI; rw [u2_n (by decide), u2_n (by decide), u2_n (by decide)]; exact u2_m (by decide)
  refine ⟨⟨fun p hp => ?_, fun p p' hp hp' e => ?_⟩, h.ky.of (fun d => ro 1 d (by decide) (by decide) (by decide)), h.b.of (fun d => ro 3 d (by decide) (by decide) (by decide)), fun p hp => ?_, ⟨r85, by have := h.sp.2.1; omega, by omega, fun d hd => ?_, fun d h1 h2 => ?_⟩, ?_, h.fr.of (fun d => ro 5 d (by decide) (by decide) (by decide)) (fun d => ro 6 d (by decide) (by decide) (by decide)), h.fw.of (fun d => ro 6 d (by decide) (by decide) (by decide)) (fun d => ffl_n (by decide) 16 d), fun k hk => ?_, ?_⟩
  · unfold u1; split
    · exact hn
    · exact h.s18 p hp
  · unfold u1 at e
    by_cases e1 : p = q
    · by_cases e2 : p' = q
      · rw [e1, e2]
      · rw [if_pos e1, if_neg e2] at e; have := h.seat_lt hp'; omega
    · by_cases e2 : p' = q
      · rw [if_neg e1, if_pos e2] at e; have := h.seat_lt hp; omega
      · rw [if_neg e1, if_neg e2] at e; exact h.sij p p' hp hp' e
  · unfold u1
    by_cases e1 : p = q
    · rw [if_pos e1, e1]; exact r0n
    · rw [if_neg e1, r0 _ (by have := h.seat_lt hp; omega) (fun z => e1 (h.sij p q hp hq z))]; exact h.seat p hp
  · by_cases e1 : d = n
    · subst e1; rw [r0n]; exact ⟨fun z => absurd z.1 (m1_ne (by omega)), fun z => by omega⟩
    · by_cases e2 : d = S q
      · rw [e2, r4s]; exact ⟨fun z => absurd z.2 (by decide), fun z => by omega⟩
      · rw [r0 d e1 e2, r4 d e2, h.sp.2.2.2.1 d hd]; omega
  · rw [ro 2 d (by decide) (by decide) (by decide), ro 3 d (by decide) (by decide) (by decide)]
    exact h.sp.2.2.2.2 d (by omega) h2
  · refine Nat.le_trans (pcn_mn 15 (fun p hp hb => ?_)) h.e4
    rw [ers_tb] at hb ⊢
    rw [ro 3 _ (by decide) (by decide) (by decide)] at hb
    by_cases e1 : p = q
    · subst e1
      unfold u1 at hb
      rw [if_pos rfl, (h.sp.2.2.2.2 n (Nat.le_refl _) hn).2] at hb
      simp at hb
    · unfold u1 at hb; rw [if_neg e1] at hb; exact hb
  · rw [ro 5 k (by decide) (by decide) (by decide), ffl_n (by decide)]; exact h.hin k hk
  · rw [r81]; exact h.at_
end INV
theorem Inv.init : Inv I0 L0 S0 15 := by
  refine ⟨⟨fun p hp => by show p < 18; omega, fun p q _ _ e => e⟩, fun c _ => Or.inl rfl, fun c _ => Or.inl rfl, fun p hp => ?_, ⟨rfl, by decide, by decide, fun c hc => ?_, fun c _ _ => ⟨rfl, rfl⟩⟩, ?_, fun k _ h => absurd rfl h, fun k _ h => absurd rfl h, fun k _ => ⟨fun _ => rfl, fun _ => rfl⟩, 0, by decide, rfl⟩
  · show (if p < 15 then nI p else -nI 1) = nI p
    rw [if_pos hp]
  · have e0 : I0 0 c = if c < 15 then nI c else -nI 1 := rfl
    have e4 : I0 4 c = nI 0 := rfl
    rw [e0, e4]
    by_cases h : c < 15
    · rw [if_pos h]; exact ⟨fun z => absurd z.1 (m1_ne (by omega)), fun z => by omega⟩
    · rw [if_neg h]; exact ⟨fun _ => by omega, fun _ => ⟨rfl, rfl⟩⟩
  · have e : ∀ i, ers I0 S0 i = 0 := by
      intro i
      induction i with
      | zero => rfl
      | succ i ih => rw [ers, ih]; exact if_pos rfl
    unfold E4; rw [e, pcn_00]; decide
