/-! the cache: the reference's way is the class's; cells that a step of a loop made are let go -/
section GD
variable {p : Program} {l : Launch} {e : Env} {R : Room} {s : State} {m : MethodId} {args : Array Value} {below : List Frame} {meth : Method} {c : Code} {Q : State → Prop} {D : va_G} {cl : List vw_C} {tys : List (ClassId × FieldType)} {A : Nat → Prop} {nL : Nat} {ws : va_W} {cells slots : Nat} {cc : ByteArray} {own : String} {pc : Nat} {lv : List (Nat × Value)} {st : List Value}
theorem D_mid {A : Nat → Prop} {a b : va_W} {x : Nat × va_E} (h : va_D A (a ++ x :: b)) : va_D A (a ++ b) := by
  have hb : va_D A b := D_right (a := [x]) (D_right (a := a) (b := x :: b) h)
  exact D_app (D_left h) hb (fun u hu v hv => D_ne h hu (List.mem_cons_of_mem _ hv))
theorem P_mid {D : va_G} {cl : List vw_C} {a b : va_W} {x : Nat × va_E} {H : Heap} (h : va_P D cl (a ++ x :: b) H) : va_P D cl (a ++ b) H :=
  P_of fun u hu => mem_at h (by
    rcases List.mem_append.mp hu with g | g
    · exact List.mem_append_left _ g
    · exact List.mem_append_right _ (List.mem_cons_of_mem _ g))
theorem g_dropM {a b : va_W} {x : Nat × va_E} (h : ws = a ++ x :: b) (kk : GL p l e R s m args below meth c Q D cl tys A nL (a ++ b) cells slots pc lv st) : GL p l e R s m args below meth c Q D cl tys A nL ws cells slots pc lv st := by
  subst h; exact fun H locs ls hK hP hD hS hl => kk H locs ls hK (P_mid hP) (D_mid hD) hS hl
end GD
theorem u2_uu {α : Type} {f : Nat → Nat → α} {a b : Nat} {v w : α} : u2 (u2 f a b v) a b w = u2 f a b w := by
  funext x y; unfold u2
  by_cases hx : x = a
  · subst hx
    by_cases hy : y = b
    · subst hy; simp
    · simp [hy]
  · simp [hx]
section CA
variable {I : Nat → Nat → Int32} {L : Nat → Nat → Int64} {S : Nat → Nat} {q k : Nat} {x y : Int64}
theorem wb_5 : u2 (wbI I k) 5 k (nI q) = u2 (u2 I 5 k (nI q)) 6 k (nI 0) := by
  rw [wbI]
  split
  next h => exact (u2_id (by rw [u2_n (by decide), h]; rfl)).symm
  next h => exact u2_cc (by decide)
theorem kp_0 : rmI I q = useI (u2 (u2 I 5 (old I 3) (nI q)) 6 (old I 3) (nI 0)) (old I 3) := by rw [rmI, wb_5]
theorem use_6 {J : Nat → Nat → Int32} {v : Int32} : u2 (useI J k) 6 k v = useI (u2 J 6 k v) k := by
  unfold useI
  have e : u2 J 6 k v 8 8 = J 8 8 := u2_n (by decide)
  rw [e, u2_cc (f := u2 J 8 8 (J 8 8 + nI 1)) (by decide), u2_cc (f := J) (a := 8) (c := 6) (by decide)]
theorem kp_1 : u2 (rmI I q) 6 (old I 3) (nI 1) = useI (u2 (u2 I 5 (old I 3) (nI q)) 6 (old I 3) (nI 1)) (old I 3) := by
  rw [rmI, wb_5, use_6, u2_uu]
theorem st_h (h : I 5 k = nI q) : u2 (useI (u2 (hit I) 5 k (nI q)) k) 6 k (nI 1) = useI (u2 (hit I) 6 k (nI 1)) k := by
  rw [u2_id (show nI q = hit I 5 k by rw [hit, u2_n (by decide), h]), use_6]
theorem oL_ne {o : Option Int64} (h : ¬ oL o = -1) : ∃ y, o = some y := by
  cases o with
  | none => exact absurd rfl h
  | some y => exact ⟨y, rfl⟩
theorem mdt_d (h : ¬ y = -1) : mdt y = dtO y := by rw [mdt, dtO, if_neg h, if_neg h]
theorem mdt_w (h : nib y 15 = 0) : mdt y = dtW y := by rw [mdt, if_neg (ne_m1 h)]; rfl
/-- dirty frames have words of the code -/
def FwI (I : Nat → Nat → Int32) (L : Nat → Nat → Int64) : Prop := ∀ k, k < 4 → ¬ I 6 k = 0 → cw (L 3 k) ∧ nib (L 3 k) 15 = 0
theorem FwI.of {J : Nat → Nat → Int32} {M : Nat → Nat → Int64} (h : FwI I L) (h6 : ∀ k, J 6 k = I 6 k) (h3 : ∀ k, M 3 k = L 3 k) : FwI J M := fun k hk hn => by
  rw [h6] at hn; rw [h3]; exact h k hk hn
theorem wrw_n {a : Nat} (h : a ≠ 0) (n c : Nat) : wrw S L q x n a c = L a c := by
  induction n with
  | zero => rfl
  | succ n ih => rw [wrw, u2_n h, ih]
theorem ftL_n {a c : Nat} (h : a ≠ 0) : ftL I L S q a c = L a c := by
  rw [ftL]; split
  · rfl
  · split
    · rfl
    · exact wrw_n h _ _
theorem wbL_n {a c : Nat} (h : a ≠ 0) : wbL I L S k a c = L a c := by
  rw [wbL]; split
  · rfl
  · exact wrw_n h _ _
theorem wba_L {a c : Nat} (h : a ≠ 0) (i : Nat) : (wba I L S i).2 a c = L a c := by
  induction i with
  | zero => rfl
  | succ i ih =>
    show wbL (wba I L S i).1 (wba I L S i).2 S i a c = _
    rw [wbL_n h, ih]
theorem FwI.ft (h : FwI I L) : FwI (ftA I L S q) (ftL I L S q) := h.of (fun _ => ftA_n (by decide) (by decide) (by decide)) (fun _ => ftL_n (by decide))
theorem FwI.u8 {j : Nat} {v : Int32} (h : FwI I L) : FwI (u2 I 8 j v) L := h.of (fun _ => u2_n (by decide)) (fun _ => rfl)
theorem FwI.wba (h : FwI I L) {i : Nat} (hi : i < 4) (hn : ¬ (wba I L S i).1 6 i = 0) : cw ((wba I L S i).2 3 i) ∧ nib ((wba I L S i).2 3 i) 15 = 0 := by
  rw [wba_n (Or.inr (Nat.le_refl i))] at hn
  rw [wba_L (by decide)]
  exact h i hi hn
theorem wba_s (i : Nat) : (wba I L S (i + 1)).1 = u2 (wba I L S i).1 6 i (nI 0) := by
  show wbI (wba I L S i).1 i = _
  rw [wbI]
  split
  next h => exact (u2_id (by rw [h]; rfl)).symm
  next h => rfl
theorem wba_z {i : Nat} (h : (wba I L S i).1 6 i = 0) : (wba I L S (i + 1)).2 = (wba I L S i).2 := by
  show wbL (wba I L S i).1 (wba I L S i).2 S i = _
  rw [wbL, if_pos h]
theorem wba_w {i : Nat} (h : ¬ (wba I L S i).1 6 i = 0) : (wba I L S (i + 1)).2 = wrw S (wba I L S i).2 (lnN (wba I L S i).1 i) ((wba I L S i).2 3 i) 15 := by
  show wbL (wba I L S i).1 (wba I L S i).2 S i = _
  rw [wbL, if_neg h]
end CA
/-- the word of data has these data -/
theorem wdO_slv {X : Nat} (hX : X < 2 ^ 44) : Slv 15 (wd X 11) (wdO (lN X)) := slv_is (wd_some hX (R := fun _ => 0) (fun _ => Nat.zero_lt_succ _))
theorem wdO_15 {X : Nat} (hX : X < 2 ^ 44) : nib (wdO (lN X)) 15 = 0 := by
  rw [(wdO_slv hX).2.1, wd_n (Nat.le_refl _) (by decide), if_neg (fun z => by omega)]
theorem wdO_cw {X : Nat} (hX : X < 2 ^ 44) : cw (wdO (lN X)) := (wdO_slv hX).1
theorem wdO_nib {X p : Nat} (hX : X < 2 ^ 44) (h4 : 4 ≤ p) (hp : p < 15) : nib (wdO (lN X)) p = X / 16 ^ (p - 4) % 16 := by
  have h := (wdO_slv hX).2.2 p hp
  have e : nib (wd X 11) p = nib (wdO (lN X)) p := by
    by_cases e : nib (wd X 11) p = nib (wdO (lN X)) p
    · exact e
    · have := h e
      rcases (show p = 4 ∨ p = 5 ∨ p = 6 ∨ p = 7 ∨ p = 8 ∨ p = 9 ∨ p = 10 ∨ p = 11 ∨ p = 12 ∨ p = 13 ∨ p = 14 by omega) with rfl | rfl | rfl | rfl | rfl | rfl | rfl | rfl | rfl | rfl | rfl <;> exact absurd this (by decide)
  rw [← e, wd_n (Nat.le_refl _) (by omega), if_pos ⟨h4, by omega⟩]
theorem mdt_wd {X : Nat} (hX : X < 2 ^ 44) : mdt (wdO (lN X)) = lN X := by
  rw [mdt_n (wdO_15 hX)]
  have h60 := x_60 (wdO_15 hX)
  apply nib_ext
  intro p hp
  have hn : ∀ n, n < 2 ^ 64 → nib (lN n) p = n / 16 ^ p % 16 := fun n hn => by unfold nib; rw [lN_nat hn]
  rw [hn _ (by omega), hn _ (by omega)]
  by_cases h : p < 11
  · have h1 := wdO_nib (p := p + 4) hX (by omega) (by omega)
    unfold nib at h1
    rw [show p + 4 - 4 = p by omega] at h1
    rw [← h1, Nat.div_div_eq_div_mul, show (65536 : Nat) = 16 ^ 4 from rfl, ← Nat.pow_add, Nat.add_comm 4 p]
  · have hpp : 16 ^ 11 ≤ 16 ^ p := Nat.pow_le_pow_right (by decide) (by omega)
    rw [Nat.div_eq_of_lt (show (wdO (lN X)).toBitVec.toNat / 65536 < 16 ^ p by omega), Nat.div_eq_of_lt (show X < 16 ^ p by omega)]
section PT
variable {I : Nat → Nat → Int32} {L : Nat → Nat → Int64} {S : Nat → Nat} {n : Nat}
theorem ptr_ok (hK : kOK I) (hB : bOK I) (i : Nat) : kOK (ptr I L S n i).1 ∧ bOK (ptr I L S n i).1 := by
  induction i with
  | zero => exact ⟨hK, hB⟩
  | succ i ih =>
    rw [ptr_s1]
    exact ⟨(ih.1.of (fun _ => u2_n (by decide))).ft, (ih.2.of (fun _ => u2_n (by decide))).ft⟩
end PT
