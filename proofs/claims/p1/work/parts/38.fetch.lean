/-! a fetch, as the reference does it; a loop that makes cells -/
theorem u2_id {α : Type} {f : Nat → Nat → α} {a b : Nat} {v : α} (h : v = f a b) : u2 f a b v = f := by
  funext x y; unfold u2
  by_cases hx : x = a
  · subst hx
    by_cases hy : y = b
    · subst hy; simp [h]
    · simp [hy]
  · simp [hx]
theorem u2_cc {α : Type} {f : Nat → Nat → α} {a b c d : Nat} {v w : α} (h : a ≠ c) : u2 (u2 f a b v) c d w = u2 (u2 f c d w) a b v := by
  funext x y; unfold u2
  by_cases hx : x = a
  · subst hx; simp [h]
  · by_cases hc : x = c
    · subst hc; simp [hx]
    · simp [hx, hc]
/-- blame, counted at every place -/
def bm (I : Nat → Nat → Int32) (S : Nat → Nat) (m : Nat) : Nat → Nat → Nat → Int32
  | 0 => I
  | i + 1 => u2 (bm I S m i) 2 (S i) (bm I S m i 2 (S i) + nI (bN (m.testBit i)))
theorem cm_3 (I : Nat → Nat → Int32) (S : Nat → Nat) (b i c : Nat) : cm I S b i 3 c = I 3 c := by
  induction i with
  | zero => rfl
  | succ i ih =>
    rw [cm]; split
    · exact ih
    · split
      · unfold u2; rw [if_neg (by decide)]; exact ih
      · exact ih
theorem bm_cm {I : Nat → Nat → Int32} {S : Nat → Nat} {b : Nat} (i : Nat) (hi : i ≤ 15) : bm I S (b &&& (32767 ^^^ ers I S 15)) i = cm I S b i := by
  induction i with
  | zero => rfl
  | succ i ih =>
    have hb : (b &&& (32767 ^^^ ers I S 15)).testBit i = (b.testBit i && (I 3 (S i) == 0)) := by
      rw [Nat.testBit_and, Nat.testBit_xor, ers_tb, show (32767 : Nat) = 2 ^ 15 - 1 from rfl, Nat.testBit_two_pow_sub_one]
      simp [show i < 15 by omega]
    rw [bm, ih (by omega), hb, cm]
    cases b.testBit i
    · rw [if_pos rfl, u2_id (by simp [bN]; decide)]
    · rw [if_neg (by decide), cm_3]
      by_cases h : I 3 (S i) = 0
      · rw [if_pos h, h]; rfl
      · rw [if_neg h, u2_id (by simp [bN, h]; decide)]
theorem cm_84 {I : Nat → Nat → Int32} {S : Nat → Nat} {b : Nat} {v : Int32} (i : Nat) : cm (u2 I 8 4 v) S b i = u2 (cm I S b i) 8 4 v := by
  induction i with
  | zero => rfl
  | succ i ih =>
    rw [cm, cm, ih]
    have h3 : u2 (cm I S b i) 8 4 v 3 (S i) = cm I S b i 3 (S i) := by unfold u2; rw [if_neg (by decide)]
    have h2 : u2 (cm I S b i) 8 4 v 2 (S i) = cm I S b i 2 (S i) := by unfold u2; rw [if_neg (by decide)]
    rw [h3, h2]
    split
    · rfl
    · split
      · exact u2_cc (by decide)
      · rfl
section GX
variable {p : Program} {l : Launch} {e : Env} {R : Room} {s : State} {m : MethodId} {args : Array Value} {below : List Frame} {meth : Method} {c : Code} {Q : State → Prop} {D : va_G} {cl : List vw_C} {tys : List (ClassId × FieldType)} {A : Nat → Prop} {nL : Nat} {ws : va_W} {cells slots : Nat} {cc : ByteArray} {own : String} {pc : Nat} {lv : List (Nat × Value)} {st : List Value}
/-- a loop whose scratch is anything, whose world goes with i, and which makes dc cells with ds slots each time -/
theorem g_forX {σ : Type} (N : Nat) (wsF : σ → Nat → va_W) (lvF : Nat → List (Nat × Value)) (P : σ → Nat → Prop) (dc ds : Nat) (u0 : σ) (hp0 : P u0 0) (h0 : wsF u0 0 = ws) (h1 : lvF 0 = lv) (hN : ∀ u, P u N → GL p l e R s m args below meth c Q D cl tys A nL (wsF u N) (cells + N * dc) (slots + N * ds) pc (lvF N) st)
    (hs : ∀ i : Nat, i < N → ∀ u, P u i → (∀ u', P u' (i + 1) → GL p l e R s m args below meth c Q D cl tys A nL (wsF u' (i + 1)) (cells + i * dc + dc) (slots + i * ds + ds) pc (lvF (i + 1)) st) → GL p l e R s m args below meth c Q D cl tys A nL (wsF u i) (cells + i * dc) (slots + i * ds) pc (lvF i) st) : GL p l e R s m args below meth c Q D cl tys A nL ws cells slots pc lv st := by
  subst h0; subst h1
  have key : ∀ n i : Nat, i + n = N → ∀ u, P u i → GL p l e R s m args below meth c Q D cl tys A nL (wsF u i) (cells + i * dc) (slots + i * ds) pc (lvF i) st := by
    intro n
    induction n with
    | zero => intro i hi u hp; have e : i = N := by omega
              subst e; exact hN u hp
    | succ n ih =>
      intro i hi u hp
      refine hs i (by omega) u hp (fun u' hp' => ?_)
      have := ih (i + 1) (by omega) u' hp'
      rw [Nat.add_mul, Nat.one_mul, Nat.add_mul, Nat.one_mul, ← Nat.add_assoc, ← Nat.add_assoc] at this
      exact this
  have := key N 0 (by omega) u0 hp0
  rw [Nat.zero_mul, Nat.zero_mul] at this
  exact this
end GX
