/-! the class's world: Chipfield, Memory, its two arrays, Cache, its array, four frames, eighteen chips -/
def u2 {α : Type} (f : Nat → Nat → α) (a b : Nat) (v : α) : Nat → Nat → α := fun x y => if x = a then (if y = b then v else f x y) else f x y
def u1 {α : Type} (f : Nat → α) (a : Nat) (v : α) : Nat → α := fun x => if x = a then v else f x
def chF (I : Nat → Nat → Int32) (L : Nat → Nat → Int64) (c : Nat) : List Value := [.int (nI c), .int (I 0 c), .int (I 1 c), .int (I 2 c), .int (I 3 c), .int (I 4 c), .long (L 0 c), .long (L 1 c), .long (L 2 c)]
def frF (I : Nat → Nat → Int32) (L : Nat → Nat → Int64) (k : Nat) : List Value := [.int (nI k), .int (I 5 k), .long (L 3 k), .int (I 6 k), .int (I 7 k)]
def meF (ad : Nat → Nat) (I : Nat → Nat → Int32) : List Value := [.ref (ad 2), .ref (ad 3), .int (I 8 0), .int (I 8 1), .int (I 8 2), .int (I 8 3), .int (I 8 4), .int (I 8 5)]
def caF (ad : Nat → Nat) (I : Nat → Nat → Int32) : List Value := [.ref (ad 5), .int (I 8 6), .int (I 8 7), .int (I 8 8), .ref (ad 1)]
def cfF (ad : Nat → Nat) (I : Nat → Nat → Int32) : List Value := [.ref (ad 1), .ref (ad 4), .int (I 8 9)]
def CE (ad : Nat → Nat) (g : Nat → ClassId) (I : Nat → Nat → Int32) (L : Nat → Nat → Int64) (S : Nat → Nat) : Nat → va_E
  | 0 => .inr (4, cfF ad I)
  | 1 => .inr (3, meF ad I)
  | 2 => .inl (g 1, 18, .inr (.inr (.inr (.inr (fun j => some (ad (j + 10)))))))
  | 3 => .inl (g 1, 15, .inr (.inr (.inr (.inr (fun j => some (ad (S j + 10)))))))
  | 4 => .inr (0, caF ad I)
  | 5 => .inl (g 2, 4, .inr (.inr (.inr (.inr (fun j => some (ad (j + 6)))))))
  | 6 => .inr (2, frF I L 0)
  | 7 => .inr (2, frF I L 1)
  | 8 => .inr (2, frF I L 2)
  | 9 => .inr (2, frF I L 3)
  | c + 10 => .inr (1, chF I L c)
def WC (ad : Nat → Nat) (g : Nat → ClassId) (I : Nat → Nat → Int32) (L : Nat → Nat → Int64) (S : Nat → Nat) : va_W := (List.range 28).map (fun k => (ad k, CE ad g I L S k))
theorem map_get {α : Type} {n k : Nat} {F : Nat → α} (h : k < n) : ((List.range n).map F)[k]? = some (F k) := by
  rw [List.getElem?_map, List.getElem?_range h]; rfl
theorem map_set {α : Type} {n k : Nat} {F F' : Nat → α} {x : α} (ho : ∀ j, j < n → j ≠ k → F' j = F j) (hk : F' k = x) : ((List.range n).map F).set k x = (List.range n).map F' := by
  apply List.ext_getElem?
  intro j
  by_cases hj : j < n
  · rw [map_get hj]
    by_cases e : j = k
    · subst e
      rw [List.getElem?_set_self (by simpa using hj), hk]
    · rw [List.getElem?_set_ne (fun q => e q.symm), map_get hj, ho j hj e]
  · rw [List.getElem?_eq_none (by simpa using Nat.le_of_not_lt hj), List.getElem?_eq_none (by simpa using Nat.le_of_not_lt hj)]
section WCS
variable {ad : Nat → Nat} {g : Nat → ClassId} {I : Nat → Nat → Int32} {L : Nat → Nat → Int64} {S : Nat → Nat}
theorem wc_get {k : Nat} (h : k < 28) : (WC ad g I L S)[k]? = some (ad k, CE ad g I L S k) := map_get h
theorem wc_mem {k : Nat} (h : k < 28) : (ad k, CE ad g I L S k) ∈ WC ad g I L S := List.mem_of_getElem? (wc_get h)
theorem wc_chip {c : Nat} (h : c < 18) : (ad (c + 10), Sum.inr (1, chF I L c)) ∈ WC ad g I L S := wc_mem (k := c + 10) (by omega)
theorem wc_frG {k : Nat} (h : k < 4) : (WC ad g I L S)[k + 6]? = some (ad (k + 6), .inr (2, frF I L k)) := by
  rw [wc_get (by omega)]
  rcases (show k = 0 ∨ k = 1 ∨ k = 2 ∨ k = 3 by omega) with rfl | rfl | rfl | rfl <;> rfl
theorem wc_fr {k : Nat} (h : k < 4) : (ad (k + 6), Sum.inr (2, frF I L k)) ∈ WC ad g I L S := List.mem_of_getElem? (wc_frG h)
theorem ws_ch1 {c : Nat} {v : Int32} : (WC ad g I L S).set (c + 10) (ad (c + 10), .inr (1, (chF I L c).set 1 (.int v))) = WC ad g (u2 I 0 c v) L S := by
  refine map_set (fun j hj hne => ?_) ?_
  · rcases j with _ | _ | _ | _ | _ | _ | _ | _ | _ | _ | j
    all_goals first | rfl | exact absurd rfl hne | (simp [CE, chF, frF, meF, caF, cfF, u2]; done) | (have hjc : j ≠ c := (fun q => hne (by omega)); simp [CE, chF, u2, hjc])
  · simp [CE, chF, frF, meF, caF, cfF, u2]
theorem ws_ch2 {c : Nat} {v : Int32} : (WC ad g I L S).set (c + 10) (ad (c + 10), .inr (1, (chF I L c).set 2 (.int v))) = WC ad g (u2 I 1 c v) L S := by
  refine map_set (fun j hj hne => ?_) ?_
  · rcases j with _ | _ | _ | _ | _ | _ | _ | _ | _ | _ | j
    all_goals first | rfl | exact absurd rfl hne | (simp [CE, chF, frF, meF, caF, cfF, u2]; done) | (have hjc : j ≠ c := (fun q => hne (by omega)); simp [CE, chF, u2, hjc])
  · simp [CE, chF, frF, meF, caF, cfF, u2]
theorem ws_ch3 {c : Nat} {v : Int32} : (WC ad g I L S).set (c + 10) (ad (c + 10), .inr (1, (chF I L c).set 3 (.int v))) = WC ad g (u2 I 2 c v) L S := by
  refine map_set (fun j hj hne => ?_) ?_
  · rcases j with _ | _ | _ | _ | _ | _ | _ | _ | _ | _ | j
    all_goals first | rfl | exact absurd rfl hne | (simp [CE, chF, frF, meF, caF, cfF, u2]; done) | (have hjc : j ≠ c := (fun q => hne (by omega)); simp [CE, chF, u2, hjc])
  · simp [CE, chF, frF, meF, caF, cfF, u2]
theorem ws_ch4 {c : Nat} {v : Int32} : (WC ad g I L S).set (c + 10) (ad (c + 10), .inr (1, (chF I L c).set 4 (.int v))) = WC ad g (u2 I 3 c v) L S := by
  refine map_set (fun j hj hne => ?_) ?_
  · rcases j with _ | _ | _ | _ | _ | _ | _ | _ | _ | _ | j
    all_goals first | rfl | exact absurd rfl hne | (simp [CE, chF, frF, meF, caF, cfF, u2]; done) | (have hjc : j ≠ c := (fun q => hne (by omega)); simp [CE, chF, u2, hjc])
  · simp [CE, chF, frF, meF, caF, cfF, u2]
theorem ws_ch5 {c : Nat} {v : Int32} : (WC ad g I L S).set (c + 10) (ad (c + 10), .inr (1, (chF I L c).set 5 (.int v))) = WC ad g (u2 I 4 c v) L S := by
  refine map_set (fun j hj hne => ?_) ?_
  · rcases j with _ | _ | _ | _ | _ | _ | _ | _ | _ | _ | j
    all_goals first | rfl | exact absurd rfl hne | (simp [CE, chF, frF, meF, caF, cfF, u2]; done) | (have hjc : j ≠ c := (fun q => hne (by omega)); simp [CE, chF, u2, hjc])
  · simp [CE, chF, frF, meF, caF, cfF, u2]
theorem ws_ch6 {c : Nat} {v : Int64} : (WC ad g I L S).set (c + 10) (ad (c + 10), .inr (1, (chF I L c).set 6 (.long v))) = WC ad g I (u2 L 0 c v) S := by
  refine map_set (fun j hj hne => ?_) ?_
  · rcases j with _ | _ | _ | _ | _ | _ | _ | _ | _ | _ | j
    all_goals first | rfl | exact absurd rfl hne | (simp [CE, chF, frF, meF, caF, cfF, u2]; done) | (have hjc : j ≠ c := (fun q => hne (by omega)); simp [CE, chF, u2, hjc])
  · simp [CE, chF, frF, meF, caF, cfF, u2]
theorem ws_ch7 {c : Nat} {v : Int64} : (WC ad g I L S).set (c + 10) (ad (c + 10), .inr (1, (chF I L c).set 7 (.long v))) = WC ad g I (u2 L 1 c v) S := by
  refine map_set (fun j hj hne => ?_) ?_
  · rcases j with _ | _ | _ | _ | _ | _ | _ | _ | _ | _ | j
    all_goals first | rfl | exact absurd rfl hne | (simp [CE, chF, frF, meF, caF, cfF, u2]; done) | (have hjc : j ≠ c := (fun q => hne (by omega)); simp [CE, chF, u2, hjc])
  · simp [CE, chF, frF, meF, caF, cfF, u2]
theorem ws_ch8 {c : Nat} {v : Int64} : (WC ad g I L S).set (c + 10) (ad (c + 10), .inr (1, (chF I L c).set 8 (.long v))) = WC ad g I (u2 L 2 c v) S := by
  refine map_set (fun j hj hne => ?_) ?_
  · rcases j with _ | _ | _ | _ | _ | _ | _ | _ | _ | _ | j
    all_goals first | rfl | exact absurd rfl hne | (simp [CE, chF, frF, meF, caF, cfF, u2]; done) | (have hjc : j ≠ c := (fun q => hne (by omega)); simp [CE, chF, u2, hjc])
  · simp [CE, chF, frF, meF, caF, cfF, u2]
theorem ws_fr1 {k : Nat} (h : k < 4) {v : Int32} : (WC ad g I L S).set (k + 6) (ad (k + 6), .inr (2, (frF I L k).set 1 (.int v))) = WC ad g (u2 I 5 k v) L S := by
  rcases (show k = 0 ∨ k = 1 ∨ k = 2 ∨ k = 3 by omega) with rfl | rfl | rfl | rfl
  all_goals
    refine map_set (fun j hj hne => ?_) ?_
    · rcases j with _ | _ | _ | _ | _ | _ | _ | _ | _ | _ | j
      all_goals first | rfl | exact absurd rfl hne | simp [CE, chF, frF, meF, caF, cfF, u2]
    · simp [CE, chF, frF, meF, caF, cfF, u2]
theorem ws_fr3 {k : Nat} (h : k < 4) {v : Int32} : (WC ad g I L S).set (k + 6) (ad (k + 6), .inr (2, (frF I L k).set 3 (.int v))) = WC ad g (u2 I 6 k v) L S := by
  rcases (show k = 0 ∨ k = 1 ∨ k = 2 ∨ k = 3 by omega) with rfl | rfl | rfl | rfl
  all_goals
    refine map_set (fun j hj hne => ?_) ?_
    · rcases j with _ | _ | _ | _ | _ | _ | _ | _ | _ | _ | j
      all_goals first | rfl | exact absurd rfl hne | simp [CE, chF, frF, meF, caF, cfF, u2]
    · simp [CE, chF, frF, meF, caF, cfF, u2]
theorem ws_fr4 {k : Nat} (h : k < 4) {v : Int32} : (WC ad g I L S).set (k + 6) (ad (k + 6), .inr (2, (frF I L k).set 4 (.int v))) = WC ad g (u2 I 7 k v) L S := by
  rcases (show k = 0 ∨ k = 1 ∨ k = 2 ∨ k = 3 by omega) with rfl | rfl | rfl | rfl
  all_goals
    refine map_set (fun j hj hne => ?_) ?_
    · rcases j with _ | _ | _ | _ | _ | _ | _ | _ | _ | _ | j
      all_goals first | rfl | exact absurd rfl hne | simp [CE, chF, frF, meF, caF, cfF, u2]
    · simp [CE, chF, frF, meF, caF, cfF, u2]
theorem ws_fr2 {k : Nat} (h : k < 4) {v : Int64} : (WC ad g I L S).set (k + 6) (ad (k + 6), .inr (2, (frF I L k).set 2 (.long v))) = WC ad g I (u2 L 3 k v) S := by
  rcases (show k = 0 ∨ k = 1 ∨ k = 2 ∨ k = 3 by omega) with rfl | rfl | rfl | rfl
  all_goals
    refine map_set (fun j hj hne => ?_) ?_
    · rcases j with _ | _ | _ | _ | _ | _ | _ | _ | _ | _ | j
      all_goals first | rfl | exact absurd rfl hne | simp [CE, chF, frF, meF, caF, cfF, u2]
    · simp [CE, chF, frF, meF, caF, cfF, u2]
theorem ws_me2 {v : Int32} : (WC ad g I L S).set 1 (ad 1, .inr (3, (meF ad I).set 2 (.int v))) = WC ad g (u2 I 8 0 v) L S := by
  refine map_set (fun j hj hne => ?_) ?_
  · rcases j with _ | _ | _ | _ | _ | _ | _ | _ | _ | _ | j
    all_goals first | rfl | exact absurd rfl hne | simp [CE, chF, frF, meF, caF, cfF, u2]
  · simp [CE, chF, frF, meF, caF, cfF, u2]
theorem ws_me3 {v : Int32} : (WC ad g I L S).set 1 (ad 1, .inr (3, (meF ad I).set 3 (.int v))) = WC ad g (u2 I 8 1 v) L S := by
  refine map_set (fun j hj hne => ?_) ?_
  · rcases j with _ | _ | _ | _ | _ | _ | _ | _ | _ | _ | j
    all_goals first | rfl | exact absurd rfl hne | simp [CE, chF, frF, meF, caF, cfF, u2]
  · simp [CE, chF, frF, meF, caF, cfF, u2]
theorem ws_me4 {v : Int32} : (WC ad g I L S).set 1 (ad 1, .inr (3, (meF ad I).set 4 (.int v))) = WC ad g (u2 I 8 2 v) L S := by
  refine map_set (fun j hj hne => ?_) ?_
  · rcases j with _ | _ | _ | _ | _ | _ | _ | _ | _ | _ | j
    all_goals first | rfl | exact absurd rfl hne | simp [CE, chF, frF, meF, caF, cfF, u2]
  · simp [CE, chF, frF, meF, caF, cfF, u2]
theorem ws_me5 {v : Int32} : (WC ad g I L S).set 1 (ad 1, .inr (3, (meF ad I).set 5 (.int v))) = WC ad g (u2 I 8 3 v) L S := by
  refine map_set (fun j hj hne => ?_) ?_
  · rcases j with _ | _ | _ | _ | _ | _ | _ | _ | _ | _ | j
    all_goals first | rfl | exact absurd rfl hne | simp [CE, chF, frF, meF, caF, cfF, u2]
  · simp [CE, chF, frF, meF, caF, cfF, u2]
theorem ws_me6 {v : Int32} : (WC ad g I L S).set 1 (ad 1, .inr (3, (meF ad I).set 6 (.int v))) = WC ad g (u2 I 8 4 v) L S := by
  refine map_set (fun j hj hne => ?_) ?_
  · rcases j with _ | _ | _ | _ | _ | _ | _ | _ | _ | _ | j
    all_goals first | rfl | exact absurd rfl hne | simp [CE, chF, frF, meF, caF, cfF, u2]
  · simp [CE, chF, frF, meF, caF, cfF, u2]
theorem ws_me7 {v : Int32} : (WC ad g I L S).set 1 (ad 1, .inr (3, (meF ad I).set 7 (.int v))) = WC ad g (u2 I 8 5 v) L S := by
  refine map_set (fun j hj hne => ?_) ?_
  · rcases j with _ | _ | _ | _ | _ | _ | _ | _ | _ | _ | j
    all_goals first | rfl | exact absurd rfl hne | simp [CE, chF, frF, meF, caF, cfF, u2]
  · simp [CE, chF, frF, meF, caF, cfF, u2]
theorem ws_ca1 {v : Int32} : (WC ad g I L S).set 4 (ad 4, .inr (0, (caF ad I).set 1 (.int v))) = WC ad g (u2 I 8 6 v) L S := by
  refine map_set (fun j hj hne => ?_) ?_
  · rcases j with _ | _ | _ | _ | _ | _ | _ | _ | _ | _ | j
    all_goals first | rfl | exact absurd rfl hne | simp [CE, chF, frF, meF, caF, cfF, u2]
  · simp [CE, chF, frF, meF, caF, cfF, u2]
theorem ws_ca2 {v : Int32} : (WC ad g I L S).set 4 (ad 4, .inr (0, (caF ad I).set 2 (.int v))) = WC ad g (u2 I 8 7 v) L S := by
  refine map_set (fun j hj hne => ?_) ?_
  · rcases j with _ | _ | _ | _ | _ | _ | _ | _ | _ | _ | j
    all_goals first | rfl | exact absurd rfl hne | simp [CE, chF, frF, meF, caF, cfF, u2]
  · simp [CE, chF, frF, meF, caF, cfF, u2]
theorem ws_ca3 {v : Int32} : (WC ad g I L S).set 4 (ad 4, .inr (0, (caF ad I).set 3 (.int v))) = WC ad g (u2 I 8 8 v) L S := by
  refine map_set (fun j hj hne => ?_) ?_
  · rcases j with _ | _ | _ | _ | _ | _ | _ | _ | _ | _ | j
    all_goals first | rfl | exact absurd rfl hne | simp [CE, chF, frF, meF, caF, cfF, u2]
  · simp [CE, chF, frF, meF, caF, cfF, u2]
theorem ws_cf2 {v : Int32} : (WC ad g I L S).set 0 (ad 0, .inr (4, (cfF ad I).set 2 (.int v))) = WC ad g (u2 I 8 9 v) L S := by
  refine map_set (fun j hj hne => ?_) ?_
  · rcases j with _ | _ | _ | _ | _ | _ | _ | _ | _ | _ | j
    all_goals first | rfl | exact absurd rfl hne | simp [CE, chF, frF, meF, caF, cfF, u2]
  · simp [CE, chF, frF, meF, caF, cfF, u2]
end WCS
theorem hinX0 : ∀ w ∈ u_ws RX0 TX0 5, w ∈ GW := by decide +kernel
theorem hinX1 : ∀ w ∈ u_ws RX1 TX1 9, w ∈ GW := by decide +kernel
theorem hinX3 : ∀ w ∈ u_ws RX3 TX3 5, w ∈ GW := by decide +kernel
theorem hinX4 : ∀ w ∈ u_ws RX4 TX4 8, w ∈ GW := by decide +kernel
theorem hinX5 : ∀ w ∈ u_ws RX5 TX5 3, w ∈ GW := by decide +kernel
theorem hinX6 : ∀ w ∈ u_ws RX6 TX6 2, w ∈ GW := by decide +kernel
theorem hinX7 : ∀ w ∈ u_ws RX7 TX7 5, w ∈ GW := by decide +kernel
theorem hinX8 : ∀ w ∈ u_ws RX8 TX8 4, w ∈ GW := by decide +kernel
theorem hinX9 : ∀ w ∈ u_ws RX9 TX9 22, w ∈ GW := by decide +kernel
theorem u2_s {α : Type} {f : Nat → Nat → α} {a b : Nat} {v : α} : u2 f a b v a b = v := by simp [u2]
/-- what is read of a chip's cell -/
def rd (I : Nat → Nat → Int32) (L : Nat → Nat → Int64) (c q : Nat) : Nat := if I 1 c = -nI 1 then (nib (L 0 c) q &&& (15 - nib (L 1 c) q)) ||| (nib (L 2 c) q &&& nib (L 1 c) q) else ((I 1 c).toBitVec.toNat + q) % 16
theorem rd_lt (I : Nat → Nat → Int32) (L : Nat → Nat → Int64) (c q : Nat) : rd I L c q < 16 := by
  unfold rd
  split
  · exact Nat.or_lt_two_pow (n := 4) (Nat.lt_of_le_of_lt Nat.and_le_left (nib_lt _ _)) (Nat.lt_of_le_of_lt Nat.and_le_left (nib_lt _ _))
  · exact Nat.mod_lt _ (by decide)
theorem rd_mad {k : Int32} {q : Nat} : (k + nI q) &&& nI 15 = nI ((k.toBitVec.toNat + q) % 16) := by
  obtain ⟨n, hn, rfl⟩ := wb_of32 k
  rw [nI_add, nx_and, pk_tn hn, show (15 : Nat) = 2 ^ 4 - 1 from rfl, Nat.and_two_pow_sub_one_eq_mod]
theorem rd_not {a b : Nat} (ha : a < 16) (hb : b < 16) : nI a &&& (nI b ^^^ -nI 1) = nI (a &&& (15 - b)) := by
  have e : ∀ a, a < 16 → ∀ b, b < 16 → nI a &&& (nI b ^^^ -nI 1) = nI (a &&& (15 - b)) := by decide +kernel
  exact e a ha b hb
/-- how many cells are stuck, of the first i -/
def stk (L : Nat → Nat → Int64) (c : Nat) : Nat → Nat
  | 0 => 0
  | i + 1 => if nib (L 1 c) i = 0 then stk L c i else stk L c i + 1
/-- what is read of a line, its first i places -/
def rwd (I : Nat → Nat → Int32) (L : Nat → Nat → Int64) (S : Nat → Nat) (q : Nat) : Nat → Int64
  | 0 => lN 0
  | i + 1 => wn (rwd I L S q i) i (rd I L (S i) q)
/-- a word written, its first i places -/
def wrw (S : Nat → Nat) (L : Nat → Nat → Int64) (q : Nat) (x : Int64) : Nat → Nat → Nat → Int64
  | 0 => L
  | i + 1 => u2 (wrw S L q x i) 0 (S i) (wn (wrw S L q x i 0 (S i)) q (nib x i))
/-- the places that are erased, of the first i -/
def ers (I : Nat → Nat → Int32) (S : Nat → Nat) : Nat → Nat
  | 0 => 0
  | i + 1 => if I 3 (S i) = 0 then ers I S i else ers I S i ||| 2 ^ i
theorem ers_lt (I : Nat → Nat → Int32) (S : Nat → Nat) (i : Nat) : ers I S i < 2 ^ i := by
  induction i with
  | zero => exact Nat.zero_lt_succ _
  | succ i ih =>
    have h1 : 2 ^ i < 2 ^ (i + 1) := Nat.pow_lt_pow_right (by decide) (by omega)
    unfold ers
    split
    · omega
    · exact or_lt (by omega) h1
/-- the word that a line is mended to -/
def mwd (I : Nat → Nat → Int32) (L : Nat → Nat → Int64) (S : Nat → Nat) (q : Nat) : Option Int64 := mw (ers I S 15) (rwd I L S q 15)
/-- the lines that are bad, of the first i -/
def bdl (I : Nat → Nat → Int32) (L : Nat → Nat → Int64) (S : Nat → Nat) : Nat → Nat
  | 0 => 0
  | i + 1 => if oL (mwd I L S i) = -1 then bdl I L S i + 1 else bdl I L S i
def outs (I : Nat → Nat → Int32) : Nat → Nat
  | 0 => 0
  | i + 1 => if I 4 i = 0 then outs I i else outs I i + 1
def dirt (I : Nat → Nat → Int32) : Nat → Nat
  | 0 => 0
  | i + 1 => if I 6 i = 0 then dirt I i else dirt I i + 1
