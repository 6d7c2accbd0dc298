/-! the reference's world: itself, its tables and arrays, the list of frames, four frames, eighteen chips -/
/-- data of a word, as the reference keeps them: 0 where there is none -/
def mdt (x : Int64) : Int64 := if x = -1 then lN 0 else (x.toUInt64 >>> ((nI 16).toInt64.toUInt64 &&& Int64.toUInt64 63)).toInt64
def rcF (I : Nat → Nat → Int32) (c : Nat) : List Value := [.int (I 0 c), .int (I 1 c), .int (I 2 c), .int (I 3 c), .int (I 4 c)]
def rfF (I : Nat → Nat → Int32) (L : Nat → Nat → Int64) (k : Nat) : List Value := [.int (I 5 k), .long (mdt (L 3 k)), .int (I 6 k), .int (I 7 k)]
def moF (ad : Nat → Nat) (I : Nat → Nat → Int32) (Z : Nat → Nat → Int32) (Y : Int64) : List Value := [.int (Z 3 0), .ref (ad 1), .ref (ad 2), .ref (ad 3), .ref (ad 4), .ref (ad 5), .ref (ad 6), .ref (ad 7), .ref (ad 8), .int (I 8 0), .int (I 8 1), .int (I 8 8), .int (I 8 2), .int (I 8 3), .int (I 8 4), .int (I 8 6), .int (I 8 7), .int (I 8 9), .ref (ad 10), .ref (ad 11), .ref (ad 12), .long Y]
def lsF (ad : Nat → Nat) : List Value := [.int (nI 4), .ref (ad 9), .int (nI 4)]
/-- numbers of a row, chip by chip -/
def arN (L : Nat → Nat → Int64) (a j : Nat) : Int32 := nI (nib (L a (j / 16)) (j % 16))
def stN (S : Nat → Nat) (j : Nat) : Int32 := if j < 15 then nI (S j) else 0
def prN (j : Nat) : Int32 := if j < 256 then nI (gm (j / 16) (j % 16)) else 0
def ME (ad : Nat → Nat) (g : Nat → ClassId) (I : Nat → Nat → Int32) (L : Nat → Nat → Int64) (S : Nat → Nat) (Z : Nat → Nat → Int32) (Y : Int64) : Nat → va_E
  | 0 => .inr (8, moF ad I Z Y)
  | 1 => .inl (g 0, 256, .inl prN)
  | 2 => .inl (g 0, 15, .inl (fun j => nI (pw j)))
  | 3 => .inl (g 0, 288, .inl (arN L 0))
  | 4 => .inl (g 0, 288, .inl (arN L 1))
  | 5 => .inl (g 0, 288, .inl (arN L 2))
  | 6 => .inl (g 3, 18, .inr (.inr (.inr (.inr (fun j => some (ad (j + 17)))))))
  | 7 => .inl (g 0, 15, .inl (stN S))
  | 8 => .inr (9, lsF ad)
  | 9 => .inl (g 4, 10, .inr (.inr (.inr (.inr (fun j => if j < 4 then some (ad (j + 13)) else none)))))
  | 10 => .inl (g 0, 15, .inl (Z 2))
  | 11 => .inl (g 0, 20, .inl (Z 0))
  | 12 => .inl (g 0, 4, .inl (Z 1))
  | 13 => .inr (7, rfF I L 0)
  | 14 => .inr (7, rfF I L 1)
  | 15 => .inr (7, rfF I L 2)
  | 16 => .inr (7, rfF I L 3)
  | c + 17 => .inr (6, rcF I c)
def WM (ad : Nat → Nat) (g : Nat → ClassId) (I : Nat → Nat → Int32) (L : Nat → Nat → Int64) (S : Nat → Nat) (Z : Nat → Nat → Int32) (Y : Int64) : va_W := (List.range 35).map (fun k => (ad k, ME ad g I L S Z Y k))
theorem hrdT {A : Nat → Prop} {ws wc wr ro : va_W} (hw : ws = wc ++ wr) (h : ∀ x ∈ ro, x ∈ wr) : va_D A ws → ∀ x ∈ ro, ∀ y ∈ wc, x.1 ≠ y.1 := by
  intro hD x hx y hy e
  subst hw
  obtain ⟨i, hi⟩ := List.getElem?_of_mem (h x hx)
  obtain ⟨j, hj⟩ := List.getElem?_of_mem hy
  have hj1 := (List.getElem?_eq_some_iff.mp hj).1
  have := hD.1 (wc.length + i) j x y (by rw [List.getElem?_append_right (by omega)]; simpa using hi) (by rw [List.getElem?_append_left hj1]; exact hj) e
  omega
theorem app_set {α : Type} {l t l' : List α} {k : Nat} {x : α} (hk : k < l.length) (h : l.set k x = l') : (l ++ t).set k x = l' ++ t := by
  rw [List.set_append_left _ _ hk, h]
theorem src_sub {D : va_G} {cl : List vw_C} {A : Nat → Prop} {s : State} {ws : va_W} {q : Nat × va_E} (h : q ∈ ws) : Src D cl A s ws [q] := by
  intro H locs hP hS k z hk
  obtain ⟨i, hi⟩ := List.getElem?_of_mem h
  match k, hk with
  | 0, hk => cases hk; exact hP i _ hi
  | k + 1, hk => simp at hk
section WMS
variable {ad : Nat → Nat} {g : Nat → ClassId} {I : Nat → Nat → Int32} {L : Nat → Nat → Int64} {S : Nat → Nat} {Z : Nat → Nat → Int32} {Y : Int64} {t : va_W}
theorem wm_len : (WM ad g I L S Z Y).length = 35 := by simp [WM]
theorem wm_get {k : Nat} (h : k < 35) : (WM ad g I L S Z Y ++ t)[k]? = some (ad k, ME ad g I L S Z Y k) := by
  rw [List.getElem?_append_left (by rw [wm_len]; exact h)]; exact map_get h
theorem wm_mem {k : Nat} (h : k < 35) : (ad k, ME ad g I L S Z Y k) ∈ WM ad g I L S Z Y ++ t := List.mem_of_getElem? (wm_get h)
theorem wm_chG {c : Nat} (h : c < 18) : (WM ad g I L S Z Y ++ t)[c + 17]? = some (ad (c + 17), .inr (6, rcF I c)) := wm_get (by omega)
theorem wm_ch {c : Nat} (h : c < 18) : (ad (c + 17), Sum.inr (6, rcF I c)) ∈ WM ad g I L S Z Y ++ t := List.mem_of_getElem? (wm_chG h)
theorem wm_frG {k : Nat} (h : k < 4) : (WM ad g I L S Z Y ++ t)[k + 13]? = some (ad (k + 13), .inr (7, rfF I L k)) := by
  rw [wm_get (by omega)]
  rcases (show k = 0 ∨ k = 1 ∨ k = 2 ∨ k = 3 by omega) with rfl | rfl | rfl | rfl <;> rfl
theorem wm_fr {k : Nat} (h : k < 4) : (ad (k + 13), Sum.inr (7, rfF I L k)) ∈ WM ad g I L S Z Y ++ t := List.mem_of_getElem? (wm_frG h)
theorem wt_mem {q : Nat × va_E} (h : q ∈ t) : q ∈ WM ad g I L S Z Y ++ t := List.mem_append_right _ h
theorem wt_get0 {q : Nat × va_E} : (WM ad g I L S Z Y ++ q :: t)[35]? = some q := by
  rw [List.getElem?_append_right (by rw [wm_len]; decide), wm_len]; rfl
theorem wt_set0 {q q' : Nat × va_E} : (WM ad g I L S Z Y ++ q :: t).set 35 q' = WM ad g I L S Z Y ++ q' :: t := by
  rw [List.set_append_right _ _ (by rw [wm_len]; decide), wm_len]; rfl
theorem wt_get1 {q r : Nat × va_E} : (WM ad g I L S Z Y ++ r :: q :: t)[36]? = some q := by
  rw [List.getElem?_append_right (by rw [wm_len]; decide), wm_len]; rfl
theorem wt_set1 {q q' r : Nat × va_E} : (WM ad g I L S Z Y ++ r :: q :: t).set 36 q' = WM ad g I L S Z Y ++ r :: q' :: t := by
  rw [List.set_append_right _ _ (by rw [wm_len]; decide), wm_len]; rfl
theorem ar_at {a c q : Nat} (hq : q < 16) : arN L a (c * 16 + q) = nI (nib (L a c) q) := by
  unfold arN; rw [show (c * 16 + q) / 16 = c by omega, show (c * 16 + q) % 16 = q by omega]
theorem ar_up {a c q v : Nat} (hq : q < 16) (hv : v < 16) : upd (arN L a) (c * 16 + q) (nI v) = arN (u2 L a c (wn (L a c) q v)) a := by
  funext j
  unfold upd arN
  by_cases h : j = c * 16 + q
  · subst h
    rw [if_pos rfl, show (c * 16 + q) / 16 = c by omega, show (c * 16 + q) % 16 = q by omega, u2, if_pos rfl, if_pos rfl, nib_wn (by omega) hv (by omega), if_pos rfl]
  · rw [if_neg h]
    by_cases hc : j / 16 = c
    · rw [u2, if_pos rfl, if_pos hc, nib_wn (by omega) hv (by omega), if_neg (by omega), hc]
    · rw [u2, if_pos rfl, if_neg hc]
theorem st_at {q : Nat} (hq : q < 15) : stN S q = nI (S q) := if_pos hq
theorem st_up {q c : Nat} (hq : q < 15) : upd (stN S) q (nI c) = stN (u1 S q c) := by
  funext j
  unfold upd stN u1
  by_cases h : j = q
  · subst h; rw [if_pos rfl, if_pos rfl, if_pos hq]
  · rw [if_neg h, if_neg h]
theorem pr_at {a b : Nat} (ha : a < 16) (hb : b < 16) : prN (16 * a + b) = nI (gm a b) := by
  unfold prN; rw [if_pos (by omega), show (16 * a + b) / 16 = a by omega, show (16 * a + b) % 16 = b by omega]
theorem wm_ch0 {c : Nat} (h : c < 18) {v : Int32} : (WM ad g I L S Z Y ++ t).set (c + 17) (ad (c + 17), .inr (6, (rcF I c).set 0 (.int v))) = WM ad g (u2 I 0 c v) L S Z Y ++ t := by
  refine app_set (l := WM ad g I L S Z Y) (by rw [wm_len]; omega) (map_set (fun j hj hne => ?_) ?_)
  · rcases j with _ | _ | _ | _ | _ | _ | _ | _ | _ | _ | _ | _ | _ | _ | _ | _ | _ | j
    all_goals first | rfl | exact absurd rfl hne | (simp [ME, moF, rcF, rfF, lsF, u2, u1]; done) | (have hjc : j ≠ c := (fun q => hne (by omega)); simp [ME, rcF, u2, hjc])
  · simp [ME, moF, rcF, rfF, lsF, u2, u1]
theorem wm_ch1 {c : Nat} (h : c < 18) {v : Int32} : (WM ad g I L S Z Y ++ t).set (c + 17) (ad (c + 17), .inr (6, (rcF I c).set 1 (.int v))) = WM ad g (u2 I 1 c v) L S Z Y ++ t := by
  refine app_set (l := WM ad g I L S Z Y) (by rw [wm_len]; omega) (map_set (fun j hj hne => ?_) ?_)
  · rcases j with _ | _ | _ | _ | _ | _ | _ | _ | _ | _ | _ | _ | _ | _ | _ | _ | _ | j
    all_goals first | rfl | exact absurd rfl hne | (simp [ME, moF, rcF, rfF, lsF, u2, u1]; done) | (have hjc : j ≠ c := (fun q => hne (by omega)); simp [ME, rcF, u2, hjc])
  · simp [ME, moF, rcF, rfF, lsF, u2, u1]
theorem wm_ch2 {c : Nat} (h : c < 18) {v : Int32} : (WM ad g I L S Z Y ++ t).set (c + 17) (ad (c + 17), .inr (6, (rcF I c).set 2 (.int v))) = WM ad g (u2 I 2 c v) L S Z Y ++ t := by
  refine app_set (l := WM ad g I L S Z Y) (by rw [wm_len]; omega) (map_set (fun j hj hne => ?_) ?_)
  · rcases j with _ | _ | _ | _ | _ | _ | _ | _ | _ | _ | _ | _ | _ | _ | _ | _ | _ | j
    all_goals first | rfl | exact absurd rfl hne | (simp [ME, moF, rcF, rfF, lsF, u2, u1]; done) | (have hjc : j ≠ c := (fun q => hne (by omega)); simp [ME, rcF, u2, hjc])
  · simp [ME, moF, rcF, rfF, lsF, u2, u1]
theorem wm_ch3 {c : Nat} (h : c < 18) {v : Int32} : (WM ad g I L S Z Y ++ t).set (c + 17) (ad (c + 17), .inr (6, (rcF I c).set 3 (.int v))) = WM ad g (u2 I 3 c v) L S Z Y ++ t := by
  refine app_set (l := WM ad g I L S Z Y) (by rw [wm_len]; omega) (map_set (fun j hj hne => ?_) ?_)
  · rcases j with _ | _ | _ | _ | _ | _ | _ | _ | _ | _ | _ | _ | _ | _ | _ | _ | _ | j
    all_goals first | rfl | exact absurd rfl hne | (simp [ME, moF, rcF, rfF, lsF, u2, u1]; done) | (have hjc : j ≠ c := (fun q => hne (by omega)); simp [ME, rcF, u2, hjc])
  · simp [ME, moF, rcF, rfF, lsF, u2, u1]
theorem wm_ch4 {c : Nat} (h : c < 18) {v : Int32} : (WM ad g I L S Z Y ++ t).set (c + 17) (ad (c + 17), .inr (6, (rcF I c).set 4 (.int v))) = WM ad g (u2 I 4 c v) L S Z Y ++ t := by
  refine app_set (l := WM ad g I L S Z Y) (by rw [wm_len]; omega) (map_set (fun j hj hne => ?_) ?_)
  · rcases j with _ | _ | _ | _ | _ | _ | _ | _ | _ | _ | _ | _ | _ | _ | _ | _ | _ | j
    all_goals first | rfl | exact absurd rfl hne | (simp [ME, moF, rcF, rfF, lsF, u2, u1]; done) | (have hjc : j ≠ c := (fun q => hne (by omega)); simp [ME, rcF, u2, hjc])
  · simp [ME, moF, rcF, rfF, lsF, u2, u1]
theorem wm_fr0 {k : Nat} (h : k < 4) {v : Int32} : (WM ad g I L S Z Y ++ t).set (k + 13) (ad (k + 13), .inr (7, (rfF I L k).set 0 (.int v))) = WM ad g (u2 I 5 k v) L S Z Y ++ t := by
  rcases (show k = 0 ∨ k = 1 ∨ k = 2 ∨ k = 3 by omega) with rfl | rfl | rfl | rfl
  all_goals
    refine app_set (l := WM ad g I L S Z Y) (by rw [wm_len]; omega) (map_set (fun j hj hne => ?_) ?_)
    · rcases j with _ | _ | _ | _ | _ | _ | _ | _ | _ | _ | _ | _ | _ | _ | _ | _ | _ | j
      all_goals first | rfl | exact absurd rfl hne | (simp [ME, moF, rcF, rfF, lsF, u2, u1]; done)
    · simp [ME, moF, rcF, rfF, lsF, u2, u1]
theorem wm_fr2 {k : Nat} (h : k < 4) {v : Int32} : (WM ad g I L S Z Y ++ t).set (k + 13) (ad (k + 13), .inr (7, (rfF I L k).set 2 (.int v))) = WM ad g (u2 I 6 k v) L S Z Y ++ t := by
  rcases (show k = 0 ∨ k = 1 ∨ k = 2 ∨ k = 3 by omega) with rfl | rfl | rfl | rfl
  all_goals
    refine app_set (l := WM ad g I L S Z Y) (by rw [wm_len]; omega) (map_set (fun j hj hne => ?_) ?_)
    · rcases j with _ | _ | _ | _ | _ | _ | _ | _ | _ | _ | _ | _ | _ | _ | _ | _ | _ | j
      all_goals first | rfl | exact absurd rfl hne | (simp [ME, moF, rcF, rfF, lsF, u2, u1]; done)
    · simp [ME, moF, rcF, rfF, lsF, u2, u1]
theorem wm_fr3 {k : Nat} (h : k < 4) {v : Int32} : (WM ad g I L S Z Y ++ t).set (k + 13) (ad (k + 13), .inr (7, (rfF I L k).set 3 (.int v))) = WM ad g (u2 I 7 k v) L S Z Y ++ t := by
  rcases (show k = 0 ∨ k = 1 ∨ k = 2 ∨ k = 3 by omega) with rfl | rfl | rfl | rfl
  all_goals
    refine app_set (l := WM ad g I L S Z Y) (by rw [wm_len]; omega) (map_set (fun j hj hne => ?_) ?_)
    · rcases j with _ | _ | _ | _ | _ | _ | _ | _ | _ | _ | _ | _ | _ | _ | _ | _ | _ | j
      all_goals first | rfl | exact absurd rfl hne | (simp [ME, moF, rcF, rfF, lsF, u2, u1]; done)
    · simp [ME, moF, rcF, rfF, lsF, u2, u1]
theorem wm_fr1 {k : Nat} (h : k < 4) {v : Int64} (x : Int64) (hx : mdt x = v) : (WM ad g I L S Z Y ++ t).set (k + 13) (ad (k + 13), .inr (7, (rfF I L k).set 1 (.long v))) = WM ad g I (u2 L 3 k x) S Z Y ++ t := by
  rcases (show k = 0 ∨ k = 1 ∨ k = 2 ∨ k = 3 by omega) with rfl | rfl | rfl | rfl
  all_goals
    refine app_set (l := WM ad g I L S Z Y) (by rw [wm_len]; omega) (map_set (fun j hj hne => ?_) ?_)
    · rcases j with _ | _ | _ | _ | _ | _ | _ | _ | _ | _ | _ | _ | _ | _ | _ | _ | _ | j
      all_goals first | rfl | exact absurd rfl hne | (simp [ME, moF, rcF, rfF, lsF, u2, u1]; done)
    · subst hx; simp [ME, moF, rcF, rfF, lsF, u2, u1]
theorem wm_mo0 {v : Int32} : (WM ad g I L S Z Y ++ t).set 0 (ad 0, .inr (8, (moF ad I Z Y).set 0 (.int v))) = WM ad g I L S (u2 Z 3 0 v) Y ++ t := by
  refine app_set (l := WM ad g I L S Z Y) (by rw [wm_len]; omega) (map_set (fun j hj hne => ?_) ?_)
  · rcases j with _ | _ | _ | _ | _ | _ | _ | _ | _ | _ | _ | _ | _ | _ | _ | _ | _ | j
    all_goals first | rfl | exact absurd rfl hne | (simp [ME, moF, rcF, rfF, lsF, u2, u1]; done)
  · simp [ME, moF, rcF, rfF, lsF, u2, u1]
theorem wm_mo9 {v : Int32} : (WM ad g I L S Z Y ++ t).set 0 (ad 0, .inr (8, (moF ad I Z Y).set 9 (.int v))) = WM ad g (u2 I 8 0 v) L S Z Y ++ t := by
  refine app_set (l := WM ad g I L S Z Y) (by rw [wm_len]; omega) (map_set (fun j hj hne => ?_) ?_)
  · rcases j with _ | _ | _ | _ | _ | _ | _ | _ | _ | _ | _ | _ | _ | _ | _ | _ | _ | j
    all_goals first | rfl | exact absurd rfl hne | (simp [ME, moF, rcF, rfF, lsF, u2, u1]; done)
  · simp [ME, moF, rcF, rfF, lsF, u2, u1]
theorem wm_mo10 {v : Int32} : (WM ad g I L S Z Y ++ t).set 0 (ad 0, .inr (8, (moF ad I Z Y).set 10 (.int v))) = WM ad g (u2 I 8 1 v) L S Z Y ++ t := by
  refine app_set (l := WM ad g I L S Z Y) (by rw [wm_len]; omega) (map_set (fun j hj hne => ?_) ?_)
  · rcases j with _ | _ | _ | _ | _ | _ | _ | _ | _ | _ | _ | _ | _ | _ | _ | _ | _ | j
    all_goals first | rfl | exact absurd rfl hne | (simp [ME, moF, rcF, rfF, lsF, u2, u1]; done)
  · simp [ME, moF, rcF, rfF, lsF, u2, u1]
theorem wm_mo11 {v : Int32} : (WM ad g I L S Z Y ++ t).set 0 (ad 0, .inr (8, (moF ad I Z Y).set 11 (.int v))) = WM ad g (u2 I 8 8 v) L S Z Y ++ t := by
  refine app_set (l := WM ad g I L S Z Y) (by rw [wm_len]; omega) (map_set (fun j hj hne => ?_) ?_)
  · rcases j with _ | _ | _ | _ | _ | _ | _ | _ | _ | _ | _ | _ | _ | _ | _ | _ | _ | j
    all_goals first | rfl | exact absurd rfl hne | (simp [ME, moF, rcF, rfF, lsF, u2, u1]; done)
  · simp [ME, moF, rcF, rfF, lsF, u2, u1]
theorem wm_mo12 {v : Int32} : (WM ad g I L S Z Y ++ t).set 0 (ad 0, .inr (8, (moF ad I Z Y).set 12 (.int v))) = WM ad g (u2 I 8 2 v) L S Z Y ++ t := by
  refine app_set (l := WM ad g I L S Z Y) (by rw [wm_len]; omega) (map_set (fun j hj hne => ?_) ?_)
  · rcases j with _ | _ | _ | _ | _ | _ | _ | _ | _ | _ | _ | _ | _ | _ | _ | _ | _ | j
    all_goals first | rfl | exact absurd rfl hne | (simp [ME, moF, rcF, rfF, lsF, u2, u1]; done)
  · simp [ME, moF, rcF, rfF, lsF, u2, u1]
theorem wm_mo13 {v : Int32} : (WM ad g I L S Z Y ++ t).set 0 (ad 0, .inr (8, (moF ad I Z Y).set 13 (.int v))) = WM ad g (u2 I 8 3 v) L S Z Y ++ t := by
  refine app_set (l := WM ad g I L S Z Y) (by rw [wm_len]; omega) (map_set (fun j hj hne => ?_) ?_)
  · rcases j with _ | _ | _ | _ | _ | _ | _ | _ | _ | _ | _ | _ | _ | _ | _ | _ | _ | j
    all_goals first | rfl | exact absurd rfl hne | (simp [ME, moF, rcF, rfF, lsF, u2, u1]; done)
  · simp [ME, moF, rcF, rfF, lsF, u2, u1]
theorem wm_mo14 {v : Int32} : (WM ad g I L S Z Y ++ t).set 0 (ad 0, .inr (8, (moF ad I Z Y).set 14 (.int v))) = WM ad g (u2 I 8 4 v) L S Z Y ++ t := by
  refine app_set (l := WM ad g I L S Z Y) (by rw [wm_len]; omega) (map_set (fun j hj hne => ?_) ?_)
  · rcases j with _ | _ | _ | _ | _ | _ | _ | _ | _ | _ | _ | _ | _ | _ | _ | _ | _ | j
    all_goals first | rfl | exact absurd rfl hne | (simp [ME, moF, rcF, rfF, lsF, u2, u1]; done)
  · simp [ME, moF, rcF, rfF, lsF, u2, u1]
theorem wm_mo15 {v : Int32} : (WM ad g I L S Z Y ++ t).set 0 (ad 0, .inr (8, (moF ad I Z Y).set 15 (.int v))) = WM ad g (u2 I 8 6 v) L S Z Y ++ t := by
  refine app_set (l := WM ad g I L S Z Y) (by rw [wm_len]; omega) (map_set (fun j hj hne => ?_) ?_)
  · rcases j with _ | _ | _ | _ | _ | _ | _ | _ | _ | _ | _ | _ | _ | _ | _ | _ | _ | j
    all_goals first | rfl | exact absurd rfl hne | (simp [ME, moF, rcF, rfF, lsF, u2, u1]; done)
  · simp [ME, moF, rcF, rfF, lsF, u2, u1]
theorem wm_mo16 {v : Int32} : (WM ad g I L S Z Y ++ t).set 0 (ad 0, .inr (8, (moF ad I Z Y).set 16 (.int v))) = WM ad g (u2 I 8 7 v) L S Z Y ++ t := by
  refine app_set (l := WM ad g I L S Z Y) (by rw [wm_len]; omega) (map_set (fun j hj hne => ?_) ?_)
  · rcases j with _ | _ | _ | _ | _ | _ | _ | _ | _ | _ | _ | _ | _ | _ | _ | _ | _ | j
    all_goals first | rfl | exact absurd rfl hne | (simp [ME, moF, rcF, rfF, lsF, u2, u1]; done)
  · simp [ME, moF, rcF, rfF, lsF, u2, u1]
theorem wm_mo17 {v : Int32} : (WM ad g I L S Z Y ++ t).set 0 (ad 0, .inr (8, (moF ad I Z Y).set 17 (.int v))) = WM ad g (u2 I 8 9 v) L S Z Y ++ t := by
  refine app_set (l := WM ad g I L S Z Y) (by rw [wm_len]; omega) (map_set (fun j hj hne => ?_) ?_)
  · rcases j with _ | _ | _ | _ | _ | _ | _ | _ | _ | _ | _ | _ | _ | _ | _ | _ | _ | j
    all_goals first | rfl | exact absurd rfl hne | (simp [ME, moF, rcF, rfF, lsF, u2, u1]; done)
  · simp [ME, moF, rcF, rfF, lsF, u2, u1]
theorem wm_mo21 {v : Int64} : (WM ad g I L S Z Y ++ t).set 0 (ad 0, .inr (8, (moF ad I Z Y).set 21 (.long v))) = WM ad g I L S Z v ++ t := by
  refine app_set (l := WM ad g I L S Z Y) (by rw [wm_len]; omega) (map_set (fun j hj hne => ?_) ?_)
  · rcases j with _ | _ | _ | _ | _ | _ | _ | _ | _ | _ | _ | _ | _ | _ | _ | _ | _ | j
    all_goals first | rfl | exact absurd rfl hne | (simp [ME, moF, rcF, rfF, lsF, u2, u1]; done)
  · simp [ME, moF, rcF, rfF, lsF, u2, u1]
theorem wm_ar0 {c q v : Nat} (hq : q < 16) (hv : v < 16) : (WM ad g I L S Z Y ++ t).set 3 (ad 3, .inl (g 0, 288, .inl (upd (arN L 0) (c * 16 + q) (nI v)))) = WM ad g I (u2 L 0 c (wn (L 0 c) q v)) S Z Y ++ t := by
  refine app_set (l := WM ad g I L S Z Y) (by rw [wm_len]; omega) (map_set (fun j hj hne => ?_) ?_)
  · rcases j with _ | _ | _ | _ | _ | _ | _ | _ | _ | _ | _ | _ | _ | _ | _ | _ | _ | j
    all_goals first | rfl | exact absurd rfl hne | (simp [ME, rfF, u2]; done) | (simp [ME, arN, u2]; done) | (simp only [ME]; congr 3; funext i; simp [arN, u2])
  · rw [ar_up hq hv]; rfl
theorem wm_ar1 {c q v : Nat} (hq : q < 16) (hv : v < 16) : (WM ad g I L S Z Y ++ t).set 4 (ad 4, .inl (g 0, 288, .inl (upd (arN L 1) (c * 16 + q) (nI v)))) = WM ad g I (u2 L 1 c (wn (L 1 c) q v)) S Z Y ++ t := by
  refine app_set (l := WM ad g I L S Z Y) (by rw [wm_len]; omega) (map_set (fun j hj hne => ?_) ?_)
  · rcases j with _ | _ | _ | _ | _ | _ | _ | _ | _ | _ | _ | _ | _ | _ | _ | _ | _ | j
    all_goals first | rfl | exact absurd rfl hne | (simp [ME, rfF, u2]; done) | (simp [ME, arN, u2]; done) | (simp only [ME]; congr 3; funext i; simp [arN, u2])
  · rw [ar_up hq hv]; rfl
theorem wm_ar2 {c q v : Nat} (hq : q < 16) (hv : v < 16) : (WM ad g I L S Z Y ++ t).set 5 (ad 5, .inl (g 0, 288, .inl (upd (arN L 2) (c * 16 + q) (nI v)))) = WM ad g I (u2 L 2 c (wn (L 2 c) q v)) S Z Y ++ t := by
  refine app_set (l := WM ad g I L S Z Y) (by rw [wm_len]; omega) (map_set (fun j hj hne => ?_) ?_)
  · rcases j with _ | _ | _ | _ | _ | _ | _ | _ | _ | _ | _ | _ | _ | _ | _ | _ | _ | j
    all_goals first | rfl | exact absurd rfl hne | (simp [ME, rfF, u2]; done) | (simp [ME, arN, u2]; done) | (simp only [ME]; congr 3; funext i; simp [arN, u2])
  · rw [ar_up hq hv]; rfl
theorem wm_se {q c : Nat} (hq : q < 15) : (WM ad g I L S Z Y ++ t).set 7 (ad 7, .inl (g 0, 15, .inl (upd (stN S) q (nI c)))) = WM ad g I L (u1 S q c) Z Y ++ t := by
  refine app_set (l := WM ad g I L S Z Y) (by rw [wm_len]; omega) (map_set (fun j hj hne => ?_) ?_)
  · rcases j with _ | _ | _ | _ | _ | _ | _ | _ | _ | _ | _ | _ | _ | _ | _ | _ | _ | j
    all_goals first | rfl | exact absurd rfl hne
  · rw [st_up hq]; rfl
theorem wm_sc2 {q : Nat} {v : Int32} : (WM ad g I L S Z Y ++ t).set 10 (ad 10, .inl (g 0, 15, .inl (upd (Z 2) q v))) = WM ad g I L S (u2 Z 2 q v) Y ++ t := by
  refine app_set (l := WM ad g I L S Z Y) (by rw [wm_len]; omega) (map_set (fun j hj hne => ?_) ?_)
  · rcases j with _ | _ | _ | _ | _ | _ | _ | _ | _ | _ | _ | _ | _ | _ | _ | _ | _ | j
    all_goals first | rfl | exact absurd rfl hne | (simp [ME, moF, u2]; done) | (simp only [ME]; congr 3; funext i; simp [u2])
  · first | (simp only [ME]; congr 3; done) | (simp only [ME]; congr 3; funext i; simp [upd, u2])
theorem wm_sc0 {q : Nat} {v : Int32} : (WM ad g I L S Z Y ++ t).set 11 (ad 11, .inl (g 0, 20, .inl (upd (Z 0) q v))) = WM ad g I L S (u2 Z 0 q v) Y ++ t := by
  refine app_set (l := WM ad g I L S Z Y) (by rw [wm_len]; omega) (map_set (fun j hj hne => ?_) ?_)
  · rcases j with _ | _ | _ | _ | _ | _ | _ | _ | _ | _ | _ | _ | _ | _ | _ | _ | _ | j
    all_goals first | rfl | exact absurd rfl hne | (simp [ME, moF, u2]; done) | (simp only [ME]; congr 3; funext i; simp [u2])
  · first | (simp only [ME]; congr 3; done) | (simp only [ME]; congr 3; funext i; simp [upd, u2])
theorem wm_sc1 {q : Nat} {v : Int32} : (WM ad g I L S Z Y ++ t).set 12 (ad 12, .inl (g 0, 4, .inl (upd (Z 1) q v))) = WM ad g I L S (u2 Z 1 q v) Y ++ t := by
  refine app_set (l := WM ad g I L S Z Y) (by rw [wm_len]; omega) (map_set (fun j hj hne => ?_) ?_)
  · rcases j with _ | _ | _ | _ | _ | _ | _ | _ | _ | _ | _ | _ | _ | _ | _ | _ | _ | j
    all_goals first | rfl | exact absurd rfl hne | (simp [ME, moF, u2]; done) | (simp only [ME]; congr 3; funext i; simp [u2])
  · first | (simp only [ME]; congr 3; done) | (simp only [ME]; congr 3; funext i; simp [upd, u2])
theorem wm_85 {v : Int32} : WM ad g (u2 I 8 5 v) L S Z Y = WM ad g I L S Z Y := by
  unfold WM
  refine List.map_congr_left (fun j hj => ?_)
  rcases j with _ | _ | _ | _ | _ | _ | _ | _ | _ | _ | _ | _ | _ | _ | _ | _ | _ | j
  all_goals first | rfl | (simp [ME, moF, rcF, rfF, lsF, u2, u1]; done)
end WMS
