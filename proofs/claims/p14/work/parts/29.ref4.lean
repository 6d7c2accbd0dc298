
/-- scratch: rows, places, the word made -/
def z4 (Z : Nat → Nat → Int32) (R : Nat → Nat) (W M : Nat → Int32) : Nat → Nat → Int32 := fun a j => if a = 0 then nI (R j) else if a = 1 then W j else if a = 2 then M j else Z a j
section Z4
variable {Z : Nat → Nat → Int32} {R : Nat → Nat} {W M : Nat → Int32} {i v : Nat}
theorem z4_0 : u2 (z4 Z R W M) 0 i (nI v) = z4 Z (un R i v) W M := by
  funext a j; unfold u2 z4 un
  by_cases h : a = 0
  · simp [h]; split <;> rfl
  · simp [h]
theorem z4_1 {x : Int32} : u2 (z4 Z R W M) 1 i x = z4 Z R (upd W i x) M := by
  funext a j; unfold u2 z4 upd
  by_cases h : a = 1
  · simp [h]
  · simp [h]
theorem z4_2 {x : Int32} : u2 (z4 Z R W M) 2 i x = z4 Z R W (upd M i x) := by
  funext a j; unfold u2 z4 upd
  by_cases h : a = 2
  · simp [h]
  · simp [h]
theorem z4_e (h : Z 0 = fun j => nI (R j)) : z4 Z R (Z 1) (Z 2) = Z := by
  funext a j; unfold z4
  by_cases h0 : a = 0
  · rw [if_pos h0, h0, h]
  · rw [if_neg h0]
    by_cases h1 : a = 1
    · rw [if_pos h1, h1]
    · rw [if_neg h1]
      by_cases h2 : a = 2
      · rw [if_pos h2, h2]
      · rw [if_neg h2]
end Z4
theorem wm_mk {ad : Nat → Nat} {g : Nat → ClassId} {I : Nat → Nat → Int32} {L : Nat → Nat → Int64} {S : Nat → Nat} {Z : Nat → Nat → Int32} {Y : Int64} {t : va_W} {R : Nat → Nat} {W M F : Nat → Int32} : (WM ad g I L S (z4 Z R W M) Y ++ t).set 10 (ad 10, .inl (g 0, 15, .inl F)) = WM ad g I L S (z4 Z R W F) Y ++ t := by
  refine app_set (l := WM ad g I L S (z4 Z R W M) Y) (by rw [wm_len]; omega) (map_set (fun j hj hne => ?_) ?_)
  · rcases j with _ | _ | _ | _ | _ | _ | _ | _ | _ | _ | _ | _ | _ | _ | _ | _ | _ | j
    all_goals first | rfl | exact absurd rfl hne
  · rfl
/-- places written down -/
def wrf (b : Nat) (W : Nat → Int32) : Nat → Nat → Int32
  | 0 => W
  | i + 1 => if b.testBit i = true then upd (wrf b W i) (pcn b i) (nI i) else wrf b W i
theorem wrf_at {b : Nat} {W : Nat → Int32} (i : Nat) {k : Nat} (h : k < pcn b i) : wrf b W i k = nI (pkf b k i) := by
  induction i with
  | zero => rw [pcn] at h; omega
  | succ i ih =>
    rw [wrf, pkf]
    rw [pcn] at h
    by_cases hb : b.testBit i = true
    · rw [if_pos hb]
      unfold upd
      rw [hb] at h
      by_cases e : k = pcn b i
      · rw [if_pos e, if_pos ⟨hb, e.symm⟩]
      · rw [if_neg e, if_neg (fun z => e z.2.symm), ih (by simp [bN] at h; omega)]
    · rw [if_neg hb, if_neg (fun z => hb z.1)]
      have hf : b.testBit i = false := by
        cases hq : b.testBit i
        · rfl
        · exact absurd hq hb
      rw [hf] at h
      exact ih (by simp [bN] at h; omega)
theorem pc_step {b i : Nat} (hb : b.testBit i = true) (hi : i < 15) (h4 : pcn b 15 ≤ 4) : pcn b i < 4 := by
  have h1 := pcn_mono b (show i + 1 ≤ 15 by omega)
  rw [pcn, hb] at h1
  simp [bN] at h1
  omega
def swp (R : Nat → Nat) (k r : Nat) : Nat → Nat → Nat
  | 0 => R
  | p + 1 => un (un (swp R k r p) (r * 5 + p) (swp R k r p (k * 5 + p))) (k * 5 + p) (swp R k r p (r * 5 + p))
def scl (R : Nat → Nat) (k d : Nat) : Nat → Nat → Nat
  | 0 => R
  | p + 1 => un (scl R k d p) (k * 5 + p) (gq (scl R k d p (k * 5 + p)) d)
def adl (R : Nat → Nat) (k o t : Nat) : Nat → Nat → Nat
  | 0 => R
  | p + 1 => un (adl R k o t p) (o * 5 + p) (adl R k o t p (o * 5 + p) ^^^ gm t (adl R k o t p (k * 5 + p)))
theorem swp_n (R : Nat → Nat) (k r n : Nat) (hn : n ≤ 5) (i : Nat) : swp R k r n i = if i / 5 = k ∧ i % 5 < n then R (r * 5 + i % 5) else if i / 5 = r ∧ i % 5 < n then R (k * 5 + i % 5) else R i := by
  induction n generalizing i with
  | zero => rw [swp, if_neg (fun h => by omega), if_neg (fun h => by omega)]
  | succ n ih =>
    rw [swp]
    unfold un
    by_cases h1 : i = k * 5 + n
    · rw [if_pos h1, ih (by omega), if_pos (show i / 5 = k ∧ i % 5 < n + 1 from ⟨by omega, by omega⟩), if_neg (fun h => by omega), if_neg (fun h => by omega)]
      congr 1; omega
    · rw [if_neg h1]
      by_cases h2 : i = r * 5 + n
      · have hkr : ¬ r = k := fun e => h1 (by rw [h2, e])
        rw [if_pos h2, ih (by omega), if_neg (fun h => by omega), if_neg (fun h => by omega), if_neg (show ¬ (i / 5 = k ∧ i % 5 < n + 1) from fun h => by omega), if_pos (show i / 5 = r ∧ i % 5 < n + 1 from ⟨by omega, by omega⟩)]
        congr 1; omega
      · rw [if_neg h2, ih (by omega)]
        by_cases h3 : i / 5 = k ∧ i % 5 < n
        · rw [if_pos h3, if_pos (show i / 5 = k ∧ i % 5 < n + 1 from ⟨h3.1, by omega⟩)]
        · rw [if_neg h3, if_neg (show ¬ (i / 5 = k ∧ i % 5 < n + 1) from fun h => h3 ⟨h.1, by omega⟩)]
          by_cases h4 : i / 5 = r ∧ i % 5 < n
          · rw [if_pos h4, if_pos (show i / 5 = r ∧ i % 5 < n + 1 from ⟨h4.1, by omega⟩)]
          · rw [if_neg h4, if_neg (show ¬ (i / 5 = r ∧ i % 5 < n + 1) from fun h => h4 ⟨h.1, by omega⟩)]
theorem swp_5 (R : Nat → Nat) (k r : Nat) : gSw R k r = swp R k r 5 := by
  funext i
  rw [swp_n R k r 5 (Nat.le_refl _)]
  unfold gSw
  have h5 : i % 5 < 5 := Nat.mod_lt _ (by decide)
  simp only [h5, and_true]
theorem scl_n (R : Nat → Nat) (k d n : Nat) (hn : n ≤ 5) (i : Nat) : scl R k d n i = if i / 5 = k ∧ i % 5 < n then gq (R i) d else R i := by
  induction n generalizing i with
  | zero => rw [scl, if_neg (fun h => by omega)]
  | succ n ih =>
    rw [scl]
    unfold un
    by_cases h1 : i = k * 5 + n
    · rw [if_pos h1, ih (by omega), if_neg (fun h => by omega), if_pos (show i / 5 = k ∧ i % 5 < n + 1 from ⟨by omega, by omega⟩), h1]
    · rw [if_neg h1, ih (by omega)]
      by_cases h3 : i / 5 = k ∧ i % 5 < n
      · rw [if_pos h3, if_pos (show i / 5 = k ∧ i % 5 < n + 1 from ⟨h3.1, by omega⟩)]
      · rw [if_neg h3, if_neg (show ¬ (i / 5 = k ∧ i % 5 < n + 1) from fun h => h3 ⟨h.1, by omega⟩)]
theorem scl_5 (R : Nat → Nat) (k d : Nat) : gSc R k d = scl R k d 5 := by
  funext i
  rw [scl_n R k d 5 (Nat.le_refl _)]
  unfold gSc
  have h5 : i % 5 < 5 := Nat.mod_lt _ (by decide)
  simp only [h5, and_true]
theorem adl_n (R : Nat → Nat) (k o t n : Nat) (hn : n ≤ 5) (hko : o ≠ k) (i : Nat) : adl R k o t n i = if i / 5 = o ∧ i % 5 < n then R i ^^^ gm t (R (k * 5 + i % 5)) else R i := by
  induction n generalizing i with
  | zero => rw [adl, if_neg (fun h => by omega)]
  | succ n ih =>
    rw [adl]
    unfold un
    by_cases h1 : i = o * 5 + n
    · rw [if_pos h1, ih (by omega), ih (by omega), if_neg (fun h => by omega), if_neg (fun h => by omega), if_pos (show i / 5 = o ∧ i % 5 < n + 1 from ⟨by omega, by omega⟩), h1, show (o * 5 + n) % 5 = n by omega]
    · rw [if_neg h1, ih (by omega)]
      by_cases h3 : i / 5 = o ∧ i % 5 < n
      · rw [if_pos h3, if_pos (show i / 5 = o ∧ i % 5 < n + 1 from ⟨h3.1, by omega⟩)]
      · rw [if_neg h3, if_neg (show ¬ (i / 5 = o ∧ i % 5 < n + 1) from fun h => h3 ⟨h.1, by omega⟩)]
theorem adl_5 (R : Nat → Nat) (k o t : Nat) (hko : o ≠ k) : gAd R k o t = adl R k o t 5 := by
  funext i
  rw [adl_n R k o t 5 (Nat.le_refl _) hko]
  unfold gAd
  have h5 : i % 5 < 5 := Nat.mod_lt _ (by decide)
  simp only [h5, and_true]
theorem scl_16 {R : Nat → Nat} {k d : Nat} (h : R16 R) (n : Nat) : R16 (scl R k d n) := by
  induction n with
  | zero => exact h
  | succ n ih => exact un_16 ih gq_lt
theorem adl_16 {R : Nat → Nat} {k o t : Nat} (h : R16 R) (n : Nat) : R16 (adl R k o t n) := by
  induction n with
  | zero => exact h
  | succ n ih => exact un_16 ih (xor_lt16 (ih _) gm_lt)
/-- what solving finds -/
noncomputable def slv (b : Nat) (x : Int64) : Option Int64 := @dite _ (∃ y, Slv b x y) (Classical.propDecidable _) (fun h => some (Classical.choose h)) (fun _ => none)
theorem slv_s {b : Nat} {x y : Int64} (hb : pcn b 15 ≤ 4) (h : Slv b x y) : slv b x = some y := by
  unfold slv
  rw [dif_pos ⟨y, h⟩]
  congr 1
  exact slv_one hb (Classical.choose_spec (⟨y, h⟩ : ∃ y, Slv b x y)) h
theorem slv_n {b : Nat} {x : Int64} (h : ∀ y, ¬ Slv b x y) : slv b x = none := by
  unfold slv
  rw [dif_neg (fun z => z.elim (fun y hy => h y hy))]
theorem slv_is {b : Nat} {x y : Int64} (h : slv b x = some y) : Slv b x y := by
  unfold slv at h
  split at h
  next g => cases h; exact Classical.choose_spec g
  · cases h
def sB : Option Int64 → Nat
  | some _ => 1
  | none => 0
def mdA (M : Nat → Int32) : Option Int64 → Nat → Int32
  | some y => wA y
  | none => M

def KX9_over_0_0 : List (Nat × Instr × Nat) := [(0, .iconst 0, 1), (1, .istore_n 3, 1)]
theorem KX9_over_0_0_d : ∀ z ∈ KX9_over_0_0, decode cX9_over z.1 = .ok z.2 := by decide +kernel
def KX9_over_2_1 : List (Nat × Instr × Nat) := [(2, .aload_n 0, 1), (3, .iload_n 3, 1), (4, .iload_n 2, 1)]
theorem KX9_over_2_1_d : ∀ z ∈ KX9_over_2_1, decode cX9_over z.1 = .ok z.2 := by decide +kernel
def KX9_over_8_2 : List (Nat × Instr × Nat) := [(8, .iload_n 1, 1)]
theorem KX9_over_8_2_d : ∀ z ∈ KX9_over_8_2, decode cX9_over z.1 = .ok z.2 := by decide +kernel
def KX9_over_18_3 : List (Nat × Instr × Nat) := [(18, .iload_n 3, 1)]
theorem KX9_over_18_3_d : ∀ z ∈ KX9_over_18_3, decode cX9_over z.1 = .ok z.2 := by decide +kernel
def KX9_over_12_4 : List (Nat × Instr × Nat) := [(12, .iinc 3 1, 3), (15, .goto (-13), 3)]
theorem KX9_over_12_4_d : ∀ z ∈ KX9_over_12_4, decode cX9_over z.1 = .ok z.2 := by decide +kernel
set_option maxHeartbeats 4000000 in
set_option maxRecDepth 100000 in
theorem c_X9_over (l : Launch) (D : va_G) (g : Nat → ClassId) (ad : Nat → Nat) (I : Nat → Nat → Int32) (L : Nat → Nat → Int64) (S : Nat → Nat) (Z : Nat → Nat → Int32) (Y : Int64) (a : Nat) (d : Nat) (ha : a < 16) (hd : d < 16) (h0 : d ≠ 0) : CT l yX9_over cX9_over 4 ((Option.some FieldType.int)) ({ frames := 1, cells := 0, slots := 0, locals := 22 } : Room) [.ref (ad 0), .int (nI a), .int (nI d)] D CL (TYS g) ([]) (WM ad g I L S Z Y) (S := Unit) (fun _ => some (.int (nI (gq a d)))) (fun _ => WM ad g I L S Z Y) (fun _ => True) 0 0 := by
  refine ct_of (by decide +kernel) (Nat.le_of_ble_eq_true rfl) ?_
  intro p e s m below meth c A X hr hnm hSB hRO hAf
  refine g_cs (ws' := WM ad g I L S Z Y ++ []) (lv' := [(0, .ref (ad 0)), (1, .int (nI a)), (2, .int (nI d))]) (List.append_nil _) rfl ?_
  refine g_run X KX9_over_0_0 KX9_over_0_0_d 2 [(3, .int (nI 0)), (0, .ref (ad 0)), (1, .int (nI a)), (2, .int (nI d))] [] rfl ?_
  refine g_lv (lv' := [(0, .ref (ad 0)), (1, .int (nI a)), (2, .int (nI d)), (3, .int (nI 0))]) (lsub_c 1 rfl (lsub_c 2 rfl (lsub_c 3 rfl (lsub_c 0 rfl (lsub_n))))) ?_
  refine g_for (gq a d) (fun _ => WM ad g I L S Z Y ++ []) (fun i => [(0, .ref (ad 0)), (1, .int (nI a)), (2, .int (nI d)), (3, .int (nI i))]) (rfl) (rfl) ?_ ?_
  · refine g_run X KX9_over_2_1 KX9_over_2_1_d 5 [(0, .ref (ad 0)), (1, .int (nI a)), (2, .int (nI d)), (3, .int (nI (gq a d)))] [.int (nI d), .int (nI (gq a d)), .ref (ad 0)] rfl ?_
    refine g_callV X hSB hAf (srcW) (hrc1 := (rfl : CL[8]? = some _)) (wm_mem (k := 0) (by decide)) rfl (As := [.int (nI (gq a d)), .int (nI d)]) (wr := []) (n := 2) (c_X9_by l D g ad I L S Z Y (gq a d) d (by first | exact gq_lt | (have := @gq_lt a d; omega)) (hd)) rfl srcN hrdN w_1296 w_1293 w_1295 w_s19 w_6 (by decide +kernel) rfl ⟨Nat.le_of_ble_eq_true rfl, Nat.le_of_ble_eq_true rfl⟩ rfl rfl rfl (Nat.le_of_ble_eq_true rfl) ⟨Nat.le_of_ble_eq_true rfl, Nat.le_of_ble_eq_true rfl⟩ dX9_over_5 (fun hu1 _ => ?_)
    refine g_af (ws' := WM ad g I L S Z Y ++ []) (st' := [.int (nI (gm (gq a d) d))]) (cells' := 0) (slots' := 0) (pc' := 8) rfl rfl rfl rfl rfl ?_
    refine g_run X KX9_over_8_2 KX9_over_8_2_d 9 [(0, .ref (ad 0)), (1, .int (nI a)), (2, .int (nI d)), (3, .int (nI (gq a d)))] [.int (nI a), .int (nI (gm (gq a d) d))] rfl ?_
    refine g_icmp_eq X 18 dX9_over_9 (by decide) (fun hc2 => ?_) (fun hc2 => ?_)
    · refine g_run X KX9_over_18_3 KX9_over_18_3_d 19 [(0, .ref (ad 0)), (1, .int (nI a)), (2, .int (nI d)), (3, .int (nI (gq a d)))] [.int (nI (gq a d))] rfl ?_
      exact g_iret X hr () (rfl) (trivial) (rfl) (Nat.le_of_ble_eq_true rfl) (Nat.le_of_ble_eq_true rfl) dX9_over_19
    · rw [nI_eq (by have := @gm_lt (gq a d) d; omega) (by omega)] at hc2; exact (hc2 (gf7 a ha d hd h0).2).elim
  · intro i hi k2
    refine g_run X KX9_over_2_1 KX9_over_2_1_d 5 [(0, .ref (ad 0)), (1, .int (nI a)), (2, .int (nI d)), (3, .int (nI i))] [.int (nI d), .int (nI i), .ref (ad 0)] rfl ?_
    refine g_callV X hSB hAf (srcW) (hrc1 := (rfl : CL[8]? = some _)) (wm_mem (k := 0) (by decide)) rfl (As := [.int (nI i), .int (nI d)]) (wr := []) (n := 2) (c_X9_by l D g ad I L S Z Y i d (by first | exact gq_lt | (have := @gq_lt a d; omega)) (hd)) rfl srcN hrdN w_1296 w_1293 w_1295 w_s19 w_6 (by decide +kernel) rfl ⟨Nat.le_of_ble_eq_true rfl, Nat.le_of_ble_eq_true rfl⟩ rfl rfl rfl (Nat.le_of_ble_eq_true rfl) ⟨Nat.le_of_ble_eq_true rfl, Nat.le_of_ble_eq_true rfl⟩ dX9_over_5 (fun hu3 _ => ?_)
    refine g_af (ws' := WM ad g I L S Z Y ++ []) (st' := [.int (nI (gm i d))]) (cells' := 0) (slots' := 0) (pc' := 8) rfl rfl rfl rfl rfl ?_
    refine g_run X KX9_over_8_2 KX9_over_8_2_d 9 [(0, .ref (ad 0)), (1, .int (nI a)), (2, .int (nI d)), (3, .int (nI i))] [.int (nI a), .int (nI (gm i d))] rfl ?_
    refine g_icmp_eq X 18 dX9_over_9 (by decide) (fun hc4 => ?_) (fun hc4 => ?_)
    · rw [nI_eq (by have := @gm_lt i d; omega) (by omega)] at hc4; have hq := (gf7 i (by have := @gq_lt a d; omega) d hd h0).1; rw [hc4] at hq; omega
    · refine g_run X KX9_over_12_4 KX9_over_12_4_d 2 [(3, .int ((nI i) + (nI 1))), (0, .ref (ad 0)), (1, .int (nI a)), (2, .int (nI d))] [] rfl ?_
      refine g_nm (lv' := [(3, .int (nI (i + 1))), (0, .ref (ad 0)), (1, .int (nI a)), (2, .int (nI d))]) (st' := []) (by simp only [nI_add]) (by simp only [nI_add]) ?_
      refine g_lv (lv' := [(0, .ref (ad 0)), (1, .int (nI a)), (2, .int (nI d)), (3, .int (nI (i + 1)))]) (lsub_c 1 rfl (lsub_c 2 rfl (lsub_c 3 rfl (lsub_c 0 rfl (lsub_n))))) ?_
      refine g_cs (ws' := WM ad g I L S Z Y ++ []) (lv' := [(0, .ref (ad 0)), (1, .int (nI a)), (2, .int (nI d)), (3, .int (nI (i + 1)))]) (rfl) (rfl) ?_
      exact k2

