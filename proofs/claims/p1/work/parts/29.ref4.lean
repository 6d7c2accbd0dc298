
/-- scratch: rows, places, the word made -/
def z4 (Z : Nat → Nat → Int32) (R : Nat → Nat) (W M : Nat → Int32) : Nat → Nat → Int32 := fun a j => if a = 0 then nI (R j) else if a = 1 then W j else if a = 2 then M j else Z a j
section Z4
variable {Z : Nat → Nat → Int32} {R : Nat → Nat} {W M : Nat → Int32} {i v : Nat}
theorem z4_0 : u2 (z4 Z R W M) 0 i (nI v) = z4 Z (un R i v) W M := by
  funext a j; unfold u2 z4 un
  by_cases h : a = 0
  · simp [h]; split <;> rfl
  · simp [h]
theorem z4_1 {x : Int32} : u2 (z4 Z R W M) 1 i x = z4 Z R (upd W i x) M := by
  funext a j; unfold u2 z4 upd
  by_cases h : a = 1
  · simp [h]
  · simp [h]
theorem z4_2 {x : Int32} : u2 (z4 Z R W M) 2 i x = z4 Z R W (upd M i x) := by
  funext a j; unfold u2 z4 upd
  by_cases h : a = 2
  · simp [h]
  · simp [h]
theorem z4_e (h : Z 0 = fun j => nI (R j)) : z4 Z R (Z 1) (Z 2) = Z := by
  funext a j; unfold z4
  by_cases h0 : a = 0
  · rw [if_pos h0, h0, h]
  · rw [if_neg h0]
    by_cases h1 : a = 1
    · rw [if_pos h1, h1]
    · rw [if_neg h1]
      by_cases h2 : a = 2
      · rw [if_pos h2, h2]
      · rw [if_neg h2]
end Z4
theorem wm_mk {ad : Nat → Nat} {g : Nat → ClassId} {I : Nat → Nat → Int32} {L : Nat → Nat → Int64} {S : Nat → Nat} {Z : Nat → Nat → Int32} {Y : Int64} {t : va_W} {R : Nat → Nat} {W M F : Nat → Int32} : (WM ad g I L S (z4 Z R W M) Y ++ t).set 10 (ad 10, .inl (g 0, 15, .inl F)) = WM ad g I L S (z4 Z R W F) Y ++ t := by
  refine app_set (l := WM ad g I L S (z4 Z R W M) Y) (by rw [wm_len]; omega) (map_set (fun j hj hne => ?_) ?_)
  · rcases j with _ | _ | _ | _ | _ | _ | _ | _ | _ | _ | _ | _ | _ | _ | _ | _ | _ | j
    all_goals first | rfl | exact absurd rfl hne
  · rfl
section WZ
variable {ad : Nat → Nat} {g : Nat → ClassId} {I : Nat → Nat → Int32} {L : Nat → Nat → Int64} {S : Nat → Nat} {Z : Nat → Nat → Int32} {Y : Int64} {t : va_W} {R : Nat → Nat} {W M : Nat → Int32}
theorem wm_z0 {i v : Nat} : (WM ad g I L S (z4 Z R W M) Y ++ t).set 11 (ad 11, .inl (g 0, 20, .inl (upd ((z4 Z R W M) 0) i (nI v)))) = WM ad g I L S (z4 Z (un R i v) W M) Y ++ t := by
  rw [← z4_0]; exact wm_sc0
theorem wm_z1 {i : Nat} {x : Int32} : (WM ad g I L S (z4 Z R W M) Y ++ t).set 12 (ad 12, .inl (g 0, 4, .inl (upd ((z4 Z R W M) 1) i x))) = WM ad g I L S (z4 Z R (upd W i x) M) Y ++ t := by
  rw [← z4_1]; exact wm_sc1
end WZ
/-- places written down -/
def wrf (b : Nat) (W : Nat → Int32) : Nat → Nat → Int32
  | 0 => W
  | i + 1 => if b.testBit i = true then upd (wrf b W i) (pcn b i) (nI i) else wrf b W i
theorem wrf_at {b : Nat} {W : Nat → Int32} (i : Nat) {k : Nat} (h : k < pcn b i) : wrf b W i k = nI (pkf b k i) := by
  induction i with
  | zero => rw [pcn] at h; omega
  | succ i ih =>
    rw [wrf, pkf]
    rw [pcn] at h
    by_cases hb : b.testBit i = true
    · rw [if_pos hb]
      unfold upd
      rw [hb] at h
      by_cases e : k = pcn b i
      · rw [if_pos e, if_pos ⟨hb, e.symm⟩]
      · rw [if_neg e, if_neg (fun z => e z.2.symm), ih (by simp [bN] at h; omega)]
    · rw [if_neg hb, if_neg (fun z => hb z.1)]
      have hf : b.testBit i = false := by
        cases hq : b.testBit i
        · rfl
        · exact absurd hq hb
      rw [hf] at h
      exact ih (by simp [bN] at h; omega)
theorem pc_step {b i : Nat} (hb : b.testBit i = true) (hi : i < 15) (h4 : pcn b 15 ≤ 4) : pcn b i < 4 := by
  have h1 := pcn_mono b (show i + 1 ≤ 15 by omega)
  rw [pcn, hb] at h1
  simp [bN] at h1
  omega
def swp (R : Nat → Nat) (k r : Nat) : Nat → Nat → Nat
  | 0 => R
  | p + 1 => un (un (swp R k r p) (r * 5 + p) (swp R k r p (k * 5 + p))) (k * 5 + p) (swp R k r p (r * 5 + p))
def scl (R : Nat → Nat) (k d : Nat) : Nat → Nat → Nat
  | 0 => R
  | p + 1 => un (scl R k d p) (k * 5 + p) (gq (scl R k d p (k * 5 + p)) d)
def adl (R : Nat → Nat) (k o t : Nat) : Nat → Nat → Nat
  | 0 => R
  | p + 1 => un (adl R k o t p) (o * 5 + p) (adl R k o t p (o * 5 + p) ^^^ gm t (adl R k o t p (k * 5 + p)))
theorem swp_n (R : Nat → Nat) (k r n : Nat) (hn : n ≤ 5) (i : Nat) : swp R k r n i = if i / 5 = k ∧ i % 5 < n then R (r * 5 + i % 5) else if i / 5 = r ∧ i % 5 < n then R (k * 5 + i % 5) else R i := by
  induction n generalizing i with
  | zero => rw [swp, if_neg (fun h => by omega), if_neg (fun h => by omega)]
  | succ n ih =>
    rw [swp]
    unfold un
    by_cases h1 : i = k * 5 + n
    · rw [if_pos h1, ih (by omega), if_pos (show i / 5 = k ∧ i % 5 < n + 1 from ⟨by omega, by omega⟩), if_neg (fun h => by omega), if_neg (fun h => by omega)]
      congr 1; omega
    · rw [if_neg h1]
      by_cases h2 : i = r * 5 + n
      · have hkr : ¬ r = k := fun e => h1 (by rw [h2, e])
        rw [if_pos h2, ih (by omega), if_neg (fun h => by omega), if_neg (fun h => by omega), if_neg (show ¬ (i / 5 = k ∧ i % 5 < n + 1) from fun h => by omega), if_pos (show i / 5 = r ∧ i % 5 < n + 1 from ⟨by omega, by omega⟩)]
        congr 1; omega
      · rw [if_neg h2, ih (by omega)]
        by_cases h3 : i / 5 = k ∧ i % 5 < n
        · rw [if_pos h3, if_pos (show i / 5 = k ∧ i % 5 < n + 1 from ⟨h3.1, by omega⟩)]
        · rw [if_neg h3, if_neg (show ¬ (i / 5 = k ∧ i % 5 < n + 1) from fun h => h3 ⟨h.1, by omega⟩)]
          by_cases h4 : i / 5 = r ∧ i % 5 < n
          · rw [if_pos h4, if_pos (show i / 5 = r ∧ i % 5 < n + 1 from ⟨h4.1, by omega⟩)]
          · rw [if_neg h4, if_neg (show ¬ (i / 5 = r ∧ i % 5 < n + 1) from fun h => h4 ⟨h.1, by omega⟩)]
theorem swp_5 (R : Nat → Nat) (k r : Nat) : gSw R k r = swp R k r 5 := by
  funext i
  rw [swp_n R k r 5 (Nat.le_refl _)]
  unfold gSw
  have h5 : i % 5 < 5 := Nat.mod_lt _ (by decide)
  simp only [h5, and_true]
theorem scl_n (R : Nat → Nat) (k d n : Nat) (hn : n ≤ 5) (i : Nat) : scl R k d n i = if i / 5 = k ∧ i % 5 < n then gq (R i) d else R i := by
  induction n generalizing i with
  | zero => rw [scl, if_neg (fun h => by omega)]
  | succ n ih =>
    rw [scl]
    unfold un
    by_cases h1 : i = k * 5 + n
    · rw [if_pos h1, ih (by omega), if_neg (fun h => by omega), if_pos (show i / 5 = k ∧ i % 5 < n + 1 from ⟨by omega, by omega⟩), h1]
    · rw [if_neg h1, ih (by omega)]
      by_cases h3 : i / 5 = k ∧ i % 5 < n
      · rw [if_pos h3, if_pos (show i / 5 = k ∧ i % 5 < n + 1 from ⟨h3.1, by omega⟩)]
      · rw [if_neg h3, if_neg (show ¬ (i / 5 = k ∧ i % 5 < n + 1) from fun h => h3 ⟨h.1, by omega⟩)]
theorem scl_5 (R : Nat → Nat) (k d : Nat) : gSc R k d = scl R k d 5 := by
  funext i
  rw [scl_n R k d 5 (Nat.le_refl _)]
  unfold gSc
  have h5 : i % 5 < 5 := Nat.mod_lt _ (by decide)
  simp only [h5, and_true]
theorem adl_n (R : Nat → Nat) (k o t n : Nat) (hn : n ≤ 5) (hko : o ≠ k) (i : Nat) : adl R k o t n i = if i / 5 = o ∧ i % 5 < n then R i ^^^ gm t (R (k * 5 + i % 5)) else R i := by
  induction n generalizing i with
  | zero => rw [adl, if_neg (fun h => by omega)]
  | succ n ih =>
    rw [adl]
    unfold un
    by_cases h1 : i = o * 5 + n
    · rw [if_pos h1, ih (by omega), ih (by omega), if_neg (fun h => by omega), if_neg (fun h => by omega), if_pos (show i / 5 = o ∧ i % 5 < n + 1 from ⟨by omega, by omega⟩), h1, show (o * 5 + n) % 5 = n by omega]
    · rw [if_neg h1, ih (by omega)]
      by_cases h3 : i / 5 = o ∧ i % 5 < n
      · rw [if_pos h3, if_pos (show i / 5 = o ∧ i % 5 < n + 1 from ⟨h3.1, by omega⟩)]
      · rw [if_neg h3, if_neg (show ¬ (i / 5 = o ∧ i % 5 < n + 1) from fun h => h3 ⟨h.1, by omega⟩)]
theorem adl_5 (R : Nat → Nat) (k o t : Nat) (hko : o ≠ k) : gAd R k o t = adl R k o t 5 := by
  funext i
  rw [adl_n R k o t 5 (Nat.le_refl _) hko]
  unfold gAd
  have h5 : i % 5 < 5 := Nat.mod_lt _ (by decide)
  simp only [h5, and_true]
theorem scl_16 {R : Nat → Nat} {k d : Nat} (h : R16 R) (n : Nat) : R16 (scl R k d n) := by
  induction n with
  | zero => exact h
  | succ n ih => exact un_16 ih gq_lt
theorem adl_16 {R : Nat → Nat} {k o t : Nat} (h : R16 R) (n : Nat) : R16 (adl R k o t n) := by
  induction n with
  | zero => exact h
  | succ n ih => exact un_16 ih (xor_lt16 (ih _) gm_lt)
/-- what solving finds -/
noncomputable def slv (b : Nat) (x : Int64) : Option Int64 := @dite _ (∃ y, Slv b x y) (Classical.propDecidable _) (fun h => some (Classical.choose h)) (fun _ => none)
theorem slv_s {b : Nat} {x y : Int64} (hb : pcn b 15 ≤ 4) (h : Slv b x y) : slv b x = some y := by
  unfold slv
  rw [dif_pos ⟨y, h⟩]
  congr 1
  exact slv_one hb (Classical.choose_spec (⟨y, h⟩ : ∃ y, Slv b x y)) h
theorem slv_n {b : Nat} {x : Int64} (h : ∀ y, ¬ Slv b x y) : slv b x = none := by
  unfold slv
  rw [dif_neg (fun z => z.elim (fun y hy => h y hy))]
theorem slv_is {b : Nat} {x y : Int64} (h : slv b x = some y) : Slv b x y := by
  unfold slv at h
  split at h
  next g => cases h; exact Classical.choose_spec g
  · cases h
def sB : Option Int64 → Nat
  | some _ => 1
  | none => 0
def mdA (M : Nat → Int32) : Option Int64 → Nat → Int32
  | some y => wA y
  | none => M

def KX9_over_0_0 : List (Nat × Instr × Nat) := [(0, .iconst 0, 1), (1, .istore_n 3, 1)]
theorem KX9_over_0_0_d : ∀ z ∈ KX9_over_0_0, decode cX9_over z.1 = .ok z.2 := by decide +kernel
def KX9_over_2_1 : List (Nat × Instr × Nat) := [(2, .aload_n 0, 1), (3, .iload_n 3, 1), (4, .iload_n 2, 1)]
theorem KX9_over_2_1_d : ∀ z ∈ KX9_over_2_1, decode cX9_over z.1 = .ok z.2 := by decide +kernel
def KX9_over_8_2 : List (Nat × Instr × Nat) := [(8, .iload_n 1, 1)]
theorem KX9_over_8_2_d : ∀ z ∈ KX9_over_8_2, decode cX9_over z.1 = .ok z.2 := by decide +kernel
def KX9_over_18_3 : List (Nat × Instr × Nat) := [(18, .iload_n 3, 1)]
theorem KX9_over_18_3_d : ∀ z ∈ KX9_over_18_3, decode cX9_over z.1 = .ok z.2 := by decide +kernel
def KX9_over_12_4 : List (Nat × Instr × Nat) := [(12, .iinc 3 1, 3), (15, .goto (-13), 3)]
theorem KX9_over_12_4_d : ∀ z ∈ KX9_over_12_4, decode cX9_over z.1 = .ok z.2 := by decide +kernel
set_option maxHeartbeats 4000000 in
set_option maxRecDepth 100000 in
theorem c_X9_over (l : Launch) (D : va_G) (g : Nat → ClassId) (ad : Nat → Nat) (I : Nat → Nat → Int32) (L : Nat → Nat → Int64) (S : Nat → Nat) (Z : Nat → Nat → Int32) (Y : Int64) (a : Nat) (d : Nat) (ha : a < 16) (hd : d < 16) (h0 : d ≠ 0) : CT l yX9_over cX9_over 4 ((Option.some FieldType.int)) ({ frames := 1, cells := 0, slots := 0, locals := 22 } : Room) [.ref (ad 0), .int (nI a), .int (nI d)] D CL (TYS g) ([]) (WM ad g I L S Z Y) (S := Unit) (fun _ => some (.int (nI (gq a d)))) (fun _ => WM ad g I L S Z Y) (fun _ => True) 0 0 := by
  refine ct_of (by decide +kernel) (Nat.le_of_ble_eq_true rfl) ?_
  intro p e s m below meth c A X hr hnm hSB hRO hAf
  refine g_cs (ws' := WM ad g I L S Z Y ++ []) (lv' := [(0, .ref (ad 0)), (1, .int (nI a)), (2, .int (nI d))]) (List.append_nil _) rfl ?_
  refine g_run X KX9_over_0_0 KX9_over_0_0_d 2 [(3, .int (nI 0)), (0, .ref (ad 0)), (1, .int (nI a)), (2, .int (nI d))] [] rfl ?_
  refine g_lv (lv' := [(0, .ref (ad 0)), (1, .int (nI a)), (2, .int (nI d)), (3, .int (nI 0))]) (lsub_c 1 rfl (lsub_c 2 rfl (lsub_c 3 rfl (lsub_c 0 rfl (lsub_n))))) ?_
  refine g_for (gq a d) (fun _ => WM ad g I L S Z Y ++ []) (fun i => [(0, .ref (ad 0)), (1, .int (nI a)), (2, .int (nI d)), (3, .int (nI i))]) (rfl) (rfl) ?_ ?_
  · refine g_run X KX9_over_2_1 KX9_over_2_1_d 5 [(0, .ref (ad 0)), (1, .int (nI a)), (2, .int (nI d)), (3, .int (nI (gq a d)))] [.int (nI d), .int (nI (gq a d)), .ref (ad 0)] rfl ?_
    refine g_callV X hSB hAf (srcW) (hrc1 := (rfl : CL[8]? = some _)) (wm_mem (k := 0) (by decide)) rfl (As := [.int (nI (gq a d)), .int (nI d)]) (wr := []) (n := 2) (c_X9_by l D g ad I L S Z Y (gq a d) d (by first | exact gq_lt | (have := @gq_lt a d; omega)) (hd)) rfl srcN hrdN w_1300 w_1297 w_1299 w_s19 w_6 (by decide +kernel) rfl ⟨Nat.le_of_ble_eq_true rfl, Nat.le_of_ble_eq_true rfl⟩ rfl rfl rfl (Nat.le_of_ble_eq_true rfl) ⟨Nat.le_of_ble_eq_true rfl, Nat.le_of_ble_eq_true rfl⟩ dX9_over_5 (fun hu1 _ => ?_)
    refine g_af (ws' := WM ad g I L S Z Y ++ []) (st' := [.int (nI (gm (gq a d) d))]) (cells' := 0) (slots' := 0) (pc' := 8) rfl rfl rfl rfl rfl ?_
    refine g_run X KX9_over_8_2 KX9_over_8_2_d 9 [(0, .ref (ad 0)), (1, .int (nI a)), (2, .int (nI d)), (3, .int (nI (gq a d)))] [.int (nI a), .int (nI (gm (gq a d) d))] rfl ?_
    refine g_icmp_eq X 18 dX9_over_9 (by decide) (fun hc2 => ?_) (fun hc2 => ?_)
    · refine g_run X KX9_over_18_3 KX9_over_18_3_d 19 [(0, .ref (ad 0)), (1, .int (nI a)), (2, .int (nI d)), (3, .int (nI (gq a d)))] [.int (nI (gq a d))] rfl ?_
      exact g_iret X hr () (rfl) (trivial) (rfl) (Nat.le_of_ble_eq_true rfl) (Nat.le_of_ble_eq_true rfl) dX9_over_19
    · rw [nI_eq (by have := @gm_lt (gq a d) d; omega) (by omega)] at hc2; exact (hc2 (gf7 a ha d hd h0).2).elim
  · intro i hi k2
    refine g_run X KX9_over_2_1 KX9_over_2_1_d 5 [(0, .ref (ad 0)), (1, .int (nI a)), (2, .int (nI d)), (3, .int (nI i))] [.int (nI d), .int (nI i), .ref (ad 0)] rfl ?_
    refine g_callV X hSB hAf (srcW) (hrc1 := (rfl : CL[8]? = some _)) (wm_mem (k := 0) (by decide)) rfl (As := [.int (nI i), .int (nI d)]) (wr := []) (n := 2) (c_X9_by l D g ad I L S Z Y i d (by first | exact gq_lt | (have := @gq_lt a d; omega)) (hd)) rfl srcN hrdN w_1300 w_1297 w_1299 w_s19 w_6 (by decide +kernel) rfl ⟨Nat.le_of_ble_eq_true rfl, Nat.le_of_ble_eq_true rfl⟩ rfl rfl rfl (Nat.le_of_ble_eq_true rfl) ⟨Nat.le_of_ble_eq_true rfl, Nat.le_of_ble_eq_true rfl⟩ dX9_over_5 (fun hu3 _ => ?_)
    refine g_af (ws' := WM ad g I L S Z Y ++ []) (st' := [.int (nI (gm i d))]) (cells' := 0) (slots' := 0) (pc' := 8) rfl rfl rfl rfl rfl ?_
    refine g_run X KX9_over_8_2 KX9_over_8_2_d 9 [(0, .ref (ad 0)), (1, .int (nI a)), (2, .int (nI d)), (3, .int (nI i))] [.int (nI a), .int (nI (gm i d))] rfl ?_
    refine g_icmp_eq X 18 dX9_over_9 (by decide) (fun hc4 => ?_) (fun hc4 => ?_)
    · rw [nI_eq (by have := @gm_lt i d; omega) (by omega)] at hc4; have hq := (gf7 i (by have := @gq_lt a d; omega) d hd h0).1; rw [hc4] at hq; omega
    · refine g_run X KX9_over_12_4 KX9_over_12_4_d 2 [(3, .int ((nI i) + (nI 1))), (0, .ref (ad 0)), (1, .int (nI a)), (2, .int (nI d))] [] rfl ?_
      refine g_nm (lv' := [(3, .int (nI (i + 1))), (0, .ref (ad 0)), (1, .int (nI a)), (2, .int (nI d))]) (st' := []) (by simp only [nI_add]) (by simp only [nI_add]) ?_
      refine g_lv (lv' := [(0, .ref (ad 0)), (1, .int (nI a)), (2, .int (nI d)), (3, .int (nI (i + 1)))]) (lsub_c 1 rfl (lsub_c 2 rfl (lsub_c 3 rfl (lsub_c 0 rfl (lsub_n))))) ?_
      refine g_cs (ws' := WM ad g I L S Z Y ++ []) (lv' := [(0, .ref (ad 0)), (1, .int (nI a)), (2, .int (nI d)), (3, .int (nI (i + 1)))]) (rfl) (rfl) ?_
      exact k2

def KX9_solve_0_0 : List (Nat × Instr × Nat) := [(0, .iconst 0, 1), (1, .istore_n 3, 1), (2, .iconst 0, 1), (3, .istore 4, 2)]
theorem KX9_solve_0_0_d : ∀ z ∈ KX9_solve_0_0, decode cX9_solve z.1 = .ok z.2 := by decide +kernel
def KX9_solve_5_1 : List (Nat × Instr × Nat) := [(5, .iload 4, 2), (7, .bipush 15, 2)]
theorem KX9_solve_5_1_d : ∀ z ∈ KX9_solve_5_1, decode cX9_solve z.1 = .ok z.2 := by decide +kernel
def KX9_solve_38_2 : List (Nat × Instr × Nat) := [(38, .iconst 5, 1), (39, .istore 4, 2)]
theorem KX9_solve_38_2_d : ∀ z ∈ KX9_solve_38_2, decode cX9_solve z.1 = .ok z.2 := by decide +kernel
def KX9_solve_41_3 : List (Nat × Instr × Nat) := [(41, .iconst 0, 1), (42, .istore 5, 2)]
theorem KX9_solve_41_3_d : ∀ z ∈ KX9_solve_41_3, decode cX9_solve z.1 = .ok z.2 := by decide +kernel
def KX9_solve_44_4 : List (Nat × Instr × Nat) := [(44, .iload 5, 2), (46, .iconst 4, 1)]
theorem KX9_solve_44_4_d : ∀ z ∈ KX9_solve_44_4, decode cX9_solve z.1 = .ok z.2 := by decide +kernel
def KX9_solve_121_5 : List (Nat × Instr × Nat) := [(121, .iconst 0, 1), (122, .istore 5, 2)]
theorem KX9_solve_121_5_d : ∀ z ∈ KX9_solve_121_5, decode cX9_solve z.1 = .ok z.2 := by decide +kernel
def KX9_solve_124_6 : List (Nat × Instr × Nat) := [(124, .iload 5, 2), (126, .iload_n 3, 1)]
theorem KX9_solve_124_6_d : ∀ z ∈ KX9_solve_124_6, decode cX9_solve z.1 = .ok z.2 := by decide +kernel
def KX9_solve_393_7 : List (Nat × Instr × Nat) := [(393, .iload_n 3, 1), (394, .istore 5, 2)]
theorem KX9_solve_393_7_d : ∀ z ∈ KX9_solve_393_7, decode cX9_solve z.1 = .ok z.2 := by decide +kernel
def KX9_solve_396_8 : List (Nat × Instr × Nat) := [(396, .iload 5, 2), (398, .iconst 4, 1)]
theorem KX9_solve_396_8_d : ∀ z ∈ KX9_solve_396_8, decode cX9_solve z.1 = .ok z.2 := by decide +kernel
def KX9_solve_425_9 : List (Nat × Instr × Nat) := [(425, .aload_n 1, 1), (426, .iconst 0, 1), (427, .aload_n 0, 1)]
theorem KX9_solve_425_9_d : ∀ z ∈ KX9_solve_425_9, decode cX9_solve z.1 = .ok z.2 := by decide +kernel
def KX9_solve_431_10 : List (Nat × Instr × Nat) := [(431, .iconst 0, 1), (432, .bipush 15, 2)]
theorem KX9_solve_431_10_d : ∀ z ∈ KX9_solve_431_10, decode cX9_solve z.1 = .ok z.2 := by decide +kernel
def KX9_solve_437_11 : List (Nat × Instr × Nat) := [(437, .iconst 0, 1), (438, .istore 5, 2)]
theorem KX9_solve_437_11_d : ∀ z ∈ KX9_solve_437_11, decode cX9_solve z.1 = .ok z.2 := by decide +kernel
def KX9_solve_440_12 : List (Nat × Instr × Nat) := [(440, .iload 5, 2), (442, .iload_n 3, 1)]
theorem KX9_solve_440_12_d : ∀ z ∈ KX9_solve_440_12, decode cX9_solve z.1 = .ok z.2 := by decide +kernel
def KX9_solve_483_13 : List (Nat × Instr × Nat) := [(483, .iconst 1, 1)]
theorem KX9_solve_483_13_d : ∀ z ∈ KX9_solve_483_13, decode cX9_solve z.1 = .ok z.2 := by decide +kernel
def KX9_solve_446_14 : List (Nat × Instr × Nat) := [(446, .aload_n 0, 1)]
theorem KX9_solve_446_14_d : ∀ z ∈ KX9_solve_446_14, decode cX9_solve z.1 = .ok z.2 := by decide +kernel
def KX9_solve_450_15 : List (Nat × Instr × Nat) := [(450, .iload 5, 2)]
theorem KX9_solve_450_15_d : ∀ z ∈ KX9_solve_450_15, decode cX9_solve z.1 = .ok z.2 := by decide +kernel
def KX9_solve_453_16 : List (Nat × Instr × Nat) := [(453, .istore 6, 2), (455, .aload_n 0, 1)]
theorem KX9_solve_453_16_d : ∀ z ∈ KX9_solve_453_16, decode cX9_solve z.1 = .ok z.2 := by decide +kernel
def KX9_solve_459_17 : List (Nat × Instr × Nat) := [(459, .iload 6, 2), (461, .dup2, 1)]
theorem KX9_solve_459_17_d : ∀ z ∈ KX9_solve_459_17, decode cX9_solve z.1 = .ok z.2 := by decide +kernel
def KX9_solve_463_18 : List (Nat × Instr × Nat) := [(463, .aload_n 0, 1)]
theorem KX9_solve_463_18_d : ∀ z ∈ KX9_solve_463_18, decode cX9_solve z.1 = .ok z.2 := by decide +kernel
def KX9_solve_467_19 : List (Nat × Instr × Nat) := [(467, .iload 5, 2), (469, .iload 4, 2), (471, .imul, 1), (472, .iconst 4, 1), (473, .iadd, 1)]
theorem KX9_solve_467_19_d : ∀ z ∈ KX9_solve_467_19, decode cX9_solve z.1 = .ok z.2 := by decide +kernel
def KX9_solve_475_20 : List (Nat × Instr × Nat) := [(475, .ixor, 1)]
theorem KX9_solve_475_20_d : ∀ z ∈ KX9_solve_475_20, decode cX9_solve z.1 = .ok z.2 := by decide +kernel
def KX9_solve_477_21 : List (Nat × Instr × Nat) := [(477, .iinc 5 1, 3), (480, .goto (-40), 3)]
theorem KX9_solve_477_21_d : ∀ z ∈ KX9_solve_477_21, decode cX9_solve z.1 = .ok z.2 := by decide +kernel
def KX9_solve_402_22 : List (Nat × Instr × Nat) := [(402, .aload_n 0, 1)]
theorem KX9_solve_402_22_d : ∀ z ∈ KX9_solve_402_22, decode cX9_solve z.1 = .ok z.2 := by decide +kernel
def KX9_solve_406_23 : List (Nat × Instr × Nat) := [(406, .iload 5, 2), (408, .iload 4, 2), (410, .imul, 1), (411, .iconst 4, 1), (412, .iadd, 1)]
theorem KX9_solve_406_23_d : ∀ z ∈ KX9_solve_406_23, decode cX9_solve z.1 = .ok z.2 := by decide +kernel
def KX9_solve_419_24 : List (Nat × Instr × Nat) := [(419, .iinc 5 1, 3), (422, .goto (-26), 3)]
theorem KX9_solve_419_24_d : ∀ z ∈ KX9_solve_419_24, decode cX9_solve z.1 = .ok z.2 := by decide +kernel
def KX9_solve_417_25 : List (Nat × Instr × Nat) := [(417, .iconst 0, 1)]
theorem KX9_solve_417_25_d : ∀ z ∈ KX9_solve_417_25, decode cX9_solve z.1 = .ok z.2 := by decide +kernel
def KX9_solve_130_26 : List (Nat × Instr × Nat) := [(130, .iload 5, 2), (132, .istore 6, 2)]
theorem KX9_solve_130_26_d : ∀ z ∈ KX9_solve_130_26, decode cX9_solve z.1 = .ok z.2 := by decide +kernel
def KX9_solve_134_27 : List (Nat × Instr × Nat) := [(134, .aload_n 0, 1)]
theorem KX9_solve_134_27_d : ∀ z ∈ KX9_solve_134_27, decode cX9_solve z.1 = .ok z.2 := by decide +kernel
def KX9_solve_138_28 : List (Nat × Instr × Nat) := [(138, .iload 6, 2), (140, .iload 4, 2), (142, .imul, 1), (143, .iload 5, 2), (145, .iadd, 1)]
theorem KX9_solve_138_28_d : ∀ z ∈ KX9_solve_138_28, decode cX9_solve z.1 = .ok z.2 := by decide +kernel
def KX9_solve_156_29 : List (Nat × Instr × Nat) := [(156, .iconst 0, 1), (157, .istore 7, 2)]
theorem KX9_solve_156_29_d : ∀ z ∈ KX9_solve_156_29, decode cX9_solve z.1 = .ok z.2 := by decide +kernel
def KX9_solve_159_30 : List (Nat × Instr × Nat) := [(159, .iload 7, 2), (161, .iload 4, 2)]
theorem KX9_solve_159_30_d : ∀ z ∈ KX9_solve_159_30, decode cX9_solve z.1 = .ok z.2 := by decide +kernel
def KX9_solve_228_31 : List (Nat × Instr × Nat) := [(228, .aload_n 0, 1)]
theorem KX9_solve_228_31_d : ∀ z ∈ KX9_solve_228_31, decode cX9_solve z.1 = .ok z.2 := by decide +kernel
def KX9_solve_232_32 : List (Nat × Instr × Nat) := [(232, .iload 5, 2), (234, .iload 4, 2), (236, .imul, 1), (237, .iload 5, 2), (239, .iadd, 1)]
theorem KX9_solve_232_32_d : ∀ z ∈ KX9_solve_232_32, decode cX9_solve z.1 = .ok z.2 := by decide +kernel
def KX9_solve_241_33 : List (Nat × Instr × Nat) := [(241, .istore 7, 2), (243, .iconst 0, 1), (244, .istore 8, 2)]
theorem KX9_solve_241_33_d : ∀ z ∈ KX9_solve_241_33, decode cX9_solve z.1 = .ok z.2 := by decide +kernel
def KX9_solve_246_34 : List (Nat × Instr × Nat) := [(246, .iload 8, 2), (248, .iload 4, 2)]
theorem KX9_solve_246_34_d : ∀ z ∈ KX9_solve_246_34, decode cX9_solve z.1 = .ok z.2 := by decide +kernel
def KX9_solve_291_35 : List (Nat × Instr × Nat) := [(291, .iconst 0, 1), (292, .istore 8, 2)]
theorem KX9_solve_291_35_d : ∀ z ∈ KX9_solve_291_35, decode cX9_solve z.1 = .ok z.2 := by decide +kernel
def KX9_solve_294_36 : List (Nat × Instr × Nat) := [(294, .iload 8, 2), (296, .iconst 4, 1)]
theorem KX9_solve_294_36_d : ∀ z ∈ KX9_solve_294_36, decode cX9_solve z.1 = .ok z.2 := by decide +kernel
def KX9_solve_387_37 : List (Nat × Instr × Nat) := [(387, .iinc 5 1, 3), (390, .goto (-266), 3)]
theorem KX9_solve_387_37_d : ∀ z ∈ KX9_solve_387_37, decode cX9_solve z.1 = .ok z.2 := by decide +kernel
def KX9_solve_300_38 : List (Nat × Instr × Nat) := [(300, .aload_n 0, 1)]
theorem KX9_solve_300_38_d : ∀ z ∈ KX9_solve_300_38, decode cX9_solve z.1 = .ok z.2 := by decide +kernel
def KX9_solve_304_39 : List (Nat × Instr × Nat) := [(304, .iload 8, 2), (306, .iload 4, 2), (308, .imul, 1), (309, .iload 5, 2), (311, .iadd, 1)]
theorem KX9_solve_304_39_d : ∀ z ∈ KX9_solve_304_39, decode cX9_solve z.1 = .ok z.2 := by decide +kernel
def KX9_solve_313_40 : List (Nat × Instr × Nat) := [(313, .istore 9, 2), (315, .iload 8, 2), (317, .iload 5, 2)]
theorem KX9_solve_313_40_d : ∀ z ∈ KX9_solve_313_40, decode cX9_solve z.1 = .ok z.2 := by decide +kernel
def KX9_solve_381_41 : List (Nat × Instr × Nat) := [(381, .iinc 8 1, 3), (384, .goto (-90), 3)]
theorem KX9_solve_381_41_d : ∀ z ∈ KX9_solve_381_41, decode cX9_solve z.1 = .ok z.2 := by decide +kernel
def KX9_solve_322_42 : List (Nat × Instr × Nat) := [(322, .iload 9, 2)]
theorem KX9_solve_322_42_d : ∀ z ∈ KX9_solve_322_42, decode cX9_solve z.1 = .ok z.2 := by decide +kernel
def KX9_solve_330_43 : List (Nat × Instr × Nat) := [(330, .iconst 0, 1), (331, .istore 10, 2)]
theorem KX9_solve_330_43_d : ∀ z ∈ KX9_solve_330_43, decode cX9_solve z.1 = .ok z.2 := by decide +kernel
def KX9_solve_333_44 : List (Nat × Instr × Nat) := [(333, .iload 10, 2), (335, .iload 4, 2)]
theorem KX9_solve_333_44_d : ∀ z ∈ KX9_solve_333_44, decode cX9_solve z.1 = .ok z.2 := by decide +kernel
def KX9_solve_340_45 : List (Nat × Instr × Nat) := [(340, .aload_n 0, 1)]
theorem KX9_solve_340_45_d : ∀ z ∈ KX9_solve_340_45, decode cX9_solve z.1 = .ok z.2 := by decide +kernel
def KX9_solve_344_46 : List (Nat × Instr × Nat) := [(344, .iload 8, 2), (346, .iload 4, 2), (348, .imul, 1), (349, .iload 10, 2), (351, .iadd, 1), (352, .dup2, 1)]
theorem KX9_solve_344_46_d : ∀ z ∈ KX9_solve_344_46, decode cX9_solve z.1 = .ok z.2 := by decide +kernel
def KX9_solve_354_47 : List (Nat × Instr × Nat) := [(354, .aload_n 0, 1), (355, .iload 9, 2), (357, .aload_n 0, 1)]
theorem KX9_solve_354_47_d : ∀ z ∈ KX9_solve_354_47, decode cX9_solve z.1 = .ok z.2 := by decide +kernel
def KX9_solve_361_48 : List (Nat × Instr × Nat) := [(361, .iload 5, 2), (363, .iload 4, 2), (365, .imul, 1), (366, .iload 10, 2), (368, .iadd, 1)]
theorem KX9_solve_361_48_d : ∀ z ∈ KX9_solve_361_48, decode cX9_solve z.1 = .ok z.2 := by decide +kernel
def KX9_solve_373_49 : List (Nat × Instr × Nat) := [(373, .ixor, 1)]
theorem KX9_solve_373_49_d : ∀ z ∈ KX9_solve_373_49, decode cX9_solve z.1 = .ok z.2 := by decide +kernel
def KX9_solve_375_50 : List (Nat × Instr × Nat) := [(375, .iinc 10 1, 3), (378, .goto (-45), 3)]
theorem KX9_solve_375_50_d : ∀ z ∈ KX9_solve_375_50, decode cX9_solve z.1 = .ok z.2 := by decide +kernel
def KX9_solve_327_51 : List (Nat × Instr × Nat) := [(327, .goto 54, 3), (381, .iinc 8 1, 3), (384, .goto (-90), 3)]
theorem KX9_solve_327_51_d : ∀ z ∈ KX9_solve_327_51, decode cX9_solve z.1 = .ok z.2 := by decide +kernel
def KX9_solve_253_52 : List (Nat × Instr × Nat) := [(253, .aload_n 0, 1)]
theorem KX9_solve_253_52_d : ∀ z ∈ KX9_solve_253_52, decode cX9_solve z.1 = .ok z.2 := by decide +kernel
def KX9_solve_257_53 : List (Nat × Instr × Nat) := [(257, .iload 5, 2), (259, .iload 4, 2), (261, .imul, 1), (262, .iload 8, 2), (264, .iadd, 1), (265, .aload_n 0, 1), (266, .aload_n 0, 1)]
theorem KX9_solve_257_53_d : ∀ z ∈ KX9_solve_257_53, decode cX9_solve z.1 = .ok z.2 := by decide +kernel
def KX9_solve_270_54 : List (Nat × Instr × Nat) := [(270, .iload 5, 2), (272, .iload 4, 2), (274, .imul, 1), (275, .iload 8, 2), (277, .iadd, 1)]
theorem KX9_solve_270_54_d : ∀ z ∈ KX9_solve_270_54, decode cX9_solve z.1 = .ok z.2 := by decide +kernel
def KX9_solve_279_55 : List (Nat × Instr × Nat) := [(279, .iload 7, 2)]
theorem KX9_solve_279_55_d : ∀ z ∈ KX9_solve_279_55, decode cX9_solve z.1 = .ok z.2 := by decide +kernel
def KX9_solve_285_56 : List (Nat × Instr × Nat) := [(285, .iinc 8 1, 3), (288, .goto (-42), 3)]
theorem KX9_solve_285_56_d : ∀ z ∈ KX9_solve_285_56, decode cX9_solve z.1 = .ok z.2 := by decide +kernel
def KX9_solve_166_57 : List (Nat × Instr × Nat) := [(166, .aload_n 0, 1)]
theorem KX9_solve_166_57_d : ∀ z ∈ KX9_solve_166_57, decode cX9_solve z.1 = .ok z.2 := by decide +kernel
def KX9_solve_170_58 : List (Nat × Instr × Nat) := [(170, .iload 6, 2), (172, .iload 4, 2), (174, .imul, 1), (175, .iload 7, 2), (177, .iadd, 1)]
theorem KX9_solve_170_58_d : ∀ z ∈ KX9_solve_170_58, decode cX9_solve z.1 = .ok z.2 := by decide +kernel
def KX9_solve_179_59 : List (Nat × Instr × Nat) := [(179, .istore 8, 2), (181, .aload_n 0, 1)]
theorem KX9_solve_179_59_d : ∀ z ∈ KX9_solve_179_59, decode cX9_solve z.1 = .ok z.2 := by decide +kernel
def KX9_solve_185_60 : List (Nat × Instr × Nat) := [(185, .iload 6, 2), (187, .iload 4, 2), (189, .imul, 1), (190, .iload 7, 2), (192, .iadd, 1), (193, .aload_n 0, 1)]
theorem KX9_solve_185_60_d : ∀ z ∈ KX9_solve_185_60, decode cX9_solve z.1 = .ok z.2 := by decide +kernel
def KX9_solve_197_61 : List (Nat × Instr × Nat) := [(197, .iload 5, 2), (199, .iload 4, 2), (201, .imul, 1), (202, .iload 7, 2), (204, .iadd, 1)]
theorem KX9_solve_197_61_d : ∀ z ∈ KX9_solve_197_61, decode cX9_solve z.1 = .ok z.2 := by decide +kernel
def KX9_solve_207_62 : List (Nat × Instr × Nat) := [(207, .aload_n 0, 1)]
theorem KX9_solve_207_62_d : ∀ z ∈ KX9_solve_207_62, decode cX9_solve z.1 = .ok z.2 := by decide +kernel
def KX9_solve_211_63 : List (Nat × Instr × Nat) := [(211, .iload 5, 2), (213, .iload 4, 2), (215, .imul, 1), (216, .iload 7, 2), (218, .iadd, 1), (219, .iload 8, 2)]
theorem KX9_solve_211_63_d : ∀ z ∈ KX9_solve_211_63, decode cX9_solve z.1 = .ok z.2 := by decide +kernel
def KX9_solve_222_64 : List (Nat × Instr × Nat) := [(222, .iinc 7 1, 3), (225, .goto (-66), 3)]
theorem KX9_solve_222_64_d : ∀ z ∈ KX9_solve_222_64, decode cX9_solve z.1 = .ok z.2 := by decide +kernel
def KX9_solve_150_65 : List (Nat × Instr × Nat) := [(150, .iinc 6 1, 3), (153, .goto (-19), 3)]
theorem KX9_solve_150_65_d : ∀ z ∈ KX9_solve_150_65, decode cX9_solve z.1 = .ok z.2 := by decide +kernel
def KX9_solve_50_66 : List (Nat × Instr × Nat) := [(50, .iconst 0, 1), (51, .istore 6, 2)]
theorem KX9_solve_50_66_d : ∀ z ∈ KX9_solve_50_66, decode cX9_solve z.1 = .ok z.2 := by decide +kernel
def KX9_solve_53_67 : List (Nat × Instr × Nat) := [(53, .iload 6, 2), (55, .iload_n 3, 1)]
theorem KX9_solve_53_67_d : ∀ z ∈ KX9_solve_53_67, decode cX9_solve z.1 = .ok z.2 := by decide +kernel
def KX9_solve_94_68 : List (Nat × Instr × Nat) := [(94, .aload_n 0, 1)]
theorem KX9_solve_94_68_d : ∀ z ∈ KX9_solve_94_68, decode cX9_solve z.1 = .ok z.2 := by decide +kernel
def KX9_solve_98_69 : List (Nat × Instr × Nat) := [(98, .iload 5, 2), (100, .iload 4, 2), (102, .imul, 1), (103, .iconst 4, 1), (104, .iadd, 1), (105, .aload_n 0, 1), (106, .aload_n 1, 1), (107, .iload 5, 2), (109, .iconst 1, 1), (110, .iadd, 1)]
theorem KX9_solve_98_69_d : ∀ z ∈ KX9_solve_98_69, decode cX9_solve z.1 = .ok z.2 := by decide +kernel
def KX9_solve_115_70 : List (Nat × Instr × Nat) := [(115, .iinc 5 1, 3), (118, .goto (-74), 3)]
theorem KX9_solve_115_70_d : ∀ z ∈ KX9_solve_115_70, decode cX9_solve z.1 = .ok z.2 := by decide +kernel
def KX9_solve_59_71 : List (Nat × Instr × Nat) := [(59, .aload_n 0, 1)]
theorem KX9_solve_59_71_d : ∀ z ∈ KX9_solve_59_71, decode cX9_solve z.1 = .ok z.2 := by decide +kernel
def KX9_solve_63_72 : List (Nat × Instr × Nat) := [(63, .iload 5, 2), (65, .iload 4, 2), (67, .imul, 1), (68, .iload 6, 2), (70, .iadd, 1), (71, .aload_n 0, 1), (72, .aload_n 0, 1)]
theorem KX9_solve_63_72_d : ∀ z ∈ KX9_solve_63_72, decode cX9_solve z.1 = .ok z.2 := by decide +kernel
def KX9_solve_76_73 : List (Nat × Instr × Nat) := [(76, .iload 6, 2)]
theorem KX9_solve_76_73_d : ∀ z ∈ KX9_solve_76_73, decode cX9_solve z.1 = .ok z.2 := by decide +kernel
def KX9_solve_79_74 : List (Nat × Instr × Nat) := [(79, .iload 5, 2), (81, .iconst 1, 1), (82, .iadd, 1), (83, .imul, 1)]
theorem KX9_solve_79_74_d : ∀ z ∈ KX9_solve_79_74, decode cX9_solve z.1 = .ok z.2 := by decide +kernel
def KX9_solve_88_75 : List (Nat × Instr × Nat) := [(88, .iinc 6 1, 3), (91, .goto (-38), 3)]
theorem KX9_solve_88_75_d : ∀ z ∈ KX9_solve_88_75, decode cX9_solve z.1 = .ok z.2 := by decide +kernel
def KX9_solve_12_76 : List (Nat × Instr × Nat) := [(12, .iload_n 2, 1), (13, .iload 4, 2)]
theorem KX9_solve_12_76_d : ∀ z ∈ KX9_solve_12_76, decode cX9_solve z.1 = .ok z.2 := by decide +kernel
def KX9_solve_32_77 : List (Nat × Instr × Nat) := [(32, .iinc 4 1, 3), (35, .goto (-30), 3)]
theorem KX9_solve_32_77_d : ∀ z ∈ KX9_solve_32_77, decode cX9_solve z.1 = .ok z.2 := by decide +kernel
def KX9_solve_21_78 : List (Nat × Instr × Nat) := [(21, .aload_n 0, 1)]
theorem KX9_solve_21_78_d : ∀ z ∈ KX9_solve_21_78, decode cX9_solve z.1 = .ok z.2 := by decide +kernel
def KX9_solve_25_79 : List (Nat × Instr × Nat) := [(25, .iload_n 3, 1), (26, .iload 4, 2)]
theorem KX9_solve_25_79_d : ∀ z ∈ KX9_solve_25_79, decode cX9_solve z.1 = .ok z.2 := by decide +kernel
def KX9_solve_29_80 : List (Nat × Instr × Nat) := [(29, .iinc 3 1, 3), (32, .iinc 4 1, 3), (35, .goto (-30), 3)]
theorem KX9_solve_29_80_d : ∀ z ∈ KX9_solve_29_80, decode cX9_solve z.1 = .ok z.2 := by decide +kernel
set_option maxHeartbeats 4000000 in
set_option maxRecDepth 100000 in
theorem c_X9_solve (l : Launch) (D : va_G) (g : Nat → ClassId) (ad : Nat → Nat) (I : Nat → Nat → Int32) (L : Nat → Nat → Int64) (S : Nat → Nat) (Z : Nat → Nat → Int32) (Y : Int64) (wa : Nat) (x : Int64) (b : Nat) (R : Nat → Nat) (hR : R16 R) (hZ : Z 0 = fun j => nI (R j)) (hb15 : b < 2 ^ 15) (hb : pcn b 15 ≤ 4) : CT l yX9_solve cX9_solve 11 ((Option.some FieldType.boolean)) ({ frames := 2, cells := 0, slots := 0, locals := 46 } : Room) [.ref (ad 0), .ref wa, .int (nI b)] D CL (TYS g) ([(wa, Sum.inl (g 0, 15, .inl (wA x)))]) (WM ad g I L S Z Y) (S := (Nat → Nat) × (Nat → Int32)) (fun _ => some (.int (nI (sB (slv b x))))) (fun u => WM ad g I L S (z4 Z u.1 u.2 (mdA (Z 2) (slv b x))) Y) (fun u => R16 u.1) 0 0 := by
  refine ct_of (by decide +kernel) (Nat.le_of_ble_eq_true rfl) ?_
  intro p e s m below meth c A X hr hnm hSB hRO hAf
  refine g_cs (ws' := WM ad g I L S (z4 Z R (Z 1) (Z 2)) Y ++ []) (lv' := [(0, .ref (ad 0)), (1, .ref wa), (2, .int (nI b))]) (by rw [z4_e hZ]; exact List.append_nil _) rfl ?_
  refine g_run X KX9_solve_0_0 KX9_solve_0_0_d 5 [(4, .int (nI 0)), (3, .int (nI 0)), (0, .ref (ad 0)), (1, .ref wa), (2, .int (nI b))] [] rfl ?_
  refine g_lv (lv' := [(0, .ref (ad 0)), (1, .ref wa), (2, .int (nI b)), (3, .int (nI 0)), (4, .int (nI 0))]) (lsub_c 2 rfl (lsub_c 3 rfl (lsub_c 4 rfl (lsub_c 1 rfl (lsub_c 0 rfl (lsub_n)))))) ?_
  refine g_for 15 (fun i => WM ad g I L S (z4 Z R (wrf b (Z 1) i) (Z 2)) Y ++ []) (fun i => [(0, .ref (ad 0)), (1, .ref wa), (2, .int (nI b)), (3, .int (nI (pcn b i))), (4, .int (nI i))]) (by rw [wrf]) (rfl) ?_ ?_
  · refine g_run X KX9_solve_5_1 KX9_solve_5_1_d 9 [(0, .ref (ad 0)), (1, .ref wa), (2, .int (nI b)), (3, .int (nI (pcn b 15))), (4, .int (nI 15))] [.int (nI 15), .int (nI 15)] rfl ?_
    refine g_icmp_ge X 38 dX9_solve_9 (by decide) (fun hc1 => ?_) (fun hc1 => ?_)
    · refine g_run X KX9_solve_38_2 KX9_solve_38_2_d 41 [(4, .int (nI 5)), (0, .ref (ad 0)), (1, .ref wa), (2, .int (nI b)), (3, .int (nI (pcn b 15)))] [] rfl ?_
      have hW : ∀ k, k < pcn b 15 → wrf b (Z 1) 15 k = nI (pkf b k 15) := fun k hk => wrf_at 15 hk
      have hO : R16 (gO b x R 4) := gO_16 hR 4
      have hok := gG_ok hO hb (gO_ind (x := x) hR hb)
      refine g_run X KX9_solve_41_3 KX9_solve_41_3_d 44 [(5, .int (nI 0)), (4, .int (nI 5)), (0, .ref (ad 0)), (1, .ref wa), (2, .int (nI b)), (3, .int (nI (pcn b 15)))] [] rfl ?_
      refine g_lv (lv' := [(0, .ref (ad 0)), (1, .ref wa), (2, .int (nI b)), (3, .int (nI (pcn b 15))), (4, .int (nI 5)), (5, .int (nI 0))]) (lsub_c 2 rfl (lsub_c 3 rfl (lsub_c 4 rfl (lsub_c 5 rfl (lsub_c 1 rfl (lsub_c 0 rfl (lsub_n))))))) ?_
      refine g_for 4 (fun j => WM ad g I L S (z4 Z (gO b x R j) (wrf b (Z 1) 15) (Z 2)) Y ++ []) (fun j => [(0, .ref (ad 0)), (1, .ref wa), (2, .int (nI b)), (3, .int (nI (pcn b 15))), (4, .int (nI 5)), (5, .int (nI j))]) (by rw [gO]) (rfl) ?_ ?_
      · refine g_run X KX9_solve_44_4 KX9_solve_44_4_d 47 [(0, .ref (ad 0)), (1, .ref wa), (2, .int (nI b)), (3, .int (nI (pcn b 15))), (4, .int (nI 5)), (5, .int (nI 4))] [.int (nI 4), .int (nI 4)] rfl ?_
        refine g_icmp_ge X 121 dX9_solve_47 (by decide) (fun hc2 => ?_) (fun hc2 => ?_)
        · refine g_run X KX9_solve_121_5 KX9_solve_121_5_d 124 [(5, .int (nI 0)), (0, .ref (ad 0)), (1, .ref wa), (2, .int (nI b)), (3, .int (nI (pcn b 15))), (4, .int (nI 5))] [] rfl ?_
          refine g_lv (lv' := [(0, .ref (ad 0)), (1, .ref wa), (2, .int (nI b)), (3, .int (nI (pcn b 15))), (4, .int (nI 5)), (5, .int (nI 0))]) (lsub_c 1 rfl (lsub_c 2 rfl (lsub_c 3 rfl (lsub_c 4 rfl (lsub_c 5 rfl (lsub_c 0 rfl (lsub_n))))))) ?_
          refine g_for (pcn b 15) (fun k => WM ad g I L S (z4 Z (gG (gO b x R 4) k) (wrf b (Z 1) 15) (Z 2)) Y ++ []) (fun k => [(0, .ref (ad 0)), (1, .ref wa), (2, .int (nI b)), (3, .int (nI (pcn b 15))), (4, .int (nI 5)), (5, .int (nI k))]) (by rw [gG]) (rfl) ?_ ?_
          · refine g_run X KX9_solve_124_6 KX9_solve_124_6_d 127 [(0, .ref (ad 0)), (1, .ref wa), (2, .int (nI b)), (3, .int (nI (pcn b 15))), (4, .int (nI 5)), (5, .int (nI (pcn b 15)))] [.int (nI (pcn b 15)), .int (nI (pcn b 15))] rfl ?_
            refine g_icmp_ge X 393 dX9_solve_127 (by decide) (fun hc3 => ?_) (fun hc3 => ?_)
            · refine g_ws (ws' := WM ad g I L S (z4 Z (gF b x R) (wrf b (Z 1) 15) (Z 2)) Y ++ []) (rfl) ?_
              refine g_run X KX9_solve_393_7 KX9_solve_393_7_d 396 [(5, .int (nI (pcn b 15))), (0, .ref (ad 0)), (1, .ref wa), (2, .int (nI b)), (3, .int (nI (pcn b 15))), (4, .int (nI 5))] [] rfl ?_
              refine g_lv (lv' := [(0, .ref (ad 0)), (1, .ref wa), (2, .int (nI b)), (3, .int (nI (pcn b 15))), (4, .int (nI 5)), (5, .int (nI (pcn b 15)))]) (lsub_c 1 rfl (lsub_c 2 rfl (lsub_c 3 rfl (lsub_c 4 rfl (lsub_c 5 rfl (lsub_c 0 rfl (lsub_n))))))) ?_
              refine g_forP (4 - pcn b 15) (fun _ => WM ad g I L S (z4 Z (gF b x R) (wrf b (Z 1) 15) (Z 2)) Y ++ []) (fun i => [(0, .ref (ad 0)), (1, .ref wa), (2, .int (nI b)), (3, .int (nI (pcn b 15))), (4, .int (nI 5)), (5, .int (nI (pcn b 15 + i)))]) (fun i => ∀ j, pcn b 15 ≤ j → j < pcn b 15 + i → gF b x R (j * 5 + 4) = 0) (fun j h1 h2 => by omega) (rfl) (rfl) ?_ ?_
              · intro hP396
                refine g_run X KX9_solve_396_8 KX9_solve_396_8_d 399 [(0, .ref (ad 0)), (1, .ref wa), (2, .int (nI b)), (3, .int (nI (pcn b 15))), (4, .int (nI 5)), (5, .int (nI (pcn b 15 + (4 - pcn b 15))))] [.int (nI 4), .int (nI (pcn b 15 + (4 - pcn b 15)))] rfl ?_
                refine g_icmp_ge X 425 dX9_solve_399 (by decide) (fun hc4 => ?_) (fun hc4 => ?_)
                · refine g_run X KX9_solve_425_9 KX9_solve_425_9_d 428 [(0, .ref (ad 0)), (1, .ref wa), (2, .int (nI b)), (3, .int (nI (pcn b 15))), (4, .int (nI 5)), (5, .int (nI (pcn b 15 + (4 - pcn b 15))))] [.ref (ad 0), .int (nI 0), .ref wa] rfl ?_
                  refine g_get X srcW (v := .ref (ad 10)) hinX9 rfl 18 (by decide) w_1198 rfl (wm_mem (k := 0) (by decide)) rfl dX9_solve_428 ?_
                  refine g_run X KX9_solve_431_10 KX9_solve_431_10_d 434 [(0, .ref (ad 0)), (1, .ref wa), (2, .int (nI b)), (3, .int (nI (pcn b 15))), (4, .int (nI 5)), (5, .int (nI (pcn b 15 + (4 - pcn b 15))))] [.int (nI 15), .int (nI 0), .ref (ad 10), .int (nI 0), .ref wa] rfl ?_
                  refine g_copyR X (ws' := WM ad g I L S (z4 Z (gF b x R) (wrf b (Z 1) 15) (wA x)) Y ++ []) (srcR hRO) 15 0 rfl (List.mem_cons_self ..) 10 (wm_get (k := 10) (by decide)) (by decide) (by decide) (by decide) (fun j hj => (if_pos hj).symm) w_1305 w_841 w_840 w_15 (wm_mk) (Nat.le_of_ble_eq_true rfl) (Nat.le_of_ble_eq_true rfl) (Nat.le_of_ble_eq_true rfl) dX9_solve_434 ?_
                  refine g_run X KX9_solve_437_11 KX9_solve_437_11_d 440 [(5, .int (nI 0)), (0, .ref (ad 0)), (1, .ref wa), (2, .int (nI b)), (3, .int (nI (pcn b 15))), (4, .int (nI 5))] [] rfl ?_
                  refine g_lv (lv' := [(0, .ref (ad 0)), (1, .ref wa), (2, .int (nI b)), (3, .int (nI (pcn b 15))), (4, .int (nI 5)), (5, .int (nI 0))]) (lsub_c 1 rfl (lsub_c 2 rfl (lsub_c 3 rfl (lsub_c 4 rfl (lsub_c 5 rfl (lsub_c 0 rfl (lsub_n))))))) ?_
                  refine g_for (pcn b 15) (fun k => WM ad g I L S (z4 Z (gF b x R) (wrf b (Z 1) 15) (wA (sv b (gF b x R) x k))) Y ++ []) (fun k => [(0, .ref (ad 0)), (1, .ref wa), (2, .int (nI b)), (3, .int (nI (pcn b 15))), (4, .int (nI 5)), (5, .int (nI k))]) (by rw [sv]) (rfl) ?_ ?_
                  · refine g_run X KX9_solve_440_12 KX9_solve_440_12_d 443 [(0, .ref (ad 0)), (1, .ref wa), (2, .int (nI b)), (3, .int (nI (pcn b 15))), (4, .int (nI 5)), (5, .int (nI (pcn b 15)))] [.int (nI (pcn b 15)), .int (nI (pcn b 15))] rfl ?_
                    refine g_icmp_ge X 483 dX9_solve_443 (by decide) (fun hc5 => ?_) (fun hc5 => ?_)
                    · refine g_run X KX9_solve_483_13 KX9_solve_483_13_d 484 [(0, .ref (ad 0)), (1, .ref wa), (2, .int (nI b)), (3, .int (nI (pcn b 15))), (4, .int (nI 5)), (5, .int (nI (pcn b 15)))] [.int (nI 1)] rfl ?_
                      have hsl : slv b x = some (sv b (gF b x R) x (pcn b 15)) := slv_s hb (sv_ok hR hb (fun j h1 h2 => hP396 j h1 (by omega)))
                      exact g_zret X hr (by decide +kernel) (gF b x R, wrf b (Z 1) 15) (by show some (Value.int _) = some (Value.int _); first | (rw [hsl]; done) | (rw [hsl]; rfl)) (gF_16 hR) (by first | (rw [hsl]; done) | (rw [hsl]; rfl)) (Nat.le_of_ble_eq_true rfl) (Nat.le_of_ble_eq_true rfl) dX9_solve_484
                    · rw [nI_leI (by omega) (by omega)] at hc5; first | omega | (simp at hc5)
                  · intro k hk k440
                    refine g_run X KX9_solve_440_12 KX9_solve_440_12_d 443 [(0, .ref (ad 0)), (1, .ref wa), (2, .int (nI b)), (3, .int (nI (pcn b 15))), (4, .int (nI 5)), (5, .int (nI k))] [.int (nI (pcn b 15)), .int (nI k)] rfl ?_
                    refine g_icmp_ge X 483 dX9_solve_443 (by decide) (fun hc6 => ?_) (fun hc6 => ?_)
                    · rw [nI_leI (by omega) (by omega)] at hc6; first | omega | (simp at hc6)
                    · refine g_run X KX9_solve_446_14 KX9_solve_446_14_d 447 [(0, .ref (ad 0)), (1, .ref wa), (2, .int (nI b)), (3, .int (nI (pcn b 15))), (4, .int (nI 5)), (5, .int (nI k))] [.ref (ad 0)] rfl ?_
                      refine g_get X srcW (v := .ref (ad 12)) hinX9 rfl 20 (by decide) w_1200 rfl (wm_mem (k := 0) (by decide)) rfl dX9_solve_447 ?_
                      refine g_run X KX9_solve_450_15 KX9_solve_450_15_d 452 [(0, .ref (ad 0)), (1, .ref wa), (2, .int (nI b)), (3, .int (nI (pcn b 15))), (4, .int (nI 5)), (5, .int (nI k))] [.int (nI k), .ref (ad 12)] rfl ?_
                      refine g_iald X srcW (v := nI (pkf b k 15)) 0 rfl (wm_mem (k := 12) (by decide)) k rfl (by omega) (by decide) (hW k (by omega)) dX9_solve_452 ?_
                      refine g_run X KX9_solve_453_16 KX9_solve_453_16_d 456 [(6, .int (nI (pkf b k 15))), (0, .ref (ad 0)), (1, .ref wa), (2, .int (nI b)), (3, .int (nI (pcn b 15))), (4, .int (nI 5)), (5, .int (nI k))] [.ref (ad 0)] rfl ?_
                      refine g_get X srcW (v := .ref (ad 10)) hinX9 rfl 18 (by decide) w_1198 rfl (wm_mem (k := 0) (by decide)) rfl dX9_solve_456 ?_
                      refine g_run X KX9_solve_459_17 KX9_solve_459_17_d 462 [(6, .int (nI (pkf b k 15))), (0, .ref (ad 0)), (1, .ref wa), (2, .int (nI b)), (3, .int (nI (pcn b 15))), (4, .int (nI 5)), (5, .int (nI k))] [.int (nI (pkf b k 15)), .ref (ad 10), .int (nI (pkf b k 15)), .ref (ad 10)] rfl ?_
                      refine g_iald X srcW (v := nI (nib (sv b (gF b x R) x k) (pkf b k 15))) 0 rfl (wm_mem (k := 10) (by decide)) (pkf b k 15) rfl ((pk_ok 15 (by omega)).1) (by decide) (rfl) dX9_solve_462 ?_
                      refine g_run X KX9_solve_463_18 KX9_solve_463_18_d 464 [(6, .int (nI (pkf b k 15))), (0, .ref (ad 0)), (1, .ref wa), (2, .int (nI b)), (3, .int (nI (pcn b 15))), (4, .int (nI 5)), (5, .int (nI k))] [.ref (ad 0), .int (nI (nib (sv b (gF b x R) x k) (pkf b k 15))), .int (nI (pkf b k 15)), .ref (ad 10)] rfl ?_
                      refine g_get X srcW (v := .ref (ad 11)) hinX9 rfl 19 (by decide) w_1199 rfl (wm_mem (k := 0) (by decide)) rfl dX9_solve_464 ?_
                      refine g_run X KX9_solve_467_19 KX9_solve_467_19_d 474 [(6, .int (nI (pkf b k 15))), (0, .ref (ad 0)), (1, .ref wa), (2, .int (nI b)), (3, .int (nI (pcn b 15))), (4, .int (nI 5)), (5, .int (nI k))] [.int (((nI k) * (nI 5)) + (nI 4)), .ref (ad 11), .int (nI (nib (sv b (gF b x R) x k) (pkf b k 15))), .int (nI (pkf b k 15)), .ref (ad 10)] rfl ?_
                      refine g_nm (lv' := [(6, .int (nI (pkf b k 15))), (0, .ref (ad 0)), (1, .ref wa), (2, .int (nI b)), (3, .int (nI (pcn b 15))), (4, .int (nI 5)), (5, .int (nI k))]) (st' := [.int (nI ((k * 5) + 4)), .ref (ad 11), .int (nI (nib (sv b (gF b x R) x k) (pkf b k 15))), .int (nI (pkf b k 15)), .ref (ad 10)]) (by simp only [nI_add, pk_mul]) (by simp only [nI_add, pk_mul]) ?_
                      refine g_iald X srcW (v := nI ((gF b x R) ((k * 5) + 4))) 0 rfl (wm_mem (k := 11) (by decide)) ((k * 5) + 4) rfl (by omega) (by decide) (rfl) dX9_solve_474 ?_
                      refine g_run X KX9_solve_475_20 KX9_solve_475_20_d 476 [(6, .int (nI (pkf b k 15))), (0, .ref (ad 0)), (1, .ref wa), (2, .int (nI b)), (3, .int (nI (pcn b 15))), (4, .int (nI 5)), (5, .int (nI k))] [.int ((nI (nib (sv b (gF b x R) x k) (pkf b k 15))) ^^^ (nI ((gF b x R) ((k * 5) + 4)))), .int (nI (pkf b k 15)), .ref (ad 10)] rfl ?_
                      refine g_nm (lv' := [(6, .int (nI (pkf b k 15))), (0, .ref (ad 0)), (1, .ref wa), (2, .int (nI b)), (3, .int (nI (pcn b 15))), (4, .int (nI 5)), (5, .int (nI k))]) (st' := [.int (nI ((nib (sv b (gF b x R) x k) (pkf b k 15)) ^^^ ((gF b x R) ((k * 5) + 4)))), .int (nI (pkf b k 15)), .ref (ad 10)]) (by simp only [nx_xor]) (by simp only [nx_xor]) ?_
                      refine g_iast X (ws' := WM ad g I L S (z4 Z (gF b x R) (wrf b (Z 1) 15) (wA (wn (sv b (gF b x R) x k) (pkf b k 15) (nib (sv b (gF b x R) x k) (pkf b k 15) ^^^ gF b x R (k * 5 + 4))))) Y ++ []) 0 rfl 10 (wm_get (k := 10) (by decide)) (pkf b k 15) rfl ((pk_ok 15 (by omega)).1) (by decide) (by rw [← wA_up (pk_ok 15 (by omega)).1 (xor_lt16 (nib_lt _ _) (gF_16 hR _))]; exact wm_mk) dX9_solve_476 ?_
                      refine g_run X KX9_solve_477_21 KX9_solve_477_21_d 440 [(5, .int ((nI k) + (nI 1))), (6, .int (nI (pkf b k 15))), (0, .ref (ad 0)), (1, .ref wa), (2, .int (nI b)), (3, .int (nI (pcn b 15))), (4, .int (nI 5))] [] rfl ?_
                      refine g_nm (lv' := [(5, .int (nI (k + 1))), (6, .int (nI (pkf b k 15))), (0, .ref (ad 0)), (1, .ref wa), (2, .int (nI b)), (3, .int (nI (pcn b 15))), (4, .int (nI 5))]) (st' := []) (by simp only [nI_add]) (by simp only [nI_add]) ?_
                      refine g_lv (lv' := [(0, .ref (ad 0)), (1, .ref wa), (2, .int (nI b)), (3, .int (nI (pcn b 15))), (4, .int (nI 5)), (5, .int (nI (k + 1)))]) (lsub_c 2 rfl (lsub_c 3 rfl (lsub_c 4 rfl (lsub_c 5 rfl (lsub_c 6 rfl (lsub_c 0 rfl (lsub_n))))))) ?_
                      refine g_cs (ws' := WM ad g I L S (z4 Z (gF b x R) (wrf b (Z 1) 15) (wA (sv b (gF b x R) x (k + 1)))) Y ++ []) (lv' := [(0, .ref (ad 0)), (1, .ref wa), (2, .int (nI b)), (3, .int (nI (pcn b 15))), (4, .int (nI 5)), (5, .int (nI (k + 1)))]) (by rw [sv]) (rfl) ?_
                      exact k440
                · rw [nI_leI (by omega) (by omega)] at hc4; first | omega | (simp at hc4)
              · intro i hi hP396 k396
                refine g_run X KX9_solve_396_8 KX9_solve_396_8_d 399 [(0, .ref (ad 0)), (1, .ref wa), (2, .int (nI b)), (3, .int (nI (pcn b 15))), (4, .int (nI 5)), (5, .int (nI (pcn b 15 + i)))] [.int (nI 4), .int (nI (pcn b 15 + i))] rfl ?_
                refine g_icmp_ge X 425 dX9_solve_399 (by decide) (fun hc7 => ?_) (fun hc7 => ?_)
                · rw [nI_leI (by omega) (by omega)] at hc7; first | omega | (simp at hc7)
                · refine g_run X KX9_solve_402_22 KX9_solve_402_22_d 403 [(0, .ref (ad 0)), (1, .ref wa), (2, .int (nI b)), (3, .int (nI (pcn b 15))), (4, .int (nI 5)), (5, .int (nI (pcn b 15 + i)))] [.ref (ad 0)] rfl ?_
                  refine g_get X srcW (v := .ref (ad 11)) hinX9 rfl 19 (by decide) w_1199 rfl (wm_mem (k := 0) (by decide)) rfl dX9_solve_403 ?_
                  refine g_run X KX9_solve_406_23 KX9_solve_406_23_d 413 [(0, .ref (ad 0)), (1, .ref wa), (2, .int (nI b)), (3, .int (nI (pcn b 15))), (4, .int (nI 5)), (5, .int (nI (pcn b 15 + i)))] [.int (((nI (pcn b 15 + i)) * (nI 5)) + (nI 4)), .ref (ad 11)] rfl ?_
                  refine g_nm (lv' := [(0, .ref (ad 0)), (1, .ref wa), (2, .int (nI b)), (3, .int (nI (pcn b 15))), (4, .int (nI 5)), (5, .int (nI (pcn b 15 + i)))]) (st' := [.int (nI (((pcn b 15 + i) * 5) + 4)), .ref (ad 11)]) (by simp only [nI_add, pk_mul]) (by simp only [nI_add, pk_mul]) ?_
                  refine g_iald X srcW (v := nI ((gF b x R) (((pcn b 15 + i) * 5) + 4))) 0 rfl (wm_mem (k := 11) (by decide)) (((pcn b 15 + i) * 5) + 4) rfl (by omega) (by decide) (rfl) dX9_solve_413 ?_
                  refine g_if_eq X 419 dX9_solve_414 (by decide) (fun hc8 => ?_) (fun hc8 => ?_)
                  · rw [nz_eq (by have := gF_16 (b := b) (x := x) hR ((pcn b 15 + i) * 5 + 4); omega)] at hc8; have hfz := hc8
                    refine g_run X KX9_solve_419_24 KX9_solve_419_24_d 396 [(5, .int ((nI (pcn b 15 + i)) + (nI 1))), (0, .ref (ad 0)), (1, .ref wa), (2, .int (nI b)), (3, .int (nI (pcn b 15))), (4, .int (nI 5))] [] rfl ?_
                    refine g_nm (lv' := [(5, .int (nI ((pcn b 15 + i) + 1))), (0, .ref (ad 0)), (1, .ref wa), (2, .int (nI b)), (3, .int (nI (pcn b 15))), (4, .int (nI 5))]) (st' := []) (by simp only [nI_add]) (by simp only [nI_add]) ?_
                    refine g_lv (lv' := [(0, .ref (ad 0)), (1, .ref wa), (2, .int (nI b)), (3, .int (nI (pcn b 15))), (4, .int (nI 5)), (5, .int (nI ((pcn b 15 + i) + 1)))]) (lsub_c 1 rfl (lsub_c 2 rfl (lsub_c 3 rfl (lsub_c 4 rfl (lsub_c 5 rfl (lsub_c 0 rfl (lsub_n))))))) ?_
                    refine g_cs (ws' := WM ad g I L S (z4 Z (gF b x R) (wrf b (Z 1) 15) (Z 2)) Y ++ []) (lv' := [(0, .ref (ad 0)), (1, .ref wa), (2, .int (nI b)), (3, .int (nI (pcn b 15))), (4, .int (nI 5)), (5, .int (nI (pcn b 15 + (i + 1))))]) (rfl) (rfl) ?_
                    exact k396 (fun j h1 h2 => by
                      by_cases e : j = pcn b 15 + i
                      · rw [e]; exact hfz
                      · exact hP396 j h1 (by omega))
                  · rw [nz_eq (by have := gF_16 (b := b) (x := x) hR ((pcn b 15 + i) * 5 + 4); omega)] at hc8; have hfn := hc8
                    refine g_run X KX9_solve_417_25 KX9_solve_417_25_d 418 [(0, .ref (ad 0)), (1, .ref wa), (2, .int (nI b)), (3, .int (nI (pcn b 15))), (4, .int (nI 5)), (5, .int (nI (pcn b 15 + i)))] [.int (nI 0)] rfl ?_
                    have hsl : slv b x = none := slv_n (fun y hy => hfn (gF_no hR hb hy.1 hy.2.2 _ (by omega) (by omega)))
                    exact g_zret X hr (by decide +kernel) (gF b x R, wrf b (Z 1) 15) (by show some (Value.int _) = some (Value.int _); first | (rw [hsl]; done) | (rw [hsl]; rfl)) (gF_16 hR) (by first | (rw [hsl]; done) | (rw [hsl]; rfl)) (Nat.le_of_ble_eq_true rfl) (Nat.le_of_ble_eq_true rfl) dX9_solve_418
            · rw [nI_leI (by omega) (by omega)] at hc3; first | omega | (simp at hc3)
          · intro k hk k124
            have hP := (hok k (by omega)).2.2 (by omega)
            have hG16 : R16 (gG (gO b x R 4) k) := gG_16 hO k
            have hpg := (pvf_ge (gG (gO b x R 4) k) k (4 - k) k).1
            have hpz := (pvf_ge (gG (gO b x R 4) k) k (4 - k) k).2.2.1
            have hpl := hP.1
            rw [← show pv (gG (gO b x R 4) k) k = pvf (gG (gO b x R 4) k) k (4 - k) k from rfl] at hpg hpz
            refine g_run X KX9_solve_124_6 KX9_solve_124_6_d 127 [(0, .ref (ad 0)), (1, .ref wa), (2, .int (nI b)), (3, .int (nI (pcn b 15))), (4, .int (nI 5)), (5, .int (nI k))] [.int (nI (pcn b 15)), .int (nI k)] rfl ?_
            refine g_icmp_ge X 393 dX9_solve_127 (by decide) (fun hc9 => ?_) (fun hc9 => ?_)
            · rw [nI_leI (by omega) (by omega)] at hc9; first | omega | (simp at hc9)
            · refine g_run X KX9_solve_130_26 KX9_solve_130_26_d 134 [(6, .int (nI k)), (0, .ref (ad 0)), (1, .ref wa), (2, .int (nI b)), (3, .int (nI (pcn b 15))), (4, .int (nI 5)), (5, .int (nI k))] [] rfl ?_
              refine g_lv (lv' := [(0, .ref (ad 0)), (1, .ref wa), (2, .int (nI b)), (3, .int (nI (pcn b 15))), (4, .int (nI 5)), (5, .int (nI k)), (6, .int (nI k))]) (lsub_c 1 rfl (lsub_c 2 rfl (lsub_c 3 rfl (lsub_c 4 rfl (lsub_c 5 rfl (lsub_c 6 rfl (lsub_c 0 rfl (lsub_n)))))))) ?_
              refine g_for (pv (gG (gO b x R 4) k) k - k) (fun _ => WM ad g I L S (z4 Z (gG (gO b x R 4) k) (wrf b (Z 1) 15) (Z 2)) Y ++ []) (fun i => [(0, .ref (ad 0)), (1, .ref wa), (2, .int (nI b)), (3, .int (nI (pcn b 15))), (4, .int (nI 5)), (5, .int (nI k)), (6, .int (nI (k + i)))]) (rfl) (rfl) ?_ ?_
              · refine g_run X KX9_solve_134_27 KX9_solve_134_27_d 135 [(0, .ref (ad 0)), (1, .ref wa), (2, .int (nI b)), (3, .int (nI (pcn b 15))), (4, .int (nI 5)), (5, .int (nI k)), (6, .int (nI (k + (pv (gG (gO b x R 4) k) k - k))))] [.ref (ad 0)] rfl ?_
                refine g_get X srcW (v := .ref (ad 11)) hinX9 rfl 19 (by decide) w_1199 rfl (wm_mem (k := 0) (by decide)) rfl dX9_solve_135 ?_
                refine g_run X KX9_solve_138_28 KX9_solve_138_28_d 146 [(0, .ref (ad 0)), (1, .ref wa), (2, .int (nI b)), (3, .int (nI (pcn b 15))), (4, .int (nI 5)), (5, .int (nI k)), (6, .int (nI (k + (pv (gG (gO b x R 4) k) k - k))))] [.int (((nI (k + (pv (gG (gO b x R 4) k) k - k))) * (nI 5)) + (nI k)), .ref (ad 11)] rfl ?_
                refine g_nm (lv' := [(0, .ref (ad 0)), (1, .ref wa), (2, .int (nI b)), (3, .int (nI (pcn b 15))), (4, .int (nI 5)), (5, .int (nI k)), (6, .int (nI (k + (pv (gG (gO b x R 4) k) k - k))))]) (st' := [.int (nI (((k + (pv (gG (gO b x R 4) k) k - k)) * 5) + k)), .ref (ad 11)]) (by simp only [nI_add, pk_mul]) (by simp only [nI_add, pk_mul]) ?_
                refine g_iald X srcW (v := nI ((gG (gO b x R 4) k) (((k + (pv (gG (gO b x R 4) k) k - k)) * 5) + k))) 0 rfl (wm_mem (k := 11) (by decide)) (((k + (pv (gG (gO b x R 4) k) k - k)) * 5) + k) rfl (by omega) (by decide) (rfl) dX9_solve_146 ?_
                refine g_if_ne X 156 dX9_solve_147 (by decide) (fun hc10 => ?_) (fun hc10 => ?_)
                · have epv : k + (pv (gG (gO b x R 4) k) k - k) = pv (gG (gO b x R 4) k) k := by omega
                  refine g_nm (lv' := [(0, .ref (ad 0)), (1, .ref wa), (2, .int (nI b)), (3, .int (nI (pcn b 15))), (4, .int (nI 5)), (5, .int (nI k)), (6, .int (nI (pv (gG (gO b x R 4) k) k)))]) (st' := []) (by rw [epv]) rfl ?_
                  refine g_run X KX9_solve_156_29 KX9_solve_156_29_d 159 [(7, .int (nI 0)), (0, .ref (ad 0)), (1, .ref wa), (2, .int (nI b)), (3, .int (nI (pcn b 15))), (4, .int (nI 5)), (5, .int (nI k)), (6, .int (nI (pv (gG (gO b x R 4) k) k)))] [] rfl ?_
                  refine g_lv (lv' := [(0, .ref (ad 0)), (1, .ref wa), (2, .int (nI b)), (3, .int (nI (pcn b 15))), (4, .int (nI 5)), (5, .int (nI k)), (6, .int (nI (pv (gG (gO b x R 4) k) k))), (7, .int (nI 0))]) (lsub_c 1 rfl (lsub_c 2 rfl (lsub_c 3 rfl (lsub_c 4 rfl (lsub_c 5 rfl (lsub_c 6 rfl (lsub_c 7 rfl (lsub_c 0 rfl (lsub_n))))))))) ?_
                  refine g_for 5 (fun p => WM ad g I L S (z4 Z (swp (gG (gO b x R 4) k) k (pv (gG (gO b x R 4) k) k) p) (wrf b (Z 1) 15) (Z 2)) Y ++ []) (fun p => [(0, .ref (ad 0)), (1, .ref wa), (2, .int (nI b)), (3, .int (nI (pcn b 15))), (4, .int (nI 5)), (5, .int (nI k)), (6, .int (nI (pv (gG (gO b x R 4) k) k))), (7, .int (nI p))]) (by rw [swp]) (rfl) ?_ ?_
                  · refine g_run X KX9_solve_159_30 KX9_solve_159_30_d 163 [(0, .ref (ad 0)), (1, .ref wa), (2, .int (nI b)), (3, .int (nI (pcn b 15))), (4, .int (nI 5)), (5, .int (nI k)), (6, .int (nI (pv (gG (gO b x R 4) k) k))), (7, .int (nI 5))] [.int (nI 5), .int (nI 5)] rfl ?_
                    refine g_icmp_ge X 228 dX9_solve_163 (by decide) (fun hc11 => ?_) (fun hc11 => ?_)
                    · refine g_ws (ws' := WM ad g I L S (z4 Z (gSw (gG (gO b x R 4) k) k (pv (gG (gO b x R 4) k) k)) (wrf b (Z 1) 15) (Z 2)) Y ++ []) (by rw [swp_5]) ?_
                      refine g_run X KX9_solve_228_31 KX9_solve_228_31_d 229 [(0, .ref (ad 0)), (1, .ref wa), (2, .int (nI b)), (3, .int (nI (pcn b 15))), (4, .int (nI 5)), (5, .int (nI k)), (6, .int (nI (pv (gG (gO b x R 4) k) k))), (7, .int (nI 5))] [.ref (ad 0)] rfl ?_
                      refine g_get X srcW (v := .ref (ad 11)) hinX9 rfl 19 (by decide) w_1199 rfl (wm_mem (k := 0) (by decide)) rfl dX9_solve_229 ?_
                      refine g_run X KX9_solve_232_32 KX9_solve_232_32_d 240 [(0, .ref (ad 0)), (1, .ref wa), (2, .int (nI b)), (3, .int (nI (pcn b 15))), (4, .int (nI 5)), (5, .int (nI k)), (6, .int (nI (pv (gG (gO b x R 4) k) k))), (7, .int (nI 5))] [.int (((nI k) * (nI 5)) + (nI k)), .ref (ad 11)] rfl ?_
                      refine g_nm (lv' := [(0, .ref (ad 0)), (1, .ref wa), (2, .int (nI b)), (3, .int (nI (pcn b 15))), (4, .int (nI 5)), (5, .int (nI k)), (6, .int (nI (pv (gG (gO b x R 4) k) k))), (7, .int (nI 5))]) (st' := [.int (nI ((k * 5) + k)), .ref (ad 11)]) (by simp only [nI_add, pk_mul]) (by simp only [nI_add, pk_mul]) ?_
                      refine g_iald X srcW (v := nI ((gSw (gG (gO b x R 4) k) k (pv (gG (gO b x R 4) k) k)) ((k * 5) + k))) 0 rfl (wm_mem (k := 11) (by decide)) ((k * 5) + k) rfl (by omega) (by decide) (rfl) dX9_solve_240 ?_
                      refine g_run X KX9_solve_241_33 KX9_solve_241_33_d 246 [(8, .int (nI 0)), (7, .int (nI ((gSw (gG (gO b x R 4) k) k (pv (gG (gO b x R 4) k) k)) ((k * 5) + k)))), (0, .ref (ad 0)), (1, .ref wa), (2, .int (nI b)), (3, .int (nI (pcn b 15))), (4, .int (nI 5)), (5, .int (nI k)), (6, .int (nI (pv (gG (gO b x R 4) k) k)))] [] rfl ?_
                      refine g_lv (lv' := [(0, .ref (ad 0)), (1, .ref wa), (2, .int (nI b)), (3, .int (nI (pcn b 15))), (4, .int (nI 5)), (5, .int (nI k)), (6, .int (nI (pv (gG (gO b x R 4) k) k))), (7, .int (nI ((gSw (gG (gO b x R 4) k) k (pv (gG (gO b x R 4) k) k)) ((k * 5) + k)))), (8, .int (nI 0))]) (lsub_c 2 rfl (lsub_c 3 rfl (lsub_c 4 rfl (lsub_c 5 rfl (lsub_c 6 rfl (lsub_c 7 rfl (lsub_c 8 rfl (lsub_c 1 rfl (lsub_c 0 rfl (lsub_n)))))))))) ?_
                      refine g_for 5 (fun p => WM ad g I L S (z4 Z (scl (gSw (gG (gO b x R 4) k) k (pv (gG (gO b x R 4) k) k)) k (gSw (gG (gO b x R 4) k) k (pv (gG (gO b x R 4) k) k) (k * 5 + k)) p) (wrf b (Z 1) 15) (Z 2)) Y ++ []) (fun p => [(0, .ref (ad 0)), (1, .ref wa), (2, .int (nI b)), (3, .int (nI (pcn b 15))), (4, .int (nI 5)), (5, .int (nI k)), (6, .int (nI (pv (gG (gO b x R 4) k) k))), (7, .int (nI ((gSw (gG (gO b x R 4) k) k (pv (gG (gO b x R 4) k) k)) ((k * 5) + k)))), (8, .int (nI p))]) (by rw [scl]) (rfl) ?_ ?_
                      · refine g_run X KX9_solve_246_34 KX9_solve_246_34_d 250 [(0, .ref (ad 0)), (1, .ref wa), (2, .int (nI b)), (3, .int (nI (pcn b 15))), (4, .int (nI 5)), (5, .int (nI k)), (6, .int (nI (pv (gG (gO b x R 4) k) k))), (7, .int (nI ((gSw (gG (gO b x R 4) k) k (pv (gG (gO b x R 4) k) k)) ((k * 5) + k)))), (8, .int (nI 5))] [.int (nI 5), .int (nI 5)] rfl ?_
                        refine g_icmp_ge X 291 dX9_solve_250 (by decide) (fun hc12 => ?_) (fun hc12 => ?_)
                        · refine g_ws (ws' := WM ad g I L S (z4 Z (gSc (gSw (gG (gO b x R 4) k) k (pv (gG (gO b x R 4) k) k)) k (gSw (gG (gO b x R 4) k) k (pv (gG (gO b x R 4) k) k) (k * 5 + k))) (wrf b (Z 1) 15) (Z 2)) Y ++ []) (by rw [scl_5]) ?_
                          have hB16 : R16 (gSc (gSw (gG (gO b x R 4) k) k (pv (gG (gO b x R 4) k) k)) k (gSw (gG (gO b x R 4) k) k (pv (gG (gO b x R 4) k) k) (k * 5 + k))) := gSc_16 (gSw_16 hG16)
                          refine g_run X KX9_solve_291_35 KX9_solve_291_35_d 294 [(8, .int (nI 0)), (0, .ref (ad 0)), (1, .ref wa), (2, .int (nI b)), (3, .int (nI (pcn b 15))), (4, .int (nI 5)), (5, .int (nI k)), (6, .int (nI (pv (gG (gO b x R 4) k) k))), (7, .int (nI ((gSw (gG (gO b x R 4) k) k (pv (gG (gO b x R 4) k) k)) ((k * 5) + k))))] [] rfl ?_
                          refine g_lv (lv' := [(0, .ref (ad 0)), (1, .ref wa), (2, .int (nI b)), (3, .int (nI (pcn b 15))), (4, .int (nI 5)), (5, .int (nI k)), (6, .int (nI (pv (gG (gO b x R 4) k) k))), (7, .int (nI ((gSw (gG (gO b x R 4) k) k (pv (gG (gO b x R 4) k) k)) ((k * 5) + k)))), (8, .int (nI 0))]) (lsub_c 1 rfl (lsub_c 2 rfl (lsub_c 3 rfl (lsub_c 4 rfl (lsub_c 5 rfl (lsub_c 6 rfl (lsub_c 7 rfl (lsub_c 8 rfl (lsub_c 0 rfl (lsub_n)))))))))) ?_
                          refine g_for 4 (fun o => WM ad g I L S (z4 Z (gEl (gSc (gSw (gG (gO b x R 4) k) k (pv (gG (gO b x R 4) k) k)) k (gSw (gG (gO b x R 4) k) k (pv (gG (gO b x R 4) k) k) (k * 5 + k))) k o) (wrf b (Z 1) 15) (Z 2)) Y ++ []) (fun o => [(0, .ref (ad 0)), (1, .ref wa), (2, .int (nI b)), (3, .int (nI (pcn b 15))), (4, .int (nI 5)), (5, .int (nI k)), (6, .int (nI (pv (gG (gO b x R 4) k) k))), (7, .int (nI ((gSw (gG (gO b x R 4) k) k (pv (gG (gO b x R 4) k) k)) ((k * 5) + k)))), (8, .int (nI o))]) (by rw [gEl]) (rfl) ?_ ?_
                          · refine g_run X KX9_solve_294_36 KX9_solve_294_36_d 297 [(0, .ref (ad 0)), (1, .ref wa), (2, .int (nI b)), (3, .int (nI (pcn b 15))), (4, .int (nI 5)), (5, .int (nI k)), (6, .int (nI (pv (gG (gO b x R 4) k) k))), (7, .int (nI ((gSw (gG (gO b x R 4) k) k (pv (gG (gO b x R 4) k) k)) ((k * 5) + k)))), (8, .int (nI 4))] [.int (nI 4), .int (nI 4)] rfl ?_
                            refine g_icmp_ge X 387 dX9_solve_297 (by decide) (fun hc13 => ?_) (fun hc13 => ?_)
                            · refine g_run X KX9_solve_387_37 KX9_solve_387_37_d 124 [(5, .int ((nI k) + (nI 1))), (0, .ref (ad 0)), (1, .ref wa), (2, .int (nI b)), (3, .int (nI (pcn b 15))), (4, .int (nI 5)), (6, .int (nI (pv (gG (gO b x R 4) k) k))), (7, .int (nI ((gSw (gG (gO b x R 4) k) k (pv (gG (gO b x R 4) k) k)) ((k * 5) + k)))), (8, .int (nI 4))] [] rfl ?_
                              refine g_nm (lv' := [(5, .int (nI (k + 1))), (0, .ref (ad 0)), (1, .ref wa), (2, .int (nI b)), (3, .int (nI (pcn b 15))), (4, .int (nI 5)), (6, .int (nI (pv (gG (gO b x R 4) k) k))), (7, .int (nI ((gSw (gG (gO b x R 4) k) k (pv (gG (gO b x R 4) k) k)) ((k * 5) + k)))), (8, .int (nI 4))]) (st' := []) (by simp only [nI_add]) (by simp only [nI_add]) ?_
                              refine g_lv (lv' := [(0, .ref (ad 0)), (1, .ref wa), (2, .int (nI b)), (3, .int (nI (pcn b 15))), (4, .int (nI 5)), (5, .int (nI (k + 1)))]) (lsub_c 1 rfl (lsub_c 2 rfl (lsub_c 3 rfl (lsub_c 4 rfl (lsub_c 5 rfl (lsub_c 0 rfl (lsub_n))))))) ?_
                              refine g_cs (ws' := WM ad g I L S (z4 Z (gG (gO b x R 4) (k + 1)) (wrf b (Z 1) 15) (Z 2)) Y ++ []) (lv' := [(0, .ref (ad 0)), (1, .ref wa), (2, .int (nI b)), (3, .int (nI (pcn b 15))), (4, .int (nI 5)), (5, .int (nI (k + 1)))]) (by rw [gG, gSt]) (rfl) ?_
                              exact k124
                            · rw [nI_leI (by omega) (by omega)] at hc13; first | omega | (simp at hc13)
                          · intro o ho k294
                            refine g_run X KX9_solve_294_36 KX9_solve_294_36_d 297 [(0, .ref (ad 0)), (1, .ref wa), (2, .int (nI b)), (3, .int (nI (pcn b 15))), (4, .int (nI 5)), (5, .int (nI k)), (6, .int (nI (pv (gG (gO b x R 4) k) k))), (7, .int (nI ((gSw (gG (gO b x R 4) k) k (pv (gG (gO b x R 4) k) k)) ((k * 5) + k)))), (8, .int (nI o))] [.int (nI 4), .int (nI o)] rfl ?_
                            refine g_icmp_ge X 387 dX9_solve_297 (by decide) (fun hc14 => ?_) (fun hc14 => ?_)
                            · rw [nI_leI (by omega) (by omega)] at hc14; first | omega | (simp at hc14)
                            · refine g_run X KX9_solve_300_38 KX9_solve_300_38_d 301 [(0, .ref (ad 0)), (1, .ref wa), (2, .int (nI b)), (3, .int (nI (pcn b 15))), (4, .int (nI 5)), (5, .int (nI k)), (6, .int (nI (pv (gG (gO b x R 4) k) k))), (7, .int (nI ((gSw (gG (gO b x R 4) k) k (pv (gG (gO b x R 4) k) k)) ((k * 5) + k)))), (8, .int (nI o))] [.ref (ad 0)] rfl ?_
                              refine g_get X srcW (v := .ref (ad 11)) hinX9 rfl 19 (by decide) w_1199 rfl (wm_mem (k := 0) (by decide)) rfl dX9_solve_301 ?_
                              refine g_run X KX9_solve_304_39 KX9_solve_304_39_d 312 [(0, .ref (ad 0)), (1, .ref wa), (2, .int (nI b)), (3, .int (nI (pcn b 15))), (4, .int (nI 5)), (5, .int (nI k)), (6, .int (nI (pv (gG (gO b x R 4) k) k))), (7, .int (nI ((gSw (gG (gO b x R 4) k) k (pv (gG (gO b x R 4) k) k)) ((k * 5) + k)))), (8, .int (nI o))] [.int (((nI o) * (nI 5)) + (nI k)), .ref (ad 11)] rfl ?_
                              refine g_nm (lv' := [(0, .ref (ad 0)), (1, .ref wa), (2, .int (nI b)), (3, .int (nI (pcn b 15))), (4, .int (nI 5)), (5, .int (nI k)), (6, .int (nI (pv (gG (gO b x R 4) k) k))), (7, .int (nI ((gSw (gG (gO b x R 4) k) k (pv (gG (gO b x R 4) k) k)) ((k * 5) + k)))), (8, .int (nI o))]) (st' := [.int (nI ((o * 5) + k)), .ref (ad 11)]) (by simp only [nI_add, pk_mul]) (by simp only [nI_add, pk_mul]) ?_
                              refine g_iald X srcW (v := nI ((gEl (gSc (gSw (gG (gO b x R 4) k) k (pv (gG (gO b x R 4) k) k)) k (gSw (gG (gO b x R 4) k) k (pv (gG (gO b x R 4) k) k) (k * 5 + k))) k o) ((o * 5) + k))) 0 rfl (wm_mem (k := 11) (by decide)) ((o * 5) + k) rfl (by omega) (by decide) (rfl) dX9_solve_312 ?_
                              refine g_run X KX9_solve_313_40 KX9_solve_313_40_d 319 [(9, .int (nI ((gEl (gSc (gSw (gG (gO b x R 4) k) k (pv (gG (gO b x R 4) k) k)) k (gSw (gG (gO b x R 4) k) k (pv (gG (gO b x R 4) k) k) (k * 5 + k))) k o) ((o * 5) + k)))), (0, .ref (ad 0)), (1, .ref wa), (2, .int (nI b)), (3, .int (nI (pcn b 15))), (4, .int (nI 5)), (5, .int (nI k)), (6, .int (nI (pv (gG (gO b x R 4) k) k))), (7, .int (nI ((gSw (gG (gO b x R 4) k) k (pv (gG (gO b x R 4) k) k)) ((k * 5) + k)))), (8, .int (nI o))] [.int (nI k), .int (nI o)] rfl ?_
                              refine g_icmp_eq X 381 dX9_solve_319 (by decide) (fun hc15 => ?_) (fun hc15 => ?_)
                              · rw [nI_eq (by omega) (by omega)] at hc15; have hok1 := hc15
                                refine g_run X KX9_solve_381_41 KX9_solve_381_41_d 294 [(8, .int ((nI o) + (nI 1))), (9, .int (nI ((gEl (gSc (gSw (gG (gO b x R 4) k) k (pv (gG (gO b x R 4) k) k)) k (gSw (gG (gO b x R 4) k) k (pv (gG (gO b x R 4) k) k) (k * 5 + k))) k o) ((o * 5) + k)))), (0, .ref (ad 0)), (1, .ref wa), (2, .int (nI b)), (3, .int (nI (pcn b 15))), (4, .int (nI 5)), (5, .int (nI k)), (6, .int (nI (pv (gG (gO b x R 4) k) k))), (7, .int (nI ((gSw (gG (gO b x R 4) k) k (pv (gG (gO b x R 4) k) k)) ((k * 5) + k))))] [] rfl ?_
                                refine g_nm (lv' := [(8, .int (nI (o + 1))), (9, .int (nI ((gEl (gSc (gSw (gG (gO b x R 4) k) k (pv (gG (gO b x R 4) k) k)) k (gSw (gG (gO b x R 4) k) k (pv (gG (gO b x R 4) k) k) (k * 5 + k))) k o) ((o * 5) + k)))), (0, .ref (ad 0)), (1, .ref wa), (2, .int (nI b)), (3, .int (nI (pcn b 15))), (4, .int (nI 5)), (5, .int (nI k)), (6, .int (nI (pv (gG (gO b x R 4) k) k))), (7, .int (nI ((gSw (gG (gO b x R 4) k) k (pv (gG (gO b x R 4) k) k)) ((k * 5) + k))))]) (st' := []) (by simp only [nI_add]) (by simp only [nI_add]) ?_
                                refine g_lv (lv' := [(0, .ref (ad 0)), (1, .ref wa), (2, .int (nI b)), (3, .int (nI (pcn b 15))), (4, .int (nI 5)), (5, .int (nI k)), (6, .int (nI (pv (gG (gO b x R 4) k) k))), (7, .int (nI ((gSw (gG (gO b x R 4) k) k (pv (gG (gO b x R 4) k) k)) ((k * 5) + k)))), (8, .int (nI (o + 1)))]) (lsub_c 2 rfl (lsub_c 3 rfl (lsub_c 4 rfl (lsub_c 5 rfl (lsub_c 6 rfl (lsub_c 7 rfl (lsub_c 8 rfl (lsub_c 9 rfl (lsub_c 0 rfl (lsub_n)))))))))) ?_
                                refine g_cs (ws' := WM ad g I L S (z4 Z (gEl (gSc (gSw (gG (gO b x R 4) k) k (pv (gG (gO b x R 4) k) k)) k (gSw (gG (gO b x R 4) k) k (pv (gG (gO b x R 4) k) k) (k * 5 + k))) k (o + 1)) (wrf b (Z 1) 15) (Z 2)) Y ++ []) (lv' := [(0, .ref (ad 0)), (1, .ref wa), (2, .int (nI b)), (3, .int (nI (pcn b 15))), (4, .int (nI 5)), (5, .int (nI k)), (6, .int (nI (pv (gG (gO b x R 4) k) k))), (7, .int (nI ((gSw (gG (gO b x R 4) k) k (pv (gG (gO b x R 4) k) k)) ((k * 5) + k)))), (8, .int (nI (o + 1)))]) (by first | rw [gEl, if_pos (Or.inl hok1)] | rw [gEl, if_pos (Or.inr hot)] | rw [gEl, if_neg (fun z => z.elim hok2 hon), adl_5 _ _ _ _ hok2]) (rfl) ?_
                                exact k294
                              · rw [nI_eq (by omega) (by omega)] at hc15; have hok2 := hc15
                                refine g_run X KX9_solve_322_42 KX9_solve_322_42_d 324 [(9, .int (nI ((gEl (gSc (gSw (gG (gO b x R 4) k) k (pv (gG (gO b x R 4) k) k)) k (gSw (gG (gO b x R 4) k) k (pv (gG (gO b x R 4) k) k) (k * 5 + k))) k o) ((o * 5) + k)))), (0, .ref (ad 0)), (1, .ref wa), (2, .int (nI b)), (3, .int (nI (pcn b 15))), (4, .int (nI 5)), (5, .int (nI k)), (6, .int (nI (pv (gG (gO b x R 4) k) k))), (7, .int (nI ((gSw (gG (gO b x R 4) k) k (pv (gG (gO b x R 4) k) k)) ((k * 5) + k)))), (8, .int (nI o))] [.int (nI ((gEl (gSc (gSw (gG (gO b x R 4) k) k (pv (gG (gO b x R 4) k) k)) k (gSw (gG (gO b x R 4) k) k (pv (gG (gO b x R 4) k) k) (k * 5 + k))) k o) ((o * 5) + k)))] rfl ?_
                                refine g_if_ne X 330 dX9_solve_324 (by decide) (fun hc16 => ?_) (fun hc16 => ?_)
                                · rw [nz_eq (by have := gEl_16 (k := k) hB16 o (o * 5 + k); omega)] at hc16; have hon := hc16
                                  refine g_run X KX9_solve_330_43 KX9_solve_330_43_d 333 [(10, .int (nI 0)), (9, .int (nI ((gEl (gSc (gSw (gG (gO b x R 4) k) k (pv (gG (gO b x R 4) k) k)) k (gSw (gG (gO b x R 4) k) k (pv (gG (gO b x R 4) k) k) (k * 5 + k))) k o) ((o * 5) + k)))), (0, .ref (ad 0)), (1, .ref wa), (2, .int (nI b)), (3, .int (nI (pcn b 15))), (4, .int (nI 5)), (5, .int (nI k)), (6, .int (nI (pv (gG (gO b x R 4) k) k))), (7, .int (nI ((gSw (gG (gO b x R 4) k) k (pv (gG (gO b x R 4) k) k)) ((k * 5) + k)))), (8, .int (nI o))] [] rfl ?_
                                  refine g_lv (lv' := [(0, .ref (ad 0)), (1, .ref wa), (2, .int (nI b)), (3, .int (nI (pcn b 15))), (4, .int (nI 5)), (5, .int (nI k)), (6, .int (nI (pv (gG (gO b x R 4) k) k))), (7, .int (nI ((gSw (gG (gO b x R 4) k) k (pv (gG (gO b x R 4) k) k)) ((k * 5) + k)))), (8, .int (nI o)), (9, .int (nI ((gEl (gSc (gSw (gG (gO b x R 4) k) k (pv (gG (gO b x R 4) k) k)) k (gSw (gG (gO b x R 4) k) k (pv (gG (gO b x R 4) k) k) (k * 5 + k))) k o) ((o * 5) + k)))), (10, .int (nI 0))]) (lsub_c 2 rfl (lsub_c 3 rfl (lsub_c 4 rfl (lsub_c 5 rfl (lsub_c 6 rfl (lsub_c 7 rfl (lsub_c 8 rfl (lsub_c 9 rfl (lsub_c 10 rfl (lsub_c 1 rfl (lsub_c 0 rfl (lsub_n)))))))))))) ?_
                                  refine g_for 5 (fun p => WM ad g I L S (z4 Z (adl (gEl (gSc (gSw (gG (gO b x R 4) k) k (pv (gG (gO b x R 4) k) k)) k (gSw (gG (gO b x R 4) k) k (pv (gG (gO b x R 4) k) k) (k * 5 + k))) k o) k o (gEl (gSc (gSw (gG (gO b x R 4) k) k (pv (gG (gO b x R 4) k) k)) k (gSw (gG (gO b x R 4) k) k (pv (gG (gO b x R 4) k) k) (k * 5 + k))) k o (o * 5 + k)) p) (wrf b (Z 1) 15) (Z 2)) Y ++ []) (fun p => [(0, .ref (ad 0)), (1, .ref wa), (2, .int (nI b)), (3, .int (nI (pcn b 15))), (4, .int (nI 5)), (5, .int (nI k)), (6, .int (nI (pv (gG (gO b x R 4) k) k))), (7, .int (nI ((gSw (gG (gO b x R 4) k) k (pv (gG (gO b x R 4) k) k)) ((k * 5) + k)))), (8, .int (nI o)), (9, .int (nI ((gEl (gSc (gSw (gG (gO b x R 4) k) k (pv (gG (gO b x R 4) k) k)) k (gSw (gG (gO b x R 4) k) k (pv (gG (gO b x R 4) k) k) (k * 5 + k))) k o) ((o * 5) + k)))), (10, .int (nI p))]) (by rw [adl]) (rfl) ?_ ?_
                                  · refine g_run X KX9_solve_333_44 KX9_solve_333_44_d 337 [(0, .ref (ad 0)), (1, .ref wa), (2, .int (nI b)), (3, .int (nI (pcn b 15))), (4, .int (nI 5)), (5, .int (nI k)), (6, .int (nI (pv (gG (gO b x R 4) k) k))), (7, .int (nI ((gSw (gG (gO b x R 4) k) k (pv (gG (gO b x R 4) k) k)) ((k * 5) + k)))), (8, .int (nI o)), (9, .int (nI ((gEl (gSc (gSw (gG (gO b x R 4) k) k (pv (gG (gO b x R 4) k) k)) k (gSw (gG (gO b x R 4) k) k (pv (gG (gO b x R 4) k) k) (k * 5 + k))) k o) ((o * 5) + k)))), (10, .int (nI 5))] [.int (nI 5), .int (nI 5)] rfl ?_
                                    refine g_icmp_ge X 381 dX9_solve_337 (by decide) (fun hc17 => ?_) (fun hc17 => ?_)
                                    · refine g_run X KX9_solve_381_41 KX9_solve_381_41_d 294 [(8, .int ((nI o) + (nI 1))), (0, .ref (ad 0)), (1, .ref wa), (2, .int (nI b)), (3, .int (nI (pcn b 15))), (4, .int (nI 5)), (5, .int (nI k)), (6, .int (nI (pv (gG (gO b x R 4) k) k))), (7, .int (nI ((gSw (gG (gO b x R 4) k) k (pv (gG (gO b x R 4) k) k)) ((k * 5) + k)))), (9, .int (nI ((gEl (gSc (gSw (gG (gO b x R 4) k) k (pv (gG (gO b x R 4) k) k)) k (gSw (gG (gO b x R 4) k) k (pv (gG (gO b x R 4) k) k) (k * 5 + k))) k o) ((o * 5) + k)))), (10, .int (nI 5))] [] rfl ?_
                                      refine g_nm (lv' := [(8, .int (nI (o + 1))), (0, .ref (ad 0)), (1, .ref wa), (2, .int (nI b)), (3, .int (nI (pcn b 15))), (4, .int (nI 5)), (5, .int (nI k)), (6, .int (nI (pv (gG (gO b x R 4) k) k))), (7, .int (nI ((gSw (gG (gO b x R 4) k) k (pv (gG (gO b x R 4) k) k)) ((k * 5) + k)))), (9, .int (nI ((gEl (gSc (gSw (gG (gO b x R 4) k) k (pv (gG (gO b x R 4) k) k)) k (gSw (gG (gO b x R 4) k) k (pv (gG (gO b x R 4) k) k) (k * 5 + k))) k o) ((o * 5) + k)))), (10, .int (nI 5))]) (st' := []) (by simp only [nI_add]) (by simp only [nI_add]) ?_
                                      refine g_lv (lv' := [(0, .ref (ad 0)), (1, .ref wa), (2, .int (nI b)), (3, .int (nI (pcn b 15))), (4, .int (nI 5)), (5, .int (nI k)), (6, .int (nI (pv (gG (gO b x R 4) k) k))), (7, .int (nI ((gSw (gG (gO b x R 4) k) k (pv (gG (gO b x R 4) k) k)) ((k * 5) + k)))), (8, .int (nI (o + 1)))]) (lsub_c 1 rfl (lsub_c 2 rfl (lsub_c 3 rfl (lsub_c 4 rfl (lsub_c 5 rfl (lsub_c 6 rfl (lsub_c 7 rfl (lsub_c 8 rfl (lsub_c 0 rfl (lsub_n)))))))))) ?_
                                      refine g_cs (ws' := WM ad g I L S (z4 Z (gEl (gSc (gSw (gG (gO b x R 4) k) k (pv (gG (gO b x R 4) k) k)) k (gSw (gG (gO b x R 4) k) k (pv (gG (gO b x R 4) k) k) (k * 5 + k))) k (o + 1)) (wrf b (Z 1) 15) (Z 2)) Y ++ []) (lv' := [(0, .ref (ad 0)), (1, .ref wa), (2, .int (nI b)), (3, .int (nI (pcn b 15))), (4, .int (nI 5)), (5, .int (nI k)), (6, .int (nI (pv (gG (gO b x R 4) k) k))), (7, .int (nI ((gSw (gG (gO b x R 4) k) k (pv (gG (gO b x R 4) k) k)) ((k * 5) + k)))), (8, .int (nI (o + 1)))]) (by first | rw [gEl, if_pos (Or.inl hok1)] | rw [gEl, if_pos (Or.inr hot)] | rw [gEl, if_neg (fun z => z.elim hok2 hon), adl_5 _ _ _ _ hok2]) (rfl) ?_
                                      exact k294
                                    · rw [nI_leI (by omega) (by omega)] at hc17; first | omega | (simp at hc17)
                                  · intro p hp k333
                                    refine g_run X KX9_solve_333_44 KX9_solve_333_44_d 337 [(0, .ref (ad 0)), (1, .ref wa), (2, .int (nI b)), (3, .int (nI (pcn b 15))), (4, .int (nI 5)), (5, .int (nI k)), (6, .int (nI (pv (gG (gO b x R 4) k) k))), (7, .int (nI ((gSw (gG (gO b x R 4) k) k (pv (gG (gO b x R 4) k) k)) ((k * 5) + k)))), (8, .int (nI o)), (9, .int (nI ((gEl (gSc (gSw (gG (gO b x R 4) k) k (pv (gG (gO b x R 4) k) k)) k (gSw (gG (gO b x R 4) k) k (pv (gG (gO b x R 4) k) k) (k * 5 + k))) k o) ((o * 5) + k)))), (10, .int (nI p))] [.int (nI 5), .int (nI p)] rfl ?_
                                    refine g_icmp_ge X 381 dX9_solve_337 (by decide) (fun hc18 => ?_) (fun hc18 => ?_)
                                    · rw [nI_leI (by omega) (by omega)] at hc18; first | omega | (simp at hc18)
                                    · refine g_run X KX9_solve_340_45 KX9_solve_340_45_d 341 [(0, .ref (ad 0)), (1, .ref wa), (2, .int (nI b)), (3, .int (nI (pcn b 15))), (4, .int (nI 5)), (5, .int (nI k)), (6, .int (nI (pv (gG (gO b x R 4) k) k))), (7, .int (nI ((gSw (gG (gO b x R 4) k) k (pv (gG (gO b x R 4) k) k)) ((k * 5) + k)))), (8, .int (nI o)), (9, .int (nI ((gEl (gSc (gSw (gG (gO b x R 4) k) k (pv (gG (gO b x R 4) k) k)) k (gSw (gG (gO b x R 4) k) k (pv (gG (gO b x R 4) k) k) (k * 5 + k))) k o) ((o * 5) + k)))), (10, .int (nI p))] [.ref (ad 0)] rfl ?_
                                      refine g_get X srcW (v := .ref (ad 11)) hinX9 rfl 19 (by decide) w_1199 rfl (wm_mem (k := 0) (by decide)) rfl dX9_solve_341 ?_
                                      refine g_run X KX9_solve_344_46 KX9_solve_344_46_d 353 [(0, .ref (ad 0)), (1, .ref wa), (2, .int (nI b)), (3, .int (nI (pcn b 15))), (4, .int (nI 5)), (5, .int (nI k)), (6, .int (nI (pv (gG (gO b x R 4) k) k))), (7, .int (nI ((gSw (gG (gO b x R 4) k) k (pv (gG (gO b x R 4) k) k)) ((k * 5) + k)))), (8, .int (nI o)), (9, .int (nI ((gEl (gSc (gSw (gG (gO b x R 4) k) k (pv (gG (gO b x R 4) k) k)) k (gSw (gG (gO b x R 4) k) k (pv (gG (gO b x R 4) k) k) (k * 5 + k))) k o) ((o * 5) + k)))), (10, .int (nI p))] [.int (((nI o) * (nI 5)) + (nI p)), .ref (ad 11), .int (((nI o) * (nI 5)) + (nI p)), .ref (ad 11)] rfl ?_
                                      refine g_nm (lv' := [(0, .ref (ad 0)), (1, .ref wa), (2, .int (nI b)), (3, .int (nI (pcn b 15))), (4, .int (nI 5)), (5, .int (nI k)), (6, .int (nI (pv (gG (gO b x R 4) k) k))), (7, .int (nI ((gSw (gG (gO b x R 4) k) k (pv (gG (gO b x R 4) k) k)) ((k * 5) + k)))), (8, .int (nI o)), (9, .int (nI ((gEl (gSc (gSw (gG (gO b x R 4) k) k (pv (gG (gO b x R 4) k) k)) k (gSw (gG (gO b x R 4) k) k (pv (gG (gO b x R 4) k) k) (k * 5 + k))) k o) ((o * 5) + k)))), (10, .int (nI p))]) (st' := [.int (nI ((o * 5) + p)), .ref (ad 11), .int (nI ((o * 5) + p)), .ref (ad 11)]) (by simp only [nI_add, pk_mul]) (by simp only [nI_add, pk_mul]) ?_
                                      refine g_iald X srcW (v := nI ((adl (gEl (gSc (gSw (gG (gO b x R 4) k) k (pv (gG (gO b x R 4) k) k)) k (gSw (gG (gO b x R 4) k) k (pv (gG (gO b x R 4) k) k) (k * 5 + k))) k o) k o (gEl (gSc (gSw (gG (gO b x R 4) k) k (pv (gG (gO b x R 4) k) k)) k (gSw (gG (gO b x R 4) k) k (pv (gG (gO b x R 4) k) k) (k * 5 + k))) k o (o * 5 + k)) p) ((o * 5) + p))) 0 rfl (wm_mem (k := 11) (by decide)) ((o * 5) + p) rfl (by omega) (by decide) (rfl) dX9_solve_353 ?_
                                      refine g_run X KX9_solve_354_47 KX9_solve_354_47_d 358 [(0, .ref (ad 0)), (1, .ref wa), (2, .int (nI b)), (3, .int (nI (pcn b 15))), (4, .int (nI 5)), (5, .int (nI k)), (6, .int (nI (pv (gG (gO b x R 4) k) k))), (7, .int (nI ((gSw (gG (gO b x R 4) k) k (pv (gG (gO b x R 4) k) k)) ((k * 5) + k)))), (8, .int (nI o)), (9, .int (nI ((gEl (gSc (gSw (gG (gO b x R 4) k) k (pv (gG (gO b x R 4) k) k)) k (gSw (gG (gO b x R 4) k) k (pv (gG (gO b x R 4) k) k) (k * 5 + k))) k o) ((o * 5) + k)))), (10, .int (nI p))] [.ref (ad 0), .int (nI ((gEl (gSc (gSw (gG (gO b x R 4) k) k (pv (gG (gO b x R 4) k) k)) k (gSw (gG (gO b x R 4) k) k (pv (gG (gO b x R 4) k) k) (k * 5 + k))) k o) ((o * 5) + k))), .ref (ad 0), .int (nI ((adl (gEl (gSc (gSw (gG (gO b x R 4) k) k (pv (gG (gO b x R 4) k) k)) k (gSw (gG (gO b x R 4) k) k (pv (gG (gO b x R 4) k) k) (k * 5 + k))) k o) k o (gEl (gSc (gSw (gG (gO b x R 4) k) k (pv (gG (gO b x R 4) k) k)) k (gSw (gG (gO b x R 4) k) k (pv (gG (gO b x R 4) k) k) (k * 5 + k))) k o (o * 5 + k)) p) ((o * 5) + p))), .int (nI ((o * 5) + p)), .ref (ad 11)] rfl ?_
                                      refine g_get X srcW (v := .ref (ad 11)) hinX9 rfl 19 (by decide) w_1199 rfl (wm_mem (k := 0) (by decide)) rfl dX9_solve_358 ?_
                                      refine g_run X KX9_solve_361_48 KX9_solve_361_48_d 369 [(0, .ref (ad 0)), (1, .ref wa), (2, .int (nI b)), (3, .int (nI (pcn b 15))), (4, .int (nI 5)), (5, .int (nI k)), (6, .int (nI (pv (gG (gO b x R 4) k) k))), (7, .int (nI ((gSw (gG (gO b x R 4) k) k (pv (gG (gO b x R 4) k) k)) ((k * 5) + k)))), (8, .int (nI o)), (9, .int (nI ((gEl (gSc (gSw (gG (gO b x R 4) k) k (pv (gG (gO b x R 4) k) k)) k (gSw (gG (gO b x R 4) k) k (pv (gG (gO b x R 4) k) k) (k * 5 + k))) k o) ((o * 5) + k)))), (10, .int (nI p))] [.int (((nI k) * (nI 5)) + (nI p)), .ref (ad 11), .int (nI ((gEl (gSc (gSw (gG (gO b x R 4) k) k (pv (gG (gO b x R 4) k) k)) k (gSw (gG (gO b x R 4) k) k (pv (gG (gO b x R 4) k) k) (k * 5 + k))) k o) ((o * 5) + k))), .ref (ad 0), .int (nI ((adl (gEl (gSc (gSw (gG (gO b x R 4) k) k (pv (gG (gO b x R 4) k) k)) k (gSw (gG (gO b x R 4) k) k (pv (gG (gO b x R 4) k) k) (k * 5 + k))) k o) k o (gEl (gSc (gSw (gG (gO b x R 4) k) k (pv (gG (gO b x R 4) k) k)) k (gSw (gG (gO b x R 4) k) k (pv (gG (gO b x R 4) k) k) (k * 5 + k))) k o (o * 5 + k)) p) ((o * 5) + p))), .int (nI ((o * 5) + p)), .ref (ad 11)] rfl ?_
                                      refine g_nm (lv' := [(0, .ref (ad 0)), (1, .ref wa), (2, .int (nI b)), (3, .int (nI (pcn b 15))), (4, .int (nI 5)), (5, .int (nI k)), (6, .int (nI (pv (gG (gO b x R 4) k) k))), (7, .int (nI ((gSw (gG (gO b x R 4) k) k (pv (gG (gO b x R 4) k) k)) ((k * 5) + k)))), (8, .int (nI o)), (9, .int (nI ((gEl (gSc (gSw (gG (gO b x R 4) k) k (pv (gG (gO b x R 4) k) k)) k (gSw (gG (gO b x R 4) k) k (pv (gG (gO b x R 4) k) k) (k * 5 + k))) k o) ((o * 5) + k)))), (10, .int (nI p))]) (st' := [.int (nI ((k * 5) + p)), .ref (ad 11), .int (nI ((gEl (gSc (gSw (gG (gO b x R 4) k) k (pv (gG (gO b x R 4) k) k)) k (gSw (gG (gO b x R 4) k) k (pv (gG (gO b x R 4) k) k) (k * 5 + k))) k o) ((o * 5) + k))), .ref (ad 0), .int (nI ((adl (gEl (gSc (gSw (gG (gO b x R 4) k) k (pv (gG (gO b x R 4) k) k)) k (gSw (gG (gO b x R 4) k) k (pv (gG (gO b x R 4) k) k) (k * 5 + k))) k o) k o (gEl (gSc (gSw (gG (gO b x R 4) k) k (pv (gG (gO b x R 4) k) k)) k (gSw (gG (gO b x R 4) k) k (pv (gG (gO b x R 4) k) k) (k * 5 + k))) k o (o * 5 + k)) p) ((o * 5) + p))), .int (nI ((o * 5) + p)), .ref (ad 11)]) (by simp only [nI_add, pk_mul]) (by simp only [nI_add, pk_mul]) ?_
                                      refine g_iald X srcW (v := nI ((adl (gEl (gSc (gSw (gG (gO b x R 4) k) k (pv (gG (gO b x R 4) k) k)) k (gSw (gG (gO b x R 4) k) k (pv (gG (gO b x R 4) k) k) (k * 5 + k))) k o) k o (gEl (gSc (gSw (gG (gO b x R 4) k) k (pv (gG (gO b x R 4) k) k)) k (gSw (gG (gO b x R 4) k) k (pv (gG (gO b x R 4) k) k) (k * 5 + k))) k o (o * 5 + k)) p) ((k * 5) + p))) 0 rfl (wm_mem (k := 11) (by decide)) ((k * 5) + p) rfl (by omega) (by decide) (rfl) dX9_solve_369 ?_
                                      refine g_callV X hSB hAf (srcW) (hrc1 := (rfl : CL[8]? = some _)) (wm_mem (k := 0) (by decide)) rfl (As := [.int (nI ((gEl (gSc (gSw (gG (gO b x R 4) k) k (pv (gG (gO b x R 4) k) k)) k (gSw (gG (gO b x R 4) k) k (pv (gG (gO b x R 4) k) k) (k * 5 + k))) k o) ((o * 5) + k))), .int (nI ((adl (gEl (gSc (gSw (gG (gO b x R 4) k) k (pv (gG (gO b x R 4) k) k)) k (gSw (gG (gO b x R 4) k) k (pv (gG (gO b x R 4) k) k) (k * 5 + k))) k o) k o (gEl (gSc (gSw (gG (gO b x R 4) k) k (pv (gG (gO b x R 4) k) k)) k (gSw (gG (gO b x R 4) k) k (pv (gG (gO b x R 4) k) k) (k * 5 + k))) k o (o * 5 + k)) p) ((k * 5) + p)))]) (wr := []) (n := 2) (c_X9_by l D g ad I L S (z4 Z (adl (gEl (gSc (gSw (gG (gO b x R 4) k) k (pv (gG (gO b x R 4) k) k)) k (gSw (gG (gO b x R 4) k) k (pv (gG (gO b x R 4) k) k) (k * 5 + k))) k o) k o (gEl (gSc (gSw (gG (gO b x R 4) k) k (pv (gG (gO b x R 4) k) k)) k (gSw (gG (gO b x R 4) k) k (pv (gG (gO b x R 4) k) k) (k * 5 + k))) k o (o * 5 + k)) p) (wrf b (Z 1) 15) (Z 2)) Y ((gEl (gSc (gSw (gG (gO b x R 4) k) k (pv (gG (gO b x R 4) k) k)) k (gSw (gG (gO b x R 4) k) k (pv (gG (gO b x R 4) k) k) (k * 5 + k))) k o) ((o * 5) + k)) ((adl (gEl (gSc (gSw (gG (gO b x R 4) k) k (pv (gG (gO b x R 4) k) k)) k (gSw (gG (gO b x R 4) k) k (pv (gG (gO b x R 4) k) k) (k * 5 + k))) k o) k o (gEl (gSc (gSw (gG (gO b x R 4) k) k (pv (gG (gO b x R 4) k) k)) k (gSw (gG (gO b x R 4) k) k (pv (gG (gO b x R 4) k) k) (k * 5 + k))) k o (o * 5 + k)) p) ((k * 5) + p)) (gEl_16 (k := k) hB16 o _) (adl_16 (gEl_16 (k := k) hB16 o) _ _)) rfl srcN hrdN w_1300 w_1297 w_1299 w_s19 w_6 (by decide +kernel) rfl ⟨Nat.le_of_ble_eq_true rfl, Nat.le_of_ble_eq_true rfl⟩ rfl rfl rfl (Nat.le_of_ble_eq_true rfl) ⟨Nat.le_of_ble_eq_true rfl, Nat.le_of_ble_eq_true rfl⟩ dX9_solve_370 (fun hu19 _ => ?_)
                                      refine g_af (ws' := WM ad g I L S (z4 Z (adl (gEl (gSc (gSw (gG (gO b x R 4) k) k (pv (gG (gO b x R 4) k) k)) k (gSw (gG (gO b x R 4) k) k (pv (gG (gO b x R 4) k) k) (k * 5 + k))) k o) k o (gEl (gSc (gSw (gG (gO b x R 4) k) k (pv (gG (gO b x R 4) k) k)) k (gSw (gG (gO b x R 4) k) k (pv (gG (gO b x R 4) k) k) (k * 5 + k))) k o (o * 5 + k)) p) (wrf b (Z 1) 15) (Z 2)) Y ++ []) (st' := [.int (nI (gm ((gEl (gSc (gSw (gG (gO b x R 4) k) k (pv (gG (gO b x R 4) k) k)) k (gSw (gG (gO b x R 4) k) k (pv (gG (gO b x R 4) k) k) (k * 5 + k))) k o) ((o * 5) + k)) ((adl (gEl (gSc (gSw (gG (gO b x R 4) k) k (pv (gG (gO b x R 4) k) k)) k (gSw (gG (gO b x R 4) k) k (pv (gG (gO b x R 4) k) k) (k * 5 + k))) k o) k o (gEl (gSc (gSw (gG (gO b x R 4) k) k (pv (gG (gO b x R 4) k) k)) k (gSw (gG (gO b x R 4) k) k (pv (gG (gO b x R 4) k) k) (k * 5 + k))) k o (o * 5 + k)) p) ((k * 5) + p)))), .int (nI ((adl (gEl (gSc (gSw (gG (gO b x R 4) k) k (pv (gG (gO b x R 4) k) k)) k (gSw (gG (gO b x R 4) k) k (pv (gG (gO b x R 4) k) k) (k * 5 + k))) k o) k o (gEl (gSc (gSw (gG (gO b x R 4) k) k (pv (gG (gO b x R 4) k) k)) k (gSw (gG (gO b x R 4) k) k (pv (gG (gO b x R 4) k) k) (k * 5 + k))) k o (o * 5 + k)) p) ((o * 5) + p))), .int (nI ((o * 5) + p)), .ref (ad 11)]) (cells' := 0) (slots' := 0) (pc' := 373) rfl rfl rfl rfl rfl ?_
                                      refine g_run X KX9_solve_373_49 KX9_solve_373_49_d 374 [(0, .ref (ad 0)), (1, .ref wa), (2, .int (nI b)), (3, .int (nI (pcn b 15))), (4, .int (nI 5)), (5, .int (nI k)), (6, .int (nI (pv (gG (gO b x R 4) k) k))), (7, .int (nI ((gSw (gG (gO b x R 4) k) k (pv (gG (gO b x R 4) k) k)) ((k * 5) + k)))), (8, .int (nI o)), (9, .int (nI ((gEl (gSc (gSw (gG (gO b x R 4) k) k (pv (gG (gO b x R 4) k) k)) k (gSw (gG (gO b x R 4) k) k (pv (gG (gO b x R 4) k) k) (k * 5 + k))) k o) ((o * 5) + k)))), (10, .int (nI p))] [.int ((nI ((adl (gEl (gSc (gSw (gG (gO b x R 4) k) k (pv (gG (gO b x R 4) k) k)) k (gSw (gG (gO b x R 4) k) k (pv (gG (gO b x R 4) k) k) (k * 5 + k))) k o) k o (gEl (gSc (gSw (gG (gO b x R 4) k) k (pv (gG (gO b x R 4) k) k)) k (gSw (gG (gO b x R 4) k) k (pv (gG (gO b x R 4) k) k) (k * 5 + k))) k o (o * 5 + k)) p) ((o * 5) + p))) ^^^ (nI (gm ((gEl (gSc (gSw (gG (gO b x R 4) k) k (pv (gG (gO b x R 4) k) k)) k (gSw (gG (gO b x R 4) k) k (pv (gG (gO b x R 4) k) k) (k * 5 + k))) k o) ((o * 5) + k)) ((adl (gEl (gSc (gSw (gG (gO b x R 4) k) k (pv (gG (gO b x R 4) k) k)) k (gSw (gG (gO b x R 4) k) k (pv (gG (gO b x R 4) k) k) (k * 5 + k))) k o) k o (gEl (gSc (gSw (gG (gO b x R 4) k) k (pv (gG (gO b x R 4) k) k)) k (gSw (gG (gO b x R 4) k) k (pv (gG (gO b x R 4) k) k) (k * 5 + k))) k o (o * 5 + k)) p) ((k * 5) + p))))), .int (nI ((o * 5) + p)), .ref (ad 11)] rfl ?_
                                      refine g_nm (lv' := [(0, .ref (ad 0)), (1, .ref wa), (2, .int (nI b)), (3, .int (nI (pcn b 15))), (4, .int (nI 5)), (5, .int (nI k)), (6, .int (nI (pv (gG (gO b x R 4) k) k))), (7, .int (nI ((gSw (gG (gO b x R 4) k) k (pv (gG (gO b x R 4) k) k)) ((k * 5) + k)))), (8, .int (nI o)), (9, .int (nI ((gEl (gSc (gSw (gG (gO b x R 4) k) k (pv (gG (gO b x R 4) k) k)) k (gSw (gG (gO b x R 4) k) k (pv (gG (gO b x R 4) k) k) (k * 5 + k))) k o) ((o * 5) + k)))), (10, .int (nI p))]) (st' := [.int (nI (((adl (gEl (gSc (gSw (gG (gO b x R 4) k) k (pv (gG (gO b x R 4) k) k)) k (gSw (gG (gO b x R 4) k) k (pv (gG (gO b x R 4) k) k) (k * 5 + k))) k o) k o (gEl (gSc (gSw (gG (gO b x R 4) k) k (pv (gG (gO b x R 4) k) k)) k (gSw (gG (gO b x R 4) k) k (pv (gG (gO b x R 4) k) k) (k * 5 + k))) k o (o * 5 + k)) p) ((o * 5) + p)) ^^^ (gm ((gEl (gSc (gSw (gG (gO b x R 4) k) k (pv (gG (gO b x R 4) k) k)) k (gSw (gG (gO b x R 4) k) k (pv (gG (gO b x R 4) k) k) (k * 5 + k))) k o) ((o * 5) + k)) ((adl (gEl (gSc (gSw (gG (gO b x R 4) k) k (pv (gG (gO b x R 4) k) k)) k (gSw (gG (gO b x R 4) k) k (pv (gG (gO b x R 4) k) k) (k * 5 + k))) k o) k o (gEl (gSc (gSw (gG (gO b x R 4) k) k (pv (gG (gO b x R 4) k) k)) k (gSw (gG (gO b x R 4) k) k (pv (gG (gO b x R 4) k) k) (k * 5 + k))) k o (o * 5 + k)) p) ((k * 5) + p))))), .int (nI ((o * 5) + p)), .ref (ad 11)]) (by simp only [nx_xor]) (by simp only [nx_xor]) ?_
                                      refine g_iast X (ws' := WM ad g I L S (z4 Z (un (adl (gEl (gSc (gSw (gG (gO b x R 4) k) k (pv (gG (gO b x R 4) k) k)) k (gSw (gG (gO b x R 4) k) k (pv (gG (gO b x R 4) k) k) (k * 5 + k))) k o) k o (gEl (gSc (gSw (gG (gO b x R 4) k) k (pv (gG (gO b x R 4) k) k)) k (gSw (gG (gO b x R 4) k) k (pv (gG (gO b x R 4) k) k) (k * 5 + k))) k o (o * 5 + k)) p) ((o * 5) + p) (((adl (gEl (gSc (gSw (gG (gO b x R 4) k) k (pv (gG (gO b x R 4) k) k)) k (gSw (gG (gO b x R 4) k) k (pv (gG (gO b x R 4) k) k) (k * 5 + k))) k o) k o (gEl (gSc (gSw (gG (gO b x R 4) k) k (pv (gG (gO b x R 4) k) k)) k (gSw (gG (gO b x R 4) k) k (pv (gG (gO b x R 4) k) k) (k * 5 + k))) k o (o * 5 + k)) p) ((o * 5) + p)) ^^^ (gm ((gEl (gSc (gSw (gG (gO b x R 4) k) k (pv (gG (gO b x R 4) k) k)) k (gSw (gG (gO b x R 4) k) k (pv (gG (gO b x R 4) k) k) (k * 5 + k))) k o) ((o * 5) + k)) ((adl (gEl (gSc (gSw (gG (gO b x R 4) k) k (pv (gG (gO b x R 4) k) k)) k (gSw (gG (gO b x R 4) k) k (pv (gG (gO b x R 4) k) k) (k * 5 + k))) k o) k o (gEl (gSc (gSw (gG (gO b x R 4) k) k (pv (gG (gO b x R 4) k) k)) k (gSw (gG (gO b x R 4) k) k (pv (gG (gO b x R 4) k) k) (k * 5 + k))) k o (o * 5 + k)) p) ((k * 5) + p))))) (wrf b (Z 1) 15) (Z 2)) Y ++ []) 0 rfl 11 (wm_get (k := 11) (by decide)) ((o * 5) + p) rfl (by omega) (by decide) (wm_z0) dX9_solve_374 ?_
                                      refine g_run X KX9_solve_375_50 KX9_solve_375_50_d 333 [(10, .int ((nI p) + (nI 1))), (0, .ref (ad 0)), (1, .ref wa), (2, .int (nI b)), (3, .int (nI (pcn b 15))), (4, .int (nI 5)), (5, .int (nI k)), (6, .int (nI (pv (gG (gO b x R 4) k) k))), (7, .int (nI ((gSw (gG (gO b x R 4) k) k (pv (gG (gO b x R 4) k) k)) ((k * 5) + k)))), (8, .int (nI o)), (9, .int (nI ((gEl (gSc (gSw (gG (gO b x R 4) k) k (pv (gG (gO b x R 4) k) k)) k (gSw (gG (gO b x R 4) k) k (pv (gG (gO b x R 4) k) k) (k * 5 + k))) k o) ((o * 5) + k))))] [] rfl ?_
                                      refine g_nm (lv' := [(10, .int (nI (p + 1))), (0, .ref (ad 0)), (1, .ref wa), (2, .int (nI b)), (3, .int (nI (pcn b 15))), (4, .int (nI 5)), (5, .int (nI k)), (6, .int (nI (pv (gG (gO b x R 4) k) k))), (7, .int (nI ((gSw (gG (gO b x R 4) k) k (pv (gG (gO b x R 4) k) k)) ((k * 5) + k)))), (8, .int (nI o)), (9, .int (nI ((gEl (gSc (gSw (gG (gO b x R 4) k) k (pv (gG (gO b x R 4) k) k)) k (gSw (gG (gO b x R 4) k) k (pv (gG (gO b x R 4) k) k) (k * 5 + k))) k o) ((o * 5) + k))))]) (st' := []) (by simp only [nI_add]) (by simp only [nI_add]) ?_
                                      refine g_lv (lv' := [(0, .ref (ad 0)), (1, .ref wa), (2, .int (nI b)), (3, .int (nI (pcn b 15))), (4, .int (nI 5)), (5, .int (nI k)), (6, .int (nI (pv (gG (gO b x R 4) k) k))), (7, .int (nI ((gSw (gG (gO b x R 4) k) k (pv (gG (gO b x R 4) k) k)) ((k * 5) + k)))), (8, .int (nI o)), (9, .int (nI ((gEl (gSc (gSw (gG (gO b x R 4) k) k (pv (gG (gO b x R 4) k) k)) k (gSw (gG (gO b x R 4) k) k (pv (gG (gO b x R 4) k) k) (k * 5 + k))) k o) ((o * 5) + k)))), (10, .int (nI (p + 1)))]) (lsub_c 1 rfl (lsub_c 2 rfl (lsub_c 3 rfl (lsub_c 4 rfl (lsub_c 5 rfl (lsub_c 6 rfl (lsub_c 7 rfl (lsub_c 8 rfl (lsub_c 9 rfl (lsub_c 10 rfl (lsub_c 0 rfl (lsub_n)))))))))))) ?_
                                      refine g_cs (ws' := WM ad g I L S (z4 Z (adl (gEl (gSc (gSw (gG (gO b x R 4) k) k (pv (gG (gO b x R 4) k) k)) k (gSw (gG (gO b x R 4) k) k (pv (gG (gO b x R 4) k) k) (k * 5 + k))) k o) k o (gEl (gSc (gSw (gG (gO b x R 4) k) k (pv (gG (gO b x R 4) k) k)) k (gSw (gG (gO b x R 4) k) k (pv (gG (gO b x R 4) k) k) (k * 5 + k))) k o (o * 5 + k)) (p + 1)) (wrf b (Z 1) 15) (Z 2)) Y ++ []) (lv' := [(0, .ref (ad 0)), (1, .ref wa), (2, .int (nI b)), (3, .int (nI (pcn b 15))), (4, .int (nI 5)), (5, .int (nI k)), (6, .int (nI (pv (gG (gO b x R 4) k) k))), (7, .int (nI ((gSw (gG (gO b x R 4) k) k (pv (gG (gO b x R 4) k) k)) ((k * 5) + k)))), (8, .int (nI o)), (9, .int (nI ((gEl (gSc (gSw (gG (gO b x R 4) k) k (pv (gG (gO b x R 4) k) k)) k (gSw (gG (gO b x R 4) k) k (pv (gG (gO b x R 4) k) k) (k * 5 + k))) k o) ((o * 5) + k)))), (10, .int (nI (p + 1)))]) (by rw [adl]) (rfl) ?_
                                      exact k333
                                · rw [nz_eq (by have := gEl_16 (k := k) hB16 o (o * 5 + k); omega)] at hc16; have hot := hc16
                                  refine g_run X KX9_solve_327_51 KX9_solve_327_51_d 294 [(8, .int ((nI o) + (nI 1))), (9, .int (nI ((gEl (gSc (gSw (gG (gO b x R 4) k) k (pv (gG (gO b x R 4) k) k)) k (gSw (gG (gO b x R 4) k) k (pv (gG (gO b x R 4) k) k) (k * 5 + k))) k o) ((o * 5) + k)))), (0, .ref (ad 0)), (1, .ref wa), (2, .int (nI b)), (3, .int (nI (pcn b 15))), (4, .int (nI 5)), (5, .int (nI k)), (6, .int (nI (pv (gG (gO b x R 4) k) k))), (7, .int (nI ((gSw (gG (gO b x R 4) k) k (pv (gG (gO b x R 4) k) k)) ((k * 5) + k))))] [] rfl ?_
                                  refine g_nm (lv' := [(8, .int (nI (o + 1))), (9, .int (nI ((gEl (gSc (gSw (gG (gO b x R 4) k) k (pv (gG (gO b x R 4) k) k)) k (gSw (gG (gO b x R 4) k) k (pv (gG (gO b x R 4) k) k) (k * 5 + k))) k o) ((o * 5) + k)))), (0, .ref (ad 0)), (1, .ref wa), (2, .int (nI b)), (3, .int (nI (pcn b 15))), (4, .int (nI 5)), (5, .int (nI k)), (6, .int (nI (pv (gG (gO b x R 4) k) k))), (7, .int (nI ((gSw (gG (gO b x R 4) k) k (pv (gG (gO b x R 4) k) k)) ((k * 5) + k))))]) (st' := []) (by simp only [nI_add]) (by simp only [nI_add]) ?_
                                  refine g_lv (lv' := [(0, .ref (ad 0)), (1, .ref wa), (2, .int (nI b)), (3, .int (nI (pcn b 15))), (4, .int (nI 5)), (5, .int (nI k)), (6, .int (nI (pv (gG (gO b x R 4) k) k))), (7, .int (nI ((gSw (gG (gO b x R 4) k) k (pv (gG (gO b x R 4) k) k)) ((k * 5) + k)))), (8, .int (nI (o + 1)))]) (lsub_c 2 rfl (lsub_c 3 rfl (lsub_c 4 rfl (lsub_c 5 rfl (lsub_c 6 rfl (lsub_c 7 rfl (lsub_c 8 rfl (lsub_c 9 rfl (lsub_c 0 rfl (lsub_n)))))))))) ?_
                                  refine g_cs (ws' := WM ad g I L S (z4 Z (gEl (gSc (gSw (gG (gO b x R 4) k) k (pv (gG (gO b x R 4) k) k)) k (gSw (gG (gO b x R 4) k) k (pv (gG (gO b x R 4) k) k) (k * 5 + k))) k (o + 1)) (wrf b (Z 1) 15) (Z 2)) Y ++ []) (lv' := [(0, .ref (ad 0)), (1, .ref wa), (2, .int (nI b)), (3, .int (nI (pcn b 15))), (4, .int (nI 5)), (5, .int (nI k)), (6, .int (nI (pv (gG (gO b x R 4) k) k))), (7, .int (nI ((gSw (gG (gO b x R 4) k) k (pv (gG (gO b x R 4) k) k)) ((k * 5) + k)))), (8, .int (nI (o + 1)))]) (by first | rw [gEl, if_pos (Or.inl hok1)] | rw [gEl, if_pos (Or.inr hot)] | rw [gEl, if_neg (fun z => z.elim hok2 hon), adl_5 _ _ _ _ hok2]) (rfl) ?_
                                  exact k294
                        · rw [nI_leI (by omega) (by omega)] at hc12; first | omega | (simp at hc12)
                      · intro p hp k246
                        refine g_run X KX9_solve_246_34 KX9_solve_246_34_d 250 [(0, .ref (ad 0)), (1, .ref wa), (2, .int (nI b)), (3, .int (nI (pcn b 15))), (4, .int (nI 5)), (5, .int (nI k)), (6, .int (nI (pv (gG (gO b x R 4) k) k))), (7, .int (nI ((gSw (gG (gO b x R 4) k) k (pv (gG (gO b x R 4) k) k)) ((k * 5) + k)))), (8, .int (nI p))] [.int (nI 5), .int (nI p)] rfl ?_
                        refine g_icmp_ge X 291 dX9_solve_250 (by decide) (fun hc20 => ?_) (fun hc20 => ?_)
                        · rw [nI_leI (by omega) (by omega)] at hc20; first | omega | (simp at hc20)
                        · refine g_run X KX9_solve_253_52 KX9_solve_253_52_d 254 [(0, .ref (ad 0)), (1, .ref wa), (2, .int (nI b)), (3, .int (nI (pcn b 15))), (4, .int (nI 5)), (5, .int (nI k)), (6, .int (nI (pv (gG (gO b x R 4) k) k))), (7, .int (nI ((gSw (gG (gO b x R 4) k) k (pv (gG (gO b x R 4) k) k)) ((k * 5) + k)))), (8, .int (nI p))] [.ref (ad 0)] rfl ?_
                          refine g_get X srcW (v := .ref (ad 11)) hinX9 rfl 19 (by decide) w_1199 rfl (wm_mem (k := 0) (by decide)) rfl dX9_solve_254 ?_
                          refine g_run X KX9_solve_257_53 KX9_solve_257_53_d 267 [(0, .ref (ad 0)), (1, .ref wa), (2, .int (nI b)), (3, .int (nI (pcn b 15))), (4, .int (nI 5)), (5, .int (nI k)), (6, .int (nI (pv (gG (gO b x R 4) k) k))), (7, .int (nI ((gSw (gG (gO b x R 4) k) k (pv (gG (gO b x R 4) k) k)) ((k * 5) + k)))), (8, .int (nI p))] [.ref (ad 0), .ref (ad 0), .int (((nI k) * (nI 5)) + (nI p)), .ref (ad 11)] rfl ?_
                          refine g_nm (lv' := [(0, .ref (ad 0)), (1, .ref wa), (2, .int (nI b)), (3, .int (nI (pcn b 15))), (4, .int (nI 5)), (5, .int (nI k)), (6, .int (nI (pv (gG (gO b x R 4) k) k))), (7, .int (nI ((gSw (gG (gO b x R 4) k) k (pv (gG (gO b x R 4) k) k)) ((k * 5) + k)))), (8, .int (nI p))]) (st' := [.ref (ad 0), .ref (ad 0), .int (nI ((k * 5) + p)), .ref (ad 11)]) (by simp only [nI_add, pk_mul]) (by simp only [nI_add, pk_mul]) ?_
                          refine g_get X srcW (v := .ref (ad 11)) hinX9 rfl 19 (by decide) w_1199 rfl (wm_mem (k := 0) (by decide)) rfl dX9_solve_267 ?_
                          refine g_run X KX9_solve_270_54 KX9_solve_270_54_d 278 [(0, .ref (ad 0)), (1, .ref wa), (2, .int (nI b)), (3, .int (nI (pcn b 15))), (4, .int (nI 5)), (5, .int (nI k)), (6, .int (nI (pv (gG (gO b x R 4) k) k))), (7, .int (nI ((gSw (gG (gO b x R 4) k) k (pv (gG (gO b x R 4) k) k)) ((k * 5) + k)))), (8, .int (nI p))] [.int (((nI k) * (nI 5)) + (nI p)), .ref (ad 11), .ref (ad 0), .int (nI ((k * 5) + p)), .ref (ad 11)] rfl ?_
                          refine g_nm (lv' := [(0, .ref (ad 0)), (1, .ref wa), (2, .int (nI b)), (3, .int (nI (pcn b 15))), (4, .int (nI 5)), (5, .int (nI k)), (6, .int (nI (pv (gG (gO b x R 4) k) k))), (7, .int (nI ((gSw (gG (gO b x R 4) k) k (pv (gG (gO b x R 4) k) k)) ((k * 5) + k)))), (8, .int (nI p))]) (st' := [.int (nI ((k * 5) + p)), .ref (ad 11), .ref (ad 0), .int (nI ((k * 5) + p)), .ref (ad 11)]) (by simp only [nI_add, pk_mul]) (by simp only [nI_add, pk_mul]) ?_
                          refine g_iald X srcW (v := nI ((scl (gSw (gG (gO b x R 4) k) k (pv (gG (gO b x R 4) k) k)) k (gSw (gG (gO b x R 4) k) k (pv (gG (gO b x R 4) k) k) (k * 5 + k)) p) ((k * 5) + p))) 0 rfl (wm_mem (k := 11) (by decide)) ((k * 5) + p) rfl (by omega) (by decide) (rfl) dX9_solve_278 ?_
                          refine g_run X KX9_solve_279_55 KX9_solve_279_55_d 281 [(0, .ref (ad 0)), (1, .ref wa), (2, .int (nI b)), (3, .int (nI (pcn b 15))), (4, .int (nI 5)), (5, .int (nI k)), (6, .int (nI (pv (gG (gO b x R 4) k) k))), (7, .int (nI ((gSw (gG (gO b x R 4) k) k (pv (gG (gO b x R 4) k) k)) ((k * 5) + k)))), (8, .int (nI p))] [.int (nI ((gSw (gG (gO b x R 4) k) k (pv (gG (gO b x R 4) k) k)) ((k * 5) + k))), .int (nI ((scl (gSw (gG (gO b x R 4) k) k (pv (gG (gO b x R 4) k) k)) k (gSw (gG (gO b x R 4) k) k (pv (gG (gO b x R 4) k) k) (k * 5 + k)) p) ((k * 5) + p))), .ref (ad 0), .int (nI ((k * 5) + p)), .ref (ad 11)] rfl ?_
                          refine g_callV X hSB hAf (srcW) (hrc1 := (rfl : CL[8]? = some _)) (wm_mem (k := 0) (by decide)) rfl (As := [.int (nI ((scl (gSw (gG (gO b x R 4) k) k (pv (gG (gO b x R 4) k) k)) k (gSw (gG (gO b x R 4) k) k (pv (gG (gO b x R 4) k) k) (k * 5 + k)) p) ((k * 5) + p))), .int (nI ((gSw (gG (gO b x R 4) k) k (pv (gG (gO b x R 4) k) k)) ((k * 5) + k)))]) (wr := []) (n := 2) (c_X9_over l D g ad I L S (z4 Z (scl (gSw (gG (gO b x R 4) k) k (pv (gG (gO b x R 4) k) k)) k (gSw (gG (gO b x R 4) k) k (pv (gG (gO b x R 4) k) k) (k * 5 + k)) p) (wrf b (Z 1) 15) (Z 2)) Y ((scl (gSw (gG (gO b x R 4) k) k (pv (gG (gO b x R 4) k) k)) k (gSw (gG (gO b x R 4) k) k (pv (gG (gO b x R 4) k) k) (k * 5 + k)) p) ((k * 5) + p)) ((gSw (gG (gO b x R 4) k) k (pv (gG (gO b x R 4) k) k)) ((k * 5) + k)) (scl_16 (gSw_16 hG16) _ _) (gSw_16 hG16 _) (by rw [sw_kk (by omega)]; exact hP.2)) rfl srcN hrdN w_1304 w_1301 w_1303 w_s20 w_6 (by decide +kernel) rfl ⟨Nat.le_of_ble_eq_true rfl, Nat.le_of_ble_eq_true rfl⟩ rfl rfl rfl (Nat.le_of_ble_eq_true rfl) ⟨Nat.le_of_ble_eq_true rfl, Nat.le_of_ble_eq_true rfl⟩ dX9_solve_281 (fun hu21 _ => ?_)
                          refine g_af (ws' := WM ad g I L S (z4 Z (scl (gSw (gG (gO b x R 4) k) k (pv (gG (gO b x R 4) k) k)) k (gSw (gG (gO b x R 4) k) k (pv (gG (gO b x R 4) k) k) (k * 5 + k)) p) (wrf b (Z 1) 15) (Z 2)) Y ++ []) (st' := [.int (nI (gq ((scl (gSw (gG (gO b x R 4) k) k (pv (gG (gO b x R 4) k) k)) k (gSw (gG (gO b x R 4) k) k (pv (gG (gO b x R 4) k) k) (k * 5 + k)) p) ((k * 5) + p)) ((gSw (gG (gO b x R 4) k) k (pv (gG (gO b x R 4) k) k)) ((k * 5) + k)))), .int (nI ((k * 5) + p)), .ref (ad 11)]) (cells' := 0) (slots' := 0) (pc' := 284) rfl rfl rfl rfl rfl ?_
                          refine g_iast X (ws' := WM ad g I L S (z4 Z (un (scl (gSw (gG (gO b x R 4) k) k (pv (gG (gO b x R 4) k) k)) k (gSw (gG (gO b x R 4) k) k (pv (gG (gO b x R 4) k) k) (k * 5 + k)) p) ((k * 5) + p) (gq ((scl (gSw (gG (gO b x R 4) k) k (pv (gG (gO b x R 4) k) k)) k (gSw (gG (gO b x R 4) k) k (pv (gG (gO b x R 4) k) k) (k * 5 + k)) p) ((k * 5) + p)) ((gSw (gG (gO b x R 4) k) k (pv (gG (gO b x R 4) k) k)) ((k * 5) + k)))) (wrf b (Z 1) 15) (Z 2)) Y ++ []) 0 rfl 11 (wm_get (k := 11) (by decide)) ((k * 5) + p) rfl (by omega) (by decide) (wm_z0) dX9_solve_284 ?_
                          refine g_run X KX9_solve_285_56 KX9_solve_285_56_d 246 [(8, .int ((nI p) + (nI 1))), (0, .ref (ad 0)), (1, .ref wa), (2, .int (nI b)), (3, .int (nI (pcn b 15))), (4, .int (nI 5)), (5, .int (nI k)), (6, .int (nI (pv (gG (gO b x R 4) k) k))), (7, .int (nI ((gSw (gG (gO b x R 4) k) k (pv (gG (gO b x R 4) k) k)) ((k * 5) + k))))] [] rfl ?_
                          refine g_nm (lv' := [(8, .int (nI (p + 1))), (0, .ref (ad 0)), (1, .ref wa), (2, .int (nI b)), (3, .int (nI (pcn b 15))), (4, .int (nI 5)), (5, .int (nI k)), (6, .int (nI (pv (gG (gO b x R 4) k) k))), (7, .int (nI ((gSw (gG (gO b x R 4) k) k (pv (gG (gO b x R 4) k) k)) ((k * 5) + k))))]) (st' := []) (by simp only [nI_add]) (by simp only [nI_add]) ?_
                          refine g_lv (lv' := [(0, .ref (ad 0)), (1, .ref wa), (2, .int (nI b)), (3, .int (nI (pcn b 15))), (4, .int (nI 5)), (5, .int (nI k)), (6, .int (nI (pv (gG (gO b x R 4) k) k))), (7, .int (nI ((gSw (gG (gO b x R 4) k) k (pv (gG (gO b x R 4) k) k)) ((k * 5) + k)))), (8, .int (nI (p + 1)))]) (lsub_c 1 rfl (lsub_c 2 rfl (lsub_c 3 rfl (lsub_c 4 rfl (lsub_c 5 rfl (lsub_c 6 rfl (lsub_c 7 rfl (lsub_c 8 rfl (lsub_c 0 rfl (lsub_n)))))))))) ?_
                          refine g_cs (ws' := WM ad g I L S (z4 Z (scl (gSw (gG (gO b x R 4) k) k (pv (gG (gO b x R 4) k) k)) k (gSw (gG (gO b x R 4) k) k (pv (gG (gO b x R 4) k) k) (k * 5 + k)) (p + 1)) (wrf b (Z 1) 15) (Z 2)) Y ++ []) (lv' := [(0, .ref (ad 0)), (1, .ref wa), (2, .int (nI b)), (3, .int (nI (pcn b 15))), (4, .int (nI 5)), (5, .int (nI k)), (6, .int (nI (pv (gG (gO b x R 4) k) k))), (7, .int (nI ((gSw (gG (gO b x R 4) k) k (pv (gG (gO b x R 4) k) k)) ((k * 5) + k)))), (8, .int (nI (p + 1)))]) (by rw [scl]) (rfl) ?_
                          exact k246
                    · rw [nI_leI (by omega) (by omega)] at hc11; first | omega | (simp at hc11)
                  · intro p hp k159
                    refine g_run X KX9_solve_159_30 KX9_solve_159_30_d 163 [(0, .ref (ad 0)), (1, .ref wa), (2, .int (nI b)), (3, .int (nI (pcn b 15))), (4, .int (nI 5)), (5, .int (nI k)), (6, .int (nI (pv (gG (gO b x R 4) k) k))), (7, .int (nI p))] [.int (nI 5), .int (nI p)] rfl ?_
                    refine g_icmp_ge X 228 dX9_solve_163 (by decide) (fun hc22 => ?_) (fun hc22 => ?_)
                    · rw [nI_leI (by omega) (by omega)] at hc22; first | omega | (simp at hc22)
                    · refine g_run X KX9_solve_166_57 KX9_solve_166_57_d 167 [(0, .ref (ad 0)), (1, .ref wa), (2, .int (nI b)), (3, .int (nI (pcn b 15))), (4, .int (nI 5)), (5, .int (nI k)), (6, .int (nI (pv (gG (gO b x R 4) k) k))), (7, .int (nI p))] [.ref (ad 0)] rfl ?_
                      refine g_get X srcW (v := .ref (ad 11)) hinX9 rfl 19 (by decide) w_1199 rfl (wm_mem (k := 0) (by decide)) rfl dX9_solve_167 ?_
                      refine g_run X KX9_solve_170_58 KX9_solve_170_58_d 178 [(0, .ref (ad 0)), (1, .ref wa), (2, .int (nI b)), (3, .int (nI (pcn b 15))), (4, .int (nI 5)), (5, .int (nI k)), (6, .int (nI (pv (gG (gO b x R 4) k) k))), (7, .int (nI p))] [.int (((nI (pv (gG (gO b x R 4) k) k)) * (nI 5)) + (nI p)), .ref (ad 11)] rfl ?_
                      refine g_nm (lv' := [(0, .ref (ad 0)), (1, .ref wa), (2, .int (nI b)), (3, .int (nI (pcn b 15))), (4, .int (nI 5)), (5, .int (nI k)), (6, .int (nI (pv (gG (gO b x R 4) k) k))), (7, .int (nI p))]) (st' := [.int (nI (((pv (gG (gO b x R 4) k) k) * 5) + p)), .ref (ad 11)]) (by simp only [nI_add, pk_mul]) (by simp only [nI_add, pk_mul]) ?_
                      refine g_iald X srcW (v := nI ((swp (gG (gO b x R 4) k) k (pv (gG (gO b x R 4) k) k) p) (((pv (gG (gO b x R 4) k) k) * 5) + p))) 0 rfl (wm_mem (k := 11) (by decide)) (((pv (gG (gO b x R 4) k) k) * 5) + p) rfl (by omega) (by decide) (rfl) dX9_solve_178 ?_
                      refine g_run X KX9_solve_179_59 KX9_solve_179_59_d 182 [(8, .int (nI ((swp (gG (gO b x R 4) k) k (pv (gG (gO b x R 4) k) k) p) (((pv (gG (gO b x R 4) k) k) * 5) + p)))), (0, .ref (ad 0)), (1, .ref wa), (2, .int (nI b)), (3, .int (nI (pcn b 15))), (4, .int (nI 5)), (5, .int (nI k)), (6, .int (nI (pv (gG (gO b x R 4) k) k))), (7, .int (nI p))] [.ref (ad 0)] rfl ?_
                      refine g_get X srcW (v := .ref (ad 11)) hinX9 rfl 19 (by decide) w_1199 rfl (wm_mem (k := 0) (by decide)) rfl dX9_solve_182 ?_
                      refine g_run X KX9_solve_185_60 KX9_solve_185_60_d 194 [(8, .int (nI ((swp (gG (gO b x R 4) k) k (pv (gG (gO b x R 4) k) k) p) (((pv (gG (gO b x R 4) k) k) * 5) + p)))), (0, .ref (ad 0)), (1, .ref wa), (2, .int (nI b)), (3, .int (nI (pcn b 15))), (4, .int (nI 5)), (5, .int (nI k)), (6, .int (nI (pv (gG (gO b x R 4) k) k))), (7, .int (nI p))] [.ref (ad 0), .int (((nI (pv (gG (gO b x R 4) k) k)) * (nI 5)) + (nI p)), .ref (ad 11)] rfl ?_
                      refine g_nm (lv' := [(8, .int (nI ((swp (gG (gO b x R 4) k) k (pv (gG (gO b x R 4) k) k) p) (((pv (gG (gO b x R 4) k) k) * 5) + p)))), (0, .ref (ad 0)), (1, .ref wa), (2, .int (nI b)), (3, .int (nI (pcn b 15))), (4, .int (nI 5)), (5, .int (nI k)), (6, .int (nI (pv (gG (gO b x R 4) k) k))), (7, .int (nI p))]) (st' := [.ref (ad 0), .int (nI (((pv (gG (gO b x R 4) k) k) * 5) + p)), .ref (ad 11)]) (by simp only [nI_add, pk_mul]) (by simp only [nI_add, pk_mul]) ?_
                      refine g_get X srcW (v := .ref (ad 11)) hinX9 rfl 19 (by decide) w_1199 rfl (wm_mem (k := 0) (by decide)) rfl dX9_solve_194 ?_
                      refine g_run X KX9_solve_197_61 KX9_solve_197_61_d 205 [(8, .int (nI ((swp (gG (gO b x R 4) k) k (pv (gG (gO b x R 4) k) k) p) (((pv (gG (gO b x R 4) k) k) * 5) + p)))), (0, .ref (ad 0)), (1, .ref wa), (2, .int (nI b)), (3, .int (nI (pcn b 15))), (4, .int (nI 5)), (5, .int (nI k)), (6, .int (nI (pv (gG (gO b x R 4) k) k))), (7, .int (nI p))] [.int (((nI k) * (nI 5)) + (nI p)), .ref (ad 11), .int (nI (((pv (gG (gO b x R 4) k) k) * 5) + p)), .ref (ad 11)] rfl ?_
                      refine g_nm (lv' := [(8, .int (nI ((swp (gG (gO b x R 4) k) k (pv (gG (gO b x R 4) k) k) p) (((pv (gG (gO b x R 4) k) k) * 5) + p)))), (0, .ref (ad 0)), (1, .ref wa), (2, .int (nI b)), (3, .int (nI (pcn b 15))), (4, .int (nI 5)), (5, .int (nI k)), (6, .int (nI (pv (gG (gO b x R 4) k) k))), (7, .int (nI p))]) (st' := [.int (nI ((k * 5) + p)), .ref (ad 11), .int (nI (((pv (gG (gO b x R 4) k) k) * 5) + p)), .ref (ad 11)]) (by simp only [nI_add, pk_mul]) (by simp only [nI_add, pk_mul]) ?_
                      refine g_iald X srcW (v := nI ((swp (gG (gO b x R 4) k) k (pv (gG (gO b x R 4) k) k) p) ((k * 5) + p))) 0 rfl (wm_mem (k := 11) (by decide)) ((k * 5) + p) rfl (by omega) (by decide) (rfl) dX9_solve_205 ?_
                      refine g_iast X (ws' := WM ad g I L S (z4 Z (un (swp (gG (gO b x R 4) k) k (pv (gG (gO b x R 4) k) k) p) (((pv (gG (gO b x R 4) k) k) * 5) + p) ((swp (gG (gO b x R 4) k) k (pv (gG (gO b x R 4) k) k) p) ((k * 5) + p))) (wrf b (Z 1) 15) (Z 2)) Y ++ []) 0 rfl 11 (wm_get (k := 11) (by decide)) (((pv (gG (gO b x R 4) k) k) * 5) + p) rfl (by omega) (by decide) (wm_z0) dX9_solve_206 ?_
                      refine g_run X KX9_solve_207_62 KX9_solve_207_62_d 208 [(8, .int (nI ((swp (gG (gO b x R 4) k) k (pv (gG (gO b x R 4) k) k) p) (((pv (gG (gO b x R 4) k) k) * 5) + p)))), (0, .ref (ad 0)), (1, .ref wa), (2, .int (nI b)), (3, .int (nI (pcn b 15))), (4, .int (nI 5)), (5, .int (nI k)), (6, .int (nI (pv (gG (gO b x R 4) k) k))), (7, .int (nI p))] [.ref (ad 0)] rfl ?_
                      refine g_get X srcW (v := .ref (ad 11)) hinX9 rfl 19 (by decide) w_1199 rfl (wm_mem (k := 0) (by decide)) rfl dX9_solve_208 ?_
                      refine g_run X KX9_solve_211_63 KX9_solve_211_63_d 221 [(8, .int (nI ((swp (gG (gO b x R 4) k) k (pv (gG (gO b x R 4) k) k) p) (((pv (gG (gO b x R 4) k) k) * 5) + p)))), (0, .ref (ad 0)), (1, .ref wa), (2, .int (nI b)), (3, .int (nI (pcn b 15))), (4, .int (nI 5)), (5, .int (nI k)), (6, .int (nI (pv (gG (gO b x R 4) k) k))), (7, .int (nI p))] [.int (nI ((swp (gG (gO b x R 4) k) k (pv (gG (gO b x R 4) k) k) p) (((pv (gG (gO b x R 4) k) k) * 5) + p))), .int (((nI k) * (nI 5)) + (nI p)), .ref (ad 11)] rfl ?_
                      refine g_nm (lv' := [(8, .int (nI ((swp (gG (gO b x R 4) k) k (pv (gG (gO b x R 4) k) k) p) (((pv (gG (gO b x R 4) k) k) * 5) + p)))), (0, .ref (ad 0)), (1, .ref wa), (2, .int (nI b)), (3, .int (nI (pcn b 15))), (4, .int (nI 5)), (5, .int (nI k)), (6, .int (nI (pv (gG (gO b x R 4) k) k))), (7, .int (nI p))]) (st' := [.int (nI ((swp (gG (gO b x R 4) k) k (pv (gG (gO b x R 4) k) k) p) (((pv (gG (gO b x R 4) k) k) * 5) + p))), .int (nI ((k * 5) + p)), .ref (ad 11)]) (by simp only [nI_add, pk_mul]) (by simp only [nI_add, pk_mul]) ?_
                      refine g_iast X (ws' := WM ad g I L S (z4 Z (un (un (swp (gG (gO b x R 4) k) k (pv (gG (gO b x R 4) k) k) p) (((pv (gG (gO b x R 4) k) k) * 5) + p) ((swp (gG (gO b x R 4) k) k (pv (gG (gO b x R 4) k) k) p) ((k * 5) + p))) ((k * 5) + p) ((swp (gG (gO b x R 4) k) k (pv (gG (gO b x R 4) k) k) p) (((pv (gG (gO b x R 4) k) k) * 5) + p))) (wrf b (Z 1) 15) (Z 2)) Y ++ []) 0 rfl 11 (wm_get (k := 11) (by decide)) ((k * 5) + p) rfl (by omega) (by decide) (wm_z0) dX9_solve_221 ?_
                      refine g_run X KX9_solve_222_64 KX9_solve_222_64_d 159 [(7, .int ((nI p) + (nI 1))), (8, .int (nI ((swp (gG (gO b x R 4) k) k (pv (gG (gO b x R 4) k) k) p) (((pv (gG (gO b x R 4) k) k) * 5) + p)))), (0, .ref (ad 0)), (1, .ref wa), (2, .int (nI b)), (3, .int (nI (pcn b 15))), (4, .int (nI 5)), (5, .int (nI k)), (6, .int (nI (pv (gG (gO b x R 4) k) k)))] [] rfl ?_
                      refine g_nm (lv' := [(7, .int (nI (p + 1))), (8, .int (nI ((swp (gG (gO b x R 4) k) k (pv (gG (gO b x R 4) k) k) p) (((pv (gG (gO b x R 4) k) k) * 5) + p)))), (0, .ref (ad 0)), (1, .ref wa), (2, .int (nI b)), (3, .int (nI (pcn b 15))), (4, .int (nI 5)), (5, .int (nI k)), (6, .int (nI (pv (gG (gO b x R 4) k) k)))]) (st' := []) (by simp only [nI_add]) (by simp only [nI_add]) ?_
                      refine g_lv (lv' := [(0, .ref (ad 0)), (1, .ref wa), (2, .int (nI b)), (3, .int (nI (pcn b 15))), (4, .int (nI 5)), (5, .int (nI k)), (6, .int (nI (pv (gG (gO b x R 4) k) k))), (7, .int (nI (p + 1)))]) (lsub_c 2 rfl (lsub_c 3 rfl (lsub_c 4 rfl (lsub_c 5 rfl (lsub_c 6 rfl (lsub_c 7 rfl (lsub_c 8 rfl (lsub_c 0 rfl (lsub_n))))))))) ?_
                      refine g_cs (ws' := WM ad g I L S (z4 Z (swp (gG (gO b x R 4) k) k (pv (gG (gO b x R 4) k) k) (p + 1)) (wrf b (Z 1) 15) (Z 2)) Y ++ []) (lv' := [(0, .ref (ad 0)), (1, .ref wa), (2, .int (nI b)), (3, .int (nI (pcn b 15))), (4, .int (nI 5)), (5, .int (nI k)), (6, .int (nI (pv (gG (gO b x R 4) k) k))), (7, .int (nI (p + 1)))]) (by rw [swp]) (rfl) ?_
                      exact k159
                · rw [nz_eq (by have := hG16 ((k + (pv (gG (gO b x R 4) k) k - k)) * 5 + k); omega), show k + (pv (gG (gO b x R 4) k) k - k) = pv (gG (gO b x R 4) k) k by omega] at hc10; exact (hP.2 hc10).elim
              · intro i hi k134
                refine g_run X KX9_solve_134_27 KX9_solve_134_27_d 135 [(0, .ref (ad 0)), (1, .ref wa), (2, .int (nI b)), (3, .int (nI (pcn b 15))), (4, .int (nI 5)), (5, .int (nI k)), (6, .int (nI (k + i)))] [.ref (ad 0)] rfl ?_
                refine g_get X srcW (v := .ref (ad 11)) hinX9 rfl 19 (by decide) w_1199 rfl (wm_mem (k := 0) (by decide)) rfl dX9_solve_135 ?_
                refine g_run X KX9_solve_138_28 KX9_solve_138_28_d 146 [(0, .ref (ad 0)), (1, .ref wa), (2, .int (nI b)), (3, .int (nI (pcn b 15))), (4, .int (nI 5)), (5, .int (nI k)), (6, .int (nI (k + i)))] [.int (((nI (k + i)) * (nI 5)) + (nI k)), .ref (ad 11)] rfl ?_
                refine g_nm (lv' := [(0, .ref (ad 0)), (1, .ref wa), (2, .int (nI b)), (3, .int (nI (pcn b 15))), (4, .int (nI 5)), (5, .int (nI k)), (6, .int (nI (k + i)))]) (st' := [.int (nI (((k + i) * 5) + k)), .ref (ad 11)]) (by simp only [nI_add, pk_mul]) (by simp only [nI_add, pk_mul]) ?_
                refine g_iald X srcW (v := nI ((gG (gO b x R 4) k) (((k + i) * 5) + k))) 0 rfl (wm_mem (k := 11) (by decide)) (((k + i) * 5) + k) rfl (by omega) (by decide) (rfl) dX9_solve_146 ?_
                refine g_if_ne X 156 dX9_solve_147 (by decide) (fun hc23 => ?_) (fun hc23 => ?_)
                · rw [nz_eq (by have := hG16 ((k + i) * 5 + k); omega)] at hc23; exact (hc23 (hpz (k + i) (by omega) (by omega))).elim
                · refine g_run X KX9_solve_150_65 KX9_solve_150_65_d 134 [(6, .int ((nI (k + i)) + (nI 1))), (0, .ref (ad 0)), (1, .ref wa), (2, .int (nI b)), (3, .int (nI (pcn b 15))), (4, .int (nI 5)), (5, .int (nI k))] [] rfl ?_
                  refine g_nm (lv' := [(6, .int (nI ((k + i) + 1))), (0, .ref (ad 0)), (1, .ref wa), (2, .int (nI b)), (3, .int (nI (pcn b 15))), (4, .int (nI 5)), (5, .int (nI k))]) (st' := []) (by simp only [nI_add]) (by simp only [nI_add]) ?_
                  refine g_lv (lv' := [(0, .ref (ad 0)), (1, .ref wa), (2, .int (nI b)), (3, .int (nI (pcn b 15))), (4, .int (nI 5)), (5, .int (nI k)), (6, .int (nI ((k + i) + 1)))]) (lsub_c 1 rfl (lsub_c 2 rfl (lsub_c 3 rfl (lsub_c 4 rfl (lsub_c 5 rfl (lsub_c 6 rfl (lsub_c 0 rfl (lsub_n)))))))) ?_
                  refine g_cs (ws' := WM ad g I L S (z4 Z (gG (gO b x R 4) k) (wrf b (Z 1) 15) (Z 2)) Y ++ []) (lv' := [(0, .ref (ad 0)), (1, .ref wa), (2, .int (nI b)), (3, .int (nI (pcn b 15))), (4, .int (nI 5)), (5, .int (nI k)), (6, .int (nI (k + (i + 1))))]) (rfl) (rfl) ?_
                  exact k134
        · rw [nI_leI (by omega) (by omega)] at hc2; first | omega | (simp at hc2)
      · intro j hj k44
        refine g_run X KX9_solve_44_4 KX9_solve_44_4_d 47 [(0, .ref (ad 0)), (1, .ref wa), (2, .int (nI b)), (3, .int (nI (pcn b 15))), (4, .int (nI 5)), (5, .int (nI j))] [.int (nI 4), .int (nI j)] rfl ?_
        refine g_icmp_ge X 121 dX9_solve_47 (by decide) (fun hc24 => ?_) (fun hc24 => ?_)
        · rw [nI_leI (by omega) (by omega)] at hc24; first | omega | (simp at hc24)
        · refine g_run X KX9_solve_50_66 KX9_solve_50_66_d 53 [(6, .int (nI 0)), (0, .ref (ad 0)), (1, .ref wa), (2, .int (nI b)), (3, .int (nI (pcn b 15))), (4, .int (nI 5)), (5, .int (nI j))] [] rfl ?_
          refine g_lv (lv' := [(0, .ref (ad 0)), (1, .ref wa), (2, .int (nI b)), (3, .int (nI (pcn b 15))), (4, .int (nI 5)), (5, .int (nI j)), (6, .int (nI 0))]) (lsub_c 1 rfl (lsub_c 2 rfl (lsub_c 3 rfl (lsub_c 4 rfl (lsub_c 5 rfl (lsub_c 6 rfl (lsub_c 0 rfl (lsub_n)))))))) ?_
          refine g_for (pcn b 15) (fun k => WM ad g I L S (z4 Z (gI b (gO b x R j) j k) (wrf b (Z 1) 15) (Z 2)) Y ++ []) (fun k => [(0, .ref (ad 0)), (1, .ref wa), (2, .int (nI b)), (3, .int (nI (pcn b 15))), (4, .int (nI 5)), (5, .int (nI j)), (6, .int (nI k))]) (by rw [gI]) (rfl) ?_ ?_
          · refine g_run X KX9_solve_53_67 KX9_solve_53_67_d 56 [(0, .ref (ad 0)), (1, .ref wa), (2, .int (nI b)), (3, .int (nI (pcn b 15))), (4, .int (nI 5)), (5, .int (nI j)), (6, .int (nI (pcn b 15)))] [.int (nI (pcn b 15)), .int (nI (pcn b 15))] rfl ?_
            refine g_icmp_ge X 94 dX9_solve_56 (by decide) (fun hc25 => ?_) (fun hc25 => ?_)
            · refine g_run X KX9_solve_94_68 KX9_solve_94_68_d 95 [(0, .ref (ad 0)), (1, .ref wa), (2, .int (nI b)), (3, .int (nI (pcn b 15))), (4, .int (nI 5)), (5, .int (nI j)), (6, .int (nI (pcn b 15)))] [.ref (ad 0)] rfl ?_
              refine g_get X srcW (v := .ref (ad 11)) hinX9 rfl 19 (by decide) w_1199 rfl (wm_mem (k := 0) (by decide)) rfl dX9_solve_95 ?_
              refine g_run X KX9_solve_98_69 KX9_solve_98_69_d 111 [(0, .ref (ad 0)), (1, .ref wa), (2, .int (nI b)), (3, .int (nI (pcn b 15))), (4, .int (nI 5)), (5, .int (nI j)), (6, .int (nI (pcn b 15)))] [.int ((nI j) + (nI 1)), .ref wa, .ref (ad 0), .int (((nI j) * (nI 5)) + (nI 4)), .ref (ad 11)] rfl ?_
              refine g_nm (lv' := [(0, .ref (ad 0)), (1, .ref wa), (2, .int (nI b)), (3, .int (nI (pcn b 15))), (4, .int (nI 5)), (5, .int (nI j)), (6, .int (nI (pcn b 15)))]) (st' := [.int (nI (j + 1)), .ref wa, .ref (ad 0), .int (nI ((j * 5) + 4)), .ref (ad 11)]) (by simp only [nI_add, pk_mul]) (by simp only [nI_add, pk_mul]) ?_
              refine g_callV X hSB hAf (srcW) (hrc1 := (rfl : CL[8]? = some _)) (wm_mem (k := 0) (by decide)) rfl (As := [.ref wa, .int (nI (j + 1))]) (wr := []) (n := 2) (c_X9_sumOf l D g ad I L S (z4 Z (gI b (gO b x R j) j (pcn b 15)) (wrf b (Z 1) 15) (Z 2)) Y wa x (j + 1) (by omega)) rfl (srcR hRO) (hrdRO hRO rfl) w_1296 w_1293 w_1295 w_s18 w_6 (by decide +kernel) rfl ⟨Nat.le_of_ble_eq_true rfl, Nat.le_of_ble_eq_true rfl⟩ rfl rfl rfl (Nat.le_of_ble_eq_true rfl) ⟨Nat.le_of_ble_eq_true rfl, Nat.le_of_ble_eq_true rfl⟩ dX9_solve_111 (fun hu26 _ => ?_)
              refine g_af (ws' := WM ad g I L S (z4 Z (gI b (gO b x R j) j (pcn b 15)) (wrf b (Z 1) 15) (Z 2)) Y ++ []) (st' := [.int (nI (sm x (j + 1) 15)), .int (nI ((j * 5) + 4)), .ref (ad 11)]) (cells' := 0) (slots' := 0) (pc' := 114) rfl rfl rfl rfl rfl ?_
              refine g_iast X (ws' := WM ad g I L S (z4 Z (un (gI b (gO b x R j) j (pcn b 15)) ((j * 5) + 4) (sm x (j + 1) 15)) (wrf b (Z 1) 15) (Z 2)) Y ++ []) 0 rfl 11 (wm_get (k := 11) (by decide)) ((j * 5) + 4) rfl (by omega) (by decide) (wm_z0) dX9_solve_114 ?_
              refine g_run X KX9_solve_115_70 KX9_solve_115_70_d 44 [(5, .int ((nI j) + (nI 1))), (0, .ref (ad 0)), (1, .ref wa), (2, .int (nI b)), (3, .int (nI (pcn b 15))), (4, .int (nI 5)), (6, .int (nI (pcn b 15)))] [] rfl ?_
              refine g_nm (lv' := [(5, .int (nI (j + 1))), (0, .ref (ad 0)), (1, .ref wa), (2, .int (nI b)), (3, .int (nI (pcn b 15))), (4, .int (nI 5)), (6, .int (nI (pcn b 15)))]) (st' := []) (by simp only [nI_add]) (by simp only [nI_add]) ?_
              refine g_lv (lv' := [(0, .ref (ad 0)), (1, .ref wa), (2, .int (nI b)), (3, .int (nI (pcn b 15))), (4, .int (nI 5)), (5, .int (nI (j + 1)))]) (lsub_c 1 rfl (lsub_c 2 rfl (lsub_c 3 rfl (lsub_c 4 rfl (lsub_c 5 rfl (lsub_c 0 rfl (lsub_n))))))) ?_
              refine g_cs (ws' := WM ad g I L S (z4 Z (gO b x R (j + 1)) (wrf b (Z 1) 15) (Z 2)) Y ++ []) (lv' := [(0, .ref (ad 0)), (1, .ref wa), (2, .int (nI b)), (3, .int (nI (pcn b 15))), (4, .int (nI 5)), (5, .int (nI (j + 1)))]) (by rw [gO]) (rfl) ?_
              exact k44
            · rw [nI_leI (by omega) (by omega)] at hc25; first | omega | (simp at hc25)
          · intro k hk k53
            refine g_run X KX9_solve_53_67 KX9_solve_53_67_d 56 [(0, .ref (ad 0)), (1, .ref wa), (2, .int (nI b)), (3, .int (nI (pcn b 15))), (4, .int (nI 5)), (5, .int (nI j)), (6, .int (nI k))] [.int (nI (pcn b 15)), .int (nI k)] rfl ?_
            refine g_icmp_ge X 94 dX9_solve_56 (by decide) (fun hc27 => ?_) (fun hc27 => ?_)
            · rw [nI_leI (by omega) (by omega)] at hc27; first | omega | (simp at hc27)
            · refine g_run X KX9_solve_59_71 KX9_solve_59_71_d 60 [(0, .ref (ad 0)), (1, .ref wa), (2, .int (nI b)), (3, .int (nI (pcn b 15))), (4, .int (nI 5)), (5, .int (nI j)), (6, .int (nI k))] [.ref (ad 0)] rfl ?_
              refine g_get X srcW (v := .ref (ad 11)) hinX9 rfl 19 (by decide) w_1199 rfl (wm_mem (k := 0) (by decide)) rfl dX9_solve_60 ?_
              refine g_run X KX9_solve_63_72 KX9_solve_63_72_d 73 [(0, .ref (ad 0)), (1, .ref wa), (2, .int (nI b)), (3, .int (nI (pcn b 15))), (4, .int (nI 5)), (5, .int (nI j)), (6, .int (nI k))] [.ref (ad 0), .ref (ad 0), .int (((nI j) * (nI 5)) + (nI k)), .ref (ad 11)] rfl ?_
              refine g_nm (lv' := [(0, .ref (ad 0)), (1, .ref wa), (2, .int (nI b)), (3, .int (nI (pcn b 15))), (4, .int (nI 5)), (5, .int (nI j)), (6, .int (nI k))]) (st' := [.ref (ad 0), .ref (ad 0), .int (nI ((j * 5) + k)), .ref (ad 11)]) (by simp only [nI_add, pk_mul]) (by simp only [nI_add, pk_mul]) ?_
              refine g_get X srcW (v := .ref (ad 12)) hinX9 rfl 20 (by decide) w_1200 rfl (wm_mem (k := 0) (by decide)) rfl dX9_solve_73 ?_
              refine g_run X KX9_solve_76_73 KX9_solve_76_73_d 78 [(0, .ref (ad 0)), (1, .ref wa), (2, .int (nI b)), (3, .int (nI (pcn b 15))), (4, .int (nI 5)), (5, .int (nI j)), (6, .int (nI k))] [.int (nI k), .ref (ad 12), .ref (ad 0), .int (nI ((j * 5) + k)), .ref (ad 11)] rfl ?_
              refine g_iald X srcW (v := nI (pkf b k 15)) 0 rfl (wm_mem (k := 12) (by decide)) k rfl (by omega) (by decide) (hW k (by omega)) dX9_solve_78 ?_
              refine g_run X KX9_solve_79_74 KX9_solve_79_74_d 84 [(0, .ref (ad 0)), (1, .ref wa), (2, .int (nI b)), (3, .int (nI (pcn b 15))), (4, .int (nI 5)), (5, .int (nI j)), (6, .int (nI k))] [.int ((nI (pkf b k 15)) * ((nI j) + (nI 1))), .ref (ad 0), .int (nI ((j * 5) + k)), .ref (ad 11)] rfl ?_
              refine g_nm (lv' := [(0, .ref (ad 0)), (1, .ref wa), (2, .int (nI b)), (3, .int (nI (pcn b 15))), (4, .int (nI 5)), (5, .int (nI j)), (6, .int (nI k))]) (st' := [.int (nI ((pkf b k 15) * (j + 1))), .ref (ad 0), .int (nI ((j * 5) + k)), .ref (ad 11)]) (by simp only [nI_add, pk_mul]) (by simp only [nI_add, pk_mul]) ?_
              refine g_callV X hSB hAf (srcW) (hrc1 := (rfl : CL[8]? = some _)) (wm_mem (k := 0) (by decide)) rfl (As := [.int (nI ((pkf b k 15) * (j + 1)))]) (wr := []) (n := 1) (c_X9_powerOf l D g ad I L S (z4 Z (gI b (gO b x R j) j k) (wrf b (Z 1) 15) (Z 2)) Y ((pkf b k 15) * (j + 1)) (Nat.lt_trans (Nat.mul_lt_mul'' (pk_ok 15 (show k < pcn b 15 by omega)).1 (show j + 1 < 5 by omega)) (by decide))) rfl srcN hrdN w_1292 w_1289 w_1291 w_s17 w_6 (by decide +kernel) rfl ⟨Nat.le_of_ble_eq_true rfl, Nat.le_of_ble_eq_true rfl⟩ rfl rfl rfl (Nat.le_of_ble_eq_true rfl) ⟨Nat.le_of_ble_eq_true rfl, Nat.le_of_ble_eq_true rfl⟩ dX9_solve_84 (fun hu28 _ => ?_)
              refine g_af (ws' := WM ad g I L S (z4 Z (gI b (gO b x R j) j k) (wrf b (Z 1) 15) (Z 2)) Y ++ []) (st' := [.int (nI (pw (((pkf b k 15) * (j + 1)) % 15))), .int (nI ((j * 5) + k)), .ref (ad 11)]) (cells' := 0) (slots' := 0) (pc' := 87) rfl rfl rfl rfl rfl ?_
              refine g_iast X (ws' := WM ad g I L S (z4 Z (un (gI b (gO b x R j) j k) ((j * 5) + k) (pw (((pkf b k 15) * (j + 1)) % 15))) (wrf b (Z 1) 15) (Z 2)) Y ++ []) 0 rfl 11 (wm_get (k := 11) (by decide)) ((j * 5) + k) rfl (by omega) (by decide) (wm_z0) dX9_solve_87 ?_
              refine g_run X KX9_solve_88_75 KX9_solve_88_75_d 53 [(6, .int ((nI k) + (nI 1))), (0, .ref (ad 0)), (1, .ref wa), (2, .int (nI b)), (3, .int (nI (pcn b 15))), (4, .int (nI 5)), (5, .int (nI j))] [] rfl ?_
              refine g_nm (lv' := [(6, .int (nI (k + 1))), (0, .ref (ad 0)), (1, .ref wa), (2, .int (nI b)), (3, .int (nI (pcn b 15))), (4, .int (nI 5)), (5, .int (nI j))]) (st' := []) (by simp only [nI_add]) (by simp only [nI_add]) ?_
              refine g_lv (lv' := [(0, .ref (ad 0)), (1, .ref wa), (2, .int (nI b)), (3, .int (nI (pcn b 15))), (4, .int (nI 5)), (5, .int (nI j)), (6, .int (nI (k + 1)))]) (lsub_c 1 rfl (lsub_c 2 rfl (lsub_c 3 rfl (lsub_c 4 rfl (lsub_c 5 rfl (lsub_c 6 rfl (lsub_c 0 rfl (lsub_n)))))))) ?_
              refine g_cs (ws' := WM ad g I L S (z4 Z (gI b (gO b x R j) j (k + 1)) (wrf b (Z 1) 15) (Z 2)) Y ++ []) (lv' := [(0, .ref (ad 0)), (1, .ref wa), (2, .int (nI b)), (3, .int (nI (pcn b 15))), (4, .int (nI 5)), (5, .int (nI j)), (6, .int (nI (k + 1)))]) (by rw [gI]) (rfl) ?_
              exact k53
    · rw [nI_leI (by omega) (by omega)] at hc1; first | omega | (simp at hc1)
  · intro i hi k5
    refine g_run X KX9_solve_5_1 KX9_solve_5_1_d 9 [(0, .ref (ad 0)), (1, .ref wa), (2, .int (nI b)), (3, .int (nI (pcn b i))), (4, .int (nI i))] [.int (nI 15), .int (nI i)] rfl ?_
    refine g_icmp_ge X 38 dX9_solve_9 (by decide) (fun hc29 => ?_) (fun hc29 => ?_)
    · rw [nI_leI (by omega) (by omega)] at hc29; first | omega | (simp at hc29)
    · refine g_run X KX9_solve_12_76 KX9_solve_12_76_d 15 [(0, .ref (ad 0)), (1, .ref wa), (2, .int (nI b)), (3, .int (nI (pcn b i))), (4, .int (nI i))] [.int (nI i), .int (nI b)] rfl ?_
      refine g_callS X hSB hAf (As := [.int (nI b), .int (nI i)]) (wr := WM ad g I L S (z4 Z R (wrf b (Z 1) i) (Z 2)) Y ++ []) (n := 2) (c_X9_isIn l D g b i (by omega) (by omega)) rfl srcN hrdN w_1288 w_1286 w_1287 w_6 (by decide +kernel) rfl ⟨Nat.le_of_ble_eq_true rfl, Nat.le_of_ble_eq_true rfl⟩ rfl rfl rfl (Nat.le_of_ble_eq_true rfl) ⟨Nat.le_of_ble_eq_true rfl, Nat.le_of_ble_eq_true rfl⟩ dX9_solve_15 (fun hu30 _ => ?_)
      refine g_af (ws' := WM ad g I L S (z4 Z R (wrf b (Z 1) i) (Z 2)) Y ++ []) (st' := [.int (nI (bN (b.testBit i)))]) (cells' := 0) (slots' := 0) (pc' := 18) rfl rfl rfl rfl rfl ?_
      refine g_if_eq X 32 dX9_solve_18 (by decide) (fun hc31 => ?_) (fun hc31 => ?_)
      · rw [bN_eq0] at hc31; have hbf := hc31
        refine g_run X KX9_solve_32_77 KX9_solve_32_77_d 5 [(4, .int ((nI i) + (nI 1))), (0, .ref (ad 0)), (1, .ref wa), (2, .int (nI b)), (3, .int (nI (pcn b i)))] [] rfl ?_
        refine g_nm (lv' := [(4, .int (nI (i + 1))), (0, .ref (ad 0)), (1, .ref wa), (2, .int (nI b)), (3, .int (nI (pcn b i)))]) (st' := []) (by simp only [nI_add]) (by simp only [nI_add]) ?_
        refine g_lv (lv' := [(0, .ref (ad 0)), (1, .ref wa), (2, .int (nI b)), (3, .int (nI (pcn b i))), (4, .int (nI (i + 1)))]) (lsub_c 1 rfl (lsub_c 2 rfl (lsub_c 3 rfl (lsub_c 4 rfl (lsub_c 0 rfl (lsub_n)))))) ?_
        refine g_cs (ws' := WM ad g I L S (z4 Z R (wrf b (Z 1) (i + 1)) (Z 2)) Y ++ []) (lv' := [(0, .ref (ad 0)), (1, .ref wa), (2, .int (nI b)), (3, .int (nI (pcn b (i + 1)))), (4, .int (nI (i + 1)))]) (by first | rw [wrf, if_pos hbt] | rw [wrf, if_neg (by rw [hbf]; decide)]) (by first | (rw [pcn, hbt]; rfl) | (rw [pcn, hbf]; rfl)) ?_
        exact k5
      · rw [bN_eq0] at hc31; have hbt := nf_t hc31
        refine g_run X KX9_solve_21_78 KX9_solve_21_78_d 22 [(0, .ref (ad 0)), (1, .ref wa), (2, .int (nI b)), (3, .int (nI (pcn b i))), (4, .int (nI i))] [.ref (ad 0)] rfl ?_
        refine g_get X srcW (v := .ref (ad 12)) hinX9 rfl 20 (by decide) w_1200 rfl (wm_mem (k := 0) (by decide)) rfl dX9_solve_22 ?_
        refine g_run X KX9_solve_25_79 KX9_solve_25_79_d 28 [(0, .ref (ad 0)), (1, .ref wa), (2, .int (nI b)), (3, .int (nI (pcn b i))), (4, .int (nI i))] [.int (nI i), .int (nI (pcn b i)), .ref (ad 12)] rfl ?_
        refine g_iast X (ws' := WM ad g I L S (z4 Z R (upd (wrf b (Z 1) i) (pcn b i) (nI i)) (Z 2)) Y ++ []) 0 rfl 12 (wm_get (k := 12) (by decide)) (pcn b i) rfl (pc_step hbt (by omega) hb) (by decide) (wm_z1) dX9_solve_28 ?_
        refine g_run X KX9_solve_29_80 KX9_solve_29_80_d 5 [(4, .int ((nI i) + (nI 1))), (3, .int ((nI (pcn b i)) + (nI 1))), (0, .ref (ad 0)), (1, .ref wa), (2, .int (nI b))] [] rfl ?_
        refine g_nm (lv' := [(4, .int (nI (i + 1))), (3, .int (nI ((pcn b i) + 1))), (0, .ref (ad 0)), (1, .ref wa), (2, .int (nI b))]) (st' := []) (by simp only [nI_add]) (by simp only [nI_add]) ?_
        refine g_lv (lv' := [(0, .ref (ad 0)), (1, .ref wa), (2, .int (nI b)), (3, .int (nI ((pcn b i) + 1))), (4, .int (nI (i + 1)))]) (lsub_c 2 rfl (lsub_c 3 rfl (lsub_c 4 rfl (lsub_c 1 rfl (lsub_c 0 rfl (lsub_n)))))) ?_
        refine g_cs (ws' := WM ad g I L S (z4 Z R (wrf b (Z 1) (i + 1)) (Z 2)) Y ++ []) (lv' := [(0, .ref (ad 0)), (1, .ref wa), (2, .int (nI b)), (3, .int (nI (pcn b (i + 1)))), (4, .int (nI (i + 1)))]) (by first | rw [wrf, if_pos hbt] | rw [wrf, if_neg (by rw [hbf]; decide)]) (by first | (rw [pcn, hbt]; rfl) | (rw [pcn, hbf]; rfl)) ?_
        exact k5

