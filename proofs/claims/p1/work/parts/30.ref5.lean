
theorem z4_z4 {Z : Nat → Nat → Int32} {R R' : Nat → Nat} {W W' M M' : Nat → Int32} : z4 (z4 Z R W M) R' W' M' = z4 Z R' W' M' := by
  funext a j; unfold z4
  by_cases h0 : a = 0
  · simp [h0]
  · by_cases h1 : a = 1
    · simp [h1]
    · by_cases h2 : a = 2
      · simp [h2]
      · simp [h0, h1, h2]
theorem sB_0 {o : Option Int64} : nI (sB o) = 0 ↔ o = none := by
  cases o with
  | none => exact ⟨fun _ => rfl, fun _ => rfl⟩
  | some y => exact ⟨fun h => absurd h (show ¬ nI 1 = 0 by decide), fun h => by cases h⟩
theorem sB_1 {o : Option Int64} (h : ¬ o = none) : ∃ y, o = some y := by
  cases o with
  | none => exact absurd rfl h
  | some y => exact ⟨y, rfl⟩
theorem nslv {b : Nat} {x y : Int64} (hb : pcn b 15 ≤ 4) (h : slv b x = none) : ¬ Slv b x y := fun g => by rw [slv_s hb g] at h; cases h
theorem pc_1 {b p : Nat} (hp : p < 15) (h : pcn b 15 + 2 ≤ 4) : pcn (b ||| 2 ^ p) 15 ≤ 4 := by
  have := pcn_ort b (2 ^ p) 15
  rw [pcn_p p hp] at this
  omega
theorem pc_2 {p q : Nat} (hp : p < 15) (hq : q < 15) : pcn (2 ^ p ||| 2 ^ q) 15 ≤ 4 := by
  have := pcn_ort (2 ^ p) (2 ^ q) 15
  rw [pcn_p p hp, pcn_p q hq] at this
  omega
theorem or_t {b p : Nat} (h : b.testBit p = true) : b ||| 2 ^ p = b := by
  apply Nat.eq_of_testBit_eq
  intro i
  rw [Nat.testBit_or]
  by_cases e : p = i
  · subst e; rw [h]; rfl
  · have e2 : (2 ^ p).testBit i = false := by rw [Nat.testBit_two_pow]; simp [e]
    rw [e2, Bool.or_false]
/-- no mending is found -/
theorem mw_nil {b : Nat} {x : Int64} (hb : pcn b 15 ≤ 4) (h0 : slv b x = none) (h1 : pcn b 15 + 2 ≤ 4 → ∀ p, p < 15 → b.testBit p = false → slv (b ||| 2 ^ p) x = none) (h2 : pcn b 15 = 0 → ∀ p, p < 15 → ∀ q, q < p → slv (2 ^ p ||| 2 ^ q) x = none) : mw b x = none := by
  cases h : mw b x with
  | none => rfl
  | some y =>
    obtain ⟨c, c15, g⟩ := mw_adm h
    exfalso
    rcases g with ⟨_, g⟩ | ⟨p, hp, h3, g⟩ | ⟨p, q, hqp, hp, h3, g⟩
    · exact nslv hb h0 ⟨c, c15, g⟩
    · cases hbp : b.testBit p
      · exact nslv (pc_1 hp h3) (h1 h3 p hp hbp) ⟨c, c15, g⟩
      · rw [or_t hbp] at g; exact nslv hb h0 ⟨c, c15, g⟩
    · exact nslv (pc_2 hp (by omega)) (h2 h3 p hp q hqp) ⟨c, c15, g⟩
section GE
variable {p : Program} {l : Launch} {e : Env} {R : Room} {s : State} {m : MethodId} {args : Array Value} {below : List Frame} {meth : Method} {c : Code} {Q : State → Prop} {D : va_G} {cl : List vw_C} {tys : List (ClassId × FieldType)} {A : Nat → Prop} {nL : Nat} {ws : va_W} {cells slots : Nat} {cc : ByteArray} {own : String} {pc : Nat} {lv : List (Nat × Value)} {st : List Value}
theorem g_forE {σ : Type} (N : Nat) (wsF : σ → va_W) (lvF : Nat → List (Nat × Value)) (P : σ → Nat → Prop) (u0 : σ) (hp0 : P u0 0) (h0 : wsF u0 = ws) (h1 : lvF 0 = lv) (hN : ∀ u, P u N → GL p l e R s m args below meth c Q D cl tys A nL (wsF u) cells slots pc (lvF N) st)
    (hs : ∀ i : Nat, i < N → ∀ u, P u i → (∀ u', P u' (i + 1) → GL p l e R s m args below meth c Q D cl tys A nL (wsF u') cells slots pc (lvF (i + 1)) st) → GL p l e R s m args below meth c Q D cl tys A nL (wsF u) cells slots pc (lvF i) st) : GL p l e R s m args below meth c Q D cl tys A nL ws cells slots pc lv st := by
  subst h0; subst h1
  have key : ∀ n i : Nat, i + n = N → ∀ u, P u i → GL p l e R s m args below meth c Q D cl tys A nL (wsF u) cells slots pc (lvF i) st := by
    intro n
    induction n with
    | zero => intro i hi u hp; have e : i = N := by omega
              subst e; exact hN u hp
    | succ n ih => intro i hi u hp; exact hs i (by omega) u hp (fun u' hp' => ih (i + 1) (by omega) u' hp')
  exact key N 0 (by omega) u0 hp0
end GE

def KX9_mend_0_0 : List (Nat × Instr × Nat) := [(0, .iload_n 2, 1)]
theorem KX9_mend_0_0_d : ∀ z ∈ KX9_mend_0_0, decode cX9_mend z.1 = .ok z.2 := by decide +kernel
def KX9_mend_4_1 : List (Nat × Instr × Nat) := [(4, .istore_n 3, 1)]
theorem KX9_mend_4_1_d : ∀ z ∈ KX9_mend_4_1, decode cX9_mend z.1 = .ok z.2 := by decide +kernel
def KX9_mend_5_2 : List (Nat × Instr × Nat) := [(5, .iload_n 3, 1), (6, .iconst 4, 1)]
theorem KX9_mend_5_2_d : ∀ z ∈ KX9_mend_5_2, decode cX9_mend z.1 = .ok z.2 := by decide +kernel
def KX9_mend_12_3 : List (Nat × Instr × Nat) := [(12, .aload_n 0, 1), (13, .aload_n 1, 1), (14, .iload_n 2, 1)]
theorem KX9_mend_12_3_d : ∀ z ∈ KX9_mend_12_3, decode cX9_mend z.1 = .ok z.2 := by decide +kernel
def KX9_mend_23_4 : List (Nat × Instr × Nat) := [(23, .iconst 0, 1), (24, .istore 4, 2)]
theorem KX9_mend_23_4_d : ∀ z ∈ KX9_mend_23_4, decode cX9_mend z.1 = .ok z.2 := by decide +kernel
def KX9_mend_26_5 : List (Nat × Instr × Nat) := [(26, .iload 4, 2), (28, .bipush 15, 2)]
theorem KX9_mend_26_5_d : ∀ z ∈ KX9_mend_26_5, decode cX9_mend z.1 = .ok z.2 := by decide +kernel
def KX9_mend_71_6 : List (Nat × Instr × Nat) := [(71, .iconst 0, 1), (72, .istore 4, 2)]
theorem KX9_mend_71_6_d : ∀ z ∈ KX9_mend_71_6, decode cX9_mend z.1 = .ok z.2 := by decide +kernel
def KX9_mend_74_7 : List (Nat × Instr × Nat) := [(74, .iload 4, 2), (76, .bipush 15, 2)]
theorem KX9_mend_74_7_d : ∀ z ∈ KX9_mend_74_7, decode cX9_mend z.1 = .ok z.2 := by decide +kernel
def KX9_mend_126_8 : List (Nat × Instr × Nat) := [(126, .iconst 0, 1)]
theorem KX9_mend_126_8_d : ∀ z ∈ KX9_mend_126_8, decode cX9_mend z.1 = .ok z.2 := by decide +kernel
def KX9_mend_81_9 : List (Nat × Instr × Nat) := [(81, .iload_n 3, 1)]
theorem KX9_mend_81_9_d : ∀ z ∈ KX9_mend_81_9, decode cX9_mend z.1 = .ok z.2 := by decide +kernel
def KX9_mend_85_10 : List (Nat × Instr × Nat) := [(85, .iconst 0, 1), (86, .istore 5, 2)]
theorem KX9_mend_85_10_d : ∀ z ∈ KX9_mend_85_10, decode cX9_mend z.1 = .ok z.2 := by decide +kernel
def KX9_mend_88_11 : List (Nat × Instr × Nat) := [(88, .iload 5, 2), (90, .iload 4, 2)]
theorem KX9_mend_88_11_d : ∀ z ∈ KX9_mend_88_11, decode cX9_mend z.1 = .ok z.2 := by decide +kernel
def KX9_mend_120_12 : List (Nat × Instr × Nat) := [(120, .iinc 4 1, 3), (123, .goto (-49), 3)]
theorem KX9_mend_120_12_d : ∀ z ∈ KX9_mend_120_12, decode cX9_mend z.1 = .ok z.2 := by decide +kernel
def KX9_mend_95_13 : List (Nat × Instr × Nat) := [(95, .aload_n 0, 1), (96, .aload_n 1, 1), (97, .iconst 1, 1), (98, .iload 4, 2), (100, .ishl, 1), (101, .iconst 1, 1), (102, .iload 5, 2), (104, .ishl, 1), (105, .ior, 1)]
theorem KX9_mend_95_13_d : ∀ z ∈ KX9_mend_95_13, decode cX9_mend z.1 = .ok z.2 := by decide +kernel
def KX9_mend_114_14 : List (Nat × Instr × Nat) := [(114, .iinc 5 1, 3), (117, .goto (-29), 3)]
theorem KX9_mend_114_14_d : ∀ z ∈ KX9_mend_114_14, decode cX9_mend z.1 = .ok z.2 := by decide +kernel
def KX9_mend_112_15 : List (Nat × Instr × Nat) := [(112, .iconst 1, 1)]
theorem KX9_mend_112_15_d : ∀ z ∈ KX9_mend_112_15, decode cX9_mend z.1 = .ok z.2 := by decide +kernel
def KX9_mend_33_16 : List (Nat × Instr × Nat) := [(33, .iload_n 3, 1), (34, .iconst 2, 1), (35, .iadd, 1), (36, .iconst 4, 1)]
theorem KX9_mend_33_16_d : ∀ z ∈ KX9_mend_33_16, decode cX9_mend z.1 = .ok z.2 := by decide +kernel
def KX9_mend_40_17 : List (Nat × Instr × Nat) := [(40, .iload_n 2, 1), (41, .iload 4, 2)]
theorem KX9_mend_40_17_d : ∀ z ∈ KX9_mend_40_17, decode cX9_mend z.1 = .ok z.2 := by decide +kernel
def KX9_mend_65_18 : List (Nat × Instr × Nat) := [(65, .iinc 4 1, 3), (68, .goto (-42), 3)]
theorem KX9_mend_65_18_d : ∀ z ∈ KX9_mend_65_18, decode cX9_mend z.1 = .ok z.2 := by decide +kernel
def KX9_mend_49_19 : List (Nat × Instr × Nat) := [(49, .aload_n 0, 1), (50, .aload_n 1, 1), (51, .iload_n 2, 1), (52, .iconst 1, 1), (53, .iload 4, 2), (55, .ishl, 1), (56, .ior, 1)]
theorem KX9_mend_49_19_d : ∀ z ∈ KX9_mend_49_19, decode cX9_mend z.1 = .ok z.2 := by decide +kernel
def KX9_mend_63_20 : List (Nat × Instr × Nat) := [(63, .iconst 1, 1)]
theorem KX9_mend_63_20_d : ∀ z ∈ KX9_mend_63_20, decode cX9_mend z.1 = .ok z.2 := by decide +kernel
def KX9_mend_21_21 : List (Nat × Instr × Nat) := [(21, .iconst 1, 1)]
theorem KX9_mend_21_21_d : ∀ z ∈ KX9_mend_21_21, decode cX9_mend z.1 = .ok z.2 := by decide +kernel
def KX9_mend_10_22 : List (Nat × Instr × Nat) := [(10, .iconst 0, 1)]
theorem KX9_mend_10_22_d : ∀ z ∈ KX9_mend_10_22, decode cX9_mend z.1 = .ok z.2 := by decide +kernel
set_option maxHeartbeats 4000000 in
set_option maxRecDepth 100000 in
theorem c_X9_mend (l : Launch) (D : va_G) (g : Nat → ClassId) (ad : Nat → Nat) (I : Nat → Nat → Int32) (L : Nat → Nat → Int64) (S : Nat → Nat) (Z : Nat → Nat → Int32) (Y : Int64) (wa : Nat) (x : Int64) (b : Nat) (R : Nat → Nat) (hR : R16 R) (hZ : Z 0 = fun j => nI (R j)) (hb15 : b < 2 ^ 15) : CT l yX9_mend cX9_mend 6 ((Option.some FieldType.boolean)) ({ frames := 3, cells := 0, slots := 0, locals := 76 } : Room) [.ref (ad 0), .ref wa, .int (nI b)] D CL (TYS g) ([(wa, Sum.inl (g 0, 15, .inl (wA x)))]) (WM ad g I L S Z Y) (S := (Nat → Nat) × (Nat → Int32)) (fun _ => some (.int (nI (sB (mw b x))))) (fun u => WM ad g I L S (z4 Z u.1 u.2 (mdA (Z 2) (mw b x))) Y) (fun u => R16 u.1) 0 0 := by
  refine ct_of (by decide +kernel) (Nat.le_of_ble_eq_true rfl) ?_
  intro p e s m below meth c A X hr hnm hSB hRO hAf
  refine g_cs (ws' := WM ad g I L S (z4 Z R (Z 1) (Z 2)) Y ++ []) (lv' := [(0, .ref (ad 0)), (1, .ref wa), (2, .int (nI b))]) (by rw [z4_e hZ]; exact List.append_nil _) rfl ?_
  refine g_run X KX9_mend_0_0 KX9_mend_0_0_d 1 [(0, .ref (ad 0)), (1, .ref wa), (2, .int (nI b))] [.int (nI b)] rfl ?_
  refine g_callS X hSB hAf (As := [.int (nI b)]) (wr := WM ad g I L S (z4 Z R (Z 1) (Z 2)) Y ++ []) (n := 1) (c_J6_bitCount_0f7a4 l D g b (by omega)) rfl srcN hrdN w_259 w_1340 w_258 w_24 (by decide +kernel) rfl ⟨Nat.le_of_ble_eq_true rfl, Nat.le_of_ble_eq_true rfl⟩ rfl rfl rfl (Nat.le_of_ble_eq_true rfl) ⟨Nat.le_of_ble_eq_true rfl, Nat.le_of_ble_eq_true rfl⟩ dX9_mend_1 (fun hu1 _ => ?_)
  refine g_af (ws' := WM ad g I L S (z4 Z R (Z 1) (Z 2)) Y ++ []) (st' := [.int (nI (pcn b 15))]) (cells' := 0) (slots' := 0) (pc' := 4) rfl rfl rfl rfl rfl ?_
  refine g_run X KX9_mend_4_1 KX9_mend_4_1_d 5 [(3, .int (nI (pcn b 15))), (0, .ref (ad 0)), (1, .ref wa), (2, .int (nI b))] [] rfl ?_
  have hp15 := pcn_15 b
  refine g_run X KX9_mend_5_2 KX9_mend_5_2_d 7 [(3, .int (nI (pcn b 15))), (0, .ref (ad 0)), (1, .ref wa), (2, .int (nI b))] [.int (nI 4), .int (nI (pcn b 15))] rfl ?_
  refine g_icmp_le X 12 dX9_mend_7 (by decide) (fun hc2 => ?_) (fun hc2 => ?_)
  · rw [nI_leI (by omega) (by omega)] at hc2; have hb := hc2
    refine g_run X KX9_mend_12_3 KX9_mend_12_3_d 15 [(3, .int (nI (pcn b 15))), (0, .ref (ad 0)), (1, .ref wa), (2, .int (nI b))] [.int (nI b), .ref wa, .ref (ad 0)] rfl ?_
    refine g_callV X hSB hAf (srcW) (hrc1 := (rfl : CL[8]? = some _)) (wm_mem (k := 0) (by decide)) rfl (As := [.ref wa, .int (nI b)]) (wr := []) (n := 2) (c_X9_solve l D g ad I L S (z4 Z R (Z 1) (Z 2)) Y wa x b R (by assumption) (rfl) (hb15) (hb)) rfl (srcR hRO) (hrdRO hRO rfl) w_1285 w_1282 w_1284 w_s16 w_6 (by decide +kernel) rfl ⟨Nat.le_of_ble_eq_true rfl, Nat.le_of_ble_eq_true rfl⟩ rfl rfl rfl (Nat.le_of_ble_eq_true rfl) ⟨Nat.le_of_ble_eq_true rfl, Nat.le_of_ble_eq_true rfl⟩ dX9_mend_15 (fun hu3 hp_hu3 => ?_)
    refine g_af (ws' := WM ad g I L S (z4 Z hu3.1 hu3.2 (mdA (Z 2) (slv b x))) Y ++ []) (st' := [.int (nI (sB (slv b x)))]) (cells' := 0) (slots' := 0) (pc' := 18) (congrArg (fun z => (WM ad g I L S z Y) ++ []) z4_z4.symm) rfl rfl rfl rfl ?_
    refine g_if_eq X 23 dX9_mend_18 (by decide) (fun hc4 => ?_) (fun hc4 => ?_)
    · rw [sB_0] at hc4; have hs0 := hc4
      refine g_ws (ws' := WM ad g I L S (z4 Z hu3.1 hu3.2 (Z 2)) Y ++ []) (by rw [hs0]; rfl) ?_
      refine g_run X KX9_mend_23_4 KX9_mend_23_4_d 26 [(4, .int (nI 0)), (3, .int (nI (pcn b 15))), (0, .ref (ad 0)), (1, .ref wa), (2, .int (nI b))] [] rfl ?_
      refine g_lv (lv' := [(0, .ref (ad 0)), (1, .ref wa), (2, .int (nI b)), (3, .int (nI (pcn b 15))), (4, .int (nI 0))]) (lsub_c 2 rfl (lsub_c 3 rfl (lsub_c 4 rfl (lsub_c 1 rfl (lsub_c 0 rfl (lsub_n)))))) ?_
      refine g_forE 15 (fun (uE26 : (Nat → Nat) × (Nat → Int32)) => WM ad g I L S (z4 Z uE26.1 uE26.2 (Z 2)) Y ++ []) (fun i => [(0, .ref (ad 0)), (1, .ref wa), (2, .int (nI b)), (3, .int (nI (pcn b 15))), (4, .int (nI i))]) (fun uE26 i => R16 uE26.1 ∧ ∀ p, p < i → b.testBit p = false → slv (b ||| 2 ^ p) x = none) (hu3.1, hu3.2) (⟨by assumption, fun p hp => by omega⟩) rfl (rfl) ?_ ?_
      · intro uE26 hP26
        have hRE := hP26.1
        have hA1 := hP26.2
        refine g_run X KX9_mend_26_5 KX9_mend_26_5_d 30 [(0, .ref (ad 0)), (1, .ref wa), (2, .int (nI b)), (3, .int (nI (pcn b 15))), (4, .int (nI 15))] [.int (nI 15), .int (nI 15)] rfl ?_
        refine g_icmp_ge X 71 dX9_mend_30 (by decide) (fun hc5 => ?_) (fun hc5 => ?_)
        · refine g_run X KX9_mend_71_6 KX9_mend_71_6_d 74 [(4, .int (nI 0)), (0, .ref (ad 0)), (1, .ref wa), (2, .int (nI b)), (3, .int (nI (pcn b 15)))] [] rfl ?_
          refine g_lv (lv' := [(0, .ref (ad 0)), (1, .ref wa), (2, .int (nI b)), (3, .int (nI (pcn b 15))), (4, .int (nI 0))]) (lsub_c 1 rfl (lsub_c 2 rfl (lsub_c 3 rfl (lsub_c 4 rfl (lsub_c 0 rfl (lsub_n)))))) ?_
          refine g_forE 15 (fun (uE74 : (Nat → Nat) × (Nat → Int32)) => WM ad g I L S (z4 Z uE74.1 uE74.2 (Z 2)) Y ++ []) (fun i => [(0, .ref (ad 0)), (1, .ref wa), (2, .int (nI b)), (3, .int (nI (pcn b 15))), (4, .int (nI i))]) (fun uE74 i => R16 uE74.1 ∧ ∀ p, p < i → ∀ q, q < p → slv (2 ^ p ||| 2 ^ q) x = none) (uE26.1, uE26.2) (⟨by assumption, fun p hp => by omega⟩) rfl (rfl) ?_ ?_
          · intro uE74 hP74
            have hRF := hP74.1
            have hA2 := hP74.2
            refine g_run X KX9_mend_74_7 KX9_mend_74_7_d 78 [(0, .ref (ad 0)), (1, .ref wa), (2, .int (nI b)), (3, .int (nI (pcn b 15))), (4, .int (nI 15))] [.int (nI 15), .int (nI 15)] rfl ?_
            refine g_icmp_ge X 126 dX9_mend_78 (by decide) (fun hc6 => ?_) (fun hc6 => ?_)
            · refine g_run X KX9_mend_126_8 KX9_mend_126_8_d 127 [(0, .ref (ad 0)), (1, .ref wa), (2, .int (nI b)), (3, .int (nI (pcn b 15))), (4, .int (nI 15))] [.int (nI 0)] rfl ?_
              have hmw : mw b x = none := mw_nil hb hs0 (by first | exact fun _ => hA1 | exact fun h => absurd h (by omega)) (by first | exact fun _ => hA2 | exact fun h => absurd h (by omega))
              exact g_zret X hr (by decide +kernel) (uE74.1, uE74.2) (by show some (Value.int _) = some (Value.int _); first | (rw [hmw]; done) | (rw [hmw]; rfl)) (by assumption) (by first | (rw [hmw]; done) | (rw [hmw]; rfl)) (Nat.le_of_ble_eq_true rfl) (Nat.le_of_ble_eq_true rfl) dX9_mend_127
            · rw [nI_leI (by omega) (by omega)] at hc6; first | omega | (simp at hc6)
          · intro i hii uE74 hP74 k74
            have hRF := hP74.1
            refine g_run X KX9_mend_74_7 KX9_mend_74_7_d 78 [(0, .ref (ad 0)), (1, .ref wa), (2, .int (nI b)), (3, .int (nI (pcn b 15))), (4, .int (nI i))] [.int (nI 15), .int (nI i)] rfl ?_
            refine g_icmp_ge X 126 dX9_mend_78 (by decide) (fun hc7 => ?_) (fun hc7 => ?_)
            · rw [nI_leI (by omega) (by omega)] at hc7; first | omega | (simp at hc7)
            · refine g_run X KX9_mend_81_9 KX9_mend_81_9_d 82 [(0, .ref (ad 0)), (1, .ref wa), (2, .int (nI b)), (3, .int (nI (pcn b 15))), (4, .int (nI i))] [.int (nI (pcn b 15))] rfl ?_
              refine g_if_ne X 126 dX9_mend_82 (by decide) (fun hc8 => ?_) (fun hc8 => ?_)
              · rw [nz_eq (by omega)] at hc8; have hm0 := hc8
                refine g_run X KX9_mend_126_8 KX9_mend_126_8_d 127 [(0, .ref (ad 0)), (1, .ref wa), (2, .int (nI b)), (3, .int (nI (pcn b 15))), (4, .int (nI i))] [.int (nI 0)] rfl ?_
                have hmw : mw b x = none := mw_nil hb hs0 (by first | exact fun _ => hA1 | exact fun h => absurd h (by omega)) (by first | exact fun _ => hA2 | exact fun h => absurd h (by omega))
                exact g_zret X hr (by decide +kernel) (uE74.1, uE74.2) (by show some (Value.int _) = some (Value.int _); first | (rw [hmw]; done) | (rw [hmw]; rfl)) (by assumption) (by first | (rw [hmw]; done) | (rw [hmw]; rfl)) (Nat.le_of_ble_eq_true rfl) (Nat.le_of_ble_eq_true rfl) dX9_mend_127
              · rw [nz_eq (by omega)] at hc8; have hm0 : pcn b 15 = 0 := by omega
                refine g_run X KX9_mend_85_10 KX9_mend_85_10_d 88 [(5, .int (nI 0)), (0, .ref (ad 0)), (1, .ref wa), (2, .int (nI b)), (3, .int (nI (pcn b 15))), (4, .int (nI i))] [] rfl ?_
                refine g_lv (lv' := [(0, .ref (ad 0)), (1, .ref wa), (2, .int (nI b)), (3, .int (nI (pcn b 15))), (4, .int (nI i)), (5, .int (nI 0))]) (lsub_c 1 rfl (lsub_c 2 rfl (lsub_c 3 rfl (lsub_c 4 rfl (lsub_c 5 rfl (lsub_c 0 rfl (lsub_n))))))) ?_
                refine g_forE i (fun (uE88 : (Nat → Nat) × (Nat → Int32)) => WM ad g I L S (z4 Z uE88.1 uE88.2 (Z 2)) Y ++ []) (fun j => [(0, .ref (ad 0)), (1, .ref wa), (2, .int (nI b)), (3, .int (nI (pcn b 15))), (4, .int (nI i)), (5, .int (nI j))]) (fun uE88 j => R16 uE88.1 ∧ ∀ q, q < j → slv (2 ^ i ||| 2 ^ q) x = none) (uE74.1, uE74.2) (⟨by assumption, fun p hp => by omega⟩) rfl (rfl) ?_ ?_
                · intro uE88 hP88
                  have hRG := hP88.1
                  refine g_run X KX9_mend_88_11 KX9_mend_88_11_d 92 [(0, .ref (ad 0)), (1, .ref wa), (2, .int (nI b)), (3, .int (nI (pcn b 15))), (4, .int (nI i)), (5, .int (nI i))] [.int (nI i), .int (nI i)] rfl ?_
                  refine g_icmp_ge X 120 dX9_mend_92 (by decide) (fun hc9 => ?_) (fun hc9 => ?_)
                  · refine g_run X KX9_mend_120_12 KX9_mend_120_12_d 74 [(4, .int ((nI i) + (nI 1))), (0, .ref (ad 0)), (1, .ref wa), (2, .int (nI b)), (3, .int (nI (pcn b 15))), (5, .int (nI i))] [] rfl ?_
                    refine g_nm (lv' := [(4, .int (nI (i + 1))), (0, .ref (ad 0)), (1, .ref wa), (2, .int (nI b)), (3, .int (nI (pcn b 15))), (5, .int (nI i))]) (st' := []) (by simp only [nI_add]) (by simp only [nI_add]) ?_
                    refine g_lv (lv' := [(0, .ref (ad 0)), (1, .ref wa), (2, .int (nI b)), (3, .int (nI (pcn b 15))), (4, .int (nI (i + 1)))]) (lsub_c 1 rfl (lsub_c 2 rfl (lsub_c 3 rfl (lsub_c 4 rfl (lsub_c 0 rfl (lsub_n)))))) ?_
                    refine g_cs (ws' := WM ad g I L S (z4 Z uE88.1 uE88.2 (Z 2)) Y ++ []) (lv' := [(0, .ref (ad 0)), (1, .ref wa), (2, .int (nI b)), (3, .int (nI (pcn b 15))), (4, .int (nI (i + 1)))]) rfl (rfl) ?_
                    exact k74 (uE88.1, uE88.2) (⟨by assumption, fun p hp q hq => by
                      by_cases ep : p = i
                      · subst ep; exact hP88.2 q hq
                      · exact hP74.2 p (by omega) q hq⟩)
                  · rw [nI_leI (by omega) (by omega)] at hc9; first | omega | (simp at hc9)
                · intro j hjj uE88 hP88 k88
                  have hRG := hP88.1
                  refine g_run X KX9_mend_88_11 KX9_mend_88_11_d 92 [(0, .ref (ad 0)), (1, .ref wa), (2, .int (nI b)), (3, .int (nI (pcn b 15))), (4, .int (nI i)), (5, .int (nI j))] [.int (nI i), .int (nI j)] rfl ?_
                  refine g_icmp_ge X 120 dX9_mend_92 (by decide) (fun hc10 => ?_) (fun hc10 => ?_)
                  · rw [nI_leI (by omega) (by omega)] at hc10; first | omega | (simp at hc10)
                  · refine g_run X KX9_mend_95_13 KX9_mend_95_13_d 106 [(0, .ref (ad 0)), (1, .ref wa), (2, .int (nI b)), (3, .int (nI (pcn b 15))), (4, .int (nI i)), (5, .int (nI j))] [.int (((nI 1) <<< ((nI i) &&& 31)) ||| ((nI 1) <<< ((nI j) &&& 31))), .ref wa, .ref (ad 0)] rfl ?_
                    refine g_nm (lv' := [(0, .ref (ad 0)), (1, .ref wa), (2, .int (nI b)), (3, .int (nI (pcn b 15))), (4, .int (nI i)), (5, .int (nI j))]) (st' := [.int (nI ((2 ^ i) ||| (2 ^ j))), .ref wa, .ref (ad 0)]) (by simp only [nx_or, sh1 (show i < 31 by omega), sh1 (show j < 31 by omega)]) (by simp only [nx_or, sh1 (show i < 31 by omega), sh1 (show j < 31 by omega)]) ?_
                    refine g_callV X hSB hAf (srcW) (hrc1 := (rfl : CL[8]? = some _)) (wm_mem (k := 0) (by decide)) rfl (As := [.ref wa, .int (nI ((2 ^ i) ||| (2 ^ j)))]) (wr := []) (n := 2) (c_X9_solve l D g ad I L S (z4 Z uE88.1 uE88.2 (Z 2)) Y wa x ((2 ^ i) ||| (2 ^ j)) uE88.1 (by assumption) (rfl) (or_lt (n := 15) (two_lt (by omega)) (two_lt (by omega))) (pc_2 (by omega) (by omega))) rfl (srcR hRO) (hrdRO hRO rfl) w_1285 w_1282 w_1284 w_s16 w_6 (by decide +kernel) rfl ⟨Nat.le_of_ble_eq_true rfl, Nat.le_of_ble_eq_true rfl⟩ rfl rfl rfl (Nat.le_of_ble_eq_true rfl) ⟨Nat.le_of_ble_eq_true rfl, Nat.le_of_ble_eq_true rfl⟩ dX9_mend_106 (fun hu11 hp_hu11 => ?_)
                    refine g_af (ws' := WM ad g I L S (z4 Z hu11.1 hu11.2 (mdA (Z 2) (slv ((2 ^ i) ||| (2 ^ j)) x))) Y ++ []) (st' := [.int (nI (sB (slv ((2 ^ i) ||| (2 ^ j)) x)))]) (cells' := 0) (slots' := 0) (pc' := 109) (congrArg (fun z => (WM ad g I L S z Y) ++ []) z4_z4.symm) rfl rfl rfl rfl ?_
                    refine g_if_eq X 114 dX9_mend_109 (by decide) (fun hc12 => ?_) (fun hc12 => ?_)
                    · rw [sB_0] at hc12; have hs2 := hc12
                      refine g_ws (ws' := WM ad g I L S (z4 Z hu11.1 hu11.2 (Z 2)) Y ++ []) (by rw [hs2]; rfl) ?_
                      refine g_run X KX9_mend_114_14 KX9_mend_114_14_d 88 [(5, .int ((nI j) + (nI 1))), (0, .ref (ad 0)), (1, .ref wa), (2, .int (nI b)), (3, .int (nI (pcn b 15))), (4, .int (nI i))] [] rfl ?_
                      refine g_nm (lv' := [(5, .int (nI (j + 1))), (0, .ref (ad 0)), (1, .ref wa), (2, .int (nI b)), (3, .int (nI (pcn b 15))), (4, .int (nI i))]) (st' := []) (by simp only [nI_add]) (by simp only [nI_add]) ?_
                      refine g_lv (lv' := [(0, .ref (ad 0)), (1, .ref wa), (2, .int (nI b)), (3, .int (nI (pcn b 15))), (4, .int (nI i)), (5, .int (nI (j + 1)))]) (lsub_c 1 rfl (lsub_c 2 rfl (lsub_c 3 rfl (lsub_c 4 rfl (lsub_c 5 rfl (lsub_c 0 rfl (lsub_n))))))) ?_
                      refine g_cs (ws' := WM ad g I L S (z4 Z hu11.1 hu11.2 (Z 2)) Y ++ []) (lv' := [(0, .ref (ad 0)), (1, .ref wa), (2, .int (nI b)), (3, .int (nI (pcn b 15))), (4, .int (nI i)), (5, .int (nI (j + 1)))]) rfl (rfl) ?_
                      exact k88 (hu11.1, hu11.2) (⟨by assumption, fun q hq => by
                        by_cases ep : q = j
                        · subst ep; exact hs2
                        · exact hP88.2 q (by omega)⟩)
                    · rw [sB_0] at hc12; obtain ⟨y, hy⟩ := sB_1 hc12; have hmw : mw b x = some y := mw_ok ⟨(slv_is hy).1, (slv_is hy).2.1, Or.inr (Or.inr ⟨i, j, by omega, by omega, hm0, (slv_is hy).2.2⟩)⟩
                      refine g_run X KX9_mend_112_15 KX9_mend_112_15_d 113 [(0, .ref (ad 0)), (1, .ref wa), (2, .int (nI b)), (3, .int (nI (pcn b 15))), (4, .int (nI i)), (5, .int (nI j))] [.int (nI 1)] rfl ?_
                      exact g_zret X hr (by decide +kernel) (hu11.1, hu11.2) (by show some (Value.int _) = some (Value.int _); first | (rw [hmw]; done) | (rw [hmw]; rfl)) (by assumption) (by first | (rw [hy, hmw]; done) | (rw [hy, hmw]; rfl)) (Nat.le_of_ble_eq_true rfl) (Nat.le_of_ble_eq_true rfl) dX9_mend_113
        · rw [nI_leI (by omega) (by omega)] at hc5; first | omega | (simp at hc5)
      · intro i hii uE26 hP26 k26
        have hRE := hP26.1
        refine g_run X KX9_mend_26_5 KX9_mend_26_5_d 30 [(0, .ref (ad 0)), (1, .ref wa), (2, .int (nI b)), (3, .int (nI (pcn b 15))), (4, .int (nI i))] [.int (nI 15), .int (nI i)] rfl ?_
        refine g_icmp_ge X 71 dX9_mend_30 (by decide) (fun hc13 => ?_) (fun hc13 => ?_)
        · rw [nI_leI (by omega) (by omega)] at hc13; first | omega | (simp at hc13)
        · refine g_run X KX9_mend_33_16 KX9_mend_33_16_d 37 [(0, .ref (ad 0)), (1, .ref wa), (2, .int (nI b)), (3, .int (nI (pcn b 15))), (4, .int (nI i))] [.int (nI 4), .int ((nI (pcn b 15)) + (nI 2))] rfl ?_
          refine g_nm (lv' := [(0, .ref (ad 0)), (1, .ref wa), (2, .int (nI b)), (3, .int (nI (pcn b 15))), (4, .int (nI i))]) (st' := [.int (nI 4), .int (nI ((pcn b 15) + 2))]) (by simp only [nI_add]) (by simp only [nI_add]) ?_
          refine g_icmp_gt X 71 dX9_mend_37 (by decide) (fun hc14 => ?_) (fun hc14 => ?_)
          · rw [nI_ltI (by omega) (by omega)] at hc14; have hm2 := hc14
            refine g_run X KX9_mend_71_6 KX9_mend_71_6_d 74 [(4, .int (nI 0)), (0, .ref (ad 0)), (1, .ref wa), (2, .int (nI b)), (3, .int (nI (pcn b 15)))] [] rfl ?_
            refine g_lv (lv' := [(0, .ref (ad 0)), (1, .ref wa), (2, .int (nI b)), (3, .int (nI (pcn b 15))), (4, .int (nI 0))]) (lsub_c 1 rfl (lsub_c 2 rfl (lsub_c 3 rfl (lsub_c 4 rfl (lsub_c 0 rfl (lsub_n)))))) ?_
            refine g_forE 15 (fun (uE74 : (Nat → Nat) × (Nat → Int32)) => WM ad g I L S (z4 Z uE74.1 uE74.2 (Z 2)) Y ++ []) (fun i => [(0, .ref (ad 0)), (1, .ref wa), (2, .int (nI b)), (3, .int (nI (pcn b 15))), (4, .int (nI i))]) (fun uE74 i => R16 uE74.1 ∧ ∀ p, p < i → ∀ q, q < p → slv (2 ^ p ||| 2 ^ q) x = none) (uE26.1, uE26.2) (⟨by assumption, fun p hp => by omega⟩) rfl (rfl) ?_ ?_
            · intro uE74 hP74
              have hRF := hP74.1
              have hA2 := hP74.2
              refine g_run X KX9_mend_74_7 KX9_mend_74_7_d 78 [(0, .ref (ad 0)), (1, .ref wa), (2, .int (nI b)), (3, .int (nI (pcn b 15))), (4, .int (nI 15))] [.int (nI 15), .int (nI 15)] rfl ?_
              refine g_icmp_ge X 126 dX9_mend_78 (by decide) (fun hc15 => ?_) (fun hc15 => ?_)
              · refine g_run X KX9_mend_126_8 KX9_mend_126_8_d 127 [(0, .ref (ad 0)), (1, .ref wa), (2, .int (nI b)), (3, .int (nI (pcn b 15))), (4, .int (nI 15))] [.int (nI 0)] rfl ?_
                have hmw : mw b x = none := mw_nil hb hs0 (by first | exact fun _ => hA1 | exact fun h => absurd h (by omega)) (by first | exact fun _ => hA2 | exact fun h => absurd h (by omega))
                exact g_zret X hr (by decide +kernel) (uE74.1, uE74.2) (by show some (Value.int _) = some (Value.int _); first | (rw [hmw]; done) | (rw [hmw]; rfl)) (by assumption) (by first | (rw [hmw]; done) | (rw [hmw]; rfl)) (Nat.le_of_ble_eq_true rfl) (Nat.le_of_ble_eq_true rfl) dX9_mend_127
              · rw [nI_leI (by omega) (by omega)] at hc15; first | omega | (simp at hc15)
            · intro i hii uE74 hP74 k74
              have hRF := hP74.1
              refine g_run X KX9_mend_74_7 KX9_mend_74_7_d 78 [(0, .ref (ad 0)), (1, .ref wa), (2, .int (nI b)), (3, .int (nI (pcn b 15))), (4, .int (nI i))] [.int (nI 15), .int (nI i)] rfl ?_
              refine g_icmp_ge X 126 dX9_mend_78 (by decide) (fun hc16 => ?_) (fun hc16 => ?_)
              · rw [nI_leI (by omega) (by omega)] at hc16; first | omega | (simp at hc16)
              · refine g_run X KX9_mend_81_9 KX9_mend_81_9_d 82 [(0, .ref (ad 0)), (1, .ref wa), (2, .int (nI b)), (3, .int (nI (pcn b 15))), (4, .int (nI i))] [.int (nI (pcn b 15))] rfl ?_
                refine g_if_ne X 126 dX9_mend_82 (by decide) (fun hc17 => ?_) (fun hc17 => ?_)
                · rw [nz_eq (by omega)] at hc17; have hm0 := hc17
                  refine g_run X KX9_mend_126_8 KX9_mend_126_8_d 127 [(0, .ref (ad 0)), (1, .ref wa), (2, .int (nI b)), (3, .int (nI (pcn b 15))), (4, .int (nI i))] [.int (nI 0)] rfl ?_
                  have hmw : mw b x = none := mw_nil hb hs0 (by first | exact fun _ => hA1 | exact fun h => absurd h (by omega)) (by first | exact fun _ => hA2 | exact fun h => absurd h (by omega))
                  exact g_zret X hr (by decide +kernel) (uE74.1, uE74.2) (by show some (Value.int _) = some (Value.int _); first | (rw [hmw]; done) | (rw [hmw]; rfl)) (by assumption) (by first | (rw [hmw]; done) | (rw [hmw]; rfl)) (Nat.le_of_ble_eq_true rfl) (Nat.le_of_ble_eq_true rfl) dX9_mend_127
                · rw [nz_eq (by omega)] at hc17; have hm0 : pcn b 15 = 0 := by omega
                  refine g_run X KX9_mend_85_10 KX9_mend_85_10_d 88 [(5, .int (nI 0)), (0, .ref (ad 0)), (1, .ref wa), (2, .int (nI b)), (3, .int (nI (pcn b 15))), (4, .int (nI i))] [] rfl ?_
                  refine g_lv (lv' := [(0, .ref (ad 0)), (1, .ref wa), (2, .int (nI b)), (3, .int (nI (pcn b 15))), (4, .int (nI i)), (5, .int (nI 0))]) (lsub_c 1 rfl (lsub_c 2 rfl (lsub_c 3 rfl (lsub_c 4 rfl (lsub_c 5 rfl (lsub_c 0 rfl (lsub_n))))))) ?_
                  refine g_forE i (fun (uE88 : (Nat → Nat) × (Nat → Int32)) => WM ad g I L S (z4 Z uE88.1 uE88.2 (Z 2)) Y ++ []) (fun j => [(0, .ref (ad 0)), (1, .ref wa), (2, .int (nI b)), (3, .int (nI (pcn b 15))), (4, .int (nI i)), (5, .int (nI j))]) (fun uE88 j => R16 uE88.1 ∧ ∀ q, q < j → slv (2 ^ i ||| 2 ^ q) x = none) (uE74.1, uE74.2) (⟨by assumption, fun p hp => by omega⟩) rfl (rfl) ?_ ?_
                  · intro uE88 hP88
                    have hRG := hP88.1
                    refine g_run X KX9_mend_88_11 KX9_mend_88_11_d 92 [(0, .ref (ad 0)), (1, .ref wa), (2, .int (nI b)), (3, .int (nI (pcn b 15))), (4, .int (nI i)), (5, .int (nI i))] [.int (nI i), .int (nI i)] rfl ?_
                    refine g_icmp_ge X 120 dX9_mend_92 (by decide) (fun hc18 => ?_) (fun hc18 => ?_)
                    · refine g_run X KX9_mend_120_12 KX9_mend_120_12_d 74 [(4, .int ((nI i) + (nI 1))), (0, .ref (ad 0)), (1, .ref wa), (2, .int (nI b)), (3, .int (nI (pcn b 15))), (5, .int (nI i))] [] rfl ?_
                      refine g_nm (lv' := [(4, .int (nI (i + 1))), (0, .ref (ad 0)), (1, .ref wa), (2, .int (nI b)), (3, .int (nI (pcn b 15))), (5, .int (nI i))]) (st' := []) (by simp only [nI_add]) (by simp only [nI_add]) ?_
                      refine g_lv (lv' := [(0, .ref (ad 0)), (1, .ref wa), (2, .int (nI b)), (3, .int (nI (pcn b 15))), (4, .int (nI (i + 1)))]) (lsub_c 1 rfl (lsub_c 2 rfl (lsub_c 3 rfl (lsub_c 4 rfl (lsub_c 0 rfl (lsub_n)))))) ?_
                      refine g_cs (ws' := WM ad g I L S (z4 Z uE88.1 uE88.2 (Z 2)) Y ++ []) (lv' := [(0, .ref (ad 0)), (1, .ref wa), (2, .int (nI b)), (3, .int (nI (pcn b 15))), (4, .int (nI (i + 1)))]) rfl (rfl) ?_
                      exact k74 (uE88.1, uE88.2) (⟨by assumption, fun p hp q hq => by
                        by_cases ep : p = i
                        · subst ep; exact hP88.2 q hq
                        · exact hP74.2 p (by omega) q hq⟩)
                    · rw [nI_leI (by omega) (by omega)] at hc18; first | omega | (simp at hc18)
                  · intro j hjj uE88 hP88 k88
                    have hRG := hP88.1
                    refine g_run X KX9_mend_88_11 KX9_mend_88_11_d 92 [(0, .ref (ad 0)), (1, .ref wa), (2, .int (nI b)), (3, .int (nI (pcn b 15))), (4, .int (nI i)), (5, .int (nI j))] [.int (nI i), .int (nI j)] rfl ?_
                    refine g_icmp_ge X 120 dX9_mend_92 (by decide) (fun hc19 => ?_) (fun hc19 => ?_)
                    · rw [nI_leI (by omega) (by omega)] at hc19; first | omega | (simp at hc19)
                    · refine g_run X KX9_mend_95_13 KX9_mend_95_13_d 106 [(0, .ref (ad 0)), (1, .ref wa), (2, .int (nI b)), (3, .int (nI (pcn b 15))), (4, .int (nI i)), (5, .int (nI j))] [.int (((nI 1) <<< ((nI i) &&& 31)) ||| ((nI 1) <<< ((nI j) &&& 31))), .ref wa, .ref (ad 0)] rfl ?_
                      refine g_nm (lv' := [(0, .ref (ad 0)), (1, .ref wa), (2, .int (nI b)), (3, .int (nI (pcn b 15))), (4, .int (nI i)), (5, .int (nI j))]) (st' := [.int (nI ((2 ^ i) ||| (2 ^ j))), .ref wa, .ref (ad 0)]) (by simp only [nx_or, sh1 (show i < 31 by omega), sh1 (show j < 31 by omega)]) (by simp only [nx_or, sh1 (show i < 31 by omega), sh1 (show j < 31 by omega)]) ?_
                      refine g_callV X hSB hAf (srcW) (hrc1 := (rfl : CL[8]? = some _)) (wm_mem (k := 0) (by decide)) rfl (As := [.ref wa, .int (nI ((2 ^ i) ||| (2 ^ j)))]) (wr := []) (n := 2) (c_X9_solve l D g ad I L S (z4 Z uE88.1 uE88.2 (Z 2)) Y wa x ((2 ^ i) ||| (2 ^ j)) uE88.1 (by assumption) (rfl) (or_lt (n := 15) (two_lt (by omega)) (two_lt (by omega))) (pc_2 (by omega) (by omega))) rfl (srcR hRO) (hrdRO hRO rfl) w_1285 w_1282 w_1284 w_s16 w_6 (by decide +kernel) rfl ⟨Nat.le_of_ble_eq_true rfl, Nat.le_of_ble_eq_true rfl⟩ rfl rfl rfl (Nat.le_of_ble_eq_true rfl) ⟨Nat.le_of_ble_eq_true rfl, Nat.le_of_ble_eq_true rfl⟩ dX9_mend_106 (fun hu20 hp_hu20 => ?_)
                      refine g_af (ws' := WM ad g I L S (z4 Z hu20.1 hu20.2 (mdA (Z 2) (slv ((2 ^ i) ||| (2 ^ j)) x))) Y ++ []) (st' := [.int (nI (sB (slv ((2 ^ i) ||| (2 ^ j)) x)))]) (cells' := 0) (slots' := 0) (pc' := 109) (congrArg (fun z => (WM ad g I L S z Y) ++ []) z4_z4.symm) rfl rfl rfl rfl ?_
                      refine g_if_eq X 114 dX9_mend_109 (by decide) (fun hc21 => ?_) (fun hc21 => ?_)
                      · rw [sB_0] at hc21; have hs2 := hc21
                        refine g_ws (ws' := WM ad g I L S (z4 Z hu20.1 hu20.2 (Z 2)) Y ++ []) (by rw [hs2]; rfl) ?_
                        refine g_run X KX9_mend_114_14 KX9_mend_114_14_d 88 [(5, .int ((nI j) + (nI 1))), (0, .ref (ad 0)), (1, .ref wa), (2, .int (nI b)), (3, .int (nI (pcn b 15))), (4, .int (nI i))] [] rfl ?_
                        refine g_nm (lv' := [(5, .int (nI (j + 1))), (0, .ref (ad 0)), (1, .ref wa), (2, .int (nI b)), (3, .int (nI (pcn b 15))), (4, .int (nI i))]) (st' := []) (by simp only [nI_add]) (by simp only [nI_add]) ?_
                        refine g_lv (lv' := [(0, .ref (ad 0)), (1, .ref wa), (2, .int (nI b)), (3, .int (nI (pcn b 15))), (4, .int (nI i)), (5, .int (nI (j + 1)))]) (lsub_c 1 rfl (lsub_c 2 rfl (lsub_c 3 rfl (lsub_c 4 rfl (lsub_c 5 rfl (lsub_c 0 rfl (lsub_n))))))) ?_
                        refine g_cs (ws' := WM ad g I L S (z4 Z hu20.1 hu20.2 (Z 2)) Y ++ []) (lv' := [(0, .ref (ad 0)), (1, .ref wa), (2, .int (nI b)), (3, .int (nI (pcn b 15))), (4, .int (nI i)), (5, .int (nI (j + 1)))]) rfl (rfl) ?_
                        exact k88 (hu20.1, hu20.2) (⟨by assumption, fun q hq => by
                          by_cases ep : q = j
                          · subst ep; exact hs2
                          · exact hP88.2 q (by omega)⟩)
                      · rw [sB_0] at hc21; obtain ⟨y, hy⟩ := sB_1 hc21; have hmw : mw b x = some y := mw_ok ⟨(slv_is hy).1, (slv_is hy).2.1, Or.inr (Or.inr ⟨i, j, by omega, by omega, hm0, (slv_is hy).2.2⟩)⟩
                        refine g_run X KX9_mend_112_15 KX9_mend_112_15_d 113 [(0, .ref (ad 0)), (1, .ref wa), (2, .int (nI b)), (3, .int (nI (pcn b 15))), (4, .int (nI i)), (5, .int (nI j))] [.int (nI 1)] rfl ?_
                        exact g_zret X hr (by decide +kernel) (hu20.1, hu20.2) (by show some (Value.int _) = some (Value.int _); first | (rw [hmw]; done) | (rw [hmw]; rfl)) (by assumption) (by first | (rw [hy, hmw]; done) | (rw [hy, hmw]; rfl)) (Nat.le_of_ble_eq_true rfl) (Nat.le_of_ble_eq_true rfl) dX9_mend_113
          · rw [nI_ltI (by omega) (by omega)] at hc14; have hm2 : pcn b 15 + 2 ≤ 4 := by omega
            refine g_run X KX9_mend_40_17 KX9_mend_40_17_d 43 [(0, .ref (ad 0)), (1, .ref wa), (2, .int (nI b)), (3, .int (nI (pcn b 15))), (4, .int (nI i))] [.int (nI i), .int (nI b)] rfl ?_
            refine g_callS X hSB hAf (As := [.int (nI b), .int (nI i)]) (wr := WM ad g I L S (z4 Z uE26.1 uE26.2 (Z 2)) Y ++ []) (n := 2) (c_X9_isIn l D g b i (by omega) (by omega)) rfl srcN hrdN w_1288 w_1286 w_1287 w_6 (by decide +kernel) rfl ⟨Nat.le_of_ble_eq_true rfl, Nat.le_of_ble_eq_true rfl⟩ rfl rfl rfl (Nat.le_of_ble_eq_true rfl) ⟨Nat.le_of_ble_eq_true rfl, Nat.le_of_ble_eq_true rfl⟩ dX9_mend_43 (fun hu22 _ => ?_)
            refine g_af (ws' := WM ad g I L S (z4 Z uE26.1 uE26.2 (Z 2)) Y ++ []) (st' := [.int (nI (bN (b.testBit i)))]) (cells' := 0) (slots' := 0) (pc' := 46) rfl rfl rfl rfl rfl ?_
            refine g_if_ne X 65 dX9_mend_46 (by decide) (fun hc23 => ?_) (fun hc23 => ?_)
            · rw [bN_eq0] at hc23; have hbi := nf_t hc23
              refine g_run X KX9_mend_65_18 KX9_mend_65_18_d 26 [(4, .int ((nI i) + (nI 1))), (0, .ref (ad 0)), (1, .ref wa), (2, .int (nI b)), (3, .int (nI (pcn b 15)))] [] rfl ?_
              refine g_nm (lv' := [(4, .int (nI (i + 1))), (0, .ref (ad 0)), (1, .ref wa), (2, .int (nI b)), (3, .int (nI (pcn b 15)))]) (st' := []) (by simp only [nI_add]) (by simp only [nI_add]) ?_
              refine g_lv (lv' := [(0, .ref (ad 0)), (1, .ref wa), (2, .int (nI b)), (3, .int (nI (pcn b 15))), (4, .int (nI (i + 1)))]) (lsub_c 1 rfl (lsub_c 2 rfl (lsub_c 3 rfl (lsub_c 4 rfl (lsub_c 0 rfl (lsub_n)))))) ?_
              refine g_cs (ws' := WM ad g I L S (z4 Z uE26.1 uE26.2 (Z 2)) Y ++ []) (lv' := [(0, .ref (ad 0)), (1, .ref wa), (2, .int (nI b)), (3, .int (nI (pcn b 15))), (4, .int (nI (i + 1)))]) rfl (rfl) ?_
              exact k26 (uE26.1, uE26.2) (⟨by assumption, fun p hp hbp => by
                by_cases ep : p = i
                · subst ep; first | exact hs1 | (rw [hbi] at hbp; cases hbp)
                · exact hP26.2 p (by omega) hbp⟩)
            · rw [bN_eq0] at hc23; have hbi := hc23; have hpc := pc_1 (show i < 15 by omega) hm2
              refine g_run X KX9_mend_49_19 KX9_mend_49_19_d 57 [(0, .ref (ad 0)), (1, .ref wa), (2, .int (nI b)), (3, .int (nI (pcn b 15))), (4, .int (nI i))] [.int ((nI b) ||| ((nI 1) <<< ((nI i) &&& 31))), .ref wa, .ref (ad 0)] rfl ?_
              refine g_nm (lv' := [(0, .ref (ad 0)), (1, .ref wa), (2, .int (nI b)), (3, .int (nI (pcn b 15))), (4, .int (nI i))]) (st' := [.int (nI (b ||| (2 ^ i))), .ref wa, .ref (ad 0)]) (by simp only [nx_or, sh1 (show i < 31 by omega)]) (by simp only [nx_or, sh1 (show i < 31 by omega)]) ?_
              refine g_callV X hSB hAf (srcW) (hrc1 := (rfl : CL[8]? = some _)) (wm_mem (k := 0) (by decide)) rfl (As := [.ref wa, .int (nI (b ||| (2 ^ i)))]) (wr := []) (n := 2) (c_X9_solve l D g ad I L S (z4 Z uE26.1 uE26.2 (Z 2)) Y wa x (b ||| (2 ^ i)) uE26.1 (by assumption) (rfl) (or_lt (n := 15) hb15 (two_lt (by omega))) (hpc)) rfl (srcR hRO) (hrdRO hRO rfl) w_1285 w_1282 w_1284 w_s16 w_6 (by decide +kernel) rfl ⟨Nat.le_of_ble_eq_true rfl, Nat.le_of_ble_eq_true rfl⟩ rfl rfl rfl (Nat.le_of_ble_eq_true rfl) ⟨Nat.le_of_ble_eq_true rfl, Nat.le_of_ble_eq_true rfl⟩ dX9_mend_57 (fun hu24 hp_hu24 => ?_)
              refine g_af (ws' := WM ad g I L S (z4 Z hu24.1 hu24.2 (mdA (Z 2) (slv (b ||| (2 ^ i)) x))) Y ++ []) (st' := [.int (nI (sB (slv (b ||| (2 ^ i)) x)))]) (cells' := 0) (slots' := 0) (pc' := 60) (congrArg (fun z => (WM ad g I L S z Y) ++ []) z4_z4.symm) rfl rfl rfl rfl ?_
              refine g_if_eq X 65 dX9_mend_60 (by decide) (fun hc25 => ?_) (fun hc25 => ?_)
              · rw [sB_0] at hc25; have hs1 := hc25
                refine g_ws (ws' := WM ad g I L S (z4 Z hu24.1 hu24.2 (Z 2)) Y ++ []) (by rw [hs1]; rfl) ?_
                refine g_run X KX9_mend_65_18 KX9_mend_65_18_d 26 [(4, .int ((nI i) + (nI 1))), (0, .ref (ad 0)), (1, .ref wa), (2, .int (nI b)), (3, .int (nI (pcn b 15)))] [] rfl ?_
                refine g_nm (lv' := [(4, .int (nI (i + 1))), (0, .ref (ad 0)), (1, .ref wa), (2, .int (nI b)), (3, .int (nI (pcn b 15)))]) (st' := []) (by simp only [nI_add]) (by simp only [nI_add]) ?_
                refine g_lv (lv' := [(0, .ref (ad 0)), (1, .ref wa), (2, .int (nI b)), (3, .int (nI (pcn b 15))), (4, .int (nI (i + 1)))]) (lsub_c 1 rfl (lsub_c 2 rfl (lsub_c 3 rfl (lsub_c 4 rfl (lsub_c 0 rfl (lsub_n)))))) ?_
                refine g_cs (ws' := WM ad g I L S (z4 Z hu24.1 hu24.2 (Z 2)) Y ++ []) (lv' := [(0, .ref (ad 0)), (1, .ref wa), (2, .int (nI b)), (3, .int (nI (pcn b 15))), (4, .int (nI (i + 1)))]) rfl (rfl) ?_
                exact k26 (hu24.1, hu24.2) (⟨by assumption, fun p hp hbp => by
                  by_cases ep : p = i
                  · subst ep; first | exact hs1 | (rw [hbi] at hbp; cases hbp)
                  · exact hP26.2 p (by omega) hbp⟩)
              · rw [sB_0] at hc25; obtain ⟨y, hy⟩ := sB_1 hc25; have hmw : mw b x = some y := mw_ok ⟨(slv_is hy).1, (slv_is hy).2.1, Or.inr (Or.inl ⟨i, by omega, hm2, (slv_is hy).2.2⟩)⟩
                refine g_run X KX9_mend_63_20 KX9_mend_63_20_d 64 [(0, .ref (ad 0)), (1, .ref wa), (2, .int (nI b)), (3, .int (nI (pcn b 15))), (4, .int (nI i))] [.int (nI 1)] rfl ?_
                exact g_zret X hr (by decide +kernel) (hu24.1, hu24.2) (by show some (Value.int _) = some (Value.int _); first | (rw [hmw]; done) | (rw [hmw]; rfl)) (by assumption) (by first | (rw [hy, hmw]; done) | (rw [hy, hmw]; rfl)) (Nat.le_of_ble_eq_true rfl) (Nat.le_of_ble_eq_true rfl) dX9_mend_64
    · rw [sB_0] at hc4; obtain ⟨y, hy⟩ := sB_1 hc4; have hmw : mw b x = some y := mw_ok ⟨(slv_is hy).1, (slv_is hy).2.1, Or.inl ⟨hb, (slv_is hy).2.2⟩⟩
      refine g_run X KX9_mend_21_21 KX9_mend_21_21_d 22 [(3, .int (nI (pcn b 15))), (0, .ref (ad 0)), (1, .ref wa), (2, .int (nI b))] [.int (nI 1)] rfl ?_
      exact g_zret X hr (by decide +kernel) (hu3.1, hu3.2) (by show some (Value.int _) = some (Value.int _); first | (rw [hmw]; done) | (rw [hmw]; rfl)) (by assumption) (by first | (rw [hy, hmw]; done) | (rw [hy, hmw]; rfl)) (Nat.le_of_ble_eq_true rfl) (Nat.le_of_ble_eq_true rfl) dX9_mend_22
  · rw [nI_leI (by omega) (by omega)] at hc2; have hb5 := hc2
    refine g_run X KX9_mend_10_22 KX9_mend_10_22_d 11 [(3, .int (nI (pcn b 15))), (0, .ref (ad 0)), (1, .ref wa), (2, .int (nI b))] [.int (nI 0)] rfl ?_
    have hmw : mw b x = none := by rw [mw, if_pos (by omega)]
    exact g_zret X hr (by decide +kernel) (R, (Z 1)) (by show some (Value.int _) = some (Value.int _); first | (rw [hmw]; done) | (rw [hmw]; rfl)) (by assumption) (by first | (rw [hmw]; done) | (rw [hmw]; rfl)) (Nat.le_of_ble_eq_true rfl) (Nat.le_of_ble_eq_true rfl) dX9_mend_11

