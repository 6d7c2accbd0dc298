
theorem pl_tb (z : Int64) (n i : Nat) : (pl z n).testBit i = (decide (i < n) && !(nib z i == 0)) := by
  induction n with
  | zero => rw [pl, Nat.zero_testBit]; rfl
  | succ n ih =>
    rw [pl]
    by_cases h : nib z n = 0
    · rw [if_pos h, ih]
      by_cases e : i = n
      · subst e; simp [h]
      · rw [show decide (i < n + 1) = decide (i < n) from decide_eq_decide.mpr ⟨fun g => by omega, fun g => by omega⟩]
    · rw [if_neg h, Nat.testBit_or, ih, Nat.testBit_two_pow]
      by_cases e : i = n
      · subst e; simp [h]
      · rw [show decide (i < n + 1) = decide (i < n) from decide_eq_decide.mpr ⟨fun g => by omega, fun g => by omega⟩, show decide (n = i) = false from decide_eq_false (fun g => e g.symm), Bool.or_false]
theorem df_0 {x y : Int64} {i : Nat} (hi : i < 15) (h : nib x i = nib y i) : bN ((pl (x ^^^ y) 15).testBit i) = 0 := by
  rw [pl_tb, nib_xor, h, Nat.xor_self]; simp [bN]
theorem df_1 {x y : Int64} {i : Nat} (hi : i < 15) (h : ¬ nib x i = nib y i) : bN ((pl (x ^^^ y) 15).testBit i) = 1 := by
  rw [pl_tb, nib_xor]
  have : ¬ nib x i ^^^ nib y i = 0 := fun z => h (xx0 z)
  simp [bN, hi, this]

def KX9_write__0_0 : List (Nat × Instr × Nat) := [(0, .aload_n 0, 1), (1, .iconst 0, 1)]
theorem KX9_write__0_0_d : ∀ z ∈ KX9_write__0_0, decode cX9_write_ z.1 = .ok z.2 := by decide +kernel
def KX9_write__5_1 : List (Nat × Instr × Nat) := [(5, .iload_n 1, 1)]
theorem KX9_write__5_1_d : ∀ z ∈ KX9_write__5_1, decode cX9_write_ z.1 = .ok z.2 := by decide +kernel
def KX9_write__18_2 : List (Nat × Instr × Nat) := [(18, .lload_n 2, 1)]
theorem KX9_write__18_2_d : ∀ z ∈ KX9_write__18_2, decode cX9_write_ z.1 = .ok z.2 := by decide +kernel
def KX9_write__31_3 : List (Nat × Instr × Nat) := [(31, .aload_n 0, 1), (32, .iload_n 1, 1)]
theorem KX9_write__31_3_d : ∀ z ∈ KX9_write__31_3, decode cX9_write_ z.1 = .ok z.2 := by decide +kernel
def KX9_write__36_4 : List (Nat × Instr × Nat) := [(36, .astore 4, 2), (38, .aload_n 0, 1), (39, .iload_n 1, 1), (40, .aload_n 0, 1), (41, .lload_n 2, 1)]
theorem KX9_write__36_4_d : ∀ z ∈ KX9_write__36_4, decode cX9_write_ z.1 = .ok z.2 := by decide +kernel
def KX9_write__48_5 : List (Nat × Instr × Nat) := [(48, .aload_n 0, 1), (49, .iload_n 1, 1)]
theorem KX9_write__48_5_d : ∀ z ∈ KX9_write__48_5, decode cX9_write_ z.1 = .ok z.2 := by decide +kernel
def KX9_write__53_6 : List (Nat × Instr × Nat) := [(53, .astore 5, 2), (55, .iconst 0, 1), (56, .istore 6, 2), (58, .iconst 0, 1), (59, .istore 7, 2)]
theorem KX9_write__53_6_d : ∀ z ∈ KX9_write__53_6, decode cX9_write_ z.1 = .ok z.2 := by decide +kernel
def KX9_write__61_7 : List (Nat × Instr × Nat) := [(61, .iload 7, 2), (63, .bipush 15, 2)]
theorem KX9_write__61_7_d : ∀ z ∈ KX9_write__61_7, decode cX9_write_ z.1 = .ok z.2 := by decide +kernel
def KX9_write__97_8 : List (Nat × Instr × Nat) := [(97, .iload 6, 2)]
theorem KX9_write__97_8_d : ∀ z ∈ KX9_write__97_8, decode cX9_write_ z.1 = .ok z.2 := by decide +kernel
def KX9_write__68_9 : List (Nat × Instr × Nat) := [(68, .iload 6, 2), (70, .aload 4, 2), (72, .iload 7, 2)]
theorem KX9_write__68_9_d : ∀ z ∈ KX9_write__68_9, decode cX9_write_ z.1 = .ok z.2 := by decide +kernel
def KX9_write__75_10 : List (Nat × Instr × Nat) := [(75, .aload 5, 2), (77, .iload 7, 2)]
theorem KX9_write__75_10_d : ∀ z ∈ KX9_write__75_10, decode cX9_write_ z.1 = .ok z.2 := by decide +kernel
def KX9_write__87_11 : List (Nat × Instr × Nat) := [(87, .iconst 1, 1), (88, .iadd, 1), (89, .istore 6, 2), (91, .iinc 7 1, 3), (94, .goto (-33), 3)]
theorem KX9_write__87_11_d : ∀ z ∈ KX9_write__87_11, decode cX9_write_ z.1 = .ok z.2 := by decide +kernel
def KX9_write__83_12 : List (Nat × Instr × Nat) := [(83, .iconst 0, 1), (84, .goto 4, 3), (88, .iadd, 1), (89, .istore 6, 2), (91, .iinc 7 1, 3), (94, .goto (-33), 3)]
theorem KX9_write__83_12_d : ∀ z ∈ KX9_write__83_12, decode cX9_write_ z.1 = .ok z.2 := by decide +kernel
set_option maxHeartbeats 4000000 in
set_option maxRecDepth 100000 in
theorem c_X9_write_ (l : Launch) (D : va_G) (g : Nat → ClassId) (ad : Nat → Nat) (I : Nat → Nat → Int32) (L : Nat → Nat → Int64) (S : Nat → Nat) (Z : Nat → Nat → Int32) (Y : Int64) (q : Nat) (dd : Nat) (R : Nat → Nat) (hR : R16 R) (hZ : Z 0 = fun j => nI (R j)) (hS18 : ∀ p, p < 15 → S p < 18) (hK : kOK I) (hq : q < 16) (hX : dd < 2 ^ 44) : CT l yX9_write_ cX9_write_ 8 ((Option.some FieldType.int)) ({ frames := 4, cells := 3, slots := 45, locals := 102 } : Room) [.ref (ad 0), .int (nI q), .long (lN dd)] D CL (TYS g) ([]) (WM ad g I L S Z Y) (S := (Nat → Nat) × (Nat → Int32)) (fun _ => some (.int (nI (pcn (pl (rwd I L S q 15 ^^^ rwd I (wrw S L q (wdO (lN dd)) 15) S q 15) 15) 15)))) (fun u => WM ad g I (wrw S L q (wdO (lN dd)) 15) S (z4 (u2 Z 3 0 (nI 0)) u.1 u.2 (wA (wdO (lN dd)))) Y) (fun u => R16 u.1) 3 45 := by
  refine ct_of (by decide +kernel) (Nat.le_of_ble_eq_true rfl) ?_
  intro p e s m below meth c A X hr hnm hSB hRO hAf
  refine g_cs (ws' := WM ad g I L S (z4 Z R (Z 1) (Z 2)) Y ++ []) (lv' := [(0, .ref (ad 0)), (1, .int (nI q)), (2, .long (lN dd))]) (by rw [z4_e hZ]; exact List.append_nil _) rfl ?_
  refine g_run X KX9_write__0_0 KX9_write__0_0_d 2 [(0, .ref (ad 0)), (1, .int (nI q)), (2, .long (lN dd))] [.int (nI 0), .ref (ad 0)] rfl ?_
  refine g_put X (ws' := WM ad g I L S (z4 (u2 Z 3 0 (nI 0)) R (Z 1) (Z 2)) Y ++ []) hinX9 tyX9 tyX9_ok nmX9 rfl 0 (by decide) w_1180 rfl rfl (ty := .int) rfl rfl rfl (0) (wm_get (k := 0) (by decide)) (Nat.le_of_ble_eq_true rfl) (wm_so0) dX9_write__2 ?_
  refine g_run X KX9_write__5_1 KX9_write__5_1_d 6 [(0, .ref (ad 0)), (1, .int (nI q)), (2, .long (lN dd))] [.int (nI q)] rfl ?_
  refine g_callS X hSB hAf (As := [.int (nI q)]) (wr := WM ad g I L S (z4 (u2 Z 3 0 (nI 0)) R (Z 1) (Z 2)) Y ++ []) (n := 1) (c_X9_isLine_t l D g q (by omega)) rfl srcN hrdN w_1257 w_1255 w_1256 w_6 (by decide +kernel) rfl ⟨Nat.le_of_ble_eq_true rfl, Nat.le_of_ble_eq_true rfl⟩ rfl rfl rfl (Nat.le_of_ble_eq_true rfl) ⟨Nat.le_of_ble_eq_true rfl, Nat.le_of_ble_eq_true rfl⟩ dX9_write__6 (fun hu1 _ => ?_)
  refine g_af (ws' := WM ad g I L S (z4 (u2 Z 3 0 (nI 0)) R (Z 1) (Z 2)) Y ++ []) (st' := [.int (nI 1)]) (cells' := 0) (slots' := 0) (pc' := 9) rfl rfl rfl rfl rfl ?_
  refine g_if_ne X 18 dX9_write__9 (by decide) (fun hc2 => ?_) (fun hc2 => ?_)
  · refine g_run X KX9_write__18_2 KX9_write__18_2_d 19 [(0, .ref (ad 0)), (1, .int (nI q)), (2, .long (lN dd))] [.long (lN dd)] rfl ?_
    refine g_callS X hSB hAf (As := [.long (lN dd)]) (wr := WM ad g I L S (z4 (u2 Z 3 0 (nI 0)) R (Z 1) (Z 2)) Y ++ []) (n := 1) (c_X9_isData_t l D g (lN dd) (dOK_l hX)) rfl srcN hrdN w_1267 w_1265 w_1266 w_6 (by decide +kernel) rfl ⟨Nat.le_of_ble_eq_true rfl, Nat.le_of_ble_eq_true rfl⟩ rfl rfl rfl (Nat.le_of_ble_eq_true rfl) ⟨Nat.le_of_ble_eq_true rfl, Nat.le_of_ble_eq_true rfl⟩ dX9_write__19 (fun hu3 _ => ?_)
    refine g_af (ws' := WM ad g I L S (z4 (u2 Z 3 0 (nI 0)) R (Z 1) (Z 2)) Y ++ []) (st' := [.int (nI 1)]) (cells' := 0) (slots' := 0) (pc' := 22) rfl rfl rfl rfl rfl ?_
    refine g_if_ne X 31 dX9_write__22 (by decide) (fun hc4 => ?_) (fun hc4 => ?_)
    · refine g_run X KX9_write__31_3 KX9_write__31_3_d 33 [(0, .ref (ad 0)), (1, .int (nI q)), (2, .long (lN dd))] [.int (nI q), .ref (ad 0)] rfl ?_
      refine g_callV X hSB hAf (srcW) (hrc1 := (rfl : CL[8]? = some _)) (wm_mem (k := 0) (by decide)) rfl (As := [.int (nI q)]) (wr := []) (n := 1) (c_X9_read l D g ad I L S (z4 (u2 Z 3 0 (nI 0)) R (Z 1) (Z 2)) Y q (hS18) (hK) (by omega)) rfl srcN hrdN w_1272 w_1269 w_1271 w_s13 w_6 (by decide +kernel) rfl ⟨Nat.le_of_ble_eq_true rfl, Nat.le_of_ble_eq_true rfl⟩ rfl rfl rfl (Nat.le_of_ble_eq_true rfl) ⟨Nat.le_of_ble_eq_true rfl, Nat.le_of_ble_eq_true rfl⟩ dX9_write__33 (fun hu5 _ => ?_)
      refine g_af (ws' := WM ad g I L S (z4 (u2 Z 3 0 (nI 0)) R (Z 1) (Z 2)) Y ++ [(hu5, Sum.inl (g 0, 15, .inl (wA (rwd I L S q 15))))]) (st' := [.ref hu5]) (cells' := 1) (slots' := 15) (pc' := 36) ((List.append_assoc _ ([(hu5, Sum.inl (g 0, 15, .inl (wA (rwd I L S q 15))))] : va_W) []).symm) rfl rfl rfl rfl ?_
      refine g_run X KX9_write__36_4 KX9_write__36_4_d 42 [(4, .ref hu5), (0, .ref (ad 0)), (1, .int (nI q)), (2, .long (lN dd))] [.long (lN dd), .ref (ad 0), .int (nI q), .ref (ad 0)] rfl ?_
      refine g_callV X hSB hAf (srcW) (hrc1 := (rfl : CL[8]? = some _)) (wm_mem (k := 0) (by decide)) rfl (As := [.long (lN dd)]) (wr := [(hu5, Sum.inl (g 0, 15, .inl (wA (rwd I L S q 15))))]) (n := 1) (c_X9_wordOf l D g ad I L S (z4 (u2 Z 3 0 (nI 0)) R (Z 1) (Z 2)) Y dd R (by assumption) (rfl) (hX)) rfl srcN hrdN w_1280 w_1277 w_1279 w_s15 w_6 (by decide +kernel) rfl ⟨Nat.le_of_ble_eq_true rfl, Nat.le_of_ble_eq_true rfl⟩ rfl rfl rfl (Nat.le_of_ble_eq_true rfl) ⟨Nat.le_of_ble_eq_true rfl, Nat.le_of_ble_eq_true rfl⟩ dX9_write__42 (fun hu6 hp_hu6 => ?_)
      refine g_af (ws' := WM ad g I L S (z4 (u2 Z 3 0 (nI 0)) hu6.1 hu6.2.1 (wA (wdO (lN dd)))) Y ++ [(hu6.2.2, Sum.inl (g 0, 15, .inl (wA (wdO (lN dd))))), (hu5, Sum.inl (g 0, 15, .inl (wA (rwd I L S q 15))))]) (st' := [.ref hu6.2.2, .int (nI q), .ref (ad 0)]) (cells' := 2) (slots' := 30) (pc' := 45) ((List.append_assoc _ ([(hu6.2.2, Sum.inl (g 0, 15, .inl (wA (wdO (lN dd)))))] : va_W) [(hu5, Sum.inl (g 0, 15, .inl (wA (rwd I L S q 15))))]).symm.trans (congrArg (fun z => (WM ad g I L S z Y ++ ([(hu6.2.2, Sum.inl (g 0, 15, .inl (wA (wdO (lN dd)))))] : va_W)) ++ [(hu5, Sum.inl (g 0, 15, .inl (wA (rwd I L S q 15))))]) z4_z4.symm)) rfl rfl rfl rfl ?_
      refine g_callV X hSB hAf (srcW) (hrc1 := (rfl : CL[8]? = some _)) (wm_mem (k := 0) (by decide)) rfl (As := [.int (nI q), .ref hu6.2.2]) (wr := [(hu6.2.2, Sum.inl (g 0, 15, .inl (wA (wdO (lN dd))))), (hu5, Sum.inl (g 0, 15, .inl (wA (rwd I L S q 15))))]) (n := 2) (c_X9_write l D g ad I L S (z4 (u2 Z 3 0 (nI 0)) hu6.1 hu6.2.1 (wA (wdO (lN dd)))) Y q hu6.2.2 (wdO (lN dd)) (hS18) (by omega)) rfl (src_sub (wt_mem (by simp))) (hrdT rfl (by simp)) w_1309 w_1306 w_1308 w_s21 w_6 (by decide +kernel) rfl ⟨Nat.le_of_ble_eq_true rfl, Nat.le_of_ble_eq_true rfl⟩ rfl rfl rfl (Nat.le_of_ble_eq_true rfl) ⟨Nat.le_of_ble_eq_true rfl, Nat.le_of_ble_eq_true rfl⟩ dX9_write__45 (fun hu7 _ => ?_)
      refine g_af (ws' := WM ad g I (wrw S L q (wdO (lN dd)) 15) S (z4 (u2 Z 3 0 (nI 0)) hu6.1 hu6.2.1 (wA (wdO (lN dd)))) Y ++ [(hu6.2.2, Sum.inl (g 0, 15, .inl (wA (wdO (lN dd))))), (hu5, Sum.inl (g 0, 15, .inl (wA (rwd I L S q 15))))]) (st' := []) (cells' := 2) (slots' := 30) (pc' := 48) rfl rfl rfl rfl rfl ?_
      refine g_run X KX9_write__48_5 KX9_write__48_5_d 50 [(4, .ref hu5), (0, .ref (ad 0)), (1, .int (nI q)), (2, .long (lN dd))] [.int (nI q), .ref (ad 0)] rfl ?_
      refine g_callV X hSB hAf (srcW) (hrc1 := (rfl : CL[8]? = some _)) (wm_mem (k := 0) (by decide)) rfl (As := [.int (nI q)]) (wr := [(hu6.2.2, Sum.inl (g 0, 15, .inl (wA (wdO (lN dd))))), (hu5, Sum.inl (g 0, 15, .inl (wA (rwd I L S q 15))))]) (n := 1) (c_X9_read l D g ad I (wrw S L q (wdO (lN dd)) 15) S (z4 (u2 Z 3 0 (nI 0)) hu6.1 hu6.2.1 (wA (wdO (lN dd)))) Y q (hS18) (hK) (by omega)) rfl srcN hrdN w_1272 w_1269 w_1271 w_s13 w_6 (by decide +kernel) rfl ⟨Nat.le_of_ble_eq_true rfl, Nat.le_of_ble_eq_true rfl⟩ rfl rfl rfl (Nat.le_of_ble_eq_true rfl) ⟨Nat.le_of_ble_eq_true rfl, Nat.le_of_ble_eq_true rfl⟩ dX9_write__50 (fun hu8 _ => ?_)
      refine g_af (ws' := WM ad g I (wrw S L q (wdO (lN dd)) 15) S (z4 (u2 Z 3 0 (nI 0)) hu6.1 hu6.2.1 (wA (wdO (lN dd)))) Y ++ [(hu8, Sum.inl (g 0, 15, .inl (wA (rwd I (wrw S L q (wdO (lN dd)) 15) S q 15)))), (hu6.2.2, Sum.inl (g 0, 15, .inl (wA (wdO (lN dd))))), (hu5, Sum.inl (g 0, 15, .inl (wA (rwd I L S q 15))))]) (st' := [.ref hu8]) (cells' := 3) (slots' := 45) (pc' := 53) ((List.append_assoc _ ([(hu8, Sum.inl (g 0, 15, .inl (wA (rwd I (wrw S L q (wdO (lN dd)) 15) S q 15))))] : va_W) [(hu6.2.2, Sum.inl (g 0, 15, .inl (wA (wdO (lN dd))))), (hu5, Sum.inl (g 0, 15, .inl (wA (rwd I L S q 15))))]).symm) rfl rfl rfl rfl ?_
      refine g_run X KX9_write__53_6 KX9_write__53_6_d 61 [(7, .int (nI 0)), (6, .int (nI 0)), (5, .ref hu8), (4, .ref hu5), (0, .ref (ad 0)), (1, .int (nI q)), (2, .long (lN dd))] [] rfl ?_
      refine g_lv (lv' := [(0, .ref (ad 0)), (4, .ref hu5), (5, .ref hu8), (6, .int (nI 0)), (7, .int (nI 0))]) (lsub_c 4 rfl (lsub_c 3 rfl (lsub_c 2 rfl (lsub_c 1 rfl (lsub_c 0 rfl (lsub_n)))))) ?_
      refine g_for 15 (fun _ => WM ad g I (wrw S L q (wdO (lN dd)) 15) S (z4 (u2 Z 3 0 (nI 0)) hu6.1 hu6.2.1 (wA (wdO (lN dd)))) Y ++ [(hu8, Sum.inl (g 0, 15, .inl (wA (rwd I (wrw S L q (wdO (lN dd)) 15) S q 15)))), (hu6.2.2, Sum.inl (g 0, 15, .inl (wA (wdO (lN dd))))), (hu5, Sum.inl (g 0, 15, .inl (wA (rwd I L S q 15))))]) (fun i => [(0, .ref (ad 0)), (4, .ref hu5), (5, .ref hu8), (6, .int (nI (pcn (pl (rwd I L S q 15 ^^^ rwd I (wrw S L q (wdO (lN dd)) 15) S q 15) 15) i))), (7, .int (nI i))]) (rfl) (rfl) ?_ ?_
      · refine g_run X KX9_write__61_7 KX9_write__61_7_d 65 [(0, .ref (ad 0)), (4, .ref hu5), (5, .ref hu8), (6, .int (nI (pcn (pl (rwd I L S q 15 ^^^ rwd I (wrw S L q (wdO (lN dd)) 15) S q 15) 15) 15))), (7, .int (nI 15))] [.int (nI 15), .int (nI 15)] rfl ?_
        refine g_icmp_ge X 97 dX9_write__65 (by decide) (fun hc9 => ?_) (fun hc9 => ?_)
        · refine g_run X KX9_write__97_8 KX9_write__97_8_d 99 [(0, .ref (ad 0)), (4, .ref hu5), (5, .ref hu8), (6, .int (nI (pcn (pl (rwd I L S q 15 ^^^ rwd I (wrw S L q (wdO (lN dd)) 15) S q 15) 15) 15))), (7, .int (nI 15))] [.int (nI (pcn (pl (rwd I L S q 15 ^^^ rwd I (wrw S L q (wdO (lN dd)) 15) S q 15) 15) 15))] rfl ?_
          exact g_iret X hr (hu6.1, hu6.2.1) (rfl) (by assumption) (rfl) (Nat.le_of_ble_eq_true rfl) (Nat.le_of_ble_eq_true rfl) dX9_write__99
        · rw [nI_leI (by omega) (by omega)] at hc9; first | omega | (simp at hc9)
      · intro i hi k61
        refine g_run X KX9_write__61_7 KX9_write__61_7_d 65 [(0, .ref (ad 0)), (4, .ref hu5), (5, .ref hu8), (6, .int (nI (pcn (pl (rwd I L S q 15 ^^^ rwd I (wrw S L q (wdO (lN dd)) 15) S q 15) 15) i))), (7, .int (nI i))] [.int (nI 15), .int (nI i)] rfl ?_
        refine g_icmp_ge X 97 dX9_write__65 (by decide) (fun hc10 => ?_) (fun hc10 => ?_)
        · rw [nI_leI (by omega) (by omega)] at hc10; first | omega | (simp at hc10)
        · refine g_run X KX9_write__68_9 KX9_write__68_9_d 74 [(0, .ref (ad 0)), (4, .ref hu5), (5, .ref hu8), (6, .int (nI (pcn (pl (rwd I L S q 15 ^^^ rwd I (wrw S L q (wdO (lN dd)) 15) S q 15) 15) i))), (7, .int (nI i))] [.int (nI i), .ref hu5, .int (nI (pcn (pl (rwd I L S q 15 ^^^ rwd I (wrw S L q (wdO (lN dd)) 15) S q 15) 15) i))] rfl ?_
          refine g_iald X srcW (v := nI (nib (rwd I L S q 15) i)) 0 rfl (wt_mem (List.mem_cons_of_mem _ (List.mem_cons_of_mem _ (List.mem_cons_self ..)))) i rfl (by omega) (by decide) (rfl) dX9_write__74 ?_
          refine g_run X KX9_write__75_10 KX9_write__75_10_d 79 [(0, .ref (ad 0)), (4, .ref hu5), (5, .ref hu8), (6, .int (nI (pcn (pl (rwd I L S q 15 ^^^ rwd I (wrw S L q (wdO (lN dd)) 15) S q 15) 15) i))), (7, .int (nI i))] [.int (nI i), .ref hu8, .int (nI (nib (rwd I L S q 15) i)), .int (nI (pcn (pl (rwd I L S q 15 ^^^ rwd I (wrw S L q (wdO (lN dd)) 15) S q 15) 15) i))] rfl ?_
          refine g_iald X srcW (v := nI (nib (rwd I (wrw S L q (wdO (lN dd)) 15) S q 15) i)) 0 rfl (wt_mem (List.mem_cons_self ..)) i rfl (by omega) (by decide) (rfl) dX9_write__79 ?_
          refine g_icmp_ne X 87 dX9_write__80 (by decide) (fun hc11 => ?_) (fun hc11 => ?_)
          · rw [nI_eq (by have := nib_lt (rwd I L S q 15) i; omega) (by have := nib_lt (rwd I (wrw S L q (wdO (lN dd)) 15) S q 15) i; omega)] at hc11; have hdf := hc11
            refine g_run X KX9_write__87_11 KX9_write__87_11_d 61 [(7, .int ((nI i) + (nI 1))), (6, .int ((nI (pcn (pl (rwd I L S q 15 ^^^ rwd I (wrw S L q (wdO (lN dd)) 15) S q 15) 15) i)) + (nI 1))), (0, .ref (ad 0)), (4, .ref hu5), (5, .ref hu8)] [] rfl ?_
            refine g_nm (lv' := [(7, .int (nI (i + 1))), (6, .int (nI ((pcn (pl (rwd I L S q 15 ^^^ rwd I (wrw S L q (wdO (lN dd)) 15) S q 15) 15) i) + 1))), (0, .ref (ad 0)), (4, .ref hu5), (5, .ref hu8)]) (st' := []) (by simp only [nI_add]) (by simp only [nI_add]) ?_
            refine g_lv (lv' := [(0, .ref (ad 0)), (4, .ref hu5), (5, .ref hu8), (6, .int (nI ((pcn (pl (rwd I L S q 15 ^^^ rwd I (wrw S L q (wdO (lN dd)) 15) S q 15) 15) i) + 1))), (7, .int (nI (i + 1)))]) (lsub_c 2 rfl (lsub_c 3 rfl (lsub_c 4 rfl (lsub_c 1 rfl (lsub_c 0 rfl (lsub_n)))))) ?_
            refine g_cs (ws' := WM ad g I (wrw S L q (wdO (lN dd)) 15) S (z4 (u2 Z 3 0 (nI 0)) hu6.1 hu6.2.1 (wA (wdO (lN dd)))) Y ++ [(hu8, Sum.inl (g 0, 15, .inl (wA (rwd I (wrw S L q (wdO (lN dd)) 15) S q 15)))), (hu6.2.2, Sum.inl (g 0, 15, .inl (wA (wdO (lN dd))))), (hu5, Sum.inl (g 0, 15, .inl (wA (rwd I L S q 15))))]) (lv' := [(0, .ref (ad 0)), (4, .ref hu5), (5, .ref hu8), (6, .int (nI (pcn (pl (rwd I L S q 15 ^^^ rwd I (wrw S L q (wdO (lN dd)) 15) S q 15) 15) (i + 1)))), (7, .int (nI (i + 1)))]) (rfl) (by first | rw [pcn, df_0 hi hdf] | rw [pcn, df_1 hi hdf]) ?_
            exact k61
          · rw [nI_eq (by have := nib_lt (rwd I L S q 15) i; omega) (by have := nib_lt (rwd I (wrw S L q (wdO (lN dd)) 15) S q 15) i; omega)] at hc11; have hdf := hc11
            refine g_run X KX9_write__83_12 KX9_write__83_12_d 61 [(7, .int ((nI i) + (nI 1))), (6, .int ((nI (pcn (pl (rwd I L S q 15 ^^^ rwd I (wrw S L q (wdO (lN dd)) 15) S q 15) 15) i)) + (nI 0))), (0, .ref (ad 0)), (4, .ref hu5), (5, .ref hu8)] [] rfl ?_
            refine g_nm (lv' := [(7, .int (nI (i + 1))), (6, .int (nI ((pcn (pl (rwd I L S q 15 ^^^ rwd I (wrw S L q (wdO (lN dd)) 15) S q 15) 15) i) + 0))), (0, .ref (ad 0)), (4, .ref hu5), (5, .ref hu8)]) (st' := []) (by simp only [nI_add]) (by simp only [nI_add]) ?_
            refine g_lv (lv' := [(0, .ref (ad 0)), (4, .ref hu5), (5, .ref hu8), (6, .int (nI ((pcn (pl (rwd I L S q 15 ^^^ rwd I (wrw S L q (wdO (lN dd)) 15) S q 15) 15) i) + 0))), (7, .int (nI (i + 1)))]) (lsub_c 2 rfl (lsub_c 3 rfl (lsub_c 4 rfl (lsub_c 1 rfl (lsub_c 0 rfl (lsub_n)))))) ?_
            refine g_cs (ws' := WM ad g I (wrw S L q (wdO (lN dd)) 15) S (z4 (u2 Z 3 0 (nI 0)) hu6.1 hu6.2.1 (wA (wdO (lN dd)))) Y ++ [(hu8, Sum.inl (g 0, 15, .inl (wA (rwd I (wrw S L q (wdO (lN dd)) 15) S q 15)))), (hu6.2.2, Sum.inl (g 0, 15, .inl (wA (wdO (lN dd))))), (hu5, Sum.inl (g 0, 15, .inl (wA (rwd I L S q 15))))]) (lv' := [(0, .ref (ad 0)), (4, .ref hu5), (5, .ref hu8), (6, .int (nI (pcn (pl (rwd I L S q 15 ^^^ rwd I (wrw S L q (wdO (lN dd)) 15) S q 15) 15) (i + 1)))), (7, .int (nI (i + 1)))]) (rfl) (by first | rw [pcn, df_0 hi hdf] | rw [pcn, df_1 hi hdf]) ?_
            exact k61
    · rw [nz_eq (by omega)] at hc4; first | omega | (simp at hc4)
  · rw [nz_eq (by omega)] at hc2; first | omega | (simp at hc2)

def KX9_write__12_13 : List (Nat × Instr × Nat) := [(12, .aload_n 0, 1), (13, .iconst 1, 1)]
theorem KX9_write__12_13_d : ∀ z ∈ KX9_write__12_13, decode cX9_write_ z.1 = .ok z.2 := by decide +kernel
set_option maxHeartbeats 4000000 in
set_option maxRecDepth 100000 in
theorem c_X9_write__1 (l : Launch) (D : va_G) (g : Nat → ClassId) (ad : Nat → Nat) (I : Nat → Nat → Int32) (L : Nat → Nat → Int64) (S : Nat → Nat) (Z : Nat → Nat → Int32) (Y : Int64) (x : Int32) (y : Int64) (hx : x < 0 ∨ ¬ x ≤ nI 15) : CT l yX9_write_ cX9_write_ 8 ((Option.some FieldType.int)) ({ frames := 2, cells := 0, slots := 0, locals := 42 } : Room) [.ref (ad 0), .int x, .long y] D CL (TYS g) ([]) (WM ad g I L S Z Y) (S := Unit) (fun _ => some (.int (nI 0))) (fun _ => WM ad g I L S (u2 (u2 Z 3 0 (nI 0)) 3 0 (nI 1)) Y) (fun _ => True) 0 0 := by
  refine ct_of (by decide +kernel) (Nat.le_of_ble_eq_true rfl) ?_
  intro p e s m below meth c A X hr hnm hSB hRO hAf
  refine g_cs (ws' := WM ad g I L S Z Y ++ []) (lv' := [(0, .ref (ad 0)), (1, .int x), (2, .long y)]) (List.append_nil _) rfl ?_
  refine g_run X KX9_write__0_0 KX9_write__0_0_d 2 [(0, .ref (ad 0)), (1, .int x), (2, .long y)] [.int (nI 0), .ref (ad 0)] rfl ?_
  refine g_put X (ws' := WM ad g I L S (u2 Z 3 0 (nI 0)) Y ++ []) hinX9 tyX9 tyX9_ok nmX9 rfl 0 (by decide) w_1180 rfl rfl (ty := .int) rfl rfl rfl (0) (wm_get (k := 0) (by decide)) (Nat.le_of_ble_eq_true rfl) (wm_mo0) dX9_write__2 ?_
  refine g_run X KX9_write__5_1 KX9_write__5_1_d 6 [(0, .ref (ad 0)), (1, .int x), (2, .long y)] [.int x] rfl ?_
  refine g_callS X hSB hAf (As := [.int x]) (wr := WM ad g I L S (u2 Z 3 0 (nI 0)) Y ++ []) (n := 1) (c_X9_isLine_f l D g x (hx)) rfl srcN hrdN w_1257 w_1255 w_1256 w_6 (by decide +kernel) rfl ⟨Nat.le_of_ble_eq_true rfl, Nat.le_of_ble_eq_true rfl⟩ rfl rfl rfl (Nat.le_of_ble_eq_true rfl) ⟨Nat.le_of_ble_eq_true rfl, Nat.le_of_ble_eq_true rfl⟩ dX9_write__6 (fun hu1 _ => ?_)
  refine g_af (ws' := WM ad g I L S (u2 Z 3 0 (nI 0)) Y ++ []) (st' := [.int (nI 0)]) (cells' := 0) (slots' := 0) (pc' := 9) rfl rfl rfl rfl rfl ?_
  refine g_if_ne X 18 dX9_write__9 (by decide) (fun hc2 => ?_) (fun hc2 => ?_)
  · rw [nz_eq (by omega)] at hc2; first | omega | (simp at hc2)
  · refine g_run X KX9_write__12_13 KX9_write__12_13_d 14 [(0, .ref (ad 0)), (1, .int x), (2, .long y)] [.int (nI 1), .ref (ad 0)] rfl ?_
    refine g_callV X hSB hAf (srcW) (hrc1 := (rfl : CL[8]? = some _)) (wm_mem (k := 0) (by decide)) rfl (As := [.int (nI 1)]) (wr := []) (n := 1) (c_X9_refuse l D g ad I L S (u2 Z 3 0 (nI 0)) Y 1 ) rfl srcN hrdN w_1264 w_1261 w_1263 w_s12 w_6 (by decide +kernel) rfl ⟨Nat.le_of_ble_eq_true rfl, Nat.le_of_ble_eq_true rfl⟩ rfl rfl rfl (Nat.le_of_ble_eq_true rfl) ⟨Nat.le_of_ble_eq_true rfl, Nat.le_of_ble_eq_true rfl⟩ dX9_write__14 (fun hu3 _ => ?_)
    refine g_af (ws' := WM ad g I L S (u2 (u2 Z 3 0 (nI 0)) 3 0 (nI 1)) Y ++ []) (st' := [.int (nI 0)]) (cells' := 0) (slots' := 0) (pc' := 17) rfl rfl rfl rfl rfl ?_
    exact g_iret X hr () (rfl) (trivial) (rfl) (Nat.le_of_ble_eq_true rfl) (Nat.le_of_ble_eq_true rfl) dX9_write__17

def KX9_write__25_14 : List (Nat × Instr × Nat) := [(25, .aload_n 0, 1), (26, .iconst 2, 1)]
theorem KX9_write__25_14_d : ∀ z ∈ KX9_write__25_14, decode cX9_write_ z.1 = .ok z.2 := by decide +kernel
set_option maxHeartbeats 4000000 in
set_option maxRecDepth 100000 in
theorem c_X9_write__2 (l : Launch) (D : va_G) (g : Nat → ClassId) (ad : Nat → Nat) (I : Nat → Nat → Int32) (L : Nat → Nat → Int64) (S : Nat → Nat) (Z : Nat → Nat → Int32) (Y : Int64) (q : Nat) (x : Int64) (hq : q < 16) (hx : ¬ dOK x) : CT l yX9_write_ cX9_write_ 8 ((Option.some FieldType.int)) ({ frames := 2, cells := 0, slots := 0, locals := 42 } : Room) [.ref (ad 0), .int (nI q), .long x] D CL (TYS g) ([]) (WM ad g I L S Z Y) (S := Unit) (fun _ => some (.int (nI 0))) (fun _ => WM ad g I L S (u2 (u2 Z 3 0 (nI 0)) 3 0 (nI 2)) Y) (fun _ => True) 0 0 := by
  refine ct_of (by decide +kernel) (Nat.le_of_ble_eq_true rfl) ?_
  intro p e s m below meth c A X hr hnm hSB hRO hAf
  refine g_cs (ws' := WM ad g I L S Z Y ++ []) (lv' := [(0, .ref (ad 0)), (1, .int (nI q)), (2, .long x)]) (List.append_nil _) rfl ?_
  refine g_run X KX9_write__0_0 KX9_write__0_0_d 2 [(0, .ref (ad 0)), (1, .int (nI q)), (2, .long x)] [.int (nI 0), .ref (ad 0)] rfl ?_
  refine g_put X (ws' := WM ad g I L S (u2 Z 3 0 (nI 0)) Y ++ []) hinX9 tyX9 tyX9_ok nmX9 rfl 0 (by decide) w_1180 rfl rfl (ty := .int) rfl rfl rfl (0) (wm_get (k := 0) (by decide)) (Nat.le_of_ble_eq_true rfl) (wm_mo0) dX9_write__2 ?_
  refine g_run X KX9_write__5_1 KX9_write__5_1_d 6 [(0, .ref (ad 0)), (1, .int (nI q)), (2, .long x)] [.int (nI q)] rfl ?_
  refine g_callS X hSB hAf (As := [.int (nI q)]) (wr := WM ad g I L S (u2 Z 3 0 (nI 0)) Y ++ []) (n := 1) (c_X9_isLine_t l D g q (by omega)) rfl srcN hrdN w_1257 w_1255 w_1256 w_6 (by decide +kernel) rfl ⟨Nat.le_of_ble_eq_true rfl, Nat.le_of_ble_eq_true rfl⟩ rfl rfl rfl (Nat.le_of_ble_eq_true rfl) ⟨Nat.le_of_ble_eq_true rfl, Nat.le_of_ble_eq_true rfl⟩ dX9_write__6 (fun hu1 _ => ?_)
  refine g_af (ws' := WM ad g I L S (u2 Z 3 0 (nI 0)) Y ++ []) (st' := [.int (nI 1)]) (cells' := 0) (slots' := 0) (pc' := 9) rfl rfl rfl rfl rfl ?_
  refine g_if_ne X 18 dX9_write__9 (by decide) (fun hc2 => ?_) (fun hc2 => ?_)
  · refine g_run X KX9_write__18_2 KX9_write__18_2_d 19 [(0, .ref (ad 0)), (1, .int (nI q)), (2, .long x)] [.long x] rfl ?_
    refine g_callS X hSB hAf (As := [.long x]) (wr := WM ad g I L S (u2 Z 3 0 (nI 0)) Y ++ []) (n := 1) (c_X9_isData_f l D g x (hx)) rfl srcN hrdN w_1267 w_1265 w_1266 w_6 (by decide +kernel) rfl ⟨Nat.le_of_ble_eq_true rfl, Nat.le_of_ble_eq_true rfl⟩ rfl rfl rfl (Nat.le_of_ble_eq_true rfl) ⟨Nat.le_of_ble_eq_true rfl, Nat.le_of_ble_eq_true rfl⟩ dX9_write__19 (fun hu3 _ => ?_)
    refine g_af (ws' := WM ad g I L S (u2 Z 3 0 (nI 0)) Y ++ []) (st' := [.int (nI 0)]) (cells' := 0) (slots' := 0) (pc' := 22) rfl rfl rfl rfl rfl ?_
    refine g_if_ne X 31 dX9_write__22 (by decide) (fun hc4 => ?_) (fun hc4 => ?_)
    · rw [nz_eq (by omega)] at hc4; first | omega | (simp at hc4)
    · refine g_run X KX9_write__25_14 KX9_write__25_14_d 27 [(0, .ref (ad 0)), (1, .int (nI q)), (2, .long x)] [.int (nI 2), .ref (ad 0)] rfl ?_
      refine g_callV X hSB hAf (srcW) (hrc1 := (rfl : CL[8]? = some _)) (wm_mem (k := 0) (by decide)) rfl (As := [.int (nI 2)]) (wr := []) (n := 1) (c_X9_refuse l D g ad I L S (u2 Z 3 0 (nI 0)) Y 2 ) rfl srcN hrdN w_1264 w_1261 w_1263 w_s12 w_6 (by decide +kernel) rfl ⟨Nat.le_of_ble_eq_true rfl, Nat.le_of_ble_eq_true rfl⟩ rfl rfl rfl (Nat.le_of_ble_eq_true rfl) ⟨Nat.le_of_ble_eq_true rfl, Nat.le_of_ble_eq_true rfl⟩ dX9_write__27 (fun hu5 _ => ?_)
      refine g_af (ws' := WM ad g I L S (u2 (u2 Z 3 0 (nI 0)) 3 0 (nI 2)) Y ++ []) (st' := [.int (nI 0)]) (cells' := 0) (slots' := 0) (pc' := 30) rfl rfl rfl rfl rfl ?_
      exact g_iret X hr () (rfl) (trivial) (rfl) (Nat.le_of_ble_eq_true rfl) (Nat.le_of_ble_eq_true rfl) dX9_write__30
  · rw [nz_eq (by omega)] at hc2; first | omega | (simp at hc2)

