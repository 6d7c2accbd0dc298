
theorem fsN {f : Nat → Option Nat} : fsome f (4 - 4) 4 = none := rfl
/-- the places in which a word is mended, -1 if it is bad -/
def mdO (x : Int64) : Option Int64 → Int32
  | some y => nI (pl (x ^^^ y) 15)
  | none => -nI 1
section SO
variable {ad : Nat → Nat} {g : Nat → ClassId} {I : Nat → Nat → Int32} {L : Nat → Nat → Int64} {S : Nat → Nat} {Z : Nat → Nat → Int32} {Y : Int64} {t : va_W} {R : Nat → Nat} {W M : Nat → Int32}
theorem z4_3 {v : Int32} : u2 (z4 Z R W M) 3 0 v = z4 (u2 Z 3 0 v) R W M := by
  funext a j; unfold u2 z4
  by_cases h : a = 3
  · simp [h]
  · simp [h]
theorem wm_so0 {v : Int32} : (WM ad g I L S (z4 Z R W M) Y ++ t).set 0 (ad 0, .inr (8, (moF ad I (z4 Z R W M) Y).set 0 (.int v))) = WM ad g I L S (z4 (u2 Z 3 0 v) R W M) Y ++ t := by
  rw [← z4_3]; exact wm_mo0
end SO

def KX9_use_0_0 : List (Nat × Instr × Nat) := [(0, .aload_n 0, 1), (1, .dup, 1)]
theorem KX9_use_0_0_d : ∀ z ∈ KX9_use_0_0, decode cX9_use z.1 = .ok z.2 := by decide +kernel
def KX9_use_5_1 : List (Nat × Instr × Nat) := [(5, .iconst 1, 1), (6, .iadd, 1)]
theorem KX9_use_5_1_d : ∀ z ∈ KX9_use_5_1, decode cX9_use z.1 = .ok z.2 := by decide +kernel
def KX9_use_10_2 : List (Nat × Instr × Nat) := [(10, .aload_n 1, 1), (11, .aload_n 0, 1)]
theorem KX9_use_10_2_d : ∀ z ∈ KX9_use_10_2, decode cX9_use z.1 = .ok z.2 := by decide +kernel
set_option maxHeartbeats 4000000 in
set_option maxRecDepth 100000 in
theorem c_X9_use (l : Launch) (D : va_G) (g : Nat → ClassId) (ad : Nat → Nat) (I : Nat → Nat → Int32) (L : Nat → Nat → Int64) (S : Nat → Nat) (Z : Nat → Nat → Int32) (Y : Int64) (fk : Nat) (hk : fk < 4) : CT l yX9_use cX9_use 2 ((Option.none : Option Jvm.ClassFile.FieldType)) ({ frames := 0, cells := 0, slots := 0, locals := 0 } : Room) [.ref (ad 0), .ref (ad (fk + 13))] D CL (TYS g) ([]) (WM ad g I L S Z Y) (S := Unit) (fun _ => none) (fun _ => WM ad g (useI I fk) L S Z Y) (fun _ => True) 0 0 := by
  refine ct_of (by decide +kernel) (Nat.le_of_ble_eq_true rfl) ?_
  intro p e s m below meth c A X hr hnm hSB hRO hAf
  refine g_cs (ws' := WM ad g I L S Z Y ++ []) (lv' := [(0, .ref (ad 0)), (1, .ref (ad (fk + 13)))]) (List.append_nil _) rfl ?_
  refine g_run X KX9_use_0_0 KX9_use_0_0_d 2 [(0, .ref (ad 0)), (1, .ref (ad (fk + 13)))] [.ref (ad 0), .ref (ad 0)] rfl ?_
  refine g_get X srcW (v := .int (I 8 8)) hinX9 rfl 11 (by decide) w_1191 rfl (wm_mem (k := 0) (by decide)) rfl dX9_use_2 ?_
  refine g_run X KX9_use_5_1 KX9_use_5_1_d 7 [(0, .ref (ad 0)), (1, .ref (ad (fk + 13)))] [.int ((I 8 8) + (nI 1)), .ref (ad 0)] rfl ?_
  refine g_put X (ws' := WM ad g (u2 I 8 8 ((I 8 8) + (nI 1))) L S Z Y ++ []) hinX9 tyX9 tyX9_ok nmX9 rfl 11 (by decide) w_1191 rfl rfl (ty := .int) rfl rfl rfl (0) (wm_get (k := 0) (by decide)) (Nat.le_of_ble_eq_true rfl) (wm_mo11) dX9_use_7 ?_
  refine g_run X KX9_use_10_2 KX9_use_10_2_d 12 [(0, .ref (ad 0)), (1, .ref (ad (fk + 13)))] [.ref (ad 0), .ref (ad (fk + 13))] rfl ?_
  refine g_get X srcW (v := .int ((u2 I 8 8 ((I 8 8) + (nI 1))) 8 8)) hinX9 rfl 11 (by decide) w_1191 rfl (wm_mem (k := 0) (by decide)) rfl dX9_use_12 ?_
  refine g_nm (lv' := [(0, .ref (ad 0)), (1, .ref (ad (fk + 13)))]) (st' := [.int ((I 8 8) + (nI 1)), .ref (ad (fk + 13))]) (by simp only [u2_s]) (by simp only [u2_s]) ?_
  refine g_putN X (ws' := WM ad g (u2 (u2 I 8 8 ((I 8 8) + (nI 1))) 7 fk ((I 8 8) + (nI 1))) L S Z Y ++ []) hinX8 tyX8 tyX8_ok nmX8 rfl 3 (by decide) (nw_in n_1123 rfl) rfl rfl (ty := .int) rfl rfl rfl (fk + 13) (wm_frG (by omega)) (Nat.le_of_ble_eq_true rfl) (wm_fr3 (by omega)) dX9_use_15 ?_
  exact g_vret X hr () rfl (trivial) (rfl) (Nat.le_of_ble_eq_true rfl) (Nat.le_of_ble_eq_true rfl) dX9_use_18

def KX9_frameOf_0_0 : List (Nat × Instr × Nat) := [(0, .iconst 0, 1), (1, .istore_n 2, 1)]
theorem KX9_frameOf_0_0_d : ∀ z ∈ KX9_frameOf_0_0, decode cX9_frameOf z.1 = .ok z.2 := by decide +kernel
def KX9_frameOf_2_1 : List (Nat × Instr × Nat) := [(2, .iload_n 2, 1), (3, .iconst 4, 1)]
theorem KX9_frameOf_2_1_d : ∀ z ∈ KX9_frameOf_2_1, decode cX9_frameOf z.1 = .ok z.2 := by decide +kernel
def KX9_frameOf_33_2 : List (Nat × Instr × Nat) := [(33, .iconst (-1), 1)]
theorem KX9_frameOf_33_2_d : ∀ z ∈ KX9_frameOf_33_2, decode cX9_frameOf z.1 = .ok z.2 := by decide +kernel
def KX9_frameOf_7_3 : List (Nat × Instr × Nat) := [(7, .aload_n 0, 1)]
theorem KX9_frameOf_7_3_d : ∀ z ∈ KX9_frameOf_7_3, decode cX9_frameOf z.1 = .ok z.2 := by decide +kernel
def KX9_frameOf_11_4 : List (Nat × Instr × Nat) := [(11, .iload_n 2, 1)]
theorem KX9_frameOf_11_4_d : ∀ z ∈ KX9_frameOf_11_4, decode cX9_frameOf z.1 = .ok z.2 := by decide +kernel
def KX9_frameOf_21_5 : List (Nat × Instr × Nat) := [(21, .iload_n 1, 1)]
theorem KX9_frameOf_21_5_d : ∀ z ∈ KX9_frameOf_21_5, decode cX9_frameOf z.1 = .ok z.2 := by decide +kernel
def KX9_frameOf_27_6 : List (Nat × Instr × Nat) := [(27, .iinc 2 1, 3), (30, .goto (-28), 3)]
theorem KX9_frameOf_27_6_d : ∀ z ∈ KX9_frameOf_27_6, decode cX9_frameOf z.1 = .ok z.2 := by decide +kernel
def KX9_frameOf_25_7 : List (Nat × Instr × Nat) := [(25, .iload_n 2, 1)]
theorem KX9_frameOf_25_7_d : ∀ z ∈ KX9_frameOf_25_7, decode cX9_frameOf z.1 = .ok z.2 := by decide +kernel
set_option maxHeartbeats 4000000 in
set_option maxRecDepth 100000 in
theorem c_X9_frameOf (l : Launch) (D : va_G) (g : Nat → ClassId) (ad : Nat → Nat) (I : Nat → Nat → Int32) (L : Nat → Nat → Int64) (S : Nat → Nat) (Z : Nat → Nat → Int32) (Y : Int64) (q : Nat) : CT l yX9_frameOf cX9_frameOf 3 ((Option.some FieldType.int)) ({ frames := 3, cells := 0, slots := 0, locals := 64 } : Room) [.ref (ad 0), .int (nI q)] D CL (TYS g) ([]) (WM ad g I L S Z Y) (S := Unit) (fun _ => some (.int (oI (fof I q)))) (fun _ => WM ad g I L S Z Y) (fun _ => True) 0 0 := by
  refine ct_of (by decide +kernel) (Nat.le_of_ble_eq_true rfl) ?_
  intro p e s m below meth c A X hr hnm hSB hRO hAf
  refine g_cs (ws' := WM ad g I L S Z Y ++ []) (lv' := [(0, .ref (ad 0)), (1, .int (nI q))]) (List.append_nil _) rfl ?_
  refine g_run X KX9_frameOf_0_0 KX9_frameOf_0_0_d 2 [(2, .int (nI 0)), (0, .ref (ad 0)), (1, .int (nI q))] [] rfl ?_
  refine g_lv (lv' := [(0, .ref (ad 0)), (1, .int (nI q)), (2, .int (nI 0))]) (lsub_c 1 rfl (lsub_c 2 rfl (lsub_c 0 rfl (lsub_n)))) ?_
  refine g_forP 4 (fun _ => WM ad g I L S Z Y ++ []) (fun i => [(0, .ref (ad 0)), (1, .int (nI q)), (2, .int (nI i))]) (fun i => fsome (fun k => if I 5 k = nI q then some k else none) 4 0 = fsome (fun k => if I 5 k = nI q then some k else none) (4 - i) i) (rfl) (rfl) (rfl) ?_ ?_
  · intro hP2
    refine g_run X KX9_frameOf_2_1 KX9_frameOf_2_1_d 4 [(0, .ref (ad 0)), (1, .int (nI q)), (2, .int (nI 4))] [.int (nI 4), .int (nI 4)] rfl ?_
    refine g_icmp_ge X 33 dX9_frameOf_4 (by decide) (fun hc1 => ?_) (fun hc1 => ?_)
    · refine g_run X KX9_frameOf_33_2 KX9_frameOf_33_2_d 34 [(0, .ref (ad 0)), (1, .int (nI q)), (2, .int (nI 4))] [.int (-nI 1)] rfl ?_
      exact g_iret X hr () (by show some (Value.int (oI (fof I q))) = _; first | (rw [fof, hP2, fsN]; done) | (rw [fof, hP2, fsN]; rfl)) (trivial) (rfl) (Nat.le_of_ble_eq_true rfl) (Nat.le_of_ble_eq_true rfl) dX9_frameOf_34
    · rw [nI_leI (by omega) (by omega)] at hc1; first | omega | (simp at hc1)
  · intro i hi hP2 k2
    refine g_run X KX9_frameOf_2_1 KX9_frameOf_2_1_d 4 [(0, .ref (ad 0)), (1, .int (nI q)), (2, .int (nI i))] [.int (nI 4), .int (nI i)] rfl ?_
    refine g_icmp_ge X 33 dX9_frameOf_4 (by decide) (fun hc2 => ?_) (fun hc2 => ?_)
    · rw [nI_leI (by omega) (by omega)] at hc2; first | omega | (simp at hc2)
    · refine g_run X KX9_frameOf_7_3 KX9_frameOf_7_3_d 8 [(0, .ref (ad 0)), (1, .int (nI q)), (2, .int (nI i))] [.ref (ad 0)] rfl ?_
      refine g_get X srcW (v := .ref (ad 8)) hinX9 rfl 8 (by decide) w_1188 rfl (wm_mem (k := 0) (by decide)) rfl dX9_frameOf_8 ?_
      refine g_run X KX9_frameOf_11_4 KX9_frameOf_11_4_d 12 [(0, .ref (ad 0)), (1, .int (nI q)), (2, .int (nI i))] [.int (nI i), .ref (ad 8)] rfl ?_
      refine g_callV X hSB hAf (srcW) (hrc1 := (rfl : CL[9]? = some _)) (wm_mem (k := 8) (by decide)) rfl (As := [.int (nI i)]) (wr := []) (n := 1) (c_Jx4a65c_get_915e3 l D g ad I L S Z Y i (by omega)) rfl srcN hrdN w_1384 w_1381 w_1382 w_1383 w_9 (by decide +kernel) rfl ⟨Nat.le_of_ble_eq_true rfl, Nat.le_of_ble_eq_true rfl⟩ rfl rfl rfl (Nat.le_of_ble_eq_true rfl) ⟨Nat.le_of_ble_eq_true rfl, Nat.le_of_ble_eq_true rfl⟩ dX9_frameOf_12 (fun hu3 _ => ?_)
      refine g_af (ws' := WM ad g I L S Z Y ++ []) (st' := [.ref (ad (i + 13))]) (cells' := 0) (slots' := 0) (pc' := 15) rfl rfl rfl rfl rfl ?_
      refine g_cast X srcW (hc := (rfl : CL[7]? = some _)) (wm_fr (by omega)) w_1113 dX9_frameOf_15 ?_
      refine g_getN X srcW (host := "ChipfieldModel") (v := .int (I 5 i)) hinX8 rfl 0 (by decide) (nw_in n_1120 rfl) rfl (wm_fr (by omega)) rfl dX9_frameOf_18 ?_
      refine g_run X KX9_frameOf_21_5 KX9_frameOf_21_5_d 22 [(0, .ref (ad 0)), (1, .int (nI q)), (2, .int (nI i))] [.int (nI q), .int (I 5 i)] rfl ?_
      refine g_icmp_ne X 27 dX9_frameOf_22 (by decide) (fun hc4 => ?_) (fun hc4 => ?_)
      · have hne := hc4
        refine g_run X KX9_frameOf_27_6 KX9_frameOf_27_6_d 2 [(2, .int ((nI i) + (nI 1))), (0, .ref (ad 0)), (1, .int (nI q))] [] rfl ?_
        refine g_nm (lv' := [(2, .int (nI (i + 1))), (0, .ref (ad 0)), (1, .int (nI q))]) (st' := []) (by simp only [nI_add]) (by simp only [nI_add]) ?_
        refine g_lv (lv' := [(0, .ref (ad 0)), (1, .int (nI q)), (2, .int (nI (i + 1)))]) (lsub_c 1 rfl (lsub_c 2 rfl (lsub_c 0 rfl (lsub_n)))) ?_
        refine g_cs (ws' := WM ad g I L S Z Y ++ []) (lv' := [(0, .ref (ad 0)), (1, .int (nI q)), (2, .int (nI (i + 1)))]) (rfl) (rfl) ?_
        exact k2 (hP2.trans (fs_none hi (if_neg hne)))
      · have heq := hc4
        refine g_run X KX9_frameOf_25_7 KX9_frameOf_25_7_d 26 [(0, .ref (ad 0)), (1, .int (nI q)), (2, .int (nI i))] [.int (nI i)] rfl ?_
        exact g_iret X hr () (by show some (Value.int (oI (fof I q))) = _; first | (rw [fof, hP2, fs_some hi (if_pos heq)]; done) | (rw [fof, hP2, fs_some hi (if_pos heq)]; rfl)) (trivial) (rfl) (Nat.le_of_ble_eq_true rfl) (Nat.le_of_ble_eq_true rfl) dX9_frameOf_26

def KX9_ofChipNow_0_0 : List (Nat × Instr × Nat) := [(0, .aload_n 0, 1)]
theorem KX9_ofChipNow_0_0_d : ∀ z ∈ KX9_ofChipNow_0_0, decode cX9_ofChipNow z.1 = .ok z.2 := by decide +kernel
def KX9_ofChipNow_4_1 : List (Nat × Instr × Nat) := [(4, .iload_n 1, 1)]
theorem KX9_ofChipNow_4_1_d : ∀ z ∈ KX9_ofChipNow_4_1, decode cX9_ofChipNow z.1 = .ok z.2 := by decide +kernel
def KX9_ofChipNow_6_2 : List (Nat × Instr × Nat) := [(6, .astore_n 3, 1), (7, .iload_n 2, 1)]
theorem KX9_ofChipNow_6_2_d : ∀ z ∈ KX9_ofChipNow_6_2, decode cX9_ofChipNow z.1 = .ok z.2 := by decide +kernel
def KX9_ofChipNow_44_3 : List (Nat × Instr × Nat) := [(44, .aload_n 3, 1)]
theorem KX9_ofChipNow_44_3_d : ∀ z ∈ KX9_ofChipNow_44_3, decode cX9_ofChipNow z.1 = .ok z.2 := by decide +kernel
def KX9_ofChipNow_49_4 : List (Nat × Instr × Nat) := [(49, .aload_n 3, 1)]
theorem KX9_ofChipNow_49_4_d : ∀ z ∈ KX9_ofChipNow_49_4, decode cX9_ofChipNow z.1 = .ok z.2 := by decide +kernel
def KX9_ofChipNow_54_5 : List (Nat × Instr × Nat) := [(54, .aload_n 3, 1)]
theorem KX9_ofChipNow_54_5_d : ∀ z ∈ KX9_ofChipNow_54_5, decode cX9_ofChipNow z.1 = .ok z.2 := by decide +kernel
def KX9_ofChipNow_59_6 : List (Nat × Instr × Nat) := [(59, .aload_n 3, 1)]
theorem KX9_ofChipNow_59_6_d : ∀ z ∈ KX9_ofChipNow_59_6, decode cX9_ofChipNow z.1 = .ok z.2 := by decide +kernel
def KX9_ofChipNow_70_7 : List (Nat × Instr × Nat) := [(70, .iconst 0, 1)]
theorem KX9_ofChipNow_70_7_d : ∀ z ∈ KX9_ofChipNow_70_7, decode cX9_ofChipNow z.1 = .ok z.2 := by decide +kernel
def KX9_ofChipNow_66_8 : List (Nat × Instr × Nat) := [(66, .iconst 1, 1), (67, .goto 4, 3)]
theorem KX9_ofChipNow_66_8_d : ∀ z ∈ KX9_ofChipNow_66_8, decode cX9_ofChipNow z.1 = .ok z.2 := by decide +kernel
def KX9_ofChipNow_72_9 : List (Nat × Instr × Nat) := [(72, .aload_n 3, 1)]
theorem KX9_ofChipNow_72_9_d : ∀ z ∈ KX9_ofChipNow_72_9, decode cX9_ofChipNow z.1 = .ok z.2 := by decide +kernel
def KX9_ofChipNow_83_10 : List (Nat × Instr × Nat) := [(83, .iconst 0, 1)]
theorem KX9_ofChipNow_83_10_d : ∀ z ∈ KX9_ofChipNow_83_10, decode cX9_ofChipNow z.1 = .ok z.2 := by decide +kernel
def KX9_ofChipNow_79_11 : List (Nat × Instr × Nat) := [(79, .iconst 1, 1), (80, .goto 4, 3)]
theorem KX9_ofChipNow_79_11_d : ∀ z ∈ KX9_ofChipNow_79_11, decode cX9_ofChipNow z.1 = .ok z.2 := by decide +kernel
set_option maxHeartbeats 4000000 in
set_option maxRecDepth 100000 in
theorem c_X9_ofChipNow (l : Launch) (D : va_G) (g : Nat → ClassId) (ad : Nat → Nat) (I : Nat → Nat → Int32) (L : Nat → Nat → Int64) (S : Nat → Nat) (Z : Nat → Nat → Int32) (Y : Int64) (ch : Nat) (w : Nat) (hch : ch < 18) (hw : w < 5) : CT l yX9_ofChipNow cX9_ofChipNow 4 ((Option.some FieldType.int)) ({ frames := 0, cells := 0, slots := 0, locals := 0 } : Room) [.ref (ad 0), .int (nI ch), .int (nI w)] D CL (TYS g) ([]) (WM ad g I L S Z Y) (S := Unit) (fun _ => some (.int (ocV I L ch w))) (fun _ => WM ad g I L S Z Y) (fun _ => True) 0 0 := by
  refine ct_of (by decide +kernel) (Nat.le_of_ble_eq_true rfl) ?_
  intro p e s m below meth c A X hr hnm hSB hRO hAf
  refine g_cs (ws' := WM ad g I L S Z Y ++ []) (lv' := [(0, .ref (ad 0)), (1, .int (nI ch)), (2, .int (nI w))]) (List.append_nil _) rfl ?_
  refine g_run X KX9_ofChipNow_0_0 KX9_ofChipNow_0_0_d 1 [(0, .ref (ad 0)), (1, .int (nI ch)), (2, .int (nI w))] [.ref (ad 0)] rfl ?_
  refine g_get X srcW (v := .ref (ad 6)) hinX9 rfl 6 (by decide) w_1186 rfl (wm_mem (k := 0) (by decide)) rfl dX9_ofChipNow_1 ?_
  refine g_run X KX9_ofChipNow_4_1 KX9_ofChipNow_4_1_d 5 [(0, .ref (ad 0)), (1, .int (nI ch)), (2, .int (nI w))] [.int (nI ch), .ref (ad 6)] rfl ?_
  refine g_aald X srcW (b := ad (ch + 17)) 3 rfl (wm_mem (k := 6) (by decide)) ch rfl (by omega) (by decide) (rfl) dX9_ofChipNow_5 ?_
  refine g_run X KX9_ofChipNow_6_2 KX9_ofChipNow_6_2_d 8 [(3, .ref (ad (ch + 17))), (0, .ref (ad 0)), (1, .int (nI ch)), (2, .int (nI w))] [.int (nI w)] rfl ?_
  rcases (show w = 0 ∨ w = 1 ∨ w = 2 ∨ w = 3 ∨ w = 4 by omega) with rfl | rfl | rfl | rfl | rfl
  · refine g_swIn X 44 dX9_ofChipNow_8 (by decide +kernel) (by decide +kernel) (off := 36) (by decide +kernel) (by decide) ?_
    refine g_run X KX9_ofChipNow_44_3 KX9_ofChipNow_44_3_d 45 [(3, .ref (ad (ch + 17))), (0, .ref (ad 0)), (1, .int (nI ch)), (2, .int (nI 0))] [.ref (ad (ch + 17))] rfl ?_
    refine g_getN X srcW (host := "ChipfieldModel") (v := .int (I 0 ch)) hinX7 rfl 0 (by decide) (nw_in n_1096 rfl) rfl (wm_ch (by omega)) rfl dX9_ofChipNow_45 ?_
    exact g_iret X hr () (by show some (Value.int _) = some (Value.int _); rw [ocV]) (trivial) (rfl) (Nat.le_of_ble_eq_true rfl) (Nat.le_of_ble_eq_true rfl) dX9_ofChipNow_48
  · refine g_swIn X 49 dX9_ofChipNow_8 (by decide +kernel) (by decide +kernel) (off := 41) (by decide +kernel) (by decide) ?_
    refine g_run X KX9_ofChipNow_49_4 KX9_ofChipNow_49_4_d 50 [(3, .ref (ad (ch + 17))), (0, .ref (ad 0)), (1, .int (nI ch)), (2, .int (nI 1))] [.ref (ad (ch + 17))] rfl ?_
    refine g_getN X srcW (host := "ChipfieldModel") (v := .int (I 1 ch)) hinX7 rfl 1 (by decide) (nw_in n_1098 rfl) rfl (wm_ch (by omega)) rfl dX9_ofChipNow_50 ?_
    exact g_iret X hr () (by show some (Value.int _) = some (Value.int _); rw [ocV]) (trivial) (rfl) (Nat.le_of_ble_eq_true rfl) (Nat.le_of_ble_eq_true rfl) dX9_ofChipNow_53
  · refine g_swIn X 54 dX9_ofChipNow_8 (by decide +kernel) (by decide +kernel) (off := 46) (by decide +kernel) (by decide) ?_
    refine g_run X KX9_ofChipNow_54_5 KX9_ofChipNow_54_5_d 55 [(3, .ref (ad (ch + 17))), (0, .ref (ad 0)), (1, .int (nI ch)), (2, .int (nI 2))] [.ref (ad (ch + 17))] rfl ?_
    refine g_getN X srcW (host := "ChipfieldModel") (v := .int (I 2 ch)) hinX7 rfl 2 (by decide) (nw_in n_1099 rfl) rfl (wm_ch (by omega)) rfl dX9_ofChipNow_55 ?_
    exact g_iret X hr () (by show some (Value.int _) = some (Value.int _); rw [ocV]) (trivial) (rfl) (Nat.le_of_ble_eq_true rfl) (Nat.le_of_ble_eq_true rfl) dX9_ofChipNow_58
  · refine g_swIn X 59 dX9_ofChipNow_8 (by decide +kernel) (by decide +kernel) (off := 51) (by decide +kernel) (by decide) ?_
    refine g_run X KX9_ofChipNow_59_6 KX9_ofChipNow_59_6_d 60 [(3, .ref (ad (ch + 17))), (0, .ref (ad 0)), (1, .int (nI ch)), (2, .int (nI 3))] [.ref (ad (ch + 17))] rfl ?_
    refine g_getN X srcW (host := "ChipfieldModel") (v := .int (I 3 ch)) hinX7 rfl 3 (by decide) (nw_in n_1100 rfl) rfl (wm_ch (by omega)) rfl dX9_ofChipNow_60 ?_
    refine g_if_eq X 70 dX9_ofChipNow_63 (by decide) (fun hc1 => ?_) (fun hc1 => ?_)
    · refine g_run X KX9_ofChipNow_70_7 KX9_ofChipNow_70_7_d 71 [(3, .ref (ad (ch + 17))), (0, .ref (ad 0)), (1, .int (nI ch)), (2, .int (nI 3))] [.int (nI 0)] rfl ?_
      exact g_iret X hr () (by show some (Value.int _) = some (Value.int _); rw [ocV]; simp [*]) (trivial) (rfl) (Nat.le_of_ble_eq_true rfl) (Nat.le_of_ble_eq_true rfl) dX9_ofChipNow_71
    · refine g_run X KX9_ofChipNow_66_8 KX9_ofChipNow_66_8_d 71 [(3, .ref (ad (ch + 17))), (0, .ref (ad 0)), (1, .int (nI ch)), (2, .int (nI 3))] [.int (nI 1)] rfl ?_
      exact g_iret X hr () (by show some (Value.int _) = some (Value.int _); rw [ocV]; simp [*]) (trivial) (rfl) (Nat.le_of_ble_eq_true rfl) (Nat.le_of_ble_eq_true rfl) dX9_ofChipNow_71
  · refine g_swIn X 72 dX9_ofChipNow_8 (by decide +kernel) (by decide +kernel) (off := 64) (by decide +kernel) (by decide) ?_
    refine g_run X KX9_ofChipNow_72_9 KX9_ofChipNow_72_9_d 73 [(3, .ref (ad (ch + 17))), (0, .ref (ad 0)), (1, .int (nI ch)), (2, .int (nI 4))] [.ref (ad (ch + 17))] rfl ?_
    refine g_getN X srcW (host := "ChipfieldModel") (v := .int (I 4 ch)) hinX7 rfl 4 (by decide) (nw_in n_1101 rfl) rfl (wm_ch (by omega)) rfl dX9_ofChipNow_73 ?_
    refine g_if_eq X 83 dX9_ofChipNow_76 (by decide) (fun hc2 => ?_) (fun hc2 => ?_)
    · refine g_run X KX9_ofChipNow_83_10 KX9_ofChipNow_83_10_d 84 [(3, .ref (ad (ch + 17))), (0, .ref (ad 0)), (1, .int (nI ch)), (2, .int (nI 4))] [.int (nI 0)] rfl ?_
      exact g_iret X hr () (by show some (Value.int _) = some (Value.int _); rw [ocV]; simp [*]) (trivial) (rfl) (Nat.le_of_ble_eq_true rfl) (Nat.le_of_ble_eq_true rfl) dX9_ofChipNow_84
    · refine g_run X KX9_ofChipNow_79_11 KX9_ofChipNow_79_11_d 84 [(3, .ref (ad (ch + 17))), (0, .ref (ad 0)), (1, .int (nI ch)), (2, .int (nI 4))] [.int (nI 1)] rfl ?_
      exact g_iret X hr () (by show some (Value.int _) = some (Value.int _); rw [ocV]; simp [*]) (trivial) (rfl) (Nat.le_of_ble_eq_true rfl) (Nat.le_of_ble_eq_true rfl) dX9_ofChipNow_84

def KX9_ofChipNow_85_12 : List (Nat × Instr × Nat) := [(85, .aload_n 0, 1), (86, .iload_n 1, 1)]
theorem KX9_ofChipNow_85_12_d : ∀ z ∈ KX9_ofChipNow_85_12, decode cX9_ofChipNow z.1 = .ok z.2 := by decide +kernel
set_option maxHeartbeats 4000000 in
set_option maxRecDepth 100000 in
theorem c_X9_ofChipNow_d (l : Launch) (D : va_G) (g : Nat → ClassId) (ad : Nat → Nat) (I : Nat → Nat → Int32) (L : Nat → Nat → Int64) (S : Nat → Nat) (Z : Nat → Nat → Int32) (Y : Int64) (ch : Nat) (hch : ch < 18) : CT l yX9_ofChipNow cX9_ofChipNow 4 ((Option.some FieldType.int)) ({ frames := 1, cells := 0, slots := 0, locals := 23 } : Room) [.ref (ad 0), .int (nI ch), .int (nI 5)] D CL (TYS g) ([]) (WM ad g I L S Z Y) (S := Unit) (fun _ => some (.int (ocV I L ch 5))) (fun _ => WM ad g I L S Z Y) (fun _ => True) 0 0 := by
  refine ct_of (by decide +kernel) (Nat.le_of_ble_eq_true rfl) ?_
  intro p e s m below meth c A X hr hnm hSB hRO hAf
  refine g_cs (ws' := WM ad g I L S Z Y ++ []) (lv' := [(0, .ref (ad 0)), (1, .int (nI ch)), (2, .int (nI 5))]) (List.append_nil _) rfl ?_
  refine g_run X KX9_ofChipNow_0_0 KX9_ofChipNow_0_0_d 1 [(0, .ref (ad 0)), (1, .int (nI ch)), (2, .int (nI 5))] [.ref (ad 0)] rfl ?_
  refine g_get X srcW (v := .ref (ad 6)) hinX9 rfl 6 (by decide) w_1186 rfl (wm_mem (k := 0) (by decide)) rfl dX9_ofChipNow_1 ?_
  refine g_run X KX9_ofChipNow_4_1 KX9_ofChipNow_4_1_d 5 [(0, .ref (ad 0)), (1, .int (nI ch)), (2, .int (nI 5))] [.int (nI ch), .ref (ad 6)] rfl ?_
  refine g_aald X srcW (b := ad (ch + 17)) 3 rfl (wm_mem (k := 6) (by decide)) ch rfl (by omega) (by decide) (rfl) dX9_ofChipNow_5 ?_
  refine g_run X KX9_ofChipNow_6_2 KX9_ofChipNow_6_2_d 8 [(3, .ref (ad (ch + 17))), (0, .ref (ad 0)), (1, .int (nI ch)), (2, .int (nI 5))] [.int (nI 5)] rfl ?_
  refine g_swOut X 85 dX9_ofChipNow_8 (Or.inr (by decide +kernel)) (by decide) ?_
  refine g_run X KX9_ofChipNow_85_12 KX9_ofChipNow_85_12_d 87 [(3, .ref (ad (ch + 17))), (0, .ref (ad 0)), (1, .int (nI ch)), (2, .int (nI 5))] [.int (nI ch), .ref (ad 0)] rfl ?_
  refine g_callV X hSB hAf (srcW) (hrc1 := (rfl : CL[8]? = some _)) (wm_mem (k := 0) (by decide)) rfl (As := [.int (nI ch)]) (wr := []) (n := 1) (c_X9_stuck l D g ad I L S Z Y ch (by omega)) rfl srcN hrdN w_1320 w_1317 w_1319 w_s22 w_6 (by decide +kernel) rfl ⟨Nat.le_of_ble_eq_true rfl, Nat.le_of_ble_eq_true rfl⟩ rfl rfl rfl (Nat.le_of_ble_eq_true rfl) ⟨Nat.le_of_ble_eq_true rfl, Nat.le_of_ble_eq_true rfl⟩ dX9_ofChipNow_87 (fun hu1 _ => ?_)
  refine g_af (ws' := WM ad g I L S Z Y ++ []) (st' := [.int (nI (stk L ch 16))]) (cells' := 0) (slots' := 0) (pc' := 90) rfl rfl rfl rfl rfl ?_
  exact g_iret X hr () (rfl) (trivial) (rfl) (Nat.le_of_ble_eq_true rfl) (Nat.le_of_ble_eq_true rfl) dX9_ofChipNow_90

def KX9_ofChip_0_0 : List (Nat × Instr × Nat) := [(0, .aload_n 0, 1), (1, .iconst 0, 1)]
theorem KX9_ofChip_0_0_d : ∀ z ∈ KX9_ofChip_0_0, decode cX9_ofChip z.1 = .ok z.2 := by decide +kernel
def KX9_ofChip_5_1 : List (Nat × Instr × Nat) := [(5, .iload_n 1, 1)]
theorem KX9_ofChip_5_1_d : ∀ z ∈ KX9_ofChip_5_1, decode cX9_ofChip z.1 = .ok z.2 := by decide +kernel
def KX9_ofChip_18_2 : List (Nat × Instr × Nat) := [(18, .iload_n 2, 1), (19, .iconst 0, 1), (20, .iconst 5, 1)]
theorem KX9_ofChip_18_2_d : ∀ z ∈ KX9_ofChip_18_2, decode cX9_ofChip z.1 = .ok z.2 := by decide +kernel
def KX9_ofChip_27_3 : List (Nat × Instr × Nat) := [(27, .aload_n 0, 1), (28, .iload_n 1, 1), (29, .iload_n 2, 1)]
theorem KX9_ofChip_27_3_d : ∀ z ∈ KX9_ofChip_27_3, decode cX9_ofChip z.1 = .ok z.2 := by decide +kernel
def KX9_ofChip_33_4 : List (Nat × Instr × Nat) := [(33, .goto 8, 3)]
theorem KX9_ofChip_33_4_d : ∀ z ∈ KX9_ofChip_33_4, decode cX9_ofChip z.1 = .ok z.2 := by decide +kernel
set_option maxHeartbeats 4000000 in
set_option maxRecDepth 100000 in
theorem c_X9_ofChip (l : Launch) (D : va_G) (g : Nat → ClassId) (ad : Nat → Nat) (I : Nat → Nat → Int32) (L : Nat → Nat → Int64) (S : Nat → Nat) (Z : Nat → Nat → Int32) (Y : Int64) (ch : Nat) (w : Nat) (hch : ch < 18) (hw : w < 5) : CT l yX9_ofChip cX9_ofChip 3 ((Option.some FieldType.int)) ({ frames := 2, cells := 0, slots := 0, locals := 42 } : Room) [.ref (ad 0), .int (nI ch), .int (nI w)] D CL (TYS g) ([]) (WM ad g I L S Z Y) (S := Unit) (fun _ => some (.int (ocV I L ch w))) (fun _ => WM ad g I L S (u2 Z 3 0 (nI 0)) Y) (fun _ => True) 0 0 := by
  refine ct_of (by decide +kernel) (Nat.le_of_ble_eq_true rfl) ?_
  intro p e s m below meth c A X hr hnm hSB hRO hAf
  refine g_cs (ws' := WM ad g I L S Z Y ++ []) (lv' := [(0, .ref (ad 0)), (1, .int (nI ch)), (2, .int (nI w))]) (List.append_nil _) rfl ?_
  refine g_run X KX9_ofChip_0_0 KX9_ofChip_0_0_d 2 [(0, .ref (ad 0)), (1, .int (nI ch)), (2, .int (nI w))] [.int (nI 0), .ref (ad 0)] rfl ?_
  refine g_put X (ws' := WM ad g I L S (u2 Z 3 0 (nI 0)) Y ++ []) hinX9 tyX9 tyX9_ok nmX9 rfl 0 (by decide) w_1180 rfl rfl (ty := .int) rfl rfl rfl (0) (wm_get (k := 0) (by decide)) (Nat.le_of_ble_eq_true rfl) (wm_mo0) dX9_ofChip_2 ?_
  refine g_run X KX9_ofChip_5_1 KX9_ofChip_5_1_d 6 [(0, .ref (ad 0)), (1, .int (nI ch)), (2, .int (nI w))] [.int (nI ch)] rfl ?_
  refine g_callS X hSB hAf (As := [.int (nI ch)]) (wr := WM ad g I L S (u2 Z 3 0 (nI 0)) Y ++ []) (n := 1) (c_X9_isChip_t l D g ch (by omega)) rfl srcN hrdN w_1316 w_1314 w_1315 w_6 (by decide +kernel) rfl ⟨Nat.le_of_ble_eq_true rfl, Nat.le_of_ble_eq_true rfl⟩ rfl rfl rfl (Nat.le_of_ble_eq_true rfl) ⟨Nat.le_of_ble_eq_true rfl, Nat.le_of_ble_eq_true rfl⟩ dX9_ofChip_6 (fun hu1 _ => ?_)
  refine g_af (ws' := WM ad g I L S (u2 Z 3 0 (nI 0)) Y ++ []) (st' := [.int (nI 1)]) (cells' := 0) (slots' := 0) (pc' := 9) rfl rfl rfl rfl rfl ?_
  refine g_if_ne X 18 dX9_ofChip_9 (by decide) (fun hc2 => ?_) (fun hc2 => ?_)
  · refine g_run X KX9_ofChip_18_2 KX9_ofChip_18_2_d 21 [(0, .ref (ad 0)), (1, .int (nI ch)), (2, .int (nI w))] [.int (nI 5), .int (nI 0), .int (nI w)] rfl ?_
    refine g_callS X hSB hAf (As := [.int (nI w), .int (nI 0), .int (nI 5)]) (wr := WM ad g I L S (u2 Z 3 0 (nI 0)) Y ++ []) (n := 3) (c_X9_is_t l D g w 0 5 (by omega) (by omega) (by omega)) rfl srcN hrdN w_1260 w_1258 w_1259 w_6 (by decide +kernel) rfl ⟨Nat.le_of_ble_eq_true rfl, Nat.le_of_ble_eq_true rfl⟩ rfl rfl rfl (Nat.le_of_ble_eq_true rfl) ⟨Nat.le_of_ble_eq_true rfl, Nat.le_of_ble_eq_true rfl⟩ dX9_ofChip_21 (fun hu3 _ => ?_)
    refine g_af (ws' := WM ad g I L S (u2 Z 3 0 (nI 0)) Y ++ []) (st' := [.int (nI 1)]) (cells' := 0) (slots' := 0) (pc' := 24) rfl rfl rfl rfl rfl ?_
    refine g_if_eq X 36 dX9_ofChip_24 (by decide) (fun hc4 => ?_) (fun hc4 => ?_)
    · rw [nz_eq (by omega)] at hc4; first | omega | (simp at hc4)
    · refine g_run X KX9_ofChip_27_3 KX9_ofChip_27_3_d 30 [(0, .ref (ad 0)), (1, .int (nI ch)), (2, .int (nI w))] [.int (nI w), .int (nI ch), .ref (ad 0)] rfl ?_
      refine g_callV X hSB hAf (srcW) (hrc1 := (rfl : CL[8]? = some _)) (wm_mem (k := 0) (by decide)) rfl (As := [.int (nI ch), .int (nI w)]) (wr := []) (n := 2) (c_X9_ofChipNow l D g ad I L S (u2 Z 3 0 (nI 0)) Y ch w (by omega) (by omega)) rfl srcN hrdN w_1468 w_1465 w_1467 w_s34 w_6 (by decide +kernel) rfl ⟨Nat.le_of_ble_eq_true rfl, Nat.le_of_ble_eq_true rfl⟩ rfl rfl rfl (Nat.le_of_ble_eq_true rfl) ⟨Nat.le_of_ble_eq_true rfl, Nat.le_of_ble_eq_true rfl⟩ dX9_ofChip_30 (fun hu5 _ => ?_)
      refine g_af (ws' := WM ad g I L S (u2 Z 3 0 (nI 0)) Y ++ []) (st' := [.int (ocV I L ch w)]) (cells' := 0) (slots' := 0) (pc' := 33) rfl rfl rfl rfl rfl ?_
      refine g_run X KX9_ofChip_33_4 KX9_ofChip_33_4_d 41 [(0, .ref (ad 0)), (1, .int (nI ch)), (2, .int (nI w))] [.int (ocV I L ch w)] rfl ?_
      exact g_iret X hr () (rfl) (trivial) (rfl) (Nat.le_of_ble_eq_true rfl) (Nat.le_of_ble_eq_true rfl) dX9_ofChip_41
  · rw [nz_eq (by omega)] at hc2; first | omega | (simp at hc2)

set_option maxHeartbeats 4000000 in
set_option maxRecDepth 100000 in
theorem c_X9_ofChip_d (l : Launch) (D : va_G) (g : Nat → ClassId) (ad : Nat → Nat) (I : Nat → Nat → Int32) (L : Nat → Nat → Int64) (S : Nat → Nat) (Z : Nat → Nat → Int32) (Y : Int64) (ch : Nat) (hch : ch < 18) : CT l yX9_ofChip cX9_ofChip 3 ((Option.some FieldType.int)) ({ frames := 2, cells := 0, slots := 0, locals := 46 } : Room) [.ref (ad 0), .int (nI ch), .int (nI 5)] D CL (TYS g) ([]) (WM ad g I L S Z Y) (S := Unit) (fun _ => some (.int (ocV I L ch 5))) (fun _ => WM ad g I L S (u2 Z 3 0 (nI 0)) Y) (fun _ => True) 0 0 := by
  refine ct_of (by decide +kernel) (Nat.le_of_ble_eq_true rfl) ?_
  intro p e s m below meth c A X hr hnm hSB hRO hAf
  refine g_cs (ws' := WM ad g I L S Z Y ++ []) (lv' := [(0, .ref (ad 0)), (1, .int (nI ch)), (2, .int (nI 5))]) (List.append_nil _) rfl ?_
  refine g_run X KX9_ofChip_0_0 KX9_ofChip_0_0_d 2 [(0, .ref (ad 0)), (1, .int (nI ch)), (2, .int (nI 5))] [.int (nI 0), .ref (ad 0)] rfl ?_
  refine g_put X (ws' := WM ad g I L S (u2 Z 3 0 (nI 0)) Y ++ []) hinX9 tyX9 tyX9_ok nmX9 rfl 0 (by decide) w_1180 rfl rfl (ty := .int) rfl rfl rfl (0) (wm_get (k := 0) (by decide)) (Nat.le_of_ble_eq_true rfl) (wm_mo0) dX9_ofChip_2 ?_
  refine g_run X KX9_ofChip_5_1 KX9_ofChip_5_1_d 6 [(0, .ref (ad 0)), (1, .int (nI ch)), (2, .int (nI 5))] [.int (nI ch)] rfl ?_
  refine g_callS X hSB hAf (As := [.int (nI ch)]) (wr := WM ad g I L S (u2 Z 3 0 (nI 0)) Y ++ []) (n := 1) (c_X9_isChip_t l D g ch (by omega)) rfl srcN hrdN w_1316 w_1314 w_1315 w_6 (by decide +kernel) rfl ⟨Nat.le_of_ble_eq_true rfl, Nat.le_of_ble_eq_true rfl⟩ rfl rfl rfl (Nat.le_of_ble_eq_true rfl) ⟨Nat.le_of_ble_eq_true rfl, Nat.le_of_ble_eq_true rfl⟩ dX9_ofChip_6 (fun hu1 _ => ?_)
  refine g_af (ws' := WM ad g I L S (u2 Z 3 0 (nI 0)) Y ++ []) (st' := [.int (nI 1)]) (cells' := 0) (slots' := 0) (pc' := 9) rfl rfl rfl rfl rfl ?_
  refine g_if_ne X 18 dX9_ofChip_9 (by decide) (fun hc2 => ?_) (fun hc2 => ?_)
  · refine g_run X KX9_ofChip_18_2 KX9_ofChip_18_2_d 21 [(0, .ref (ad 0)), (1, .int (nI ch)), (2, .int (nI 5))] [.int (nI 5), .int (nI 0), .int (nI 5)] rfl ?_
    refine g_callS X hSB hAf (As := [.int (nI 5), .int (nI 0), .int (nI 5)]) (wr := WM ad g I L S (u2 Z 3 0 (nI 0)) Y ++ []) (n := 3) (c_X9_is_t l D g 5 0 5 (by omega) (by omega) (by omega)) rfl srcN hrdN w_1260 w_1258 w_1259 w_6 (by decide +kernel) rfl ⟨Nat.le_of_ble_eq_true rfl, Nat.le_of_ble_eq_true rfl⟩ rfl rfl rfl (Nat.le_of_ble_eq_true rfl) ⟨Nat.le_of_ble_eq_true rfl, Nat.le_of_ble_eq_true rfl⟩ dX9_ofChip_21 (fun hu3 _ => ?_)
    refine g_af (ws' := WM ad g I L S (u2 Z 3 0 (nI 0)) Y ++ []) (st' := [.int (nI 1)]) (cells' := 0) (slots' := 0) (pc' := 24) rfl rfl rfl rfl rfl ?_
    refine g_if_eq X 36 dX9_ofChip_24 (by decide) (fun hc4 => ?_) (fun hc4 => ?_)
    · rw [nz_eq (by omega)] at hc4; first | omega | (simp at hc4)
    · refine g_run X KX9_ofChip_27_3 KX9_ofChip_27_3_d 30 [(0, .ref (ad 0)), (1, .int (nI ch)), (2, .int (nI 5))] [.int (nI 5), .int (nI ch), .ref (ad 0)] rfl ?_
      refine g_callV X hSB hAf (srcW) (hrc1 := (rfl : CL[8]? = some _)) (wm_mem (k := 0) (by decide)) rfl (As := [.int (nI ch), .int (nI 5)]) (wr := []) (n := 2) (c_X9_ofChipNow_d l D g ad I L S (u2 Z 3 0 (nI 0)) Y ch (by omega)) rfl srcN hrdN w_1468 w_1465 w_1467 w_s34 w_6 (by decide +kernel) rfl ⟨Nat.le_of_ble_eq_true rfl, Nat.le_of_ble_eq_true rfl⟩ rfl rfl rfl (Nat.le_of_ble_eq_true rfl) ⟨Nat.le_of_ble_eq_true rfl, Nat.le_of_ble_eq_true rfl⟩ dX9_ofChip_30 (fun hu5 _ => ?_)
      refine g_af (ws' := WM ad g I L S (u2 Z 3 0 (nI 0)) Y ++ []) (st' := [.int (ocV I L ch 5)]) (cells' := 0) (slots' := 0) (pc' := 33) rfl rfl rfl rfl rfl ?_
      refine g_run X KX9_ofChip_33_4 KX9_ofChip_33_4_d 41 [(0, .ref (ad 0)), (1, .int (nI ch)), (2, .int (nI 5))] [.int (ocV I L ch 5)] rfl ?_
      exact g_iret X hr () (rfl) (trivial) (rfl) (Nat.le_of_ble_eq_true rfl) (Nat.le_of_ble_eq_true rfl) dX9_ofChip_41
  · rw [nz_eq (by omega)] at hc2; first | omega | (simp at hc2)

def KX9_ofChip_12_5 : List (Nat × Instr × Nat) := [(12, .aload_n 0, 1), (13, .iconst 1, 1)]
theorem KX9_ofChip_12_5_d : ∀ z ∈ KX9_ofChip_12_5, decode cX9_ofChip z.1 = .ok z.2 := by decide +kernel
set_option maxHeartbeats 4000000 in
set_option maxRecDepth 100000 in
theorem c_X9_ofChip_1 (l : Launch) (D : va_G) (g : Nat → ClassId) (ad : Nat → Nat) (I : Nat → Nat → Int32) (L : Nat → Nat → Int64) (S : Nat → Nat) (Z : Nat → Nat → Int32) (Y : Int64) (x : Int32) (y1 : Int32) (hx : x < 0 ∨ ¬ x ≤ nI 17) : CT l yX9_ofChip cX9_ofChip 3 ((Option.some FieldType.int)) ({ frames := 2, cells := 0, slots := 0, locals := 42 } : Room) [.ref (ad 0), .int x, .int y1] D CL (TYS g) ([]) (WM ad g I L S Z Y) (S := Unit) (fun _ => some (.int (nI 0))) (fun _ => WM ad g I L S (u2 (u2 Z 3 0 (nI 0)) 3 0 (nI 1)) Y) (fun _ => True) 0 0 := by
  refine ct_of (by decide +kernel) (Nat.le_of_ble_eq_true rfl) ?_
  intro p e s m below meth c A X hr hnm hSB hRO hAf
  refine g_cs (ws' := WM ad g I L S Z Y ++ []) (lv' := [(0, .ref (ad 0)), (1, .int x), (2, .int y1)]) (List.append_nil _) rfl ?_
  refine g_run X KX9_ofChip_0_0 KX9_ofChip_0_0_d 2 [(0, .ref (ad 0)), (1, .int x), (2, .int y1)] [.int (nI 0), .ref (ad 0)] rfl ?_
  refine g_put X (ws' := WM ad g I L S (u2 Z 3 0 (nI 0)) Y ++ []) hinX9 tyX9 tyX9_ok nmX9 rfl 0 (by decide) w_1180 rfl rfl (ty := .int) rfl rfl rfl (0) (wm_get (k := 0) (by decide)) (Nat.le_of_ble_eq_true rfl) (wm_mo0) dX9_ofChip_2 ?_
  refine g_run X KX9_ofChip_5_1 KX9_ofChip_5_1_d 6 [(0, .ref (ad 0)), (1, .int x), (2, .int y1)] [.int x] rfl ?_
  refine g_callS X hSB hAf (As := [.int x]) (wr := WM ad g I L S (u2 Z 3 0 (nI 0)) Y ++ []) (n := 1) (c_X9_isChip_f l D g x (hx)) rfl srcN hrdN w_1316 w_1314 w_1315 w_6 (by decide +kernel) rfl ⟨Nat.le_of_ble_eq_true rfl, Nat.le_of_ble_eq_true rfl⟩ rfl rfl rfl (Nat.le_of_ble_eq_true rfl) ⟨Nat.le_of_ble_eq_true rfl, Nat.le_of_ble_eq_true rfl⟩ dX9_ofChip_6 (fun hu1 _ => ?_)
  refine g_af (ws' := WM ad g I L S (u2 Z 3 0 (nI 0)) Y ++ []) (st' := [.int (nI 0)]) (cells' := 0) (slots' := 0) (pc' := 9) rfl rfl rfl rfl rfl ?_
  refine g_if_ne X 18 dX9_ofChip_9 (by decide) (fun hc2 => ?_) (fun hc2 => ?_)
  · rw [nz_eq (by omega)] at hc2; first | omega | (simp at hc2)
  · refine g_run X KX9_ofChip_12_5 KX9_ofChip_12_5_d 14 [(0, .ref (ad 0)), (1, .int x), (2, .int y1)] [.int (nI 1), .ref (ad 0)] rfl ?_
    refine g_callV X hSB hAf (srcW) (hrc1 := (rfl : CL[8]? = some _)) (wm_mem (k := 0) (by decide)) rfl (As := [.int (nI 1)]) (wr := []) (n := 1) (c_X9_refuse l D g ad I L S (u2 Z 3 0 (nI 0)) Y 1 ) rfl srcN hrdN w_1264 w_1261 w_1263 w_s12 w_6 (by decide +kernel) rfl ⟨Nat.le_of_ble_eq_true rfl, Nat.le_of_ble_eq_true rfl⟩ rfl rfl rfl (Nat.le_of_ble_eq_true rfl) ⟨Nat.le_of_ble_eq_true rfl, Nat.le_of_ble_eq_true rfl⟩ dX9_ofChip_14 (fun hu3 _ => ?_)
    refine g_af (ws' := WM ad g I L S (u2 (u2 Z 3 0 (nI 0)) 3 0 (nI 1)) Y ++ []) (st' := [.int (nI 0)]) (cells' := 0) (slots' := 0) (pc' := 17) rfl rfl rfl rfl rfl ?_
    exact g_iret X hr () (rfl) (trivial) (rfl) (Nat.le_of_ble_eq_true rfl) (Nat.le_of_ble_eq_true rfl) dX9_ofChip_17

def KX9_ofChip_36_6 : List (Nat × Instr × Nat) := [(36, .aload_n 0, 1), (37, .iconst 2, 1)]
theorem KX9_ofChip_36_6_d : ∀ z ∈ KX9_ofChip_36_6, decode cX9_ofChip z.1 = .ok z.2 := by decide +kernel
set_option maxHeartbeats 4000000 in
set_option maxRecDepth 100000 in
theorem c_X9_ofChip_2 (l : Launch) (D : va_G) (g : Nat → ClassId) (ad : Nat → Nat) (I : Nat → Nat → Int32) (L : Nat → Nat → Int64) (S : Nat → Nat) (Z : Nat → Nat → Int32) (Y : Int64) (ch : Nat) (x : Int32) (hch : ch < 18) (hx : x < nI 0 ∨ ¬ x ≤ nI 5) : CT l yX9_ofChip cX9_ofChip 3 ((Option.some FieldType.int)) ({ frames := 2, cells := 0, slots := 0, locals := 42 } : Room) [.ref (ad 0), .int (nI ch), .int x] D CL (TYS g) ([]) (WM ad g I L S Z Y) (S := Unit) (fun _ => some (.int (nI 0))) (fun _ => WM ad g I L S (u2 (u2 Z 3 0 (nI 0)) 3 0 (nI 2)) Y) (fun _ => True) 0 0 := by
  refine ct_of (by decide +kernel) (Nat.le_of_ble_eq_true rfl) ?_
  intro p e s m below meth c A X hr hnm hSB hRO hAf
  refine g_cs (ws' := WM ad g I L S Z Y ++ []) (lv' := [(0, .ref (ad 0)), (1, .int (nI ch)), (2, .int x)]) (List.append_nil _) rfl ?_
  refine g_run X KX9_ofChip_0_0 KX9_ofChip_0_0_d 2 [(0, .ref (ad 0)), (1, .int (nI ch)), (2, .int x)] [.int (nI 0), .ref (ad 0)] rfl ?_
  refine g_put X (ws' := WM ad g I L S (u2 Z 3 0 (nI 0)) Y ++ []) hinX9 tyX9 tyX9_ok nmX9 rfl 0 (by decide) w_1180 rfl rfl (ty := .int) rfl rfl rfl (0) (wm_get (k := 0) (by decide)) (Nat.le_of_ble_eq_true rfl) (wm_mo0) dX9_ofChip_2 ?_
  refine g_run X KX9_ofChip_5_1 KX9_ofChip_5_1_d 6 [(0, .ref (ad 0)), (1, .int (nI ch)), (2, .int x)] [.int (nI ch)] rfl ?_
  refine g_callS X hSB hAf (As := [.int (nI ch)]) (wr := WM ad g I L S (u2 Z 3 0 (nI 0)) Y ++ []) (n := 1) (c_X9_isChip_t l D g ch (by omega)) rfl srcN hrdN w_1316 w_1314 w_1315 w_6 (by decide +kernel) rfl ⟨Nat.le_of_ble_eq_true rfl, Nat.le_of_ble_eq_true rfl⟩ rfl rfl rfl (Nat.le_of_ble_eq_true rfl) ⟨Nat.le_of_ble_eq_true rfl, Nat.le_of_ble_eq_true rfl⟩ dX9_ofChip_6 (fun hu1 _ => ?_)
  refine g_af (ws' := WM ad g I L S (u2 Z 3 0 (nI 0)) Y ++ []) (st' := [.int (nI 1)]) (cells' := 0) (slots' := 0) (pc' := 9) rfl rfl rfl rfl rfl ?_
  refine g_if_ne X 18 dX9_ofChip_9 (by decide) (fun hc2 => ?_) (fun hc2 => ?_)
  · refine g_run X KX9_ofChip_18_2 KX9_ofChip_18_2_d 21 [(0, .ref (ad 0)), (1, .int (nI ch)), (2, .int x)] [.int (nI 5), .int (nI 0), .int x] rfl ?_
    refine g_callS X hSB hAf (As := [.int x, .int (nI 0), .int (nI 5)]) (wr := WM ad g I L S (u2 Z 3 0 (nI 0)) Y ++ []) (n := 3) (c_X9_is_f l D g x (nI 0) (nI 5) (hx)) rfl srcN hrdN w_1260 w_1258 w_1259 w_6 (by decide +kernel) rfl ⟨Nat.le_of_ble_eq_true rfl, Nat.le_of_ble_eq_true rfl⟩ rfl rfl rfl (Nat.le_of_ble_eq_true rfl) ⟨Nat.le_of_ble_eq_true rfl, Nat.le_of_ble_eq_true rfl⟩ dX9_ofChip_21 (fun hu3 _ => ?_)
    refine g_af (ws' := WM ad g I L S (u2 Z 3 0 (nI 0)) Y ++ []) (st' := [.int (nI 0)]) (cells' := 0) (slots' := 0) (pc' := 24) rfl rfl rfl rfl rfl ?_
    refine g_if_eq X 36 dX9_ofChip_24 (by decide) (fun hc4 => ?_) (fun hc4 => ?_)
    · refine g_run X KX9_ofChip_36_6 KX9_ofChip_36_6_d 38 [(0, .ref (ad 0)), (1, .int (nI ch)), (2, .int x)] [.int (nI 2), .ref (ad 0)] rfl ?_
      refine g_callV X hSB hAf (srcW) (hrc1 := (rfl : CL[8]? = some _)) (wm_mem (k := 0) (by decide)) rfl (As := [.int (nI 2)]) (wr := []) (n := 1) (c_X9_refuse l D g ad I L S (u2 Z 3 0 (nI 0)) Y 2 ) rfl srcN hrdN w_1264 w_1261 w_1263 w_s12 w_6 (by decide +kernel) rfl ⟨Nat.le_of_ble_eq_true rfl, Nat.le_of_ble_eq_true rfl⟩ rfl rfl rfl (Nat.le_of_ble_eq_true rfl) ⟨Nat.le_of_ble_eq_true rfl, Nat.le_of_ble_eq_true rfl⟩ dX9_ofChip_38 (fun hu5 _ => ?_)
      refine g_af (ws' := WM ad g I L S (u2 (u2 Z 3 0 (nI 0)) 3 0 (nI 2)) Y ++ []) (st' := [.int (nI 0)]) (cells' := 0) (slots' := 0) (pc' := 41) rfl rfl rfl rfl rfl ?_
      exact g_iret X hr () (rfl) (trivial) (rfl) (Nat.le_of_ble_eq_true rfl) (Nat.le_of_ble_eq_true rfl) dX9_ofChip_41
    · rw [nz_eq (by omega)] at hc4; first | omega | (simp at hc4)
  · rw [nz_eq (by omega)] at hc2; first | omega | (simp at hc2)

def KX9_ofFrameNow_0_0 : List (Nat × Instr × Nat) := [(0, .aload_n 0, 1)]
theorem KX9_ofFrameNow_0_0_d : ∀ z ∈ KX9_ofFrameNow_0_0, decode cX9_ofFrameNow z.1 = .ok z.2 := by decide +kernel
def KX9_ofFrameNow_4_1 : List (Nat × Instr × Nat) := [(4, .iload_n 1, 1)]
theorem KX9_ofFrameNow_4_1_d : ∀ z ∈ KX9_ofFrameNow_4_1, decode cX9_ofFrameNow z.1 = .ok z.2 := by decide +kernel
def KX9_ofFrameNow_11_2 : List (Nat × Instr × Nat) := [(11, .astore_n 3, 1), (12, .iload_n 2, 1)]
theorem KX9_ofFrameNow_11_2_d : ∀ z ∈ KX9_ofFrameNow_11_2, decode cX9_ofFrameNow z.1 = .ok z.2 := by decide +kernel
def KX9_ofFrameNow_16_3 : List (Nat × Instr × Nat) := [(16, .aload_n 3, 1)]
theorem KX9_ofFrameNow_16_3_d : ∀ z ∈ KX9_ofFrameNow_16_3, decode cX9_ofFrameNow z.1 = .ok z.2 := by decide +kernel
def KX9_ofFrameNow_20_4 : List (Nat × Instr × Nat) := [(20, .goto 27, 3)]
theorem KX9_ofFrameNow_20_4_d : ∀ z ∈ KX9_ofFrameNow_20_4, decode cX9_ofFrameNow z.1 = .ok z.2 := by decide +kernel
set_option maxHeartbeats 4000000 in
set_option maxRecDepth 100000 in
theorem c_X9_ofFrameNow_0 (l : Launch) (D : va_G) (g : Nat → ClassId) (ad : Nat → Nat) (I : Nat → Nat → Int32) (L : Nat → Nat → Int64) (S : Nat → Nat) (Z : Nat → Nat → Int32) (Y : Int64) (fk : Nat) (hk : fk < 4) : CT l yX9_ofFrameNow cX9_ofFrameNow 4 ((Option.some FieldType.int)) ({ frames := 3, cells := 0, slots := 0, locals := 64 } : Room) [.ref (ad 0), .int (nI fk), .int (nI 0)] D CL (TYS g) ([]) (WM ad g I L S Z Y) (S := Unit) (fun _ => some (.int (ofV I fk 0))) (fun _ => WM ad g I L S Z Y) (fun _ => True) 0 0 := by
  refine ct_of (by decide +kernel) (Nat.le_of_ble_eq_true rfl) ?_
  intro p e s m below meth c A X hr hnm hSB hRO hAf
  refine g_cs (ws' := WM ad g I L S Z Y ++ []) (lv' := [(0, .ref (ad 0)), (1, .int (nI fk)), (2, .int (nI 0))]) (List.append_nil _) rfl ?_
  refine g_run X KX9_ofFrameNow_0_0 KX9_ofFrameNow_0_0_d 1 [(0, .ref (ad 0)), (1, .int (nI fk)), (2, .int (nI 0))] [.ref (ad 0)] rfl ?_
  refine g_get X srcW (v := .ref (ad 8)) hinX9 rfl 8 (by decide) w_1188 rfl (wm_mem (k := 0) (by decide)) rfl dX9_ofFrameNow_1 ?_
  refine g_run X KX9_ofFrameNow_4_1 KX9_ofFrameNow_4_1_d 5 [(0, .ref (ad 0)), (1, .int (nI fk)), (2, .int (nI 0))] [.int (nI fk), .ref (ad 8)] rfl ?_
  refine g_callV X hSB hAf (srcW) (hrc1 := (rfl : CL[9]? = some _)) (wm_mem (k := 8) (by decide)) rfl (As := [.int (nI fk)]) (wr := []) (n := 1) (c_Jx4a65c_get_915e3 l D g ad I L S Z Y fk (by omega)) rfl srcN hrdN w_1384 w_1381 w_1382 w_1383 w_9 (by decide +kernel) rfl ⟨Nat.le_of_ble_eq_true rfl, Nat.le_of_ble_eq_true rfl⟩ rfl rfl rfl (Nat.le_of_ble_eq_true rfl) ⟨Nat.le_of_ble_eq_true rfl, Nat.le_of_ble_eq_true rfl⟩ dX9_ofFrameNow_5 (fun hu1 _ => ?_)
  refine g_af (ws' := WM ad g I L S Z Y ++ []) (st' := [.ref (ad (fk + 13))]) (cells' := 0) (slots' := 0) (pc' := 8) rfl rfl rfl rfl rfl ?_
  refine g_cast X srcW (hc := (rfl : CL[7]? = some _)) (wm_fr (by omega)) w_1113 dX9_ofFrameNow_8 ?_
  refine g_run X KX9_ofFrameNow_11_2 KX9_ofFrameNow_11_2_d 13 [(3, .ref (ad (fk + 13))), (0, .ref (ad 0)), (1, .int (nI fk)), (2, .int (nI 0))] [.int (nI 0)] rfl ?_
  refine g_if_ne X 23 dX9_ofFrameNow_13 (by decide) (fun hc2 => ?_) (fun hc2 => ?_)
  · rw [nz_eq (by omega)] at hc2; first | omega | (simp at hc2)
  · refine g_run X KX9_ofFrameNow_16_3 KX9_ofFrameNow_16_3_d 17 [(3, .ref (ad (fk + 13))), (0, .ref (ad 0)), (1, .int (nI fk)), (2, .int (nI 0))] [.ref (ad (fk + 13))] rfl ?_
    refine g_getN X srcW (host := "ChipfieldModel") (v := .int (I 5 fk)) hinX8 rfl 0 (by decide) (nw_in n_1120 rfl) rfl (wm_fr (by omega)) rfl dX9_ofFrameNow_17 ?_
    refine g_run X KX9_ofFrameNow_20_4 KX9_ofFrameNow_20_4_d 47 [(3, .ref (ad (fk + 13))), (0, .ref (ad 0)), (1, .int (nI fk)), (2, .int (nI 0))] [.int (I 5 fk)] rfl ?_
    exact g_iret X hr () (rfl) (trivial) (rfl) (Nat.le_of_ble_eq_true rfl) (Nat.le_of_ble_eq_true rfl) dX9_ofFrameNow_47

def KX9_ofFrame_0_0 : List (Nat × Instr × Nat) := [(0, .aload_n 0, 1), (1, .iconst 0, 1)]
theorem KX9_ofFrame_0_0_d : ∀ z ∈ KX9_ofFrame_0_0, decode cX9_ofFrame z.1 = .ok z.2 := by decide +kernel
def KX9_ofFrame_5_1 : List (Nat × Instr × Nat) := [(5, .iload_n 1, 1), (6, .iconst 0, 1), (7, .iconst 3, 1)]
theorem KX9_ofFrame_5_1_d : ∀ z ∈ KX9_ofFrame_5_1, decode cX9_ofFrame z.1 = .ok z.2 := by decide +kernel
def KX9_ofFrame_20_2 : List (Nat × Instr × Nat) := [(20, .iload_n 2, 1), (21, .iconst 0, 1), (22, .iconst 2, 1)]
theorem KX9_ofFrame_20_2_d : ∀ z ∈ KX9_ofFrame_20_2, decode cX9_ofFrame z.1 = .ok z.2 := by decide +kernel
def KX9_ofFrame_29_3 : List (Nat × Instr × Nat) := [(29, .aload_n 0, 1), (30, .iload_n 1, 1), (31, .iload_n 2, 1)]
theorem KX9_ofFrame_29_3_d : ∀ z ∈ KX9_ofFrame_29_3, decode cX9_ofFrame z.1 = .ok z.2 := by decide +kernel
def KX9_ofFrame_35_4 : List (Nat × Instr × Nat) := [(35, .goto 8, 3)]
theorem KX9_ofFrame_35_4_d : ∀ z ∈ KX9_ofFrame_35_4, decode cX9_ofFrame z.1 = .ok z.2 := by decide +kernel
set_option maxHeartbeats 4000000 in
set_option maxRecDepth 100000 in
theorem c_X9_ofFrame_w0 (l : Launch) (D : va_G) (g : Nat → ClassId) (ad : Nat → Nat) (I : Nat → Nat → Int32) (L : Nat → Nat → Int64) (S : Nat → Nat) (Z : Nat → Nat → Int32) (Y : Int64) (fk : Nat) (hk : fk < 4) : CT l yX9_ofFrame cX9_ofFrame 3 ((Option.some FieldType.int)) ({ frames := 4, cells := 0, slots := 0, locals := 87 } : Room) [.ref (ad 0), .int (nI fk), .int (nI 0)] D CL (TYS g) ([]) (WM ad g I L S Z Y) (S := Unit) (fun _ => some (.int (ofV I fk 0))) (fun _ => WM ad g I L S (u2 Z 3 0 (nI 0)) Y) (fun _ => True) 0 0 := by
  refine ct_of (by decide +kernel) (Nat.le_of_ble_eq_true rfl) ?_
  intro p e s m below meth c A X hr hnm hSB hRO hAf
  refine g_cs (ws' := WM ad g I L S Z Y ++ []) (lv' := [(0, .ref (ad 0)), (1, .int (nI fk)), (2, .int (nI 0))]) (List.append_nil _) rfl ?_
  refine g_run X KX9_ofFrame_0_0 KX9_ofFrame_0_0_d 2 [(0, .ref (ad 0)), (1, .int (nI fk)), (2, .int (nI 0))] [.int (nI 0), .ref (ad 0)] rfl ?_
  refine g_put X (ws' := WM ad g I L S (u2 Z 3 0 (nI 0)) Y ++ []) hinX9 tyX9 tyX9_ok nmX9 rfl 0 (by decide) w_1180 rfl rfl (ty := .int) rfl rfl rfl (0) (wm_get (k := 0) (by decide)) (Nat.le_of_ble_eq_true rfl) (wm_mo0) dX9_ofFrame_2 ?_
  refine g_run X KX9_ofFrame_5_1 KX9_ofFrame_5_1_d 8 [(0, .ref (ad 0)), (1, .int (nI fk)), (2, .int (nI 0))] [.int (nI 3), .int (nI 0), .int (nI fk)] rfl ?_
  refine g_callS X hSB hAf (As := [.int (nI fk), .int (nI 0), .int (nI 3)]) (wr := WM ad g I L S (u2 Z 3 0 (nI 0)) Y ++ []) (n := 3) (c_X9_is_t l D g fk 0 3 (by omega) (by omega) (by omega)) rfl srcN hrdN w_1260 w_1258 w_1259 w_6 (by decide +kernel) rfl ⟨Nat.le_of_ble_eq_true rfl, Nat.le_of_ble_eq_true rfl⟩ rfl rfl rfl (Nat.le_of_ble_eq_true rfl) ⟨Nat.le_of_ble_eq_true rfl, Nat.le_of_ble_eq_true rfl⟩ dX9_ofFrame_8 (fun hu1 _ => ?_)
  refine g_af (ws' := WM ad g I L S (u2 Z 3 0 (nI 0)) Y ++ []) (st' := [.int (nI 1)]) (cells' := 0) (slots' := 0) (pc' := 11) rfl rfl rfl rfl rfl ?_
  refine g_if_ne X 20 dX9_ofFrame_11 (by decide) (fun hc2 => ?_) (fun hc2 => ?_)
  · refine g_run X KX9_ofFrame_20_2 KX9_ofFrame_20_2_d 23 [(0, .ref (ad 0)), (1, .int (nI fk)), (2, .int (nI 0))] [.int (nI 2), .int (nI 0), .int (nI 0)] rfl ?_
    refine g_callS X hSB hAf (As := [.int (nI 0), .int (nI 0), .int (nI 2)]) (wr := WM ad g I L S (u2 Z 3 0 (nI 0)) Y ++ []) (n := 3) (c_X9_is_t l D g 0 0 2 (by omega) (by omega) (by omega)) rfl srcN hrdN w_1260 w_1258 w_1259 w_6 (by decide +kernel) rfl ⟨Nat.le_of_ble_eq_true rfl, Nat.le_of_ble_eq_true rfl⟩ rfl rfl rfl (Nat.le_of_ble_eq_true rfl) ⟨Nat.le_of_ble_eq_true rfl, Nat.le_of_ble_eq_true rfl⟩ dX9_ofFrame_23 (fun hu3 _ => ?_)
    refine g_af (ws' := WM ad g I L S (u2 Z 3 0 (nI 0)) Y ++ []) (st' := [.int (nI 1)]) (cells' := 0) (slots' := 0) (pc' := 26) rfl rfl rfl rfl rfl ?_
    refine g_if_eq X 38 dX9_ofFrame_26 (by decide) (fun hc4 => ?_) (fun hc4 => ?_)
    · rw [nz_eq (by omega)] at hc4; first | omega | (simp at hc4)
    · refine g_run X KX9_ofFrame_29_3 KX9_ofFrame_29_3_d 32 [(0, .ref (ad 0)), (1, .int (nI fk)), (2, .int (nI 0))] [.int (nI 0), .int (nI fk), .ref (ad 0)] rfl ?_
      refine g_callV X hSB hAf (srcW) (hrc1 := (rfl : CL[8]? = some _)) (wm_mem (k := 0) (by decide)) rfl (As := [.int (nI fk), .int (nI 0)]) (wr := []) (n := 2) (c_X9_ofFrameNow_0 l D g ad I L S (u2 Z 3 0 (nI 0)) Y fk (by omega)) rfl srcN hrdN w_1480 w_1477 w_1479 w_s35 w_6 (by decide +kernel) rfl ⟨Nat.le_of_ble_eq_true rfl, Nat.le_of_ble_eq_true rfl⟩ rfl rfl rfl (Nat.le_of_ble_eq_true rfl) ⟨Nat.le_of_ble_eq_true rfl, Nat.le_of_ble_eq_true rfl⟩ dX9_ofFrame_32 (fun hu5 _ => ?_)
      refine g_af (ws' := WM ad g I L S (u2 Z 3 0 (nI 0)) Y ++ []) (st' := [.int (ofV I fk 0)]) (cells' := 0) (slots' := 0) (pc' := 35) rfl rfl rfl rfl rfl ?_
      refine g_run X KX9_ofFrame_35_4 KX9_ofFrame_35_4_d 43 [(0, .ref (ad 0)), (1, .int (nI fk)), (2, .int (nI 0))] [.int (ofV I fk 0)] rfl ?_
      exact g_iret X hr () (rfl) (trivial) (rfl) (Nat.le_of_ble_eq_true rfl) (Nat.le_of_ble_eq_true rfl) dX9_ofFrame_43
  · rw [nz_eq (by omega)] at hc2; first | omega | (simp at hc2)

def KX9_ofFrameNow_23_5 : List (Nat × Instr × Nat) := [(23, .iload_n 2, 1), (24, .iconst 1, 1)]
theorem KX9_ofFrameNow_23_5_d : ∀ z ∈ KX9_ofFrameNow_23_5, decode cX9_ofFrameNow z.1 = .ok z.2 := by decide +kernel
def KX9_ofFrameNow_28_6 : List (Nat × Instr × Nat) := [(28, .aload_n 3, 1)]
theorem KX9_ofFrameNow_28_6_d : ∀ z ∈ KX9_ofFrameNow_28_6, decode cX9_ofFrameNow z.1 = .ok z.2 := by decide +kernel
def KX9_ofFrameNow_39_7 : List (Nat × Instr × Nat) := [(39, .iconst 0, 1), (40, .goto 7, 3)]
theorem KX9_ofFrameNow_39_7_d : ∀ z ∈ KX9_ofFrameNow_39_7, decode cX9_ofFrameNow z.1 = .ok z.2 := by decide +kernel
def KX9_ofFrameNow_35_8 : List (Nat × Instr × Nat) := [(35, .iconst 1, 1), (36, .goto 11, 3)]
theorem KX9_ofFrameNow_35_8_d : ∀ z ∈ KX9_ofFrameNow_35_8, decode cX9_ofFrameNow z.1 = .ok z.2 := by decide +kernel
set_option maxHeartbeats 4000000 in
set_option maxRecDepth 100000 in
theorem c_X9_ofFrameNow_1 (l : Launch) (D : va_G) (g : Nat → ClassId) (ad : Nat → Nat) (I : Nat → Nat → Int32) (L : Nat → Nat → Int64) (S : Nat → Nat) (Z : Nat → Nat → Int32) (Y : Int64) (fk : Nat) (hk : fk < 4) : CT l yX9_ofFrameNow cX9_ofFrameNow 4 ((Option.some FieldType.int)) ({ frames := 3, cells := 0, slots := 0, locals := 64 } : Room) [.ref (ad 0), .int (nI fk), .int (nI 1)] D CL (TYS g) ([]) (WM ad g I L S Z Y) (S := Unit) (fun _ => some (.int (ofV I fk 1))) (fun _ => WM ad g I L S Z Y) (fun _ => True) 0 0 := by
  refine ct_of (by decide +kernel) (Nat.le_of_ble_eq_true rfl) ?_
  intro p e s m below meth c A X hr hnm hSB hRO hAf
  refine g_cs (ws' := WM ad g I L S Z Y ++ []) (lv' := [(0, .ref (ad 0)), (1, .int (nI fk)), (2, .int (nI 1))]) (List.append_nil _) rfl ?_
  refine g_run X KX9_ofFrameNow_0_0 KX9_ofFrameNow_0_0_d 1 [(0, .ref (ad 0)), (1, .int (nI fk)), (2, .int (nI 1))] [.ref (ad 0)] rfl ?_
  refine g_get X srcW (v := .ref (ad 8)) hinX9 rfl 8 (by decide) w_1188 rfl (wm_mem (k := 0) (by decide)) rfl dX9_ofFrameNow_1 ?_
  refine g_run X KX9_ofFrameNow_4_1 KX9_ofFrameNow_4_1_d 5 [(0, .ref (ad 0)), (1, .int (nI fk)), (2, .int (nI 1))] [.int (nI fk), .ref (ad 8)] rfl ?_
  refine g_callV X hSB hAf (srcW) (hrc1 := (rfl : CL[9]? = some _)) (wm_mem (k := 8) (by decide)) rfl (As := [.int (nI fk)]) (wr := []) (n := 1) (c_Jx4a65c_get_915e3 l D g ad I L S Z Y fk (by omega)) rfl srcN hrdN w_1384 w_1381 w_1382 w_1383 w_9 (by decide +kernel) rfl ⟨Nat.le_of_ble_eq_true rfl, Nat.le_of_ble_eq_true rfl⟩ rfl rfl rfl (Nat.le_of_ble_eq_true rfl) ⟨Nat.le_of_ble_eq_true rfl, Nat.le_of_ble_eq_true rfl⟩ dX9_ofFrameNow_5 (fun hu1 _ => ?_)
  refine g_af (ws' := WM ad g I L S Z Y ++ []) (st' := [.ref (ad (fk + 13))]) (cells' := 0) (slots' := 0) (pc' := 8) rfl rfl rfl rfl rfl ?_
  refine g_cast X srcW (hc := (rfl : CL[7]? = some _)) (wm_fr (by omega)) w_1113 dX9_ofFrameNow_8 ?_
  refine g_run X KX9_ofFrameNow_11_2 KX9_ofFrameNow_11_2_d 13 [(3, .ref (ad (fk + 13))), (0, .ref (ad 0)), (1, .int (nI fk)), (2, .int (nI 1))] [.int (nI 1)] rfl ?_
  refine g_if_ne X 23 dX9_ofFrameNow_13 (by decide) (fun hc2 => ?_) (fun hc2 => ?_)
  · refine g_run X KX9_ofFrameNow_23_5 KX9_ofFrameNow_23_5_d 25 [(3, .ref (ad (fk + 13))), (0, .ref (ad 0)), (1, .int (nI fk)), (2, .int (nI 1))] [.int (nI 1), .int (nI 1)] rfl ?_
    refine g_icmp_ne X 43 dX9_ofFrameNow_25 (by decide) (fun hc3 => ?_) (fun hc3 => ?_)
    · rw [nI_eq (by omega) (by omega)] at hc3; first | omega | (simp at hc3)
    · refine g_run X KX9_ofFrameNow_28_6 KX9_ofFrameNow_28_6_d 29 [(3, .ref (ad (fk + 13))), (0, .ref (ad 0)), (1, .int (nI fk)), (2, .int (nI 1))] [.ref (ad (fk + 13))] rfl ?_
      refine g_getN X srcW (host := "ChipfieldModel") (v := .int (I 6 fk)) hinX8 rfl 2 (by decide) (nw_in n_1122 rfl) rfl (wm_fr (by omega)) rfl dX9_ofFrameNow_29 ?_
      refine g_if_eq X 39 dX9_ofFrameNow_32 (by decide) (fun hc4 => ?_) (fun hc4 => ?_)
      · refine g_run X KX9_ofFrameNow_39_7 KX9_ofFrameNow_39_7_d 47 [(3, .ref (ad (fk + 13))), (0, .ref (ad 0)), (1, .int (nI fk)), (2, .int (nI 1))] [.int (nI 0)] rfl ?_
        exact g_iret X hr () (by show some (Value.int _) = some (Value.int _); rw [ofV]; simp [*]) (trivial) (rfl) (Nat.le_of_ble_eq_true rfl) (Nat.le_of_ble_eq_true rfl) dX9_ofFrameNow_47
      · refine g_run X KX9_ofFrameNow_35_8 KX9_ofFrameNow_35_8_d 47 [(3, .ref (ad (fk + 13))), (0, .ref (ad 0)), (1, .int (nI fk)), (2, .int (nI 1))] [.int (nI 1)] rfl ?_
        exact g_iret X hr () (by show some (Value.int _) = some (Value.int _); rw [ofV]; simp [*]) (trivial) (rfl) (Nat.le_of_ble_eq_true rfl) (Nat.le_of_ble_eq_true rfl) dX9_ofFrameNow_47
  · rw [nz_eq (by omega)] at hc2; first | omega | (simp at hc2)

set_option maxHeartbeats 4000000 in
set_option maxRecDepth 100000 in
theorem c_X9_ofFrame_w1 (l : Launch) (D : va_G) (g : Nat → ClassId) (ad : Nat → Nat) (I : Nat → Nat → Int32) (L : Nat → Nat → Int64) (S : Nat → Nat) (Z : Nat → Nat → Int32) (Y : Int64) (fk : Nat) (hk : fk < 4) : CT l yX9_ofFrame cX9_ofFrame 3 ((Option.some FieldType.int)) ({ frames := 4, cells := 0, slots := 0, locals := 87 } : Room) [.ref (ad 0), .int (nI fk), .int (nI 1)] D CL (TYS g) ([]) (WM ad g I L S Z Y) (S := Unit) (fun _ => some (.int (ofV I fk 1))) (fun _ => WM ad g I L S (u2 Z 3 0 (nI 0)) Y) (fun _ => True) 0 0 := by
  refine ct_of (by decide +kernel) (Nat.le_of_ble_eq_true rfl) ?_
  intro p e s m below meth c A X hr hnm hSB hRO hAf
  refine g_cs (ws' := WM ad g I L S Z Y ++ []) (lv' := [(0, .ref (ad 0)), (1, .int (nI fk)), (2, .int (nI 1))]) (List.append_nil _) rfl ?_
  refine g_run X KX9_ofFrame_0_0 KX9_ofFrame_0_0_d 2 [(0, .ref (ad 0)), (1, .int (nI fk)), (2, .int (nI 1))] [.int (nI 0), .ref (ad 0)] rfl ?_
  refine g_put X (ws' := WM ad g I L S (u2 Z 3 0 (nI 0)) Y ++ []) hinX9 tyX9 tyX9_ok nmX9 rfl 0 (by decide) w_1180 rfl rfl (ty := .int) rfl rfl rfl (0) (wm_get (k := 0) (by decide)) (Nat.le_of_ble_eq_true rfl) (wm_mo0) dX9_ofFrame_2 ?_
  refine g_run X KX9_ofFrame_5_1 KX9_ofFrame_5_1_d 8 [(0, .ref (ad 0)), (1, .int (nI fk)), (2, .int (nI 1))] [.int (nI 3), .int (nI 0), .int (nI fk)] rfl ?_
  refine g_callS X hSB hAf (As := [.int (nI fk), .int (nI 0), .int (nI 3)]) (wr := WM ad g I L S (u2 Z 3 0 (nI 0)) Y ++ []) (n := 3) (c_X9_is_t l D g fk 0 3 (by omega) (by omega) (by omega)) rfl srcN hrdN w_1260 w_1258 w_1259 w_6 (by decide +kernel) rfl ⟨Nat.le_of_ble_eq_true rfl, Nat.le_of_ble_eq_true rfl⟩ rfl rfl rfl (Nat.le_of_ble_eq_true rfl) ⟨Nat.le_of_ble_eq_true rfl, Nat.le_of_ble_eq_true rfl⟩ dX9_ofFrame_8 (fun hu1 _ => ?_)
  refine g_af (ws' := WM ad g I L S (u2 Z 3 0 (nI 0)) Y ++ []) (st' := [.int (nI 1)]) (cells' := 0) (slots' := 0) (pc' := 11) rfl rfl rfl rfl rfl ?_
  refine g_if_ne X 20 dX9_ofFrame_11 (by decide) (fun hc2 => ?_) (fun hc2 => ?_)
  · refine g_run X KX9_ofFrame_20_2 KX9_ofFrame_20_2_d 23 [(0, .ref (ad 0)), (1, .int (nI fk)), (2, .int (nI 1))] [.int (nI 2), .int (nI 0), .int (nI 1)] rfl ?_
    refine g_callS X hSB hAf (As := [.int (nI 1), .int (nI 0), .int (nI 2)]) (wr := WM ad g I L S (u2 Z 3 0 (nI 0)) Y ++ []) (n := 3) (c_X9_is_t l D g 1 0 2 (by omega) (by omega) (by omega)) rfl srcN hrdN w_1260 w_1258 w_1259 w_6 (by decide +kernel) rfl ⟨Nat.le_of_ble_eq_true rfl, Nat.le_of_ble_eq_true rfl⟩ rfl rfl rfl (Nat.le_of_ble_eq_true rfl) ⟨Nat.le_of_ble_eq_true rfl, Nat.le_of_ble_eq_true rfl⟩ dX9_ofFrame_23 (fun hu3 _ => ?_)
    refine g_af (ws' := WM ad g I L S (u2 Z 3 0 (nI 0)) Y ++ []) (st' := [.int (nI 1)]) (cells' := 0) (slots' := 0) (pc' := 26) rfl rfl rfl rfl rfl ?_
    refine g_if_eq X 38 dX9_ofFrame_26 (by decide) (fun hc4 => ?_) (fun hc4 => ?_)
    · rw [nz_eq (by omega)] at hc4; first | omega | (simp at hc4)
    · refine g_run X KX9_ofFrame_29_3 KX9_ofFrame_29_3_d 32 [(0, .ref (ad 0)), (1, .int (nI fk)), (2, .int (nI 1))] [.int (nI 1), .int (nI fk), .ref (ad 0)] rfl ?_
      refine g_callV X hSB hAf (srcW) (hrc1 := (rfl : CL[8]? = some _)) (wm_mem (k := 0) (by decide)) rfl (As := [.int (nI fk), .int (nI 1)]) (wr := []) (n := 2) (c_X9_ofFrameNow_1 l D g ad I L S (u2 Z 3 0 (nI 0)) Y fk (by omega)) rfl srcN hrdN w_1480 w_1477 w_1479 w_s35 w_6 (by decide +kernel) rfl ⟨Nat.le_of_ble_eq_true rfl, Nat.le_of_ble_eq_true rfl⟩ rfl rfl rfl (Nat.le_of_ble_eq_true rfl) ⟨Nat.le_of_ble_eq_true rfl, Nat.le_of_ble_eq_true rfl⟩ dX9_ofFrame_32 (fun hu5 _ => ?_)
      refine g_af (ws' := WM ad g I L S (u2 Z 3 0 (nI 0)) Y ++ []) (st' := [.int (ofV I fk 1)]) (cells' := 0) (slots' := 0) (pc' := 35) rfl rfl rfl rfl rfl ?_
      refine g_run X KX9_ofFrame_35_4 KX9_ofFrame_35_4_d 43 [(0, .ref (ad 0)), (1, .int (nI fk)), (2, .int (nI 1))] [.int (ofV I fk 1)] rfl ?_
      exact g_iret X hr () (rfl) (trivial) (rfl) (Nat.le_of_ble_eq_true rfl) (Nat.le_of_ble_eq_true rfl) dX9_ofFrame_43
  · rw [nz_eq (by omega)] at hc2; first | omega | (simp at hc2)

def KX9_ofFrameNow_43_9 : List (Nat × Instr × Nat) := [(43, .aload_n 3, 1)]
theorem KX9_ofFrameNow_43_9_d : ∀ z ∈ KX9_ofFrameNow_43_9, decode cX9_ofFrameNow z.1 = .ok z.2 := by decide +kernel
set_option maxHeartbeats 4000000 in
set_option maxRecDepth 100000 in
theorem c_X9_ofFrameNow_2 (l : Launch) (D : va_G) (g : Nat → ClassId) (ad : Nat → Nat) (I : Nat → Nat → Int32) (L : Nat → Nat → Int64) (S : Nat → Nat) (Z : Nat → Nat → Int32) (Y : Int64) (fk : Nat) (hk : fk < 4) : CT l yX9_ofFrameNow cX9_ofFrameNow 4 ((Option.some FieldType.int)) ({ frames := 3, cells := 0, slots := 0, locals := 64 } : Room) [.ref (ad 0), .int (nI fk), .int (nI 2)] D CL (TYS g) ([]) (WM ad g I L S Z Y) (S := Unit) (fun _ => some (.int (ofV I fk 2))) (fun _ => WM ad g I L S Z Y) (fun _ => True) 0 0 := by
  refine ct_of (by decide +kernel) (Nat.le_of_ble_eq_true rfl) ?_
  intro p e s m below meth c A X hr hnm hSB hRO hAf
  refine g_cs (ws' := WM ad g I L S Z Y ++ []) (lv' := [(0, .ref (ad 0)), (1, .int (nI fk)), (2, .int (nI 2))]) (List.append_nil _) rfl ?_
  refine g_run X KX9_ofFrameNow_0_0 KX9_ofFrameNow_0_0_d 1 [(0, .ref (ad 0)), (1, .int (nI fk)), (2, .int (nI 2))] [.ref (ad 0)] rfl ?_
  refine g_get X srcW (v := .ref (ad 8)) hinX9 rfl 8 (by decide) w_1188 rfl (wm_mem (k := 0) (by decide)) rfl dX9_ofFrameNow_1 ?_
  refine g_run X KX9_ofFrameNow_4_1 KX9_ofFrameNow_4_1_d 5 [(0, .ref (ad 0)), (1, .int (nI fk)), (2, .int (nI 2))] [.int (nI fk), .ref (ad 8)] rfl ?_
  refine g_callV X hSB hAf (srcW) (hrc1 := (rfl : CL[9]? = some _)) (wm_mem (k := 8) (by decide)) rfl (As := [.int (nI fk)]) (wr := []) (n := 1) (c_Jx4a65c_get_915e3 l D g ad I L S Z Y fk (by omega)) rfl srcN hrdN w_1384 w_1381 w_1382 w_1383 w_9 (by decide +kernel) rfl ⟨Nat.le_of_ble_eq_true rfl, Nat.le_of_ble_eq_true rfl⟩ rfl rfl rfl (Nat.le_of_ble_eq_true rfl) ⟨Nat.le_of_ble_eq_true rfl, Nat.le_of_ble_eq_true rfl⟩ dX9_ofFrameNow_5 (fun hu1 _ => ?_)
  refine g_af (ws' := WM ad g I L S Z Y ++ []) (st' := [.ref (ad (fk + 13))]) (cells' := 0) (slots' := 0) (pc' := 8) rfl rfl rfl rfl rfl ?_
  refine g_cast X srcW (hc := (rfl : CL[7]? = some _)) (wm_fr (by omega)) w_1113 dX9_ofFrameNow_8 ?_
  refine g_run X KX9_ofFrameNow_11_2 KX9_ofFrameNow_11_2_d 13 [(3, .ref (ad (fk + 13))), (0, .ref (ad 0)), (1, .int (nI fk)), (2, .int (nI 2))] [.int (nI 2)] rfl ?_
  refine g_if_ne X 23 dX9_ofFrameNow_13 (by decide) (fun hc2 => ?_) (fun hc2 => ?_)
  · refine g_run X KX9_ofFrameNow_23_5 KX9_ofFrameNow_23_5_d 25 [(3, .ref (ad (fk + 13))), (0, .ref (ad 0)), (1, .int (nI fk)), (2, .int (nI 2))] [.int (nI 1), .int (nI 2)] rfl ?_
    refine g_icmp_ne X 43 dX9_ofFrameNow_25 (by decide) (fun hc3 => ?_) (fun hc3 => ?_)
    · refine g_run X KX9_ofFrameNow_43_9 KX9_ofFrameNow_43_9_d 44 [(3, .ref (ad (fk + 13))), (0, .ref (ad 0)), (1, .int (nI fk)), (2, .int (nI 2))] [.ref (ad (fk + 13))] rfl ?_
      refine g_getN X srcW (host := "ChipfieldModel") (v := .int (I 7 fk)) hinX8 rfl 3 (by decide) (nw_in n_1123 rfl) rfl (wm_fr (by omega)) rfl dX9_ofFrameNow_44 ?_
      exact g_iret X hr () (rfl) (trivial) (rfl) (Nat.le_of_ble_eq_true rfl) (Nat.le_of_ble_eq_true rfl) dX9_ofFrameNow_47
    · rw [nI_eq (by omega) (by omega)] at hc3; first | omega | (simp at hc3)
  · rw [nz_eq (by omega)] at hc2; first | omega | (simp at hc2)

set_option maxHeartbeats 4000000 in
set_option maxRecDepth 100000 in
theorem c_X9_ofFrame_w2 (l : Launch) (D : va_G) (g : Nat → ClassId) (ad : Nat → Nat) (I : Nat → Nat → Int32) (L : Nat → Nat → Int64) (S : Nat → Nat) (Z : Nat → Nat → Int32) (Y : Int64) (fk : Nat) (hk : fk < 4) : CT l yX9_ofFrame cX9_ofFrame 3 ((Option.some FieldType.int)) ({ frames := 4, cells := 0, slots := 0, locals := 87 } : Room) [.ref (ad 0), .int (nI fk), .int (nI 2)] D CL (TYS g) ([]) (WM ad g I L S Z Y) (S := Unit) (fun _ => some (.int (ofV I fk 2))) (fun _ => WM ad g I L S (u2 Z 3 0 (nI 0)) Y) (fun _ => True) 0 0 := by
  refine ct_of (by decide +kernel) (Nat.le_of_ble_eq_true rfl) ?_
  intro p e s m below meth c A X hr hnm hSB hRO hAf
  refine g_cs (ws' := WM ad g I L S Z Y ++ []) (lv' := [(0, .ref (ad 0)), (1, .int (nI fk)), (2, .int (nI 2))]) (List.append_nil _) rfl ?_
  refine g_run X KX9_ofFrame_0_0 KX9_ofFrame_0_0_d 2 [(0, .ref (ad 0)), (1, .int (nI fk)), (2, .int (nI 2))] [.int (nI 0), .ref (ad 0)] rfl ?_
  refine g_put X (ws' := WM ad g I L S (u2 Z 3 0 (nI 0)) Y ++ []) hinX9 tyX9 tyX9_ok nmX9 rfl 0 (by decide) w_1180 rfl rfl (ty := .int) rfl rfl rfl (0) (wm_get (k := 0) (by decide)) (Nat.le_of_ble_eq_true rfl) (wm_mo0) dX9_ofFrame_2 ?_
  refine g_run X KX9_ofFrame_5_1 KX9_ofFrame_5_1_d 8 [(0, .ref (ad 0)), (1, .int (nI fk)), (2, .int (nI 2))] [.int (nI 3), .int (nI 0), .int (nI fk)] rfl ?_
  refine g_callS X hSB hAf (As := [.int (nI fk), .int (nI 0), .int (nI 3)]) (wr := WM ad g I L S (u2 Z 3 0 (nI 0)) Y ++ []) (n := 3) (c_X9_is_t l D g fk 0 3 (by omega) (by omega) (by omega)) rfl srcN hrdN w_1260 w_1258 w_1259 w_6 (by decide +kernel) rfl ⟨Nat.le_of_ble_eq_true rfl, Nat.le_of_ble_eq_true rfl⟩ rfl rfl rfl (Nat.le_of_ble_eq_true rfl) ⟨Nat.le_of_ble_eq_true rfl, Nat.le_of_ble_eq_true rfl⟩ dX9_ofFrame_8 (fun hu1 _ => ?_)
  refine g_af (ws' := WM ad g I L S (u2 Z 3 0 (nI 0)) Y ++ []) (st' := [.int (nI 1)]) (cells' := 0) (slots' := 0) (pc' := 11) rfl rfl rfl rfl rfl ?_
  refine g_if_ne X 20 dX9_ofFrame_11 (by decide) (fun hc2 => ?_) (fun hc2 => ?_)
  · refine g_run X KX9_ofFrame_20_2 KX9_ofFrame_20_2_d 23 [(0, .ref (ad 0)), (1, .int (nI fk)), (2, .int (nI 2))] [.int (nI 2), .int (nI 0), .int (nI 2)] rfl ?_
    refine g_callS X hSB hAf (As := [.int (nI 2), .int (nI 0), .int (nI 2)]) (wr := WM ad g I L S (u2 Z 3 0 (nI 0)) Y ++ []) (n := 3) (c_X9_is_t l D g 2 0 2 (by omega) (by omega) (by omega)) rfl srcN hrdN w_1260 w_1258 w_1259 w_6 (by decide +kernel) rfl ⟨Nat.le_of_ble_eq_true rfl, Nat.le_of_ble_eq_true rfl⟩ rfl rfl rfl (Nat.le_of_ble_eq_true rfl) ⟨Nat.le_of_ble_eq_true rfl, Nat.le_of_ble_eq_true rfl⟩ dX9_ofFrame_23 (fun hu3 _ => ?_)
    refine g_af (ws' := WM ad g I L S (u2 Z 3 0 (nI 0)) Y ++ []) (st' := [.int (nI 1)]) (cells' := 0) (slots' := 0) (pc' := 26) rfl rfl rfl rfl rfl ?_
    refine g_if_eq X 38 dX9_ofFrame_26 (by decide) (fun hc4 => ?_) (fun hc4 => ?_)
    · rw [nz_eq (by omega)] at hc4; first | omega | (simp at hc4)
    · refine g_run X KX9_ofFrame_29_3 KX9_ofFrame_29_3_d 32 [(0, .ref (ad 0)), (1, .int (nI fk)), (2, .int (nI 2))] [.int (nI 2), .int (nI fk), .ref (ad 0)] rfl ?_
      refine g_callV X hSB hAf (srcW) (hrc1 := (rfl : CL[8]? = some _)) (wm_mem (k := 0) (by decide)) rfl (As := [.int (nI fk), .int (nI 2)]) (wr := []) (n := 2) (c_X9_ofFrameNow_2 l D g ad I L S (u2 Z 3 0 (nI 0)) Y fk (by omega)) rfl srcN hrdN w_1480 w_1477 w_1479 w_s35 w_6 (by decide +kernel) rfl ⟨Nat.le_of_ble_eq_true rfl, Nat.le_of_ble_eq_true rfl⟩ rfl rfl rfl (Nat.le_of_ble_eq_true rfl) ⟨Nat.le_of_ble_eq_true rfl, Nat.le_of_ble_eq_true rfl⟩ dX9_ofFrame_32 (fun hu5 _ => ?_)
      refine g_af (ws' := WM ad g I L S (u2 Z 3 0 (nI 0)) Y ++ []) (st' := [.int (ofV I fk 2)]) (cells' := 0) (slots' := 0) (pc' := 35) rfl rfl rfl rfl rfl ?_
      refine g_run X KX9_ofFrame_35_4 KX9_ofFrame_35_4_d 43 [(0, .ref (ad 0)), (1, .int (nI fk)), (2, .int (nI 2))] [.int (ofV I fk 2)] rfl ?_
      exact g_iret X hr () (rfl) (trivial) (rfl) (Nat.le_of_ble_eq_true rfl) (Nat.le_of_ble_eq_true rfl) dX9_ofFrame_43
  · rw [nz_eq (by omega)] at hc2; first | omega | (simp at hc2)

def KX9_ofFrame_14_5 : List (Nat × Instr × Nat) := [(14, .aload_n 0, 1), (15, .iconst 1, 1)]
theorem KX9_ofFrame_14_5_d : ∀ z ∈ KX9_ofFrame_14_5, decode cX9_ofFrame z.1 = .ok z.2 := by decide +kernel
set_option maxHeartbeats 4000000 in
set_option maxRecDepth 100000 in
theorem c_X9_ofFrame_1 (l : Launch) (D : va_G) (g : Nat → ClassId) (ad : Nat → Nat) (I : Nat → Nat → Int32) (L : Nat → Nat → Int64) (S : Nat → Nat) (Z : Nat → Nat → Int32) (Y : Int64) (x : Int32) (y1 : Int32) (hx : x < nI 0 ∨ ¬ x ≤ nI 3) : CT l yX9_ofFrame cX9_ofFrame 3 ((Option.some FieldType.int)) ({ frames := 1, cells := 0, slots := 0, locals := 22 } : Room) [.ref (ad 0), .int x, .int y1] D CL (TYS g) ([]) (WM ad g I L S Z Y) (S := Unit) (fun _ => some (.int (nI 0))) (fun _ => WM ad g I L S (u2 (u2 Z 3 0 (nI 0)) 3 0 (nI 1)) Y) (fun _ => True) 0 0 := by
  refine ct_of (by decide +kernel) (Nat.le_of_ble_eq_true rfl) ?_
  intro p e s m below meth c A X hr hnm hSB hRO hAf
  refine g_cs (ws' := WM ad g I L S Z Y ++ []) (lv' := [(0, .ref (ad 0)), (1, .int x), (2, .int y1)]) (List.append_nil _) rfl ?_
  refine g_run X KX9_ofFrame_0_0 KX9_ofFrame_0_0_d 2 [(0, .ref (ad 0)), (1, .int x), (2, .int y1)] [.int (nI 0), .ref (ad 0)] rfl ?_
  refine g_put X (ws' := WM ad g I L S (u2 Z 3 0 (nI 0)) Y ++ []) hinX9 tyX9 tyX9_ok nmX9 rfl 0 (by decide) w_1180 rfl rfl (ty := .int) rfl rfl rfl (0) (wm_get (k := 0) (by decide)) (Nat.le_of_ble_eq_true rfl) (wm_mo0) dX9_ofFrame_2 ?_
  refine g_run X KX9_ofFrame_5_1 KX9_ofFrame_5_1_d 8 [(0, .ref (ad 0)), (1, .int x), (2, .int y1)] [.int (nI 3), .int (nI 0), .int x] rfl ?_
  refine g_callS X hSB hAf (As := [.int x, .int (nI 0), .int (nI 3)]) (wr := WM ad g I L S (u2 Z 3 0 (nI 0)) Y ++ []) (n := 3) (c_X9_is_f l D g x (nI 0) (nI 3) (hx)) rfl srcN hrdN w_1260 w_1258 w_1259 w_6 (by decide +kernel) rfl ⟨Nat.le_of_ble_eq_true rfl, Nat.le_of_ble_eq_true rfl⟩ rfl rfl rfl (Nat.le_of_ble_eq_true rfl) ⟨Nat.le_of_ble_eq_true rfl, Nat.le_of_ble_eq_true rfl⟩ dX9_ofFrame_8 (fun hu1 _ => ?_)
  refine g_af (ws' := WM ad g I L S (u2 Z 3 0 (nI 0)) Y ++ []) (st' := [.int (nI 0)]) (cells' := 0) (slots' := 0) (pc' := 11) rfl rfl rfl rfl rfl ?_
  refine g_if_ne X 20 dX9_ofFrame_11 (by decide) (fun hc2 => ?_) (fun hc2 => ?_)
  · rw [nz_eq (by omega)] at hc2; first | omega | (simp at hc2)
  · refine g_run X KX9_ofFrame_14_5 KX9_ofFrame_14_5_d 16 [(0, .ref (ad 0)), (1, .int x), (2, .int y1)] [.int (nI 1), .ref (ad 0)] rfl ?_
    refine g_callV X hSB hAf (srcW) (hrc1 := (rfl : CL[8]? = some _)) (wm_mem (k := 0) (by decide)) rfl (As := [.int (nI 1)]) (wr := []) (n := 1) (c_X9_refuse l D g ad I L S (u2 Z 3 0 (nI 0)) Y 1 ) rfl srcN hrdN w_1264 w_1261 w_1263 w_s12 w_6 (by decide +kernel) rfl ⟨Nat.le_of_ble_eq_true rfl, Nat.le_of_ble_eq_true rfl⟩ rfl rfl rfl (Nat.le_of_ble_eq_true rfl) ⟨Nat.le_of_ble_eq_true rfl, Nat.le_of_ble_eq_true rfl⟩ dX9_ofFrame_16 (fun hu3 _ => ?_)
    refine g_af (ws' := WM ad g I L S (u2 (u2 Z 3 0 (nI 0)) 3 0 (nI 1)) Y ++ []) (st' := [.int (nI 0)]) (cells' := 0) (slots' := 0) (pc' := 19) rfl rfl rfl rfl rfl ?_
    exact g_iret X hr () (rfl) (trivial) (rfl) (Nat.le_of_ble_eq_true rfl) (Nat.le_of_ble_eq_true rfl) dX9_ofFrame_19

def KX9_ofFrame_38_6 : List (Nat × Instr × Nat) := [(38, .aload_n 0, 1), (39, .iconst 2, 1)]
theorem KX9_ofFrame_38_6_d : ∀ z ∈ KX9_ofFrame_38_6, decode cX9_ofFrame z.1 = .ok z.2 := by decide +kernel
set_option maxHeartbeats 4000000 in
set_option maxRecDepth 100000 in
theorem c_X9_ofFrame_2 (l : Launch) (D : va_G) (g : Nat → ClassId) (ad : Nat → Nat) (I : Nat → Nat → Int32) (L : Nat → Nat → Int64) (S : Nat → Nat) (Z : Nat → Nat → Int32) (Y : Int64) (fk : Nat) (x : Int32) (hk : fk < 4) (hx : x < nI 0 ∨ ¬ x ≤ nI 2) : CT l yX9_ofFrame cX9_ofFrame 3 ((Option.some FieldType.int)) ({ frames := 1, cells := 0, slots := 0, locals := 22 } : Room) [.ref (ad 0), .int (nI fk), .int x] D CL (TYS g) ([]) (WM ad g I L S Z Y) (S := Unit) (fun _ => some (.int (nI 0))) (fun _ => WM ad g I L S (u2 (u2 Z 3 0 (nI 0)) 3 0 (nI 2)) Y) (fun _ => True) 0 0 := by
  refine ct_of (by decide +kernel) (Nat.le_of_ble_eq_true rfl) ?_
  intro p e s m below meth c A X hr hnm hSB hRO hAf
  refine g_cs (ws' := WM ad g I L S Z Y ++ []) (lv' := [(0, .ref (ad 0)), (1, .int (nI fk)), (2, .int x)]) (List.append_nil _) rfl ?_
  refine g_run X KX9_ofFrame_0_0 KX9_ofFrame_0_0_d 2 [(0, .ref (ad 0)), (1, .int (nI fk)), (2, .int x)] [.int (nI 0), .ref (ad 0)] rfl ?_
  refine g_put X (ws' := WM ad g I L S (u2 Z 3 0 (nI 0)) Y ++ []) hinX9 tyX9 tyX9_ok nmX9 rfl 0 (by decide) w_1180 rfl rfl (ty := .int) rfl rfl rfl (0) (wm_get (k := 0) (by decide)) (Nat.le_of_ble_eq_true rfl) (wm_mo0) dX9_ofFrame_2 ?_
  refine g_run X KX9_ofFrame_5_1 KX9_ofFrame_5_1_d 8 [(0, .ref (ad 0)), (1, .int (nI fk)), (2, .int x)] [.int (nI 3), .int (nI 0), .int (nI fk)] rfl ?_
  refine g_callS X hSB hAf (As := [.int (nI fk), .int (nI 0), .int (nI 3)]) (wr := WM ad g I L S (u2 Z 3 0 (nI 0)) Y ++ []) (n := 3) (c_X9_is_t l D g fk 0 3 (by omega) (by omega) (by omega)) rfl srcN hrdN w_1260 w_1258 w_1259 w_6 (by decide +kernel) rfl ⟨Nat.le_of_ble_eq_true rfl, Nat.le_of_ble_eq_true rfl⟩ rfl rfl rfl (Nat.le_of_ble_eq_true rfl) ⟨Nat.le_of_ble_eq_true rfl, Nat.le_of_ble_eq_true rfl⟩ dX9_ofFrame_8 (fun hu1 _ => ?_)
  refine g_af (ws' := WM ad g I L S (u2 Z 3 0 (nI 0)) Y ++ []) (st' := [.int (nI 1)]) (cells' := 0) (slots' := 0) (pc' := 11) rfl rfl rfl rfl rfl ?_
  refine g_if_ne X 20 dX9_ofFrame_11 (by decide) (fun hc2 => ?_) (fun hc2 => ?_)
  · refine g_run X KX9_ofFrame_20_2 KX9_ofFrame_20_2_d 23 [(0, .ref (ad 0)), (1, .int (nI fk)), (2, .int x)] [.int (nI 2), .int (nI 0), .int x] rfl ?_
    refine g_callS X hSB hAf (As := [.int x, .int (nI 0), .int (nI 2)]) (wr := WM ad g I L S (u2 Z 3 0 (nI 0)) Y ++ []) (n := 3) (c_X9_is_f l D g x (nI 0) (nI 2) (hx)) rfl srcN hrdN w_1260 w_1258 w_1259 w_6 (by decide +kernel) rfl ⟨Nat.le_of_ble_eq_true rfl, Nat.le_of_ble_eq_true rfl⟩ rfl rfl rfl (Nat.le_of_ble_eq_true rfl) ⟨Nat.le_of_ble_eq_true rfl, Nat.le_of_ble_eq_true rfl⟩ dX9_ofFrame_23 (fun hu3 _ => ?_)
    refine g_af (ws' := WM ad g I L S (u2 Z 3 0 (nI 0)) Y ++ []) (st' := [.int (nI 0)]) (cells' := 0) (slots' := 0) (pc' := 26) rfl rfl rfl rfl rfl ?_
    refine g_if_eq X 38 dX9_ofFrame_26 (by decide) (fun hc4 => ?_) (fun hc4 => ?_)
    · refine g_run X KX9_ofFrame_38_6 KX9_ofFrame_38_6_d 40 [(0, .ref (ad 0)), (1, .int (nI fk)), (2, .int x)] [.int (nI 2), .ref (ad 0)] rfl ?_
      refine g_callV X hSB hAf (srcW) (hrc1 := (rfl : CL[8]? = some _)) (wm_mem (k := 0) (by decide)) rfl (As := [.int (nI 2)]) (wr := []) (n := 1) (c_X9_refuse l D g ad I L S (u2 Z 3 0 (nI 0)) Y 2 ) rfl srcN hrdN w_1264 w_1261 w_1263 w_s12 w_6 (by decide +kernel) rfl ⟨Nat.le_of_ble_eq_true rfl, Nat.le_of_ble_eq_true rfl⟩ rfl rfl rfl (Nat.le_of_ble_eq_true rfl) ⟨Nat.le_of_ble_eq_true rfl, Nat.le_of_ble_eq_true rfl⟩ dX9_ofFrame_40 (fun hu5 _ => ?_)
      refine g_af (ws' := WM ad g I L S (u2 (u2 Z 3 0 (nI 0)) 3 0 (nI 2)) Y ++ []) (st' := [.int (nI 0)]) (cells' := 0) (slots' := 0) (pc' := 43) rfl rfl rfl rfl rfl ?_
      exact g_iret X hr () (rfl) (trivial) (rfl) (Nat.le_of_ble_eq_true rfl) (Nat.le_of_ble_eq_true rfl) dX9_ofFrame_43
    · rw [nz_eq (by omega)] at hc4; first | omega | (simp at hc4)
  · rw [nz_eq (by omega)] at hc2; first | omega | (simp at hc2)

def KX9_heldNow_0_0 : List (Nat × Instr × Nat) := [(0, .aload_n 0, 1)]
theorem KX9_heldNow_0_0_d : ∀ z ∈ KX9_heldNow_0_0, decode cX9_heldNow z.1 = .ok z.2 := by decide +kernel
def KX9_heldNow_4_1 : List (Nat × Instr × Nat) := [(4, .iload_n 1, 1)]
theorem KX9_heldNow_4_1_d : ∀ z ∈ KX9_heldNow_4_1, decode cX9_heldNow z.1 = .ok z.2 := by decide +kernel
def KX9_heldNow_14_2 : List (Nat × Instr × Nat) := [(14, .iconst (-1), 1)]
theorem KX9_heldNow_14_2_d : ∀ z ∈ KX9_heldNow_14_2, decode cX9_heldNow z.1 = .ok z.2 := by decide +kernel
def KX9_heldNow_24_3 : List (Nat × Instr × Nat) := [(24, .aload_n 0, 1)]
theorem KX9_heldNow_24_3_d : ∀ z ∈ KX9_heldNow_24_3, decode cX9_heldNow z.1 = .ok z.2 := by decide +kernel
def KX9_heldNow_28_4 : List (Nat × Instr × Nat) := [(28, .iload_n 1, 1)]
theorem KX9_heldNow_28_4_d : ∀ z ∈ KX9_heldNow_28_4, decode cX9_heldNow z.1 = .ok z.2 := by decide +kernel
def KX9_heldNow_21_5 : List (Nat × Instr × Nat) := [(21, .goto 17, 3)]
theorem KX9_heldNow_21_5_d : ∀ z ∈ KX9_heldNow_21_5, decode cX9_heldNow z.1 = .ok z.2 := by decide +kernel
set_option maxHeartbeats 4000000 in
set_option maxRecDepth 100000 in
theorem c_X9_heldNow (l : Launch) (D : va_G) (g : Nat → ClassId) (ad : Nat → Nat) (I : Nat → Nat → Int32) (L : Nat → Nat → Int64) (S : Nat → Nat) (Z : Nat → Nat → Int32) (Y : Int64) (fk : Nat) (hk : fk < 4) (hin : I 5 fk = -nI 1 ↔ L 3 fk = -1) : CT l yX9_heldNow cX9_heldNow 2 ((Option.some FieldType.long)) ({ frames := 3, cells := 0, slots := 0, locals := 64 } : Room) [.ref (ad 0), .int (nI fk)] D CL (TYS g) ([]) (WM ad g I L S Z Y) (S := Unit) (fun _ => some (.long (dtO (L 3 fk)))) (fun _ => WM ad g I L S Z Y) (fun _ => True) 0 0 := by
  refine ct_of (by decide +kernel) (Nat.le_of_ble_eq_true rfl) ?_
  intro p e s m below meth c A X hr hnm hSB hRO hAf
  refine g_cs (ws' := WM ad g I L S Z Y ++ []) (lv' := [(0, .ref (ad 0)), (1, .int (nI fk))]) (List.append_nil _) rfl ?_
  refine g_run X KX9_heldNow_0_0 KX9_heldNow_0_0_d 1 [(0, .ref (ad 0)), (1, .int (nI fk))] [.ref (ad 0)] rfl ?_
  refine g_get X srcW (v := .ref (ad 8)) hinX9 rfl 8 (by decide) w_1188 rfl (wm_mem (k := 0) (by decide)) rfl dX9_heldNow_1 ?_
  refine g_run X KX9_heldNow_4_1 KX9_heldNow_4_1_d 5 [(0, .ref (ad 0)), (1, .int (nI fk))] [.int (nI fk), .ref (ad 8)] rfl ?_
  refine g_callV X hSB hAf (srcW) (hrc1 := (rfl : CL[9]? = some _)) (wm_mem (k := 8) (by decide)) rfl (As := [.int (nI fk)]) (wr := []) (n := 1) (c_Jx4a65c_get_915e3 l D g ad I L S Z Y fk (by omega)) rfl srcN hrdN w_1384 w_1381 w_1382 w_1383 w_9 (by decide +kernel) rfl ⟨Nat.le_of_ble_eq_true rfl, Nat.le_of_ble_eq_true rfl⟩ rfl rfl rfl (Nat.le_of_ble_eq_true rfl) ⟨Nat.le_of_ble_eq_true rfl, Nat.le_of_ble_eq_true rfl⟩ dX9_heldNow_5 (fun hu1 _ => ?_)
  refine g_af (ws' := WM ad g I L S Z Y ++ []) (st' := [.ref (ad (fk + 13))]) (cells' := 0) (slots' := 0) (pc' := 8) rfl rfl rfl rfl rfl ?_
  refine g_cast X srcW (hc := (rfl : CL[7]? = some _)) (wm_fr (by omega)) w_1113 dX9_heldNow_8 ?_
  refine g_getN X srcW (host := "ChipfieldModel") (v := .int (I 5 fk)) hinX8 rfl 0 (by decide) (nw_in n_1120 rfl) rfl (wm_fr (by omega)) rfl dX9_heldNow_11 ?_
  refine g_run X KX9_heldNow_14_2 KX9_heldNow_14_2_d 15 [(0, .ref (ad 0)), (1, .int (nI fk))] [.int (-nI 1), .int (I 5 fk)] rfl ?_
  refine g_icmp_ne X 24 dX9_heldNow_15 (by decide) (fun hc2 => ?_) (fun hc2 => ?_)
  · have hne := hc2
    refine g_run X KX9_heldNow_24_3 KX9_heldNow_24_3_d 25 [(0, .ref (ad 0)), (1, .int (nI fk))] [.ref (ad 0)] rfl ?_
    refine g_get X srcW (v := .ref (ad 8)) hinX9 rfl 8 (by decide) w_1188 rfl (wm_mem (k := 0) (by decide)) rfl dX9_heldNow_25 ?_
    refine g_run X KX9_heldNow_28_4 KX9_heldNow_28_4_d 29 [(0, .ref (ad 0)), (1, .int (nI fk))] [.int (nI fk), .ref (ad 8)] rfl ?_
    refine g_callV X hSB hAf (srcW) (hrc1 := (rfl : CL[9]? = some _)) (wm_mem (k := 8) (by decide)) rfl (As := [.int (nI fk)]) (wr := []) (n := 1) (c_Jx4a65c_get_915e3 l D g ad I L S Z Y fk (by omega)) rfl srcN hrdN w_1384 w_1381 w_1382 w_1383 w_9 (by decide +kernel) rfl ⟨Nat.le_of_ble_eq_true rfl, Nat.le_of_ble_eq_true rfl⟩ rfl rfl rfl (Nat.le_of_ble_eq_true rfl) ⟨Nat.le_of_ble_eq_true rfl, Nat.le_of_ble_eq_true rfl⟩ dX9_heldNow_29 (fun hu3 _ => ?_)
    refine g_af (ws' := WM ad g I L S Z Y ++ []) (st' := [.ref (ad (fk + 13))]) (cells' := 0) (slots' := 0) (pc' := 32) rfl rfl rfl rfl rfl ?_
    refine g_cast X srcW (hc := (rfl : CL[7]? = some _)) (wm_fr (by omega)) w_1113 dX9_heldNow_32 ?_
    refine g_getN X srcW (host := "ChipfieldModel") (v := .long (mdt (L 3 fk))) hinX8 rfl 1 (by decide) (nw_in n_1121 rfl) rfl (wm_fr (by omega)) rfl dX9_heldNow_35 ?_
    exact g_lret X hr () (by show some (Value.long _) = some (Value.long _); rw [mdt, dtO, if_neg (fun z => hne (hin.mpr z)), if_neg (fun z => hne (hin.mpr z))]) (trivial) (rfl) (Nat.le_of_ble_eq_true rfl) (Nat.le_of_ble_eq_true rfl) dX9_heldNow_38
  · have heq := hc2
    refine g_ldc2 X (v := (-1 : Int64)) w_1397 dX9_heldNow_18 ?_
    refine g_run X KX9_heldNow_21_5 KX9_heldNow_21_5_d 38 [(0, .ref (ad 0)), (1, .int (nI fk))] [.long (-1 : Int64)] rfl ?_
    exact g_lret X hr () (by show some (Value.long _) = some (Value.long _); rw [dtO, if_pos (hin.mp heq)]) (trivial) (rfl) (Nat.le_of_ble_eq_true rfl) (Nat.le_of_ble_eq_true rfl) dX9_heldNow_38

def KX9_held_0_0 : List (Nat × Instr × Nat) := [(0, .aload_n 0, 1), (1, .iconst 0, 1)]
theorem KX9_held_0_0_d : ∀ z ∈ KX9_held_0_0, decode cX9_held z.1 = .ok z.2 := by decide +kernel
def KX9_held_5_1 : List (Nat × Instr × Nat) := [(5, .iload_n 1, 1), (6, .iconst 0, 1), (7, .iconst 3, 1)]
theorem KX9_held_5_1_d : ∀ z ∈ KX9_held_5_1, decode cX9_held z.1 = .ok z.2 := by decide +kernel
def KX9_held_14_2 : List (Nat × Instr × Nat) := [(14, .aload_n 0, 1), (15, .iload_n 1, 1)]
theorem KX9_held_14_2_d : ∀ z ∈ KX9_held_14_2, decode cX9_held z.1 = .ok z.2 := by decide +kernel
def KX9_held_19_3 : List (Nat × Instr × Nat) := [(19, .goto 9, 3)]
theorem KX9_held_19_3_d : ∀ z ∈ KX9_held_19_3, decode cX9_held z.1 = .ok z.2 := by decide +kernel
set_option maxHeartbeats 4000000 in
set_option maxRecDepth 100000 in
theorem c_X9_held (l : Launch) (D : va_G) (g : Nat → ClassId) (ad : Nat → Nat) (I : Nat → Nat → Int32) (L : Nat → Nat → Int64) (S : Nat → Nat) (Z : Nat → Nat → Int32) (Y : Int64) (fk : Nat) (hk : fk < 4) (hin : I 5 fk = -nI 1 ↔ L 3 fk = -1) : CT l yX9_held cX9_held 2 ((Option.some FieldType.long)) ({ frames := 4, cells := 0, slots := 0, locals := 85 } : Room) [.ref (ad 0), .int (nI fk)] D CL (TYS g) ([]) (WM ad g I L S Z Y) (S := Unit) (fun _ => some (.long (dtO (L 3 fk)))) (fun _ => WM ad g I L S (u2 Z 3 0 (nI 0)) Y) (fun _ => True) 0 0 := by
  refine ct_of (by decide +kernel) (Nat.le_of_ble_eq_true rfl) ?_
  intro p e s m below meth c A X hr hnm hSB hRO hAf
  refine g_cs (ws' := WM ad g I L S Z Y ++ []) (lv' := [(0, .ref (ad 0)), (1, .int (nI fk))]) (List.append_nil _) rfl ?_
  refine g_run X KX9_held_0_0 KX9_held_0_0_d 2 [(0, .ref (ad 0)), (1, .int (nI fk))] [.int (nI 0), .ref (ad 0)] rfl ?_
  refine g_put X (ws' := WM ad g I L S (u2 Z 3 0 (nI 0)) Y ++ []) hinX9 tyX9 tyX9_ok nmX9 rfl 0 (by decide) w_1180 rfl rfl (ty := .int) rfl rfl rfl (0) (wm_get (k := 0) (by decide)) (Nat.le_of_ble_eq_true rfl) (wm_mo0) dX9_held_2 ?_
  refine g_run X KX9_held_5_1 KX9_held_5_1_d 8 [(0, .ref (ad 0)), (1, .int (nI fk))] [.int (nI 3), .int (nI 0), .int (nI fk)] rfl ?_
  refine g_callS X hSB hAf (As := [.int (nI fk), .int (nI 0), .int (nI 3)]) (wr := WM ad g I L S (u2 Z 3 0 (nI 0)) Y ++ []) (n := 3) (c_X9_is_t l D g fk 0 3 (by omega) (by omega) (by omega)) rfl srcN hrdN w_1260 w_1258 w_1259 w_6 (by decide +kernel) rfl ⟨Nat.le_of_ble_eq_true rfl, Nat.le_of_ble_eq_true rfl⟩ rfl rfl rfl (Nat.le_of_ble_eq_true rfl) ⟨Nat.le_of_ble_eq_true rfl, Nat.le_of_ble_eq_true rfl⟩ dX9_held_8 (fun hu1 _ => ?_)
  refine g_af (ws' := WM ad g I L S (u2 Z 3 0 (nI 0)) Y ++ []) (st' := [.int (nI 1)]) (cells' := 0) (slots' := 0) (pc' := 11) rfl rfl rfl rfl rfl ?_
  refine g_if_eq X 22 dX9_held_11 (by decide) (fun hc2 => ?_) (fun hc2 => ?_)
  · rw [nz_eq (by omega)] at hc2; first | omega | (simp at hc2)
  · refine g_run X KX9_held_14_2 KX9_held_14_2_d 16 [(0, .ref (ad 0)), (1, .int (nI fk))] [.int (nI fk), .ref (ad 0)] rfl ?_
    refine g_callV X hSB hAf (srcW) (hrc1 := (rfl : CL[8]? = some _)) (wm_mem (k := 0) (by decide)) rfl (As := [.int (nI fk)]) (wr := []) (n := 1) (c_X9_heldNow l D g ad I L S (u2 Z 3 0 (nI 0)) Y fk (by omega) (hin)) rfl srcN hrdN w_1488 w_1485 w_1487 w_s36 w_6 (by decide +kernel) rfl ⟨Nat.le_of_ble_eq_true rfl, Nat.le_of_ble_eq_true rfl⟩ rfl rfl rfl (Nat.le_of_ble_eq_true rfl) ⟨Nat.le_of_ble_eq_true rfl, Nat.le_of_ble_eq_true rfl⟩ dX9_held_16 (fun hu3 _ => ?_)
    refine g_af (ws' := WM ad g I L S (u2 Z 3 0 (nI 0)) Y ++ []) (st' := [.long (dtO (L 3 fk))]) (cells' := 0) (slots' := 0) (pc' := 19) rfl rfl rfl rfl rfl ?_
    refine g_run X KX9_held_19_3 KX9_held_19_3_d 28 [(0, .ref (ad 0)), (1, .int (nI fk))] [.long (dtO (L 3 fk))] rfl ?_
    exact g_lret X hr () (rfl) (trivial) (rfl) (Nat.le_of_ble_eq_true rfl) (Nat.le_of_ble_eq_true rfl) dX9_held_28

def KX9_held_22_4 : List (Nat × Instr × Nat) := [(22, .aload_n 0, 1), (23, .iconst 1, 1)]
theorem KX9_held_22_4_d : ∀ z ∈ KX9_held_22_4, decode cX9_held z.1 = .ok z.2 := by decide +kernel
def KX9_held_27_5 : List (Nat × Instr × Nat) := [(27, .i2l, 1)]
theorem KX9_held_27_5_d : ∀ z ∈ KX9_held_27_5, decode cX9_held z.1 = .ok z.2 := by decide +kernel
set_option maxHeartbeats 4000000 in
set_option maxRecDepth 100000 in
theorem c_X9_held_1 (l : Launch) (D : va_G) (g : Nat → ClassId) (ad : Nat → Nat) (I : Nat → Nat → Int32) (L : Nat → Nat → Int64) (S : Nat → Nat) (Z : Nat → Nat → Int32) (Y : Int64) (x : Int32) (hx : x < nI 0 ∨ ¬ x ≤ nI 3) : CT l yX9_held cX9_held 2 ((Option.some FieldType.long)) ({ frames := 1, cells := 0, slots := 0, locals := 22 } : Room) [.ref (ad 0), .int x] D CL (TYS g) ([]) (WM ad g I L S Z Y) (S := Unit) (fun _ => some (.long ((nI 0).toInt64))) (fun _ => WM ad g I L S (u2 (u2 Z 3 0 (nI 0)) 3 0 (nI 1)) Y) (fun _ => True) 0 0 := by
  refine ct_of (by decide +kernel) (Nat.le_of_ble_eq_true rfl) ?_
  intro p e s m below meth c A X hr hnm hSB hRO hAf
  refine g_cs (ws' := WM ad g I L S Z Y ++ []) (lv' := [(0, .ref (ad 0)), (1, .int x)]) (List.append_nil _) rfl ?_
  refine g_run X KX9_held_0_0 KX9_held_0_0_d 2 [(0, .ref (ad 0)), (1, .int x)] [.int (nI 0), .ref (ad 0)] rfl ?_
  refine g_put X (ws' := WM ad g I L S (u2 Z 3 0 (nI 0)) Y ++ []) hinX9 tyX9 tyX9_ok nmX9 rfl 0 (by decide) w_1180 rfl rfl (ty := .int) rfl rfl rfl (0) (wm_get (k := 0) (by decide)) (Nat.le_of_ble_eq_true rfl) (wm_mo0) dX9_held_2 ?_
  refine g_run X KX9_held_5_1 KX9_held_5_1_d 8 [(0, .ref (ad 0)), (1, .int x)] [.int (nI 3), .int (nI 0), .int x] rfl ?_
  refine g_callS X hSB hAf (As := [.int x, .int (nI 0), .int (nI 3)]) (wr := WM ad g I L S (u2 Z 3 0 (nI 0)) Y ++ []) (n := 3) (c_X9_is_f l D g x (nI 0) (nI 3) (hx)) rfl srcN hrdN w_1260 w_1258 w_1259 w_6 (by decide +kernel) rfl ⟨Nat.le_of_ble_eq_true rfl, Nat.le_of_ble_eq_true rfl⟩ rfl rfl rfl (Nat.le_of_ble_eq_true rfl) ⟨Nat.le_of_ble_eq_true rfl, Nat.le_of_ble_eq_true rfl⟩ dX9_held_8 (fun hu1 _ => ?_)
  refine g_af (ws' := WM ad g I L S (u2 Z 3 0 (nI 0)) Y ++ []) (st' := [.int (nI 0)]) (cells' := 0) (slots' := 0) (pc' := 11) rfl rfl rfl rfl rfl ?_
  refine g_if_eq X 22 dX9_held_11 (by decide) (fun hc2 => ?_) (fun hc2 => ?_)
  · refine g_run X KX9_held_22_4 KX9_held_22_4_d 24 [(0, .ref (ad 0)), (1, .int x)] [.int (nI 1), .ref (ad 0)] rfl ?_
    refine g_callV X hSB hAf (srcW) (hrc1 := (rfl : CL[8]? = some _)) (wm_mem (k := 0) (by decide)) rfl (As := [.int (nI 1)]) (wr := []) (n := 1) (c_X9_refuse l D g ad I L S (u2 Z 3 0 (nI 0)) Y 1 ) rfl srcN hrdN w_1264 w_1261 w_1263 w_s12 w_6 (by decide +kernel) rfl ⟨Nat.le_of_ble_eq_true rfl, Nat.le_of_ble_eq_true rfl⟩ rfl rfl rfl (Nat.le_of_ble_eq_true rfl) ⟨Nat.le_of_ble_eq_true rfl, Nat.le_of_ble_eq_true rfl⟩ dX9_held_24 (fun hu3 _ => ?_)
    refine g_af (ws' := WM ad g I L S (u2 (u2 Z 3 0 (nI 0)) 3 0 (nI 1)) Y ++ []) (st' := [.int (nI 0)]) (cells' := 0) (slots' := 0) (pc' := 27) rfl rfl rfl rfl rfl ?_
    refine g_run X KX9_held_27_5 KX9_held_27_5_d 28 [(0, .ref (ad 0)), (1, .int x)] [.long ((nI 0).toInt64)] rfl ?_
    exact g_lret X hr () (rfl) (trivial) (rfl) (Nat.le_of_ble_eq_true rfl) (Nat.le_of_ble_eq_true rfl) dX9_held_28
  · rw [nz_eq (by omega)] at hc2; first | omega | (simp at hc2)

def KX9_erase_0_0 : List (Nat × Instr × Nat) := [(0, .aload_n 0, 1), (1, .iconst 0, 1)]
theorem KX9_erase_0_0_d : ∀ z ∈ KX9_erase_0_0, decode cX9_erase z.1 = .ok z.2 := by decide +kernel
def KX9_erase_5_1 : List (Nat × Instr × Nat) := [(5, .iload_n 1, 1)]
theorem KX9_erase_5_1_d : ∀ z ∈ KX9_erase_5_1, decode cX9_erase z.1 = .ok z.2 := by decide +kernel
def KX9_erase_18_2 : List (Nat × Instr × Nat) := [(18, .iload_n 2, 1)]
theorem KX9_erase_18_2_d : ∀ z ∈ KX9_erase_18_2, decode cX9_erase z.1 = .ok z.2 := by decide +kernel
def KX9_erase_45_3 : List (Nat × Instr × Nat) := [(45, .aload_n 0, 1)]
theorem KX9_erase_45_3_d : ∀ z ∈ KX9_erase_45_3, decode cX9_erase z.1 = .ok z.2 := by decide +kernel
def KX9_erase_49_4 : List (Nat × Instr × Nat) := [(49, .aload_n 0, 1)]
theorem KX9_erase_49_4_d : ∀ z ∈ KX9_erase_49_4, decode cX9_erase z.1 = .ok z.2 := by decide +kernel
def KX9_erase_53_5 : List (Nat × Instr × Nat) := [(53, .iload_n 1, 1)]
theorem KX9_erase_53_5_d : ∀ z ∈ KX9_erase_53_5, decode cX9_erase z.1 = .ok z.2 := by decide +kernel
def KX9_erase_56_6 : List (Nat × Instr × Nat) := [(56, .iload_n 2, 1)]
theorem KX9_erase_56_6_d : ∀ z ∈ KX9_erase_56_6, decode cX9_erase z.1 = .ok z.2 := by decide +kernel
def KX9_erase_60_7 : List (Nat × Instr × Nat) := [(60, .aload_n 0, 1)]
theorem KX9_erase_60_7_d : ∀ z ∈ KX9_erase_60_7, decode cX9_erase z.1 = .ok z.2 := by decide +kernel
set_option maxHeartbeats 4000000 in
set_option maxRecDepth 100000 in
theorem c_X9_erase (l : Launch) (D : va_G) (g : Nat → ClassId) (ad : Nat → Nat) (I : Nat → Nat → Int32) (L : Nat → Nat → Int64) (S : Nat → Nat) (Z : Nat → Nat → Int32) (Y : Int64) (q : Nat) (hS18 : ∀ p, p < 15 → S p < 18) (hq : q < 15) : CT l yX9_erase cX9_erase 3 ((Option.some FieldType.int)) ({ frames := 2, cells := 0, slots := 0, locals := 42 } : Room) [.ref (ad 0), .int (nI q), .int (nI 0)] D CL (TYS g) ([]) (WM ad g I L S Z Y) (S := Unit) (fun _ => some (.int (nI (pcn (ers (u2 I 3 (S q) (nI 0)) S 15) 15)))) (fun _ => WM ad g (u2 I 3 (S q) (nI 0)) L S (u2 Z 3 0 (nI 0)) Y) (fun _ => True) 0 0 := by
  refine ct_of (by decide +kernel) (Nat.le_of_ble_eq_true rfl) ?_
  intro p e s m below meth c A X hr hnm hSB hRO hAf
  refine g_cs (ws' := WM ad g I L S Z Y ++ []) (lv' := [(0, .ref (ad 0)), (1, .int (nI q)), (2, .int (nI 0))]) (List.append_nil _) rfl ?_
  refine g_run X KX9_erase_0_0 KX9_erase_0_0_d 2 [(0, .ref (ad 0)), (1, .int (nI q)), (2, .int (nI 0))] [.int (nI 0), .ref (ad 0)] rfl ?_
  refine g_put X (ws' := WM ad g I L S (u2 Z 3 0 (nI 0)) Y ++ []) hinX9 tyX9 tyX9_ok nmX9 rfl 0 (by decide) w_1180 rfl rfl (ty := .int) rfl rfl rfl (0) (wm_get (k := 0) (by decide)) (Nat.le_of_ble_eq_true rfl) (wm_mo0) dX9_erase_2 ?_
  refine g_run X KX9_erase_5_1 KX9_erase_5_1_d 6 [(0, .ref (ad 0)), (1, .int (nI q)), (2, .int (nI 0))] [.int (nI q)] rfl ?_
  refine g_callS X hSB hAf (As := [.int (nI q)]) (wr := WM ad g I L S (u2 Z 3 0 (nI 0)) Y ++ []) (n := 1) (c_X9_isPlace_t l D g q (by omega)) rfl srcN hrdN w_1335 w_1333 w_1334 w_6 (by decide +kernel) rfl ⟨Nat.le_of_ble_eq_true rfl, Nat.le_of_ble_eq_true rfl⟩ rfl rfl rfl (Nat.le_of_ble_eq_true rfl) ⟨Nat.le_of_ble_eq_true rfl, Nat.le_of_ble_eq_true rfl⟩ dX9_erase_6 (fun hu1 _ => ?_)
  refine g_af (ws' := WM ad g I L S (u2 Z 3 0 (nI 0)) Y ++ []) (st' := [.int (nI 1)]) (cells' := 0) (slots' := 0) (pc' := 9) rfl rfl rfl rfl rfl ?_
  refine g_if_ne X 18 dX9_erase_9 (by decide) (fun hc2 => ?_) (fun hc2 => ?_)
  · refine g_run X KX9_erase_18_2 KX9_erase_18_2_d 19 [(0, .ref (ad 0)), (1, .int (nI q)), (2, .int (nI 0))] [.int (nI 0)] rfl ?_
    refine g_if_eq X 45 dX9_erase_19 (by decide) (fun hc3 => ?_) (fun hc3 => ?_)
    · refine g_run X KX9_erase_45_3 KX9_erase_45_3_d 46 [(0, .ref (ad 0)), (1, .int (nI q)), (2, .int (nI 0))] [.ref (ad 0)] rfl ?_
      refine g_get X srcW (v := .ref (ad 6)) hinX9 rfl 6 (by decide) w_1186 rfl (wm_mem (k := 0) (by decide)) rfl dX9_erase_46 ?_
      refine g_run X KX9_erase_49_4 KX9_erase_49_4_d 50 [(0, .ref (ad 0)), (1, .int (nI q)), (2, .int (nI 0))] [.ref (ad 0), .ref (ad 6)] rfl ?_
      refine g_get X srcW (v := .ref (ad 7)) hinX9 rfl 7 (by decide) w_1187 rfl (wm_mem (k := 0) (by decide)) rfl dX9_erase_50 ?_
      refine g_run X KX9_erase_53_5 KX9_erase_53_5_d 54 [(0, .ref (ad 0)), (1, .int (nI q)), (2, .int (nI 0))] [.int (nI q), .ref (ad 7), .ref (ad 6)] rfl ?_
      refine g_iald X srcW (v := nI (S q)) 0 rfl (wm_mem (k := 7) (by decide)) q rfl (by omega) (by decide) (st_at (by omega)) dX9_erase_54 ?_
      refine g_aald X srcW (b := ad ((S q) + 17)) 3 rfl (wm_mem (k := 6) (by decide)) (S q) rfl (hS18 _ (by omega)) (by decide) (rfl) dX9_erase_55 ?_
      refine g_run X KX9_erase_56_6 KX9_erase_56_6_d 57 [(0, .ref (ad 0)), (1, .int (nI q)), (2, .int (nI 0))] [.int (nI 0), .ref (ad ((S q) + 17))] rfl ?_
      refine g_putN X (ws' := WM ad g (u2 I 3 (S q) (nI 0)) L S (u2 Z 3 0 (nI 0)) Y ++ []) hinX7 tyX7 tyX7_ok nmX7 rfl 3 (by decide) (nw_in n_1100 rfl) rfl rfl (ty := .boolean) rfl (by decide +kernel) rfl ((S q) + 17) (wm_chG (hS18 _ (by omega))) (Nat.le_of_ble_eq_true rfl) (wm_ch3 (hS18 _ (by omega))) dX9_erase_57 ?_
      refine g_run X KX9_erase_60_7 KX9_erase_60_7_d 61 [(0, .ref (ad 0)), (1, .int (nI q)), (2, .int (nI 0))] [.ref (ad 0)] rfl ?_
      refine g_callV X hSB hAf (srcW) (hrc1 := (rfl : CL[8]? = some _)) (wm_mem (k := 0) (by decide)) rfl (As := []) (wr := []) (n := 0) (c_X9_erased l D g ad (u2 I 3 (S q) (nI 0)) L S (u2 Z 3 0 (nI 0)) Y (hS18)) rfl srcN hrdN w_1339 w_1336 w_1338 w_s23 w_6 (by decide +kernel) rfl ⟨Nat.le_of_ble_eq_true rfl, Nat.le_of_ble_eq_true rfl⟩ rfl rfl rfl (Nat.le_of_ble_eq_true rfl) ⟨Nat.le_of_ble_eq_true rfl, Nat.le_of_ble_eq_true rfl⟩ dX9_erase_61 (fun hu4 _ => ?_)
      refine g_af (ws' := WM ad g (u2 I 3 (S q) (nI 0)) L S (u2 Z 3 0 (nI 0)) Y ++ []) (st' := [.int (nI (ers (u2 I 3 (S q) (nI 0)) S 15))]) (cells' := 0) (slots' := 0) (pc' := 64) rfl rfl rfl rfl rfl ?_
      refine g_callS X hSB hAf (As := [.int (nI (ers (u2 I 3 (S q) (nI 0)) S 15))]) (wr := WM ad g (u2 I 3 (S q) (nI 0)) L S (u2 Z 3 0 (nI 0)) Y ++ []) (n := 1) (c_J6_bitCount_0f7a4 l D g (ers (u2 I 3 (S q) (nI 0)) S 15) (ers_lt _ _ _)) rfl srcN hrdN w_259 w_1340 w_258 w_24 (by decide +kernel) rfl ⟨Nat.le_of_ble_eq_true rfl, Nat.le_of_ble_eq_true rfl⟩ rfl rfl rfl (Nat.le_of_ble_eq_true rfl) ⟨Nat.le_of_ble_eq_true rfl, Nat.le_of_ble_eq_true rfl⟩ dX9_erase_64 (fun hu5 _ => ?_)
      refine g_af (ws' := WM ad g (u2 I 3 (S q) (nI 0)) L S (u2 Z 3 0 (nI 0)) Y ++ []) (st' := [.int (nI (pcn (ers (u2 I 3 (S q) (nI 0)) S 15) 15))]) (cells' := 0) (slots' := 0) (pc' := 67) rfl rfl rfl rfl rfl ?_
      exact g_iret X hr () (rfl) (trivial) (rfl) (Nat.le_of_ble_eq_true rfl) (Nat.le_of_ble_eq_true rfl) dX9_erase_67
    · rw [nz_eq (by omega)] at hc3; first | omega | (simp at hc3)
  · rw [nz_eq (by omega)] at hc2; first | omega | (simp at hc2)

def KX9_erase_22_8 : List (Nat × Instr × Nat) := [(22, .aload_n 0, 1)]
theorem KX9_erase_22_8_d : ∀ z ∈ KX9_erase_22_8, decode cX9_erase z.1 = .ok z.2 := by decide +kernel
def KX9_erase_26_9 : List (Nat × Instr × Nat) := [(26, .iconst 1, 1), (27, .iload_n 1, 1), (28, .ishl, 1), (29, .iconst (-1), 1), (30, .ixor, 1), (31, .iand, 1)]
theorem KX9_erase_26_9_d : ∀ z ∈ KX9_erase_26_9, decode cX9_erase z.1 = .ok z.2 := by decide +kernel
def KX9_erase_35_10 : List (Nat × Instr × Nat) := [(35, .iconst 4, 1)]
theorem KX9_erase_35_10_d : ∀ z ∈ KX9_erase_35_10, decode cX9_erase z.1 = .ok z.2 := by decide +kernel
set_option maxHeartbeats 4000000 in
set_option maxRecDepth 100000 in
theorem c_X9_erase_t (l : Launch) (D : va_G) (g : Nat → ClassId) (ad : Nat → Nat) (I : Nat → Nat → Int32) (L : Nat → Nat → Int64) (S : Nat → Nat) (Z : Nat → Nat → Int32) (Y : Int64) (q : Nat) (hS18 : ∀ p, p < 15 → S p < 18) (hq : q < 15) (h4 : pcn (ers I S 15 &&& (32767 ^^^ 2 ^ q)) 15 < 4) : CT l yX9_erase cX9_erase 3 ((Option.some FieldType.int)) ({ frames := 2, cells := 0, slots := 0, locals := 42 } : Room) [.ref (ad 0), .int (nI q), .int (nI 1)] D CL (TYS g) ([]) (WM ad g I L S Z Y) (S := Unit) (fun _ => some (.int (nI (pcn (ers (u2 I 3 (S q) (nI 1)) S 15) 15)))) (fun _ => WM ad g (u2 I 3 (S q) (nI 1)) L S (u2 Z 3 0 (nI 0)) Y) (fun _ => True) 0 0 := by
  refine ct_of (by decide +kernel) (Nat.le_of_ble_eq_true rfl) ?_
  intro p e s m below meth c A X hr hnm hSB hRO hAf
  refine g_cs (ws' := WM ad g I L S Z Y ++ []) (lv' := [(0, .ref (ad 0)), (1, .int (nI q)), (2, .int (nI 1))]) (List.append_nil _) rfl ?_
  refine g_run X KX9_erase_0_0 KX9_erase_0_0_d 2 [(0, .ref (ad 0)), (1, .int (nI q)), (2, .int (nI 1))] [.int (nI 0), .ref (ad 0)] rfl ?_
  refine g_put X (ws' := WM ad g I L S (u2 Z 3 0 (nI 0)) Y ++ []) hinX9 tyX9 tyX9_ok nmX9 rfl 0 (by decide) w_1180 rfl rfl (ty := .int) rfl rfl rfl (0) (wm_get (k := 0) (by decide)) (Nat.le_of_ble_eq_true rfl) (wm_mo0) dX9_erase_2 ?_
  refine g_run X KX9_erase_5_1 KX9_erase_5_1_d 6 [(0, .ref (ad 0)), (1, .int (nI q)), (2, .int (nI 1))] [.int (nI q)] rfl ?_
  refine g_callS X hSB hAf (As := [.int (nI q)]) (wr := WM ad g I L S (u2 Z 3 0 (nI 0)) Y ++ []) (n := 1) (c_X9_isPlace_t l D g q (by omega)) rfl srcN hrdN w_1335 w_1333 w_1334 w_6 (by decide +kernel) rfl ⟨Nat.le_of_ble_eq_true rfl, Nat.le_of_ble_eq_true rfl⟩ rfl rfl rfl (Nat.le_of_ble_eq_true rfl) ⟨Nat.le_of_ble_eq_true rfl, Nat.le_of_ble_eq_true rfl⟩ dX9_erase_6 (fun hu1 _ => ?_)
  refine g_af (ws' := WM ad g I L S (u2 Z 3 0 (nI 0)) Y ++ []) (st' := [.int (nI 1)]) (cells' := 0) (slots' := 0) (pc' := 9) rfl rfl rfl rfl rfl ?_
  refine g_if_ne X 18 dX9_erase_9 (by decide) (fun hc2 => ?_) (fun hc2 => ?_)
  · refine g_run X KX9_erase_18_2 KX9_erase_18_2_d 19 [(0, .ref (ad 0)), (1, .int (nI q)), (2, .int (nI 1))] [.int (nI 1)] rfl ?_
    refine g_if_eq X 45 dX9_erase_19 (by decide) (fun hc3 => ?_) (fun hc3 => ?_)
    · rw [nz_eq (by omega)] at hc3; first | omega | (simp at hc3)
    · refine g_run X KX9_erase_22_8 KX9_erase_22_8_d 23 [(0, .ref (ad 0)), (1, .int (nI q)), (2, .int (nI 1))] [.ref (ad 0)] rfl ?_
      refine g_callV X hSB hAf (srcW) (hrc1 := (rfl : CL[8]? = some _)) (wm_mem (k := 0) (by decide)) rfl (As := []) (wr := []) (n := 0) (c_X9_erased l D g ad I L S (u2 Z 3 0 (nI 0)) Y (hS18)) rfl srcN hrdN w_1339 w_1336 w_1338 w_s23 w_6 (by decide +kernel) rfl ⟨Nat.le_of_ble_eq_true rfl, Nat.le_of_ble_eq_true rfl⟩ rfl rfl rfl (Nat.le_of_ble_eq_true rfl) ⟨Nat.le_of_ble_eq_true rfl, Nat.le_of_ble_eq_true rfl⟩ dX9_erase_23 (fun hu4 _ => ?_)
      refine g_af (ws' := WM ad g I L S (u2 Z 3 0 (nI 0)) Y ++ []) (st' := [.int (nI (ers I S 15))]) (cells' := 0) (slots' := 0) (pc' := 26) rfl rfl rfl rfl rfl ?_
      refine g_run X KX9_erase_26_9 KX9_erase_26_9_d 32 [(0, .ref (ad 0)), (1, .int (nI q)), (2, .int (nI 1))] [.int ((nI (ers I S 15)) &&& (((nI 1) <<< ((nI q) &&& 31)) ^^^ (-nI 1)))] rfl ?_
      refine g_st (st' := [.int (nI (ers I S 15 &&& (32767 ^^^ 2 ^ q)))]) (by rw [sh1 (by omega), an15 (two_lt hq) (ers_lt _ _ _)]) ?_
      have hp15 := pcn_15 (ers I S 15 &&& (32767 ^^^ 2 ^ q))
      refine g_callS X hSB hAf (As := [.int (nI (ers I S 15 &&& (32767 ^^^ 2 ^ q)))]) (wr := WM ad g I L S (u2 Z 3 0 (nI 0)) Y ++ []) (n := 1) (c_J6_bitCount_0f7a4 l D g (ers I S 15 &&& (32767 ^^^ 2 ^ q)) (an_lt (ers_lt _ _ _))) rfl srcN hrdN w_259 w_1340 w_258 w_24 (by decide +kernel) rfl ⟨Nat.le_of_ble_eq_true rfl, Nat.le_of_ble_eq_true rfl⟩ rfl rfl rfl (Nat.le_of_ble_eq_true rfl) ⟨Nat.le_of_ble_eq_true rfl, Nat.le_of_ble_eq_true rfl⟩ dX9_erase_32 (fun hu5 _ => ?_)
      refine g_af (ws' := WM ad g I L S (u2 Z 3 0 (nI 0)) Y ++ []) (st' := [.int (nI (pcn (ers I S 15 &&& (32767 ^^^ 2 ^ q)) 15))]) (cells' := 0) (slots' := 0) (pc' := 35) rfl rfl rfl rfl rfl ?_
      refine g_run X KX9_erase_35_10 KX9_erase_35_10_d 36 [(0, .ref (ad 0)), (1, .int (nI q)), (2, .int (nI 1))] [.int (nI 4), .int (nI (pcn (ers I S 15 &&& (32767 ^^^ 2 ^ q)) 15))] rfl ?_
      refine g_icmp_ne X 45 dX9_erase_36 (by decide) (fun hc6 => ?_) (fun hc6 => ?_)
      · refine g_run X KX9_erase_45_3 KX9_erase_45_3_d 46 [(0, .ref (ad 0)), (1, .int (nI q)), (2, .int (nI 1))] [.ref (ad 0)] rfl ?_
        refine g_get X srcW (v := .ref (ad 6)) hinX9 rfl 6 (by decide) w_1186 rfl (wm_mem (k := 0) (by decide)) rfl dX9_erase_46 ?_
        refine g_run X KX9_erase_49_4 KX9_erase_49_4_d 50 [(0, .ref (ad 0)), (1, .int (nI q)), (2, .int (nI 1))] [.ref (ad 0), .ref (ad 6)] rfl ?_
        refine g_get X srcW (v := .ref (ad 7)) hinX9 rfl 7 (by decide) w_1187 rfl (wm_mem (k := 0) (by decide)) rfl dX9_erase_50 ?_
        refine g_run X KX9_erase_53_5 KX9_erase_53_5_d 54 [(0, .ref (ad 0)), (1, .int (nI q)), (2, .int (nI 1))] [.int (nI q), .ref (ad 7), .ref (ad 6)] rfl ?_
        refine g_iald X srcW (v := nI (S q)) 0 rfl (wm_mem (k := 7) (by decide)) q rfl (by omega) (by decide) (st_at (by omega)) dX9_erase_54 ?_
        refine g_aald X srcW (b := ad ((S q) + 17)) 3 rfl (wm_mem (k := 6) (by decide)) (S q) rfl (hS18 _ (by omega)) (by decide) (rfl) dX9_erase_55 ?_
        refine g_run X KX9_erase_56_6 KX9_erase_56_6_d 57 [(0, .ref (ad 0)), (1, .int (nI q)), (2, .int (nI 1))] [.int (nI 1), .ref (ad ((S q) + 17))] rfl ?_
        refine g_putN X (ws' := WM ad g (u2 I 3 (S q) (nI 1)) L S (u2 Z 3 0 (nI 0)) Y ++ []) hinX7 tyX7 tyX7_ok nmX7 rfl 3 (by decide) (nw_in n_1100 rfl) rfl rfl (ty := .boolean) rfl (by decide +kernel) rfl ((S q) + 17) (wm_chG (hS18 _ (by omega))) (Nat.le_of_ble_eq_true rfl) (wm_ch3 (hS18 _ (by omega))) dX9_erase_57 ?_
        refine g_run X KX9_erase_60_7 KX9_erase_60_7_d 61 [(0, .ref (ad 0)), (1, .int (nI q)), (2, .int (nI 1))] [.ref (ad 0)] rfl ?_
        refine g_callV X hSB hAf (srcW) (hrc1 := (rfl : CL[8]? = some _)) (wm_mem (k := 0) (by decide)) rfl (As := []) (wr := []) (n := 0) (c_X9_erased l D g ad (u2 I 3 (S q) (nI 1)) L S (u2 Z 3 0 (nI 0)) Y (hS18)) rfl srcN hrdN w_1339 w_1336 w_1338 w_s23 w_6 (by decide +kernel) rfl ⟨Nat.le_of_ble_eq_true rfl, Nat.le_of_ble_eq_true rfl⟩ rfl rfl rfl (Nat.le_of_ble_eq_true rfl) ⟨Nat.le_of_ble_eq_true rfl, Nat.le_of_ble_eq_true rfl⟩ dX9_erase_61 (fun hu7 _ => ?_)
        refine g_af (ws' := WM ad g (u2 I 3 (S q) (nI 1)) L S (u2 Z 3 0 (nI 0)) Y ++ []) (st' := [.int (nI (ers (u2 I 3 (S q) (nI 1)) S 15))]) (cells' := 0) (slots' := 0) (pc' := 64) rfl rfl rfl rfl rfl ?_
        refine g_callS X hSB hAf (As := [.int (nI (ers (u2 I 3 (S q) (nI 1)) S 15))]) (wr := WM ad g (u2 I 3 (S q) (nI 1)) L S (u2 Z 3 0 (nI 0)) Y ++ []) (n := 1) (c_J6_bitCount_0f7a4 l D g (ers (u2 I 3 (S q) (nI 1)) S 15) (ers_lt _ _ _)) rfl srcN hrdN w_259 w_1340 w_258 w_24 (by decide +kernel) rfl ⟨Nat.le_of_ble_eq_true rfl, Nat.le_of_ble_eq_true rfl⟩ rfl rfl rfl (Nat.le_of_ble_eq_true rfl) ⟨Nat.le_of_ble_eq_true rfl, Nat.le_of_ble_eq_true rfl⟩ dX9_erase_64 (fun hu8 _ => ?_)
        refine g_af (ws' := WM ad g (u2 I 3 (S q) (nI 1)) L S (u2 Z 3 0 (nI 0)) Y ++ []) (st' := [.int (nI (pcn (ers (u2 I 3 (S q) (nI 1)) S 15) 15))]) (cells' := 0) (slots' := 0) (pc' := 67) rfl rfl rfl rfl rfl ?_
        exact g_iret X hr () (rfl) (trivial) (rfl) (Nat.le_of_ble_eq_true rfl) (Nat.le_of_ble_eq_true rfl) dX9_erase_67
      · rw [nI_eq (by omega) (by omega)] at hc6; first | omega | (simp at hc6)
  · rw [nz_eq (by omega)] at hc2; first | omega | (simp at hc2)

def KX9_erase_12_11 : List (Nat × Instr × Nat) := [(12, .aload_n 0, 1), (13, .iconst 1, 1)]
theorem KX9_erase_12_11_d : ∀ z ∈ KX9_erase_12_11, decode cX9_erase z.1 = .ok z.2 := by decide +kernel
set_option maxHeartbeats 4000000 in
set_option maxRecDepth 100000 in
theorem c_X9_erase_1 (l : Launch) (D : va_G) (g : Nat → ClassId) (ad : Nat → Nat) (I : Nat → Nat → Int32) (L : Nat → Nat → Int64) (S : Nat → Nat) (Z : Nat → Nat → Int32) (Y : Int64) (x : Int32) (y1 : Int32) (hx : x < 0 ∨ ¬ x ≤ nI 14) : CT l yX9_erase cX9_erase 3 ((Option.some FieldType.int)) ({ frames := 2, cells := 0, slots := 0, locals := 42 } : Room) [.ref (ad 0), .int x, .int y1] D CL (TYS g) ([]) (WM ad g I L S Z Y) (S := Unit) (fun _ => some (.int (nI 0))) (fun _ => WM ad g I L S (u2 (u2 Z 3 0 (nI 0)) 3 0 (nI 1)) Y) (fun _ => True) 0 0 := by
  refine ct_of (by decide +kernel) (Nat.le_of_ble_eq_true rfl) ?_
  intro p e s m below meth c A X hr hnm hSB hRO hAf
  refine g_cs (ws' := WM ad g I L S Z Y ++ []) (lv' := [(0, .ref (ad 0)), (1, .int x), (2, .int y1)]) (List.append_nil _) rfl ?_
  refine g_run X KX9_erase_0_0 KX9_erase_0_0_d 2 [(0, .ref (ad 0)), (1, .int x), (2, .int y1)] [.int (nI 0), .ref (ad 0)] rfl ?_
  refine g_put X (ws' := WM ad g I L S (u2 Z 3 0 (nI 0)) Y ++ []) hinX9 tyX9 tyX9_ok nmX9 rfl 0 (by decide) w_1180 rfl rfl (ty := .int) rfl rfl rfl (0) (wm_get (k := 0) (by decide)) (Nat.le_of_ble_eq_true rfl) (wm_mo0) dX9_erase_2 ?_
  refine g_run X KX9_erase_5_1 KX9_erase_5_1_d 6 [(0, .ref (ad 0)), (1, .int x), (2, .int y1)] [.int x] rfl ?_
  refine g_callS X hSB hAf (As := [.int x]) (wr := WM ad g I L S (u2 Z 3 0 (nI 0)) Y ++ []) (n := 1) (c_X9_isPlace_f l D g x (hx)) rfl srcN hrdN w_1335 w_1333 w_1334 w_6 (by decide +kernel) rfl ⟨Nat.le_of_ble_eq_true rfl, Nat.le_of_ble_eq_true rfl⟩ rfl rfl rfl (Nat.le_of_ble_eq_true rfl) ⟨Nat.le_of_ble_eq_true rfl, Nat.le_of_ble_eq_true rfl⟩ dX9_erase_6 (fun hu1 _ => ?_)
  refine g_af (ws' := WM ad g I L S (u2 Z 3 0 (nI 0)) Y ++ []) (st' := [.int (nI 0)]) (cells' := 0) (slots' := 0) (pc' := 9) rfl rfl rfl rfl rfl ?_
  refine g_if_ne X 18 dX9_erase_9 (by decide) (fun hc2 => ?_) (fun hc2 => ?_)
  · rw [nz_eq (by omega)] at hc2; first | omega | (simp at hc2)
  · refine g_run X KX9_erase_12_11 KX9_erase_12_11_d 14 [(0, .ref (ad 0)), (1, .int x), (2, .int y1)] [.int (nI 1), .ref (ad 0)] rfl ?_
    refine g_callV X hSB hAf (srcW) (hrc1 := (rfl : CL[8]? = some _)) (wm_mem (k := 0) (by decide)) rfl (As := [.int (nI 1)]) (wr := []) (n := 1) (c_X9_refuse l D g ad I L S (u2 Z 3 0 (nI 0)) Y 1 ) rfl srcN hrdN w_1264 w_1261 w_1263 w_s12 w_6 (by decide +kernel) rfl ⟨Nat.le_of_ble_eq_true rfl, Nat.le_of_ble_eq_true rfl⟩ rfl rfl rfl (Nat.le_of_ble_eq_true rfl) ⟨Nat.le_of_ble_eq_true rfl, Nat.le_of_ble_eq_true rfl⟩ dX9_erase_14 (fun hu3 _ => ?_)
    refine g_af (ws' := WM ad g I L S (u2 (u2 Z 3 0 (nI 0)) 3 0 (nI 1)) Y ++ []) (st' := [.int (nI 0)]) (cells' := 0) (slots' := 0) (pc' := 17) rfl rfl rfl rfl rfl ?_
    exact g_iret X hr () (rfl) (trivial) (rfl) (Nat.le_of_ble_eq_true rfl) (Nat.le_of_ble_eq_true rfl) dX9_erase_17

def KX9_erase_39_12 : List (Nat × Instr × Nat) := [(39, .aload_n 0, 1), (40, .iconst 2, 1)]
theorem KX9_erase_39_12_d : ∀ z ∈ KX9_erase_39_12, decode cX9_erase z.1 = .ok z.2 := by decide +kernel
set_option maxHeartbeats 4000000 in
set_option maxRecDepth 100000 in
theorem c_X9_erase_2 (l : Launch) (D : va_G) (g : Nat → ClassId) (ad : Nat → Nat) (I : Nat → Nat → Int32) (L : Nat → Nat → Int64) (S : Nat → Nat) (Z : Nat → Nat → Int32) (Y : Int64) (q : Nat) (hS18 : ∀ p, p < 15 → S p < 18) (hq : q < 15) (h4 : pcn (ers I S 15 &&& (32767 ^^^ 2 ^ q)) 15 = 4) : CT l yX9_erase cX9_erase 3 ((Option.some FieldType.int)) ({ frames := 2, cells := 0, slots := 0, locals := 42 } : Room) [.ref (ad 0), .int (nI q), .int (nI 1)] D CL (TYS g) ([]) (WM ad g I L S Z Y) (S := Unit) (fun _ => some (.int (nI 0))) (fun _ => WM ad g I L S (u2 (u2 Z 3 0 (nI 0)) 3 0 (nI 2)) Y) (fun _ => True) 0 0 := by
  refine ct_of (by decide +kernel) (Nat.le_of_ble_eq_true rfl) ?_
  intro p e s m below meth c A X hr hnm hSB hRO hAf
  refine g_cs (ws' := WM ad g I L S Z Y ++ []) (lv' := [(0, .ref (ad 0)), (1, .int (nI q)), (2, .int (nI 1))]) (List.append_nil _) rfl ?_
  refine g_run X KX9_erase_0_0 KX9_erase_0_0_d 2 [(0, .ref (ad 0)), (1, .int (nI q)), (2, .int (nI 1))] [.int (nI 0), .ref (ad 0)] rfl ?_
  refine g_put X (ws' := WM ad g I L S (u2 Z 3 0 (nI 0)) Y ++ []) hinX9 tyX9 tyX9_ok nmX9 rfl 0 (by decide) w_1180 rfl rfl (ty := .int) rfl rfl rfl (0) (wm_get (k := 0) (by decide)) (Nat.le_of_ble_eq_true rfl) (wm_mo0) dX9_erase_2 ?_
  refine g_run X KX9_erase_5_1 KX9_erase_5_1_d 6 [(0, .ref (ad 0)), (1, .int (nI q)), (2, .int (nI 1))] [.int (nI q)] rfl ?_
  refine g_callS X hSB hAf (As := [.int (nI q)]) (wr := WM ad g I L S (u2 Z 3 0 (nI 0)) Y ++ []) (n := 1) (c_X9_isPlace_t l D g q (by omega)) rfl srcN hrdN w_1335 w_1333 w_1334 w_6 (by decide +kernel) rfl ⟨Nat.le_of_ble_eq_true rfl, Nat.le_of_ble_eq_true rfl⟩ rfl rfl rfl (Nat.le_of_ble_eq_true rfl) ⟨Nat.le_of_ble_eq_true rfl, Nat.le_of_ble_eq_true rfl⟩ dX9_erase_6 (fun hu1 _ => ?_)
  refine g_af (ws' := WM ad g I L S (u2 Z 3 0 (nI 0)) Y ++ []) (st' := [.int (nI 1)]) (cells' := 0) (slots' := 0) (pc' := 9) rfl rfl rfl rfl rfl ?_
  refine g_if_ne X 18 dX9_erase_9 (by decide) (fun hc2 => ?_) (fun hc2 => ?_)
  · refine g_run X KX9_erase_18_2 KX9_erase_18_2_d 19 [(0, .ref (ad 0)), (1, .int (nI q)), (2, .int (nI 1))] [.int (nI 1)] rfl ?_
    refine g_if_eq X 45 dX9_erase_19 (by decide) (fun hc3 => ?_) (fun hc3 => ?_)
    · rw [nz_eq (by omega)] at hc3; first | omega | (simp at hc3)
    · refine g_run X KX9_erase_22_8 KX9_erase_22_8_d 23 [(0, .ref (ad 0)), (1, .int (nI q)), (2, .int (nI 1))] [.ref (ad 0)] rfl ?_
      refine g_callV X hSB hAf (srcW) (hrc1 := (rfl : CL[8]? = some _)) (wm_mem (k := 0) (by decide)) rfl (As := []) (wr := []) (n := 0) (c_X9_erased l D g ad I L S (u2 Z 3 0 (nI 0)) Y (hS18)) rfl srcN hrdN w_1339 w_1336 w_1338 w_s23 w_6 (by decide +kernel) rfl ⟨Nat.le_of_ble_eq_true rfl, Nat.le_of_ble_eq_true rfl⟩ rfl rfl rfl (Nat.le_of_ble_eq_true rfl) ⟨Nat.le_of_ble_eq_true rfl, Nat.le_of_ble_eq_true rfl⟩ dX9_erase_23 (fun hu4 _ => ?_)
      refine g_af (ws' := WM ad g I L S (u2 Z 3 0 (nI 0)) Y ++ []) (st' := [.int (nI (ers I S 15))]) (cells' := 0) (slots' := 0) (pc' := 26) rfl rfl rfl rfl rfl ?_
      refine g_run X KX9_erase_26_9 KX9_erase_26_9_d 32 [(0, .ref (ad 0)), (1, .int (nI q)), (2, .int (nI 1))] [.int ((nI (ers I S 15)) &&& (((nI 1) <<< ((nI q) &&& 31)) ^^^ (-nI 1)))] rfl ?_
      refine g_st (st' := [.int (nI (ers I S 15 &&& (32767 ^^^ 2 ^ q)))]) (by rw [sh1 (by omega), an15 (two_lt hq) (ers_lt _ _ _)]) ?_
      have hp15 := pcn_15 (ers I S 15 &&& (32767 ^^^ 2 ^ q))
      refine g_callS X hSB hAf (As := [.int (nI (ers I S 15 &&& (32767 ^^^ 2 ^ q)))]) (wr := WM ad g I L S (u2 Z 3 0 (nI 0)) Y ++ []) (n := 1) (c_J6_bitCount_0f7a4 l D g (ers I S 15 &&& (32767 ^^^ 2 ^ q)) (an_lt (ers_lt _ _ _))) rfl srcN hrdN w_259 w_1340 w_258 w_24 (by decide +kernel) rfl ⟨Nat.le_of_ble_eq_true rfl, Nat.le_of_ble_eq_true rfl⟩ rfl rfl rfl (Nat.le_of_ble_eq_true rfl) ⟨Nat.le_of_ble_eq_true rfl, Nat.le_of_ble_eq_true rfl⟩ dX9_erase_32 (fun hu5 _ => ?_)
      refine g_af (ws' := WM ad g I L S (u2 Z 3 0 (nI 0)) Y ++ []) (st' := [.int (nI (pcn (ers I S 15 &&& (32767 ^^^ 2 ^ q)) 15))]) (cells' := 0) (slots' := 0) (pc' := 35) rfl rfl rfl rfl rfl ?_
      refine g_run X KX9_erase_35_10 KX9_erase_35_10_d 36 [(0, .ref (ad 0)), (1, .int (nI q)), (2, .int (nI 1))] [.int (nI 4), .int (nI (pcn (ers I S 15 &&& (32767 ^^^ 2 ^ q)) 15))] rfl ?_
      refine g_icmp_ne X 45 dX9_erase_36 (by decide) (fun hc6 => ?_) (fun hc6 => ?_)
      · rw [nI_eq (by omega) (by omega)] at hc6; first | omega | (simp at hc6)
      · refine g_run X KX9_erase_39_12 KX9_erase_39_12_d 41 [(0, .ref (ad 0)), (1, .int (nI q)), (2, .int (nI 1))] [.int (nI 2), .ref (ad 0)] rfl ?_
        refine g_callV X hSB hAf (srcW) (hrc1 := (rfl : CL[8]? = some _)) (wm_mem (k := 0) (by decide)) rfl (As := [.int (nI 2)]) (wr := []) (n := 1) (c_X9_refuse l D g ad I L S (u2 Z 3 0 (nI 0)) Y 2 ) rfl srcN hrdN w_1264 w_1261 w_1263 w_s12 w_6 (by decide +kernel) rfl ⟨Nat.le_of_ble_eq_true rfl, Nat.le_of_ble_eq_true rfl⟩ rfl rfl rfl (Nat.le_of_ble_eq_true rfl) ⟨Nat.le_of_ble_eq_true rfl, Nat.le_of_ble_eq_true rfl⟩ dX9_erase_41 (fun hu7 _ => ?_)
        refine g_af (ws' := WM ad g I L S (u2 (u2 Z 3 0 (nI 0)) 3 0 (nI 2)) Y ++ []) (st' := [.int (nI 0)]) (cells' := 0) (slots' := 0) (pc' := 44) rfl rfl rfl rfl rfl ?_
        exact g_iret X hr () (rfl) (trivial) (rfl) (Nat.le_of_ble_eq_true rfl) (Nat.le_of_ble_eq_true rfl) dX9_erase_44
  · rw [nz_eq (by omega)] at hc2; first | omega | (simp at hc2)

def KX9_mendedNow_0_0 : List (Nat × Instr × Nat) := [(0, .aload_n 0, 1), (1, .aload_n 1, 1), (2, .iload_n 2, 1)]
theorem KX9_mendedNow_0_0_d : ∀ z ∈ KX9_mendedNow_0_0, decode cX9_mendedNow z.1 = .ok z.2 := by decide +kernel
def KX9_mendedNow_17_1 : List (Nat × Instr × Nat) := [(17, .iconst (-1), 1)]
theorem KX9_mendedNow_17_1_d : ∀ z ∈ KX9_mendedNow_17_1, decode cX9_mendedNow z.1 = .ok z.2 := by decide +kernel
def KX9_mendedNow_9_2 : List (Nat × Instr × Nat) := [(9, .aload_n 0, 1), (10, .aload_n 1, 1)]
theorem KX9_mendedNow_9_2_d : ∀ z ∈ KX9_mendedNow_9_2, decode cX9_mendedNow z.1 = .ok z.2 := by decide +kernel
def KX9_mendedNow_14_3 : List (Nat × Instr × Nat) := [(14, .goto 4, 3)]
theorem KX9_mendedNow_14_3_d : ∀ z ∈ KX9_mendedNow_14_3, decode cX9_mendedNow z.1 = .ok z.2 := by decide +kernel
set_option maxHeartbeats 4000000 in
set_option maxRecDepth 100000 in
theorem c_X9_mendedNow (l : Launch) (D : va_G) (g : Nat → ClassId) (ad : Nat → Nat) (I : Nat → Nat → Int32) (L : Nat → Nat → Int64) (S : Nat → Nat) (Z : Nat → Nat → Int32) (Y : Int64) (wa : Nat) (x : Int64) (b : Nat) (R : Nat → Nat) (hR : R16 R) (hZ : Z 0 = fun j => nI (R j)) (hb15 : b < 2 ^ 15) : CT l yX9_mendedNow cX9_mendedNow 3 ((Option.some FieldType.int)) ({ frames := 4, cells := 0, slots := 0, locals := 101 } : Room) [.ref (ad 0), .ref wa, .int (nI b)] D CL (TYS g) ([(wa, Sum.inl (g 0, 15, .inl (wA x)))]) (WM ad g I L S Z Y) (S := (Nat → Nat) × (Nat → Int32)) (fun _ => some (.int (mdO x (mw b x)))) (fun u => WM ad g I L S (z4 Z u.1 u.2 (mdA (Z 2) (mw b x))) Y) (fun u => R16 u.1) 0 0 := by
  refine ct_of (by decide +kernel) (Nat.le_of_ble_eq_true rfl) ?_
  intro p e s m below meth c A X hr hnm hSB hRO hAf
  refine g_cs (ws' := WM ad g I L S (z4 Z R (Z 1) (Z 2)) Y ++ []) (lv' := [(0, .ref (ad 0)), (1, .ref wa), (2, .int (nI b))]) (by rw [z4_e hZ]; exact List.append_nil _) rfl ?_
  refine g_run X KX9_mendedNow_0_0 KX9_mendedNow_0_0_d 3 [(0, .ref (ad 0)), (1, .ref wa), (2, .int (nI b))] [.int (nI b), .ref wa, .ref (ad 0)] rfl ?_
  refine g_callV X hSB hAf (srcW) (hrc1 := (rfl : CL[8]? = some _)) (wm_mem (k := 0) (by decide)) rfl (As := [.ref wa, .int (nI b)]) (wr := []) (n := 2) (c_X9_mend l D g ad I L S (z4 Z R (Z 1) (Z 2)) Y wa x b R (by assumption) (rfl) (hb15)) rfl (srcR hRO) (hrdRO hRO rfl) w_1352 w_1349 w_1351 w_s25 w_6 (by decide +kernel) rfl ⟨Nat.le_of_ble_eq_true rfl, Nat.le_of_ble_eq_true rfl⟩ rfl rfl rfl (Nat.le_of_ble_eq_true rfl) ⟨Nat.le_of_ble_eq_true rfl, Nat.le_of_ble_eq_true rfl⟩ dX9_mendedNow_3 (fun hu1 hp_hu1 => ?_)
  refine g_af (ws' := WM ad g I L S (z4 Z hu1.1 hu1.2 (mdA (Z 2) (mw b x))) Y ++ []) (st' := [.int (nI (sB (mw b x)))]) (cells' := 0) (slots' := 0) (pc' := 6) (congrArg (fun z => (WM ad g I L S z Y) ++ []) z4_z4.symm) rfl rfl rfl rfl ?_
  refine g_if_eq X 17 dX9_mendedNow_6 (by decide) (fun hc2 => ?_) (fun hc2 => ?_)
  · rw [sB_0] at hc2; have hn := hc2
    refine g_run X KX9_mendedNow_17_1 KX9_mendedNow_17_1_d 18 [(0, .ref (ad 0)), (1, .ref wa), (2, .int (nI b))] [.int (-nI 1)] rfl ?_
    exact g_iret X hr (hu1.1, hu1.2) (by show some (Value.int _) = some (Value.int _); first | (rw [hn]; done) | (rw [hn]; rfl)) (by assumption) (rfl) (Nat.le_of_ble_eq_true rfl) (Nat.le_of_ble_eq_true rfl) dX9_mendedNow_18
  · rw [sB_0] at hc2; obtain ⟨y, hy⟩ := sB_1 hc2
    refine g_ws (ws' := WM ad g I L S (z4 Z hu1.1 hu1.2 (wA y)) Y ++ []) (by rw [hy]; rfl) ?_
    refine g_run X KX9_mendedNow_9_2 KX9_mendedNow_9_2_d 11 [(0, .ref (ad 0)), (1, .ref wa), (2, .int (nI b))] [.ref wa, .ref (ad 0)] rfl ?_
    refine g_callV X hSB hAf (srcW) (hrc1 := (rfl : CL[8]? = some _)) (wm_mem (k := 0) (by decide)) rfl (As := [.ref wa]) (wr := []) (n := 1) (c_X9_differing l D g ad I L S (z4 Z hu1.1 hu1.2 (wA y)) Y wa x y (rfl)) rfl (srcR hRO) (hrdRO hRO rfl) w_1368 w_1365 w_1367 w_s27 w_6 (by decide +kernel) rfl ⟨Nat.le_of_ble_eq_true rfl, Nat.le_of_ble_eq_true rfl⟩ rfl rfl rfl (Nat.le_of_ble_eq_true rfl) ⟨Nat.le_of_ble_eq_true rfl, Nat.le_of_ble_eq_true rfl⟩ dX9_mendedNow_11 (fun hu3 _ => ?_)
    refine g_af (ws' := WM ad g I L S (z4 Z hu1.1 hu1.2 (wA y)) Y ++ []) (st' := [.int (nI (pl (x ^^^ y) 15))]) (cells' := 0) (slots' := 0) (pc' := 14) rfl rfl rfl rfl rfl ?_
    refine g_run X KX9_mendedNow_14_3 KX9_mendedNow_14_3_d 18 [(0, .ref (ad 0)), (1, .ref wa), (2, .int (nI b))] [.int (nI (pl (x ^^^ y) 15))] rfl ?_
    exact g_iret X hr (hu1.1, hu1.2) (by show some (Value.int _) = some (Value.int _); first | (rw [hy]; done) | (rw [hy]; rfl)) (by assumption) (by first | (rw [hy]; done) | (rw [hy]; rfl)) (Nat.le_of_ble_eq_true rfl) (Nat.le_of_ble_eq_true rfl) dX9_mendedNow_18

