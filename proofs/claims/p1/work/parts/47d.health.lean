def KX9_health_0_0 : List (Nat × Instr × Nat) := [(0, .aload_n 0, 1), (1, .iconst 0, 1)]
theorem KX9_health_0_0_d : ∀ z ∈ KX9_health_0_0, decode cX9_health z.1 = .ok z.2 := by decide +kernel
def KX9_health_5_1 : List (Nat × Instr × Nat) := [(5, .bipush 16, 2), (7, .aload_n 0, 1)]
theorem KX9_health_5_1_d : ∀ z ∈ KX9_health_5_1, decode cX9_health z.1 = .ok z.2 := by decide +kernel
def KX9_health_11_2 : List (Nat × Instr × Nat) := [(11, .isub, 1)]
theorem KX9_health_11_2_d : ∀ z ∈ KX9_health_11_2, decode cX9_health z.1 = .ok z.2 := by decide +kernel
set_option maxHeartbeats 4000000 in
set_option maxRecDepth 100000 in
theorem c_X9_health (l : Launch) (D : va_G) (g : Nat → ClassId) (ad : Nat → Nat) (I : Nat → Nat → Int32) (L : Nat → Nat → Int64) (S : Nat → Nat) (Z : Nat → Nat → Int32) (Y : Int64) (R : Nat → Nat) (hR : R16 R) (hZ : Z 0 = fun j => nI (R j)) (hS18 : ∀ p, p < 15 → S p < 18) (hK : kOK I) : CT l yX9_health cX9_health 1 ((Option.some FieldType.double)) ({ frames := 5, cells := 16, slots := 240, locals := 123 } : Room) [.ref (ad 0)] D CL (TYS g) ([]) (WM ad g I L S Z Y) (S := (Nat → Nat) × (Nat → Int32) × (Nat → Int32)) (fun _ => some (.double (hlV (bdl I L S 16)))) (fun u => WM ad g I L S (z4 (u2 Z 3 0 (nI 0)) u.1 u.2.1 u.2.2) Y) (fun u => R16 u.1) 16 240 := by
  refine ct_of (by decide +kernel) (Nat.le_of_ble_eq_true rfl) ?_
  intro p e s m below meth c A X hr hnm hSB hRO hAf
  refine g_cs (ws' := WM ad g I L S (z4 Z R (Z 1) (Z 2)) Y ++ []) (lv' := [(0, .ref (ad 0))]) (by rw [z4_e hZ]; exact List.append_nil _) rfl ?_
  refine g_run X KX9_health_0_0 KX9_health_0_0_d 2 [(0, .ref (ad 0))] [.int (nI 0), .ref (ad 0)] rfl ?_
  refine g_put X (ws' := WM ad g I L S (z4 (u2 Z 3 0 (nI 0)) R (Z 1) (Z 2)) Y ++ []) hinX9 tyX9 tyX9_ok nmX9 rfl 0 (by decide) w_1180 rfl rfl (ty := .int) rfl rfl rfl (0) (wm_get (k := 0) (by decide)) (Nat.le_of_ble_eq_true rfl) (wm_so0) dX9_health_2 ?_
  refine g_run X KX9_health_5_1 KX9_health_5_1_d 8 [(0, .ref (ad 0))] [.ref (ad 0), .int (nI 16)] rfl ?_
  refine g_callV X hSB hAf (srcW) (hrc1 := (rfl : CL[8]? = some _)) (wm_mem (k := 0) (by decide)) rfl (As := []) (wr := []) (n := 0) (c_X9_bad l D g ad I L S (z4 (u2 Z 3 0 (nI 0)) R (Z 1) (Z 2)) Y R (by assumption) (rfl) (hS18) (hK)) rfl srcN hrdN w_1496 w_1493 w_1495 w_s37 w_6 (by decide +kernel) rfl ⟨Nat.le_of_ble_eq_true rfl, Nat.le_of_ble_eq_true rfl⟩ rfl rfl rfl (Nat.le_of_ble_eq_true rfl) ⟨Nat.le_of_ble_eq_true rfl, Nat.le_of_ble_eq_true rfl⟩ dX9_health_8 (fun hu1 hp_hu1 => ?_)
  refine g_af (ws' := WM ad g I L S (z4 (u2 Z 3 0 (nI 0)) hu1.1 hu1.2.1 hu1.2.2) Y ++ []) (st' := [.int (nI (bdl I L S 16)), .int (nI 16)]) (cells' := 16) (slots' := 240) (pc' := 11) (congrArg (fun z => (WM ad g I L S z Y) ++ []) z4_z4.symm) rfl rfl rfl rfl ?_
  have hbl := bdl_le I L S 16
  refine g_run X KX9_health_11_2 KX9_health_11_2_d 12 [(0, .ref (ad 0))] [.int ((nI 16) - (nI (bdl I L S 16)))] rfl ?_
  refine g_st (st' := [.int (nI (16 - bdl I L S 16))]) (by rw [pk_sub (bdl_le _ _ _ _)]) ?_
  refine g_i2d X dX9_health_12 ?_
  refine g_ldc2d X (v := 4625196817309499392) w_1534 dX9_health_13 ?_
  refine g_ddiv X (hl_nan (bdl_le _ _ _ _)) dX9_health_16 ?_
  exact g_dret X hr (hu1.1, hu1.2.1, hu1.2.2) (rfl) (by assumption) (rfl) (Nat.le_of_ble_eq_true rfl) (Nat.le_of_ble_eq_true rfl) dX9_health_17

