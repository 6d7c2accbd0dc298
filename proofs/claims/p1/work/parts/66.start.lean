/-! what the start gives: classes, arrays, statics, strings -/
theorem st_int {A0 : Array Value} {s : State} (h : (Cond.arrayClass .int).before A0 s = true) : ∃ c, ArrOfT s c .int ∧ va_RA s c .int := by
  obtain ⟨c, k, comp, h1, h2, h3⟩ := Cond.arrayClass_spec h
  exact ⟨c, fun n z => ⟨fun k h => (by cases h), k, h2, comp, h3⟩, h1⟩
theorem st_long {A0 : Array Value} {s : State} (h : (Cond.arrayClass .long).before A0 s = true) : ∃ c, ArrOfT s c .long ∧ va_RA s c .long := by
  obtain ⟨c, k, comp, h1, h2, h3⟩ := Cond.arrayClass_spec h
  exact ⟨c, fun n z => ⟨fun k h => (by cases h), k, h2, comp, h3⟩, h1⟩
theorem st_byte {A0 : Array Value} {s : State} (h : (Cond.arrayClass .byte).before A0 s = true) : ∃ c, ArrOfT s c .byte ∧ va_RA s c .byte := by
  obtain ⟨c, k, comp, h1, h2, h3⟩ := Cond.arrayClass_spec h
  exact ⟨c, fun n z => ⟨fun k h => (by cases h), k, h2, comp, h3⟩, h1⟩
theorem st_obj {A0 : Array Value} {s : State} {C : String} (h : (Cond.arrayOver (.object C)).before A0 s = true) : ∃ c, ArrOfT s c (.object C) ∧ va_RA s c (.object C) := by
  obtain ⟨comp, c, k, h1, h2, h3, h4, h5⟩ := Cond.arrayOver_spec h
  exact ⟨c, fun n z => ⟨fun k h => (by cases h), k, h3, comp, h4⟩, k, comp, h3, h4, h1, h5⟩
theorem st_K {A0 : Array Value} {s : State} (hts : ∀ w ∈ lw_tbl, w.before A0 s = true) : ∃ (D : va_G) (g : Nat → ClassId), va_K D CL (TYS g) s := by
  have hg : ∀ w ∈ GW, w.before A0 s = true := fun w hw => hts w (gw_tbl w hw)
  have hC : ∀ k : Nat, ∃ x : ClassId × (Nat → Nat), ∀ q, CL[k]? = some q → u_Kn s q.1 q.2.1 q.2.2 x.1 x.2 := by
    intro k
    match k with
    | 0 => obtain ⟨c, i, h⟩ := u_known hg hinX0 (hg _ w_126); exact ⟨(c, i), fun q hq => by cases hq; exact h⟩
    | 1 => obtain ⟨c, i, h⟩ := u_known hg hinX1 (hg _ w_49); exact ⟨(c, i), fun q hq => by cases hq; exact h⟩
    | 2 => obtain ⟨c, i, h⟩ := u_known hg hinX3 (hg _ w_133); exact ⟨(c, i), fun q hq => by cases hq; exact h⟩
    | 3 => obtain ⟨c, i, h⟩ := u_known hg hinX4 (hg _ w_42); exact ⟨(c, i), fun q hq => by cases hq; exact h⟩
    | 4 => obtain ⟨c, i, h⟩ := u_known hg hinX5 (hg _ w_34); exact ⟨(c, i), fun q hq => by cases hq; exact h⟩
    | 5 => obtain ⟨c, i, h⟩ := u_known hg hinX6 (hg _ w_484); exact ⟨(c, i), fun q hq => by cases hq; exact h⟩
    | 6 => obtain ⟨c, i, h⟩ := u_known hg hinX7 (hg _ w_1091); exact ⟨(c, i), fun q hq => by cases hq; exact h⟩
    | 7 => obtain ⟨c, i, h⟩ := u_known hg hinX8 (hg _ w_1114); exact ⟨(c, i), fun q hq => by cases hq; exact h⟩
    | 8 => obtain ⟨c, i, h⟩ := u_known hg hinX9 (hg _ w_1054); exact ⟨(c, i), fun q hq => by cases hq; exact h⟩
    | 9 => obtain ⟨c, i, h⟩ := u_known hg hinJx4a65c (hg _ w_1062); exact ⟨(c, i), fun q hq => by cases hq; exact h⟩
    | 10 => obtain ⟨c, i, h⟩ := u_known hg hinJ4 (hg _ w_767); exact ⟨(c, i), fun q hq => by cases hq; exact h⟩
    | 11 => obtain ⟨c, i, h⟩ := u_known hg hinJ0 (hg _ w_900); exact ⟨(c, i), fun q hq => by cases hq; exact h⟩
    | n + 12 => exact ⟨(0, fun _ => 0), fun q hq => by cases hq⟩
  obtain ⟨f, hf⟩ := Classical.axiomOfChoice hC
  obtain ⟨c0, h0⟩ := st_int (hts (.arrayClass .int) (by decide +kernel))
  obtain ⟨c1, h1⟩ := st_obj (C := "Chipfield$Chip") (hts _ (by decide +kernel))
  obtain ⟨c2, h2⟩ := st_obj (C := "Chipfield$Frame") (hts _ (by decide +kernel))
  obtain ⟨c3, h3⟩ := st_obj (C := "ChipfieldModel$Chip") (hts _ (by decide +kernel))
  obtain ⟨c4, h4⟩ := st_obj (C := "java/lang/Object") (hts _ (by decide +kernel))
  obtain ⟨c5, h5⟩ := st_long (hts (.arrayClass .long) (by decide +kernel))
  obtain ⟨c6, h6⟩ := st_byte (hts (.arrayClass .byte) (by decide +kernel))
  refine ⟨(fun k => (f k).1, fun k => (f k).2), fun k => [c0, c1, c2, c3, c4, c5, c6].getD k 0, fun k q hq => hf k q hq, ?_⟩
  intro k q hq
  match k, hq with
  | 0, hq => cases hq; exact h0
  | 1, hq => cases hq; exact h1
  | 2, hq => cases hq; exact h2
  | 3, hq => cases hq; exact h3
  | 4, hq => cases hq; exact h4
  | 5, hq => cases hq; exact h5
  | 6, hq => cases hq; exact h6
  | n + 7, hq => cases hq
theorem nw_of {w : Cond} {A0 : Array Value} {s : State} (h : nw_ok w = true) (hb : w.before A0 s = true) : va_Nw w s :=
  nw_c (P := fun w => w.before A0 s = true → va_Nw w s) (fun _ _ _ _ _ _ hb => va_Nw.of rfl hb) (fun _ _ _ _ hb => va_Nw.of rfl hb) (fun _ hb => va_Nw.of rfl hb) (fun _ _ hb => va_Nw.of rfl hb) (fun _ hb => va_AO.of hb) w h hb
theorem st_EC {A0 : Array Value} {s : State} (hts : ∀ w ∈ lw_tbl, w.before A0 s = true) : va_Nw wEC s := by
  have hpriv := hts (.privateMethod ⟨"java/lang/AbstractStringBuilder", "ensureCapacityInternal", "(I)V"⟩) (by decide +kernel)
  have hinst := hts (.instanceMethod ⟨"java/lang/AbstractStringBuilder", "ensureCapacityInternal", "(I)V"⟩) (by decide +kernel)
  have hsel := hts (.selects "java/lang/StringBuilder" ⟨"java/lang/AbstractStringBuilder", "isLatin1", "()Z"⟩ ⟨"java/lang/AbstractStringBuilder", "isLatin1", "()Z"⟩) (by decide +kernel)
  obtain ⟨c, r, m, q1, q2, q3, q4, kM, hkM, hkI⟩ := Cond.selects_spec hsel
  obtain ⟨mk, methM, hnamed, hmethM, -, -⟩ := Cond.instanceMethod_spec hinst
  have hfound : s.methodFound? "java/lang/AbstractStringBuilder" "ensureCapacityInternal" "(I)V" = some mk := State.methodFound?_of_named hnamed ⟨by decide, by decide⟩
  have e1 : s.vm.findClass "java/lang/AbstractStringBuilder" = some mk.cls := findClass_of_methodNamed hnamed
  have e2 : s.vm.findClass "java/lang/AbstractStringBuilder" = some m.cls := findClass_of_methodNamed q3
  have hcls : mk.cls = m.cls := Option.some.inj (e1.symm.trans e2)
  have hS : selectMethod {} s.vm c mk = .method mk := selectMethod_private hmethM (Cond.privateMethod_at hpriv mk methM hnamed hmethM)
  refine va_Nw.of (A := A0) rfl ?_
  unfold wEC
  simp only [Cond.before, Cond.holds, Cond.value, q1, hfound, hnamed, hS, hcls, hkM]
  simp; exact hkI
abbrev stC : Jvm.Cond := Jvm.Cond.and given_1 narrow_1
theorem st_pw : ∀ j : Nat, j < 15 → Cond.eq (.elem (.static "Chipfield$Code" "POWERS" "[I") (.int (Int32.ofNat j))) (.int (nI (pw j))) ∈ flatC stC := by decide +kernel
theorem st_ex : ∀ j : Nat, j < 16 → Cond.eq (.elem (.static "Chipfield$Code" "EXPONENTS" "[I") (.int (Int32.ofNat j))) (.int (nI (ex j))) ∈ flatC stC := by decide +kernel
theorem st_s1 : ∀ q ∈ strL, Cond.stringRef "Chipfield" q.1 q.2 ∈ lw_tbl := by decide +kernel
theorem st_s2 : ∀ q ∈ strL, Cond.exactly (.string "Chipfield" q.1) "java/lang/String" ∈ flatC stC := by decide +kernel
theorem st_SB {A0 : Array Value} {s : State} (hts : ∀ w ∈ lw_tbl, w.before A0 s = true) (hgv : stC.before A0 s = true) : SB (fun q : Nat => s.heap.size ≤ q) s s.heap := by
  have hf := flat_of_before _ hgv
  have hA : ∀ a : Nat, a < s.heap.size → ¬ s.heap.size ≤ a := fun a h => Nat.not_le.mpr h
  refine ⟨fun w hw => nw_of (List.mem_filter.mp hw).2 (hts w (List.mem_filter.mp hw).1), ?_, ?_, ⟨?_, ?_⟩, ?_, ?_⟩
  · obtain ⟨t, ht, hT⟩ := va_Tof (A := fun q : Nat => s.heap.size ≤ q) (tm := .static "Chipfield$Code" "POWERS" "[I") (ty := .int) (N := 15) (f := fun j => .int (nI (pw j))) (by decide) (hf (.arrayOf (.static "Chipfield$Code" "POWERS" "[I") .int) (by decide +kernel)) (va_eqt (hf (.eq (.length (.static "Chipfield$Code" "POWERS" "[I")) (.int 15)) (by decide +kernel))) (fun j hj => va_eqt (hf _ (st_pw j hj))) hA
    exact ⟨t, va_Zof (hts (.laysStatic "Chipfield$Code" "POWERS" "[I") (by decide +kernel)) (hts (.initialized "Chipfield$Code") (by decide +kernel)) ht hA, hT⟩
  · obtain ⟨t, ht, hT⟩ := va_Tof (A := fun q : Nat => s.heap.size ≤ q) (tm := .static "Chipfield$Code" "EXPONENTS" "[I") (ty := .int) (N := 16) (f := fun j => .int (nI (ex j))) (by decide) (hf (.arrayOf (.static "Chipfield$Code" "EXPONENTS" "[I") .int) (by decide +kernel)) (va_eqt (hf (.eq (.length (.static "Chipfield$Code" "EXPONENTS" "[I")) (.int 16)) (by decide +kernel))) (fun j hj => va_eqt (hf _ (st_ex j hj))) hA
    exact ⟨t, va_Zof (hts (.laysStatic "Chipfield$Code" "EXPONENTS" "[I") (by decide +kernel)) (hts (.initialized "Chipfield$Code") (by decide +kernel)) ht hA, hT⟩
  · exact vx_Zqof (C := Bundle.tN) (n := "UNASSIGNED_STACK") (d := Bundle.steD) (hts _ (by decide +kernel)) (hts _ (by decide +kernel)) (hf _ (by decide +kernel)) hA
  · exact vx_Zqof (C := Bundle.tN) (n := "SUPPRESSED_SENTINEL") (d := Bundle.listD) (hts _ (by decide +kernel)) (hts _ (by decide +kernel)) (hf _ (by decide +kernel)) hA
  · obtain ⟨t, ht, hT⟩ := va_Tof (A := fun q : Nat => s.heap.size ≤ q) (tm := .static "java/util/ArrayList" "DEFAULTCAPACITY_EMPTY_ELEMENTDATA" "[Ljava/lang/Object;") (ty := .object "java/lang/Object") (N := 0) (f := fun _ => .null) (by decide) (hf (.arrayOf (.static "java/util/ArrayList" "DEFAULTCAPACITY_EMPTY_ELEMENTDATA" "[Ljava/lang/Object;") (.object "java/lang/Object")) (by decide +kernel)) (va_eqt (hf (.eq (.length (.static "java/util/ArrayList" "DEFAULTCAPACITY_EMPTY_ELEMENTDATA" "[Ljava/lang/Object;")) (.int 0)) (by decide +kernel))) (fun j hj => absurd hj (Nat.not_lt_zero _)) hA
    obtain ⟨a, c, cell, k, h1, -⟩ := Cond.exactly_spec (hf (.exactly (.string "ChipfieldModel" 264) "java/lang/String") (by decide +kernel))
    exact ⟨t, va_Zof (hts (.laysStatic "java/lang/String" "COMPACT_STRINGS" "Z") (by decide +kernel)) (hts (.initialized "java/lang/String") (by decide +kernel)) (va_eqt (hf (.eq (.static "java/lang/String" "COMPACT_STRINGS" "Z") (.int 1)) (by decide +kernel))) hA,
      va_Zof (hts (.laysStatic "java/util/ArrayList" "DEFAULTCAPACITY_EMPTY_ELEMENTDATA" "[Ljava/lang/Object;") (by decide +kernel)) (hts (.initialized "java/util/ArrayList") (by decide +kernel)) ht hA, hT, ⟨a, vk_R.of (hts (.stringRef "ChipfieldModel" 264 "") (by decide +kernel)) h1⟩, st_EC hts⟩
  · intro q hq
    obtain ⟨a, c, cell, k, h1, -⟩ := Cond.exactly_spec (hf _ (st_s2 q hq))
    exact ⟨a, vk_R.of (hts _ (st_s1 q hq)) h1⟩
theorem st_NC {A0 : Array Value} {s : State} (hgv : stC.before A0 s = true) : NC s := by
  have hf := flat_of_before _ hgv
  exact ⟨va_Nc.of (hf (.not (.castable xIA xIO)) (by decide +kernel)), va_Nc.of (hf (.not (.castable xIS xIO)) (by decide +kernel))⟩
