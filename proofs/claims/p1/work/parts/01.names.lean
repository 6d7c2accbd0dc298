-- ===== PART A: goes FIRST, ahead of the names: the tables' words, and 'selects' of the private methods out of them =====
/-- a private method of a class that the tables say can be made, by its rows of tables_1 -/
def lw_okq (q : MethodName × Nat) : Prop := (q.1.cls ≠ "java/lang/invoke/MethodHandle" ∧ q.1.cls ≠ "java/lang/invoke/VarHandle") ∧ Cond.instantiable q.1.cls q.2 ∈ tables_1 ∧ Cond.privateMethod q.1 ∈ tables_1 ∧ Cond.instanceMethod q.1 ∈ tables_1
theorem lw_p0 : lw_okq (⟨"Chipfield$Cache", "writeBack", "(LChipfield$Frame;)V"⟩, 5) := ⟨⟨by decide +kernel, by decide +kernel⟩, List.mem_of_getElem? (i := 126) (by decide +kernel), List.mem_of_getElem? (i := 206) (by decide +kernel), List.mem_of_getElem? (i := 207) (by decide +kernel)⟩
theorem lw_p1 : lw_okq (⟨"java/lang/Throwable", "fillInStackTrace", "(I)Ljava/lang/Throwable;"⟩, 6) := ⟨⟨by decide +kernel, by decide +kernel⟩, List.mem_of_getElem? (i := 372) (by decide +kernel), List.mem_of_getElem? (i := 370) (by decide +kernel), List.mem_of_getElem? (i := 371) (by decide +kernel)⟩
theorem lw_p2 : lw_okq (⟨"Chipfield$Memory", "fillFor", "(ILChipfield$Chip;)V"⟩, 8) := ⟨⟨by decide +kernel, by decide +kernel⟩, List.mem_of_getElem? (i := 42) (by decide +kernel), List.mem_of_getElem? (i := 590) (by decide +kernel), List.mem_of_getElem? (i := 591) (by decide +kernel)⟩
theorem lw_p3 : lw_okq (⟨"Chipfield$Memory", "countMended", "(I)V"⟩, 8) := ⟨⟨by decide +kernel, by decide +kernel⟩, List.mem_of_getElem? (i := 42) (by decide +kernel), List.mem_of_getElem? (i := 615) (by decide +kernel), List.mem_of_getElem? (i := 616) (by decide +kernel)⟩
theorem lw_p4 : lw_okq (⟨"Chipfield$Memory", "eraseBlamed", "()V"⟩, 8) := ⟨⟨by decide +kernel, by decide +kernel⟩, List.mem_of_getElem? (i := 42) (by decide +kernel), List.mem_of_getElem? (i := 620) (by decide +kernel), List.mem_of_getElem? (i := 621) (by decide +kernel)⟩
theorem lw_p5 : lw_okq (⟨"Chipfield$Cache", "frameOf", "(I)LChipfield$Frame;"⟩, 5) := ⟨⟨by decide +kernel, by decide +kernel⟩, List.mem_of_getElem? (i := 126) (by decide +kernel), List.mem_of_getElem? (i := 651) (by decide +kernel), List.mem_of_getElem? (i := 652) (by decide +kernel)⟩
theorem lw_p6 : lw_okq (⟨"Chipfield$Cache", "use", "(LChipfield$Frame;)V"⟩, 5) := ⟨⟨by decide +kernel, by decide +kernel⟩, List.mem_of_getElem? (i := 126) (by decide +kernel), List.mem_of_getElem? (i := 655) (by decide +kernel), List.mem_of_getElem? (i := 656) (by decide +kernel)⟩
theorem lw_p7 : lw_okq (⟨"Chipfield$Cache", "frameToFill", "()LChipfield$Frame;"⟩, 5) := ⟨⟨by decide +kernel, by decide +kernel⟩, List.mem_of_getElem? (i := 126) (by decide +kernel), List.mem_of_getElem? (i := 661) (by decide +kernel), List.mem_of_getElem? (i := 662) (by decide +kernel)⟩
theorem lw_p8 : lw_okq (⟨"Chipfield$Cache", "fill", "(LChipfield$Frame;IJ)V"⟩, 5) := ⟨⟨by decide +kernel, by decide +kernel⟩, List.mem_of_getElem? (i := 126) (by decide +kernel), List.mem_of_getElem? (i := 665) (by decide +kernel), List.mem_of_getElem? (i := 666) (by decide +kernel)⟩
theorem lw_p9 : lw_okq (⟨"java/util/ArrayList", "add", "(Ljava/lang/Object;[Ljava/lang/Object;I)V"⟩, 3) := ⟨⟨by decide +kernel, by decide +kernel⟩, List.mem_of_getElem? (i := 1062) (by decide +kernel), List.mem_of_getElem? (i := 1138) (by decide +kernel), List.mem_of_getElem? (i := 1139) (by decide +kernel)⟩
theorem lw_p10 : lw_okq (⟨"java/util/ArrayList", "grow", "()[Ljava/lang/Object;"⟩, 3) := ⟨⟨by decide +kernel, by decide +kernel⟩, List.mem_of_getElem? (i := 1062) (by decide +kernel), List.mem_of_getElem? (i := 1142) (by decide +kernel), List.mem_of_getElem? (i := 1143) (by decide +kernel)⟩
theorem lw_p11 : lw_okq (⟨"java/util/ArrayList", "grow", "(I)[Ljava/lang/Object;"⟩, 3) := ⟨⟨by decide +kernel, by decide +kernel⟩, List.mem_of_getElem? (i := 1062) (by decide +kernel), List.mem_of_getElem? (i := 1146) (by decide +kernel), List.mem_of_getElem? (i := 1147) (by decide +kernel)⟩
theorem lw_p12 : lw_okq (⟨"ChipfieldModel", "refuse", "(I)I"⟩, 22) := ⟨⟨by decide +kernel, by decide +kernel⟩, List.mem_of_getElem? (i := 1054) (by decide +kernel), List.mem_of_getElem? (i := 1262) (by decide +kernel), List.mem_of_getElem? (i := 1263) (by decide +kernel)⟩
theorem lw_p13 : lw_okq (⟨"ChipfieldModel", "read", "(I)[I"⟩, 22) := ⟨⟨by decide +kernel, by decide +kernel⟩, List.mem_of_getElem? (i := 1054) (by decide +kernel), List.mem_of_getElem? (i := 1270) (by decide +kernel), List.mem_of_getElem? (i := 1271) (by decide +kernel)⟩
theorem lw_p14 : lw_okq (⟨"ChipfieldModel", "readOf", "(II)I"⟩, 22) := ⟨⟨by decide +kernel, by decide +kernel⟩, List.mem_of_getElem? (i := 1054) (by decide +kernel), List.mem_of_getElem? (i := 1274) (by decide +kernel), List.mem_of_getElem? (i := 1275) (by decide +kernel)⟩
theorem lw_p15 : lw_okq (⟨"ChipfieldModel", "wordOf", "(J)[I"⟩, 22) := ⟨⟨by decide +kernel, by decide +kernel⟩, List.mem_of_getElem? (i := 1054) (by decide +kernel), List.mem_of_getElem? (i := 1278) (by decide +kernel), List.mem_of_getElem? (i := 1279) (by decide +kernel)⟩
def lw_privs_1 : List (MethodName × Nat) := [(⟨"Chipfield$Cache", "writeBack", "(LChipfield$Frame;)V"⟩, 5), (⟨"java/lang/Throwable", "fillInStackTrace", "(I)Ljava/lang/Throwable;"⟩, 6), (⟨"Chipfield$Memory", "fillFor", "(ILChipfield$Chip;)V"⟩, 8), (⟨"Chipfield$Memory", "countMended", "(I)V"⟩, 8), (⟨"Chipfield$Memory", "eraseBlamed", "()V"⟩, 8), (⟨"Chipfield$Cache", "frameOf", "(I)LChipfield$Frame;"⟩, 5), (⟨"Chipfield$Cache", "use", "(LChipfield$Frame;)V"⟩, 5), (⟨"Chipfield$Cache", "frameToFill", "()LChipfield$Frame;"⟩, 5), (⟨"Chipfield$Cache", "fill", "(LChipfield$Frame;IJ)V"⟩, 5), (⟨"java/util/ArrayList", "add", "(Ljava/lang/Object;[Ljava/lang/Object;I)V"⟩, 3), (⟨"java/util/ArrayList", "grow", "()[Ljava/lang/Object;"⟩, 3), (⟨"java/util/ArrayList", "grow", "(I)[Ljava/lang/Object;"⟩, 3), (⟨"ChipfieldModel", "refuse", "(I)I"⟩, 22), (⟨"ChipfieldModel", "read", "(I)[I"⟩, 22), (⟨"ChipfieldModel", "readOf", "(II)I"⟩, 22), (⟨"ChipfieldModel", "wordOf", "(J)[I"⟩, 22)]
theorem lw_r1 : ∀ q ∈ lw_privs_1, lw_okq q := List.forall_mem_cons.mpr ⟨lw_p0, List.forall_mem_cons.mpr ⟨lw_p1, List.forall_mem_cons.mpr ⟨lw_p2, List.forall_mem_cons.mpr ⟨lw_p3, List.forall_mem_cons.mpr ⟨lw_p4, List.forall_mem_cons.mpr ⟨lw_p5, List.forall_mem_cons.mpr ⟨lw_p6, List.forall_mem_cons.mpr ⟨lw_p7, List.forall_mem_cons.mpr ⟨lw_p8, List.forall_mem_cons.mpr ⟨lw_p9, List.forall_mem_cons.mpr ⟨lw_p10, List.forall_mem_cons.mpr ⟨lw_p11, List.forall_mem_cons.mpr ⟨lw_p12, List.forall_mem_cons.mpr ⟨lw_p13, List.forall_mem_cons.mpr ⟨lw_p14, List.forall_mem_cons.mpr ⟨lw_p15, fun _ h => absurd h List.not_mem_nil⟩⟩⟩⟩⟩⟩⟩⟩⟩⟩⟩⟩⟩⟩⟩⟩
theorem lw_p16 : lw_okq (⟨"ChipfieldModel", "solve", "([II)Z"⟩, 22) := ⟨⟨by decide +kernel, by decide +kernel⟩, List.mem_of_getElem? (i := 1054) (by decide +kernel), List.mem_of_getElem? (i := 1283) (by decide +kernel), List.mem_of_getElem? (i := 1284) (by decide +kernel)⟩
theorem lw_p17 : lw_okq (⟨"ChipfieldModel", "powerOf", "(I)I"⟩, 22) := ⟨⟨by decide +kernel, by decide +kernel⟩, List.mem_of_getElem? (i := 1054) (by decide +kernel), List.mem_of_getElem? (i := 1290) (by decide +kernel), List.mem_of_getElem? (i := 1291) (by decide +kernel)⟩
theorem lw_p18 : lw_okq (⟨"ChipfieldModel", "sumOf", "([II)I"⟩, 22) := ⟨⟨by decide +kernel, by decide +kernel⟩, List.mem_of_getElem? (i := 1054) (by decide +kernel), List.mem_of_getElem? (i := 1294) (by decide +kernel), List.mem_of_getElem? (i := 1295) (by decide +kernel)⟩
theorem lw_p19 : lw_okq (⟨"ChipfieldModel", "by", "(II)I"⟩, 22) := ⟨⟨by decide +kernel, by decide +kernel⟩, List.mem_of_getElem? (i := 1054) (by decide +kernel), List.mem_of_getElem? (i := 1298) (by decide +kernel), List.mem_of_getElem? (i := 1299) (by decide +kernel)⟩
theorem lw_p20 : lw_okq (⟨"ChipfieldModel", "over", "(II)I"⟩, 22) := ⟨⟨by decide +kernel, by decide +kernel⟩, List.mem_of_getElem? (i := 1054) (by decide +kernel), List.mem_of_getElem? (i := 1302) (by decide +kernel), List.mem_of_getElem? (i := 1303) (by decide +kernel)⟩
theorem lw_p21 : lw_okq (⟨"ChipfieldModel", "write", "(I[I)V"⟩, 22) := ⟨⟨by decide +kernel, by decide +kernel⟩, List.mem_of_getElem? (i := 1054) (by decide +kernel), List.mem_of_getElem? (i := 1307) (by decide +kernel), List.mem_of_getElem? (i := 1308) (by decide +kernel)⟩
theorem lw_p22 : lw_okq (⟨"ChipfieldModel", "stuck", "(I)I"⟩, 22) := ⟨⟨by decide +kernel, by decide +kernel⟩, List.mem_of_getElem? (i := 1054) (by decide +kernel), List.mem_of_getElem? (i := 1318) (by decide +kernel), List.mem_of_getElem? (i := 1319) (by decide +kernel)⟩
theorem lw_p23 : lw_okq (⟨"ChipfieldModel", "erased", "()I"⟩, 22) := ⟨⟨by decide +kernel, by decide +kernel⟩, List.mem_of_getElem? (i := 1054) (by decide +kernel), List.mem_of_getElem? (i := 1337) (by decide +kernel), List.mem_of_getElem? (i := 1338) (by decide +kernel)⟩
theorem lw_p24 : lw_okq (⟨"ChipfieldModel", "spares", "()I"⟩, 22) := ⟨⟨by decide +kernel, by decide +kernel⟩, List.mem_of_getElem? (i := 1054) (by decide +kernel), List.mem_of_getElem? (i := 1346) (by decide +kernel), List.mem_of_getElem? (i := 1347) (by decide +kernel)⟩
theorem lw_p25 : lw_okq (⟨"ChipfieldModel", "mend", "([II)Z"⟩, 22) := ⟨⟨by decide +kernel, by decide +kernel⟩, List.mem_of_getElem? (i := 1054) (by decide +kernel), List.mem_of_getElem? (i := 1350) (by decide +kernel), List.mem_of_getElem? (i := 1351) (by decide +kernel)⟩
theorem lw_p26 : lw_okq (⟨"ChipfieldModel", "fetchNow", "(I)I"⟩, 22) := ⟨⟨by decide +kernel, by decide +kernel⟩, List.mem_of_getElem? (i := 1054) (by decide +kernel), List.mem_of_getElem? (i := 1362) (by decide +kernel), List.mem_of_getElem? (i := 1363) (by decide +kernel)⟩
theorem lw_p27 : lw_okq (⟨"ChipfieldModel", "differing", "([I)I"⟩, 22) := ⟨⟨by decide +kernel, by decide +kernel⟩, List.mem_of_getElem? (i := 1054) (by decide +kernel), List.mem_of_getElem? (i := 1366) (by decide +kernel), List.mem_of_getElem? (i := 1367) (by decide +kernel)⟩
theorem lw_p28 : lw_okq (⟨"ChipfieldModel", "frameOf", "(I)I"⟩, 22) := ⟨⟨by decide +kernel, by decide +kernel⟩, List.mem_of_getElem? (i := 1054) (by decide +kernel), List.mem_of_getElem? (i := 1378) (by decide +kernel), List.mem_of_getElem? (i := 1379) (by decide +kernel)⟩
theorem lw_p29 : lw_okq (⟨"ChipfieldModel", "use", "(LChipfieldModel$Frame;)V"⟩, 22) := ⟨⟨by decide +kernel, by decide +kernel⟩, List.mem_of_getElem? (i := 1054) (by decide +kernel), List.mem_of_getElem? (i := 1394) (by decide +kernel), List.mem_of_getElem? (i := 1395) (by decide +kernel)⟩
theorem lw_p30 : lw_okq (⟨"ChipfieldModel", "keep", "(IJZ)I"⟩, 22) := ⟨⟨by decide +kernel, by decide +kernel⟩, List.mem_of_getElem? (i := 1054) (by decide +kernel), List.mem_of_getElem? (i := 1402) (by decide +kernel), List.mem_of_getElem? (i := 1403) (by decide +kernel)⟩
theorem lw_p31 : lw_okq (⟨"ChipfieldModel", "room", "()I"⟩, 22) := ⟨⟨by decide +kernel, by decide +kernel⟩, List.mem_of_getElem? (i := 1054) (by decide +kernel), List.mem_of_getElem? (i := 1406) (by decide +kernel), List.mem_of_getElem? (i := 1407) (by decide +kernel)⟩
def lw_privs_2 : List (MethodName × Nat) := [(⟨"ChipfieldModel", "solve", "([II)Z"⟩, 22), (⟨"ChipfieldModel", "powerOf", "(I)I"⟩, 22), (⟨"ChipfieldModel", "sumOf", "([II)I"⟩, 22), (⟨"ChipfieldModel", "by", "(II)I"⟩, 22), (⟨"ChipfieldModel", "over", "(II)I"⟩, 22), (⟨"ChipfieldModel", "write", "(I[I)V"⟩, 22), (⟨"ChipfieldModel", "stuck", "(I)I"⟩, 22), (⟨"ChipfieldModel", "erased", "()I"⟩, 22), (⟨"ChipfieldModel", "spares", "()I"⟩, 22), (⟨"ChipfieldModel", "mend", "([II)Z"⟩, 22), (⟨"ChipfieldModel", "fetchNow", "(I)I"⟩, 22), (⟨"ChipfieldModel", "differing", "([I)I"⟩, 22), (⟨"ChipfieldModel", "frameOf", "(I)I"⟩, 22), (⟨"ChipfieldModel", "use", "(LChipfieldModel$Frame;)V"⟩, 22), (⟨"ChipfieldModel", "keep", "(IJZ)I"⟩, 22), (⟨"ChipfieldModel", "room", "()I"⟩, 22)]
theorem lw_r2 : ∀ q ∈ lw_privs_2, lw_okq q := List.forall_mem_cons.mpr ⟨lw_p16, List.forall_mem_cons.mpr ⟨lw_p17, List.forall_mem_cons.mpr ⟨lw_p18, List.forall_mem_cons.mpr ⟨lw_p19, List.forall_mem_cons.mpr ⟨lw_p20, List.forall_mem_cons.mpr ⟨lw_p21, List.forall_mem_cons.mpr ⟨lw_p22, List.forall_mem_cons.mpr ⟨lw_p23, List.forall_mem_cons.mpr ⟨lw_p24, List.forall_mem_cons.mpr ⟨lw_p25, List.forall_mem_cons.mpr ⟨lw_p26, List.forall_mem_cons.mpr ⟨lw_p27, List.forall_mem_cons.mpr ⟨lw_p28, List.forall_mem_cons.mpr ⟨lw_p29, List.forall_mem_cons.mpr ⟨lw_p30, List.forall_mem_cons.mpr ⟨lw_p31, fun _ h => absurd h List.not_mem_nil⟩⟩⟩⟩⟩⟩⟩⟩⟩⟩⟩⟩⟩⟩⟩⟩
theorem lw_p32 : lw_okq (⟨"ChipfieldModel", "dirty", "()I"⟩, 22) := ⟨⟨by decide +kernel, by decide +kernel⟩, List.mem_of_getElem? (i := 1054) (by decide +kernel), List.mem_of_getElem? (i := 1418) (by decide +kernel), List.mem_of_getElem? (i := 1419) (by decide +kernel)⟩
theorem lw_p33 : lw_okq (⟨"ChipfieldModel", "mendedNow", "([II)I"⟩, 22) := ⟨⟨by decide +kernel, by decide +kernel⟩, List.mem_of_getElem? (i := 1054) (by decide +kernel), List.mem_of_getElem? (i := 1454) (by decide +kernel), List.mem_of_getElem? (i := 1455) (by decide +kernel)⟩
theorem lw_p34 : lw_okq (⟨"ChipfieldModel", "ofChipNow", "(II)I"⟩, 22) := ⟨⟨by decide +kernel, by decide +kernel⟩, List.mem_of_getElem? (i := 1054) (by decide +kernel), List.mem_of_getElem? (i := 1466) (by decide +kernel), List.mem_of_getElem? (i := 1467) (by decide +kernel)⟩
theorem lw_p35 : lw_okq (⟨"ChipfieldModel", "ofFrameNow", "(II)I"⟩, 22) := ⟨⟨by decide +kernel, by decide +kernel⟩, List.mem_of_getElem? (i := 1054) (by decide +kernel), List.mem_of_getElem? (i := 1478) (by decide +kernel), List.mem_of_getElem? (i := 1479) (by decide +kernel)⟩
theorem lw_p36 : lw_okq (⟨"ChipfieldModel", "heldNow", "(I)J"⟩, 22) := ⟨⟨by decide +kernel, by decide +kernel⟩, List.mem_of_getElem? (i := 1054) (by decide +kernel), List.mem_of_getElem? (i := 1486) (by decide +kernel), List.mem_of_getElem? (i := 1487) (by decide +kernel)⟩
theorem lw_p37 : lw_okq (⟨"ChipfieldModel", "bad", "()I"⟩, 22) := ⟨⟨by decide +kernel, by decide +kernel⟩, List.mem_of_getElem? (i := 1054) (by decide +kernel), List.mem_of_getElem? (i := 1494) (by decide +kernel), List.mem_of_getElem? (i := 1495) (by decide +kernel)⟩
theorem lw_p38 : lw_okq (⟨"ChipfieldModel", "bankNow", "(II)I"⟩, 22) := ⟨⟨by decide +kernel, by decide +kernel⟩, List.mem_of_getElem? (i := 1054) (by decide +kernel), List.mem_of_getElem? (i := 1498) (by decide +kernel), List.mem_of_getElem? (i := 1499) (by decide +kernel)⟩
theorem lw_p39 : lw_okq (⟨"ChipfieldModel", "out", "()I"⟩, 22) := ⟨⟨by decide +kernel, by decide +kernel⟩, List.mem_of_getElem? (i := 1054) (by decide +kernel), List.mem_of_getElem? (i := 1502) (by decide +kernel), List.mem_of_getElem? (i := 1503) (by decide +kernel)⟩
theorem lw_p40 : lw_okq (⟨"ChipfieldModel", "spareNow", "(II)I"⟩, 22) := ⟨⟨by decide +kernel, by decide +kernel⟩, List.mem_of_getElem? (i := 1054) (by decide +kernel), List.mem_of_getElem? (i := 1523) (by decide +kernel), List.mem_of_getElem? (i := 1524) (by decide +kernel)⟩
theorem lw_p41 : lw_okq (⟨"ChipfieldModel", "isSoundNow", "()Z"⟩, 22) := ⟨⟨by decide +kernel, by decide +kernel⟩, List.mem_of_getElem? (i := 1054) (by decide +kernel), List.mem_of_getElem? (i := 1540) (by decide +kernel), List.mem_of_getElem? (i := 1541) (by decide +kernel)⟩
theorem lw_p42 : lw_okq (⟨"ChipfieldModel", "add", "(J)V"⟩, 22) := ⟨⟨by decide +kernel, by decide +kernel⟩, List.mem_of_getElem? (i := 1054) (by decide +kernel), List.mem_of_getElem? (i := 1549) (by decide +kernel), List.mem_of_getElem? (i := 1550) (by decide +kernel)⟩
def lw_privs_3 : List (MethodName × Nat) := [(⟨"ChipfieldModel", "dirty", "()I"⟩, 22), (⟨"ChipfieldModel", "mendedNow", "([II)I"⟩, 22), (⟨"ChipfieldModel", "ofChipNow", "(II)I"⟩, 22), (⟨"ChipfieldModel", "ofFrameNow", "(II)I"⟩, 22), (⟨"ChipfieldModel", "heldNow", "(I)J"⟩, 22), (⟨"ChipfieldModel", "bad", "()I"⟩, 22), (⟨"ChipfieldModel", "bankNow", "(II)I"⟩, 22), (⟨"ChipfieldModel", "out", "()I"⟩, 22), (⟨"ChipfieldModel", "spareNow", "(II)I"⟩, 22), (⟨"ChipfieldModel", "isSoundNow", "()Z"⟩, 22), (⟨"ChipfieldModel", "add", "(J)V"⟩, 22)]
theorem lw_r3 : ∀ q ∈ lw_privs_3, lw_okq q := List.forall_mem_cons.mpr ⟨lw_p32, List.forall_mem_cons.mpr ⟨lw_p33, List.forall_mem_cons.mpr ⟨lw_p34, List.forall_mem_cons.mpr ⟨lw_p35, List.forall_mem_cons.mpr ⟨lw_p36, List.forall_mem_cons.mpr ⟨lw_p37, List.forall_mem_cons.mpr ⟨lw_p38, List.forall_mem_cons.mpr ⟨lw_p39, List.forall_mem_cons.mpr ⟨lw_p40, List.forall_mem_cons.mpr ⟨lw_p41, List.forall_mem_cons.mpr ⟨lw_p42, fun _ h => absurd h List.not_mem_nil⟩⟩⟩⟩⟩⟩⟩⟩⟩⟩⟩
def lw_privs : List (MethodName × Nat) := lw_privs_1 ++ (lw_privs_2 ++ (lw_privs_3))
def lw_tbl : List Cond := k2_sels lw_privs ++ tables_1
theorem lw_privs_ok : ∀ q ∈ lw_privs, lw_okq q := by
  show ∀ q ∈ lw_privs_1 ++ (lw_privs_2 ++ (lw_privs_3)), lw_okq q
  exact List.forall_mem_append.mpr ⟨lw_r1, List.forall_mem_append.mpr ⟨lw_r2, lw_r3⟩⟩
/-- the streams that the claim lets the run draw from -/
abbrev lw_cs : List Choice := [Jvm.Choice.named "NaN.bits"]
theorem lw_bits : nanBits ∈ lw_cs := by first | decide | exact List.mem_cons_self | simp [lw_cs, nanBits]
def RX0 : String := "Chipfield$Cache"
def TX0 : u_T := fun k => match k with
  | 0 => ("Chipfield$Cache", "frames", "[LChipfield$Frame;", true)
  | 1 => ("Chipfield$Cache", "hits", "I", false)
  | 2 => ("Chipfield$Cache", "misses", "I", false)
  | 3 => ("Chipfield$Cache", "uses", "I", false)
  | _ => ("Chipfield$Cache", "memory", "LChipfield$Memory;", true)
def tyX0 : Nat → FieldType := fun k => match k with
  | 0 => .array (.object "Chipfield$Frame")
  | 1 => .int
  | 2 => .int
  | 3 => .int
  | _ => .object "Chipfield$Memory"
theorem nmX0 : ∀ a, a < 5 → ∀ b, b < 5 → a ≠ b → (TX0 a).2.1 ≠ (TX0 b).2.1 := by decide +kernel
theorem tyX0_ok : ∀ k, k < 5 → parseFieldDescriptor (TX0 k).2.2.1 = some (tyX0 k) := by decide +kernel
abbrev cX0_init : ByteArray := prog_2_method_1_code
def yX0_init : MethodName := ⟨RX0, "<init>", "(LChipfield$Memory;)V"⟩
abbrev cX0_wordThrough : ByteArray := prog_2_method_2_code
def yX0_wordThrough : MethodName := ⟨RX0, "wordThrough", "(I)J"⟩
abbrev cX0_keepDirty : ByteArray := prog_2_method_3_code
def yX0_keepDirty : MethodName := ⟨RX0, "keepDirty", "(IJ)I"⟩
abbrev cX0_writeBackAll : ByteArray := prog_2_method_4_code
def yX0_writeBackAll : MethodName := ⟨RX0, "writeBackAll", "()I"⟩
abbrev cX0_dirtyFrames : ByteArray := prog_2_method_5_code
def yX0_dirtyFrames : MethodName := ⟨RX0, "dirtyFrames", "()I"⟩
abbrev cX0_areFramesSound : ByteArray := prog_2_method_6_code
def yX0_areFramesSound : MethodName := ⟨RX0, "areFramesSound", "()Z"⟩
abbrev cX0_frameOf : ByteArray := prog_2_method_7_code
def yX0_frameOf : MethodName := ⟨RX0, "frameOf", "(I)LChipfield$Frame;"⟩
abbrev cX0_frameToFill : ByteArray := prog_2_method_8_code
def yX0_frameToFill : MethodName := ⟨RX0, "frameToFill", "()LChipfield$Frame;"⟩
abbrev cX0_writeBack : ByteArray := prog_2_method_9_code
def yX0_writeBack : MethodName := ⟨RX0, "writeBack", "(LChipfield$Frame;)V"⟩
abbrev cX0_fill : ByteArray := prog_2_method_10_code
def yX0_fill : MethodName := ⟨RX0, "fill", "(LChipfield$Frame;IJ)V"⟩
abbrev cX0_use : ByteArray := prog_2_method_11_code
def yX0_use : MethodName := ⟨RX0, "use", "(LChipfield$Frame;)V"⟩
def RX1 : String := "Chipfield$Chip"
def TX1 : u_T := fun k => match k with
  | 0 => ("Chipfield$Chip", "number", "I", true)
  | 1 => ("Chipfield$Chip", "place", "I", false)
  | 2 => ("Chipfield$Chip", "key", "I", false)
  | 3 => ("Chipfield$Chip", "blame", "I", false)
  | 4 => ("Chipfield$Chip", "isErased", "Z", false)
  | 5 => ("Chipfield$Chip", "isOut", "Z", false)
  | 6 => ("Chipfield$Chip", "storedRow", "J", false)
  | 7 => ("Chipfield$Chip", "masks", "J", false)
  | _ => ("Chipfield$Chip", "values", "J", false)
def tyX1 : Nat → FieldType := fun k => match k with
  | 0 => .int
  | 1 => .int
  | 2 => .int
  | 3 => .int
  | 4 => .boolean
  | 5 => .boolean
  | 6 => .long
  | 7 => .long
  | _ => .long
theorem nmX1 : ∀ a, a < 9 → ∀ b, b < 9 → a ≠ b → (TX1 a).2.1 ≠ (TX1 b).2.1 := by decide +kernel
theorem tyX1_ok : ∀ k, k < 9 → parseFieldDescriptor (TX1 k).2.2.1 = some (tyX1 k) := by decide +kernel
abbrev cX1_init : ByteArray := prog_3_method_1_code
def yX1_init : MethodName := ⟨RX1, "<init>", "(II)V"⟩
abbrev cX1_madSymbol : ByteArray := prog_3_method_2_code
def yX1_madSymbol : MethodName := ⟨RX1, "madSymbol", "(II)I"⟩
abbrev cX1_storedAt : ByteArray := prog_3_method_3_code
def yX1_storedAt : MethodName := ⟨RX1, "storedAt", "(I)I"⟩
abbrev cX1_putAt : ByteArray := prog_3_method_4_code
def yX1_putAt : MethodName := ⟨RX1, "putAt", "(II)V"⟩
abbrev cX1_readAt : ByteArray := prog_3_method_5_code
def yX1_readAt : MethodName := ⟨RX1, "readAt", "(I)I"⟩
abbrev cX1_stickCell : ByteArray := prog_3_method_6_code
def yX1_stickCell : MethodName := ⟨RX1, "stickCell", "(III)V"⟩
abbrev cX1_stuckCells : ByteArray := prog_3_method_7_code
def yX1_stuckCells : MethodName := ⟨RX1, "stuckCells", "()I"⟩
def RX2 : String := "Chipfield$Code"
def TX2 : u_T := fun k => match k with
  | _ => ("", "", "", false)
def tyX2 : Nat → FieldType := fun k => match k with
  | _ => .int
theorem nmX2 : ∀ a, a < 0 → ∀ b, b < 0 → a ≠ b → (TX2 a).2.1 ≠ (TX2 b).2.1 := by decide +kernel
theorem tyX2_ok : ∀ k, k < 0 → parseFieldDescriptor (TX2 k).2.2.1 = some (tyX2 k) := by decide +kernel
abbrev cX2_timesPower : ByteArray := prog_4_method_2_code
def yX2_timesPower : MethodName := ⟨RX2, "timesPower", "(II)I"⟩
abbrev cX2_product : ByteArray := prog_4_method_3_code
def yX2_product : MethodName := ⟨RX2, "product", "(II)I"⟩
abbrev cX2_quotient : ByteArray := prog_4_method_4_code
def yX2_quotient : MethodName := ⟨RX2, "quotient", "(II)I"⟩
abbrev cX2_sumOf : ByteArray := prog_4_method_5_code
def yX2_sumOf : MethodName := ⟨RX2, "sumOf", "(JI)I"⟩
abbrev cX2_placesIn : ByteArray := prog_4_method_6_code
def yX2_placesIn : MethodName := ⟨RX2, "placesIn", "(J)I"⟩
abbrev cX2_dataIn : ByteArray := prog_4_method_7_code
def yX2_dataIn : MethodName := ⟨RX2, "dataIn", "(J)J"⟩
abbrev cX2_wordOf : ByteArray := prog_4_method_8_code
def yX2_wordOf : MethodName := ⟨RX2, "wordOf", "(J)J"⟩
abbrev cX2_mendedWord : ByteArray := prog_4_method_9_code
def yX2_mendedWord : MethodName := ⟨RX2, "mendedWord", "(JI)J"⟩
abbrev cX2_errorsBeside : ByteArray := prog_4_method_10_code
def yX2_errorsBeside : MethodName := ⟨RX2, "errorsBeside", "(IJ)I"⟩
abbrev cX2_blindTo : ByteArray := prog_4_method_11_code
def yX2_blindTo : MethodName := ⟨RX2, "blindTo", "(IJI)J"⟩
abbrev cX2_onlyError : ByteArray := prog_4_method_12_code
def yX2_onlyError : MethodName := ⟨RX2, "onlyError", "(JI)I"⟩
abbrev cX2_errorAt : ByteArray := prog_4_method_13_code
def yX2_errorAt : MethodName := ⟨RX2, "errorAt", "(IIJ)I"⟩
def RX3 : String := "Chipfield$Frame"
def TX3 : u_T := fun k => match k with
  | 0 => ("Chipfield$Frame", "number", "I", true)
  | 1 => ("Chipfield$Frame", "line", "I", false)
  | 2 => ("Chipfield$Frame", "word", "J", false)
  | 3 => ("Chipfield$Frame", "isDirty", "Z", false)
  | _ => ("Chipfield$Frame", "time", "I", false)
def tyX3 : Nat → FieldType := fun k => match k with
  | 0 => .int
  | 1 => .int
  | 2 => .long
  | 3 => .boolean
  | _ => .int
theorem nmX3 : ∀ a, a < 5 → ∀ b, b < 5 → a ≠ b → (TX3 a).2.1 ≠ (TX3 b).2.1 := by decide +kernel
theorem tyX3_ok : ∀ k, k < 5 → parseFieldDescriptor (TX3 k).2.2.1 = some (tyX3 k) := by decide +kernel
abbrev cX3_init : ByteArray := prog_5_method_1_code
def yX3_init : MethodName := ⟨RX3, "<init>", "(I)V"⟩
def RX4 : String := "Chipfield$Memory"
def TX4 : u_T := fun k => match k with
  | 0 => ("Chipfield$Memory", "chips", "[LChipfield$Chip;", true)
  | 1 => ("Chipfield$Memory", "seats", "[LChipfield$Chip;", true)
  | 2 => ("Chipfield$Memory", "limit", "I", false)
  | 3 => ("Chipfield$Memory", "patrolLine", "I", false)
  | 4 => ("Chipfield$Memory", "fetches", "I", false)
  | 5 => ("Chipfield$Memory", "lost", "I", false)
  | 6 => ("Chipfield$Memory", "mendedPlaces", "I", false)
  | _ => ("Chipfield$Memory", "nextSpare", "I", false)
def tyX4 : Nat → FieldType := fun k => match k with
  | 0 => .array (.object "Chipfield$Chip")
  | 1 => .array (.object "Chipfield$Chip")
  | 2 => .int
  | 3 => .int
  | 4 => .int
  | 5 => .int
  | 6 => .int
  | _ => .int
theorem nmX4 : ∀ a, a < 8 → ∀ b, b < 8 → a ≠ b → (TX4 a).2.1 ≠ (TX4 b).2.1 := by decide +kernel
theorem tyX4_ok : ∀ k, k < 8 → parseFieldDescriptor (TX4 k).2.2.1 = some (tyX4 k) := by decide +kernel
abbrev cX4_init : ByteArray := prog_6_method_1_code
def yX4_init : MethodName := ⟨RX4, "<init>", "()V"⟩
abbrev cX4_readWord : ByteArray := prog_6_method_2_code
def yX4_readWord : MethodName := ⟨RX4, "readWord", "(I)J"⟩
abbrev cX4_writeWord : ByteArray := prog_6_method_3_code
def yX4_writeWord : MethodName := ⟨RX4, "writeWord", "(IJ)V"⟩
abbrev cX4_erasedPlaces : ByteArray := prog_6_method_4_code
def yX4_erasedPlaces : MethodName := ⟨RX4, "erasedPlaces", "()I"⟩
abbrev cX4_wordMendedTo : ByteArray := prog_6_method_5_code
def yX4_wordMendedTo : MethodName := ⟨RX4, "wordMendedTo", "(I)J"⟩
abbrev cX4_badLines : ByteArray := prog_6_method_6_code
def yX4_badLines : MethodName := ⟨RX4, "badLines", "()I"⟩
abbrev cX4_fetchLine : ByteArray := prog_6_method_7_code
def yX4_fetchLine : MethodName := ⟨RX4, "fetchLine", "(I)J"⟩
abbrev cX4_countMended : ByteArray := prog_6_method_8_code
def yX4_countMended : MethodName := ⟨RX4, "countMended", "(I)V"⟩
abbrev cX4_eraseBlamed : ByteArray := prog_6_method_9_code
def yX4_eraseBlamed : MethodName := ⟨RX4, "eraseBlamed", "()V"⟩
abbrev cX4_stepPatrol : ByteArray := prog_6_method_10_code
def yX4_stepPatrol : MethodName := ⟨RX4, "stepPatrol", "()J"⟩
abbrev cX4_sparesLeft : ByteArray := prog_6_method_11_code
def yX4_sparesLeft : MethodName := ⟨RX4, "sparesLeft", "()I"⟩
abbrev cX4_chipsOut : ByteArray := prog_6_method_12_code
def yX4_chipsOut : MethodName := ⟨RX4, "chipsOut", "()I"⟩
abbrev cX4_replaceAt : ByteArray := prog_6_method_13_code
def yX4_replaceAt : MethodName := ⟨RX4, "replaceAt", "(I)V"⟩
abbrev cX4_fillFor : ByteArray := prog_6_method_14_code
def yX4_fillFor : MethodName := ⟨RX4, "fillFor", "(ILChipfield$Chip;)V"⟩
abbrev cX4_areSeatsSound : ByteArray := prog_6_method_15_code
def yX4_areSeatsSound : MethodName := ⟨RX4, "areSeatsSound", "()Z"⟩
def RX5 : String := "Chipfield"
def TX5 : u_T := fun k => match k with
  | 0 => ("Chipfield", "memory", "LChipfield$Memory;", true)
  | 1 => ("Chipfield", "cache", "LChipfield$Cache;", true)
  | _ => ("Chipfield", "refused", "I", false)
def tyX5 : Nat → FieldType := fun k => match k with
  | 0 => .object "Chipfield$Memory"
  | 1 => .object "Chipfield$Cache"
  | _ => .int
theorem nmX5 : ∀ a, a < 3 → ∀ b, b < 3 → a ≠ b → (TX5 a).2.1 ≠ (TX5 b).2.1 := by decide +kernel
theorem tyX5_ok : ∀ k, k < 3 → parseFieldDescriptor (TX5 k).2.2.1 = some (tyX5 k) := by decide +kernel
abbrev cX5_init : ByteArray := prog_1_method_1_code
def yX5_init : MethodName := ⟨RX5, "<init>", "()V"⟩
abbrev cX5_write : ByteArray := prog_1_method_2_code
def yX5_write : MethodName := ⟨RX5, "write", "(IJ)I"⟩
abbrev cX5_stick : ByteArray := prog_1_method_3_code
def yX5_stick : MethodName := ⟨RX5, "stick", "(IIII)I"⟩
abbrev cX5_mad : ByteArray := prog_1_method_4_code
def yX5_mad : MethodName := ⟨RX5, "mad", "(II)I"⟩
abbrev cX5_ray : ByteArray := prog_1_method_5_code
def yX5_ray : MethodName := ⟨RX5, "ray", "(III)I"⟩
abbrev cX5_erase : ByteArray := prog_1_method_6_code
def yX5_erase : MethodName := ⟨RX5, "erase", "(IZ)I"⟩
abbrev cX5_replace : ByteArray := prog_1_method_7_code
def yX5_replace : MethodName := ⟨RX5, "replace", "(I)I"⟩
abbrev cX5_limit : ByteArray := prog_1_method_8_code
def yX5_limit : MethodName := ⟨RX5, "limit", "(I)I"⟩
abbrev cX5_fetch : ByteArray := prog_1_method_9_code
def yX5_fetch : MethodName := ⟨RX5, "fetch", "(I)I"⟩
abbrev cX5_patrol : ByteArray := prog_1_method_10_code
def yX5_patrol : MethodName := ⟨RX5, "patrol", "(I)I"⟩
abbrev cX5_load : ByteArray := prog_1_method_11_code
def yX5_load : MethodName := ⟨RX5, "load", "(I)J"⟩
abbrev cX5_store : ByteArray := prog_1_method_12_code
def yX5_store : MethodName := ⟨RX5, "store", "(IJ)I"⟩
abbrev cX5_flush : ByteArray := prog_1_method_13_code
def yX5_flush : MethodName := ⟨RX5, "flush", "()I"⟩
abbrev cX5_call : ByteArray := prog_1_method_14_code
def yX5_call : MethodName := ⟨RX5, "call", "()I"⟩
abbrev cX5_times : ByteArray := prog_1_method_15_code
def yX5_times : MethodName := ⟨RX5, "times", "(II)I"⟩
abbrev cX5_power : ByteArray := prog_1_method_16_code
def yX5_power : MethodName := ⟨RX5, "power", "(I)I"⟩
abbrev cX5_symbol : ByteArray := prog_1_method_17_code
def yX5_symbol : MethodName := ⟨RX5, "symbol", "(JI)I"⟩
abbrev cX5_fooled : ByteArray := prog_1_method_18_code
def yX5_fooled : MethodName := ⟨RX5, "fooled", "(IIIII)I"⟩
abbrev cX5_seen : ByteArray := prog_1_method_19_code
def yX5_seen : MethodName := ⟨RX5, "seen", "(II)I"⟩
abbrev cX5_sum : ByteArray := prog_1_method_20_code
def yX5_sum : MethodName := ⟨RX5, "sum", "(II)I"⟩
abbrev cX5_mended : ByteArray := prog_1_method_21_code
def yX5_mended : MethodName := ⟨RX5, "mended", "(I)I"⟩
abbrev cX5_data : ByteArray := prog_1_method_22_code
def yX5_data : MethodName := ⟨RX5, "data", "(I)J"⟩
abbrev cX5_ofChip : ByteArray := prog_1_method_23_code
def yX5_ofChip : MethodName := ⟨RX5, "ofChip", "(II)I"⟩
abbrev cX5_stored : ByteArray := prog_1_method_24_code
def yX5_stored : MethodName := ⟨RX5, "stored", "(II)I"⟩
abbrev cX5_ofFrame : ByteArray := prog_1_method_25_code
def yX5_ofFrame : MethodName := ⟨RX5, "ofFrame", "(II)I"⟩
abbrev cX5_held : ByteArray := prog_1_method_26_code
def yX5_held : MethodName := ⟨RX5, "held", "(I)J"⟩
abbrev cX5_bank : ByteArray := prog_1_method_27_code
def yX5_bank : MethodName := ⟨RX5, "bank", "(I)I"⟩
abbrev cX5_row : ByteArray := prog_1_method_28_code
def yX5_row : MethodName := ⟨RX5, "row", "(I)Ljava/lang/String;"⟩
abbrev cX5_wouldMend : ByteArray := prog_1_method_29_code
def yX5_wouldMend : MethodName := ⟨RX5, "wouldMend", "(II)I"⟩
abbrev cX5_spare : ByteArray := prog_1_method_30_code
def yX5_spare : MethodName := ⟨RX5, "spare", "(I)I"⟩
abbrev cX5_wouldLose : ByteArray := prog_1_method_31_code
def yX5_wouldLose : MethodName := ⟨RX5, "wouldLose", "(II)I"⟩
abbrev cX5_health : ByteArray := prog_1_method_32_code
def yX5_health : MethodName := ⟨RX5, "health", "()D"⟩
abbrev cX5_isSound : ByteArray := prog_1_method_33_code
def yX5_isSound : MethodName := ⟨RX5, "isSound", "()Z"⟩
abbrev cX5_digest : ByteArray := prog_1_method_34_code
def yX5_digest : MethodName := ⟨RX5, "digest", "()J"⟩
abbrev cX5_checkLine : ByteArray := prog_1_method_35_code
def yX5_checkLine : MethodName := ⟨RX5, "checkLine", "(I)V"⟩
abbrev cX5_checkPlace : ByteArray := prog_1_method_36_code
def yX5_checkPlace : MethodName := ⟨RX5, "checkPlace", "(I)V"⟩
abbrev cX5_checkChip : ByteArray := prog_1_method_37_code
def yX5_checkChip : MethodName := ⟨RX5, "checkChip", "(I)V"⟩
abbrev cX5_checkFrame : ByteArray := prog_1_method_38_code
def yX5_checkFrame : MethodName := ⟨RX5, "checkFrame", "(I)V"⟩
abbrev cX5_checkElement : ByteArray := prog_1_method_39_code
def yX5_checkElement : MethodName := ⟨RX5, "checkElement", "(I)V"⟩
abbrev cX5_checkElementNotZero : ByteArray := prog_1_method_40_code
def yX5_checkElementNotZero : MethodName := ⟨RX5, "checkElementNotZero", "(I)V"⟩
abbrev cX5_checkData : ByteArray := prog_1_method_41_code
def yX5_checkData : MethodName := ⟨RX5, "checkData", "(J)V"⟩
abbrev cX5_wrongIn : ByteArray := prog_1_method_42_code
def yX5_wrongIn : MethodName := ⟨RX5, "wrongIn", "(JJ)I"⟩
abbrev cX5_dataOrNone : ByteArray := prog_1_method_43_code
def yX5_dataOrNone : MethodName := ⟨RX5, "dataOrNone", "(J)J"⟩
abbrev cX5_signOf : ByteArray := prog_1_method_44_code
def yX5_signOf : MethodName := ⟨RX5, "signOf", "(I)C"⟩
abbrev cX5_numberAt : ByteArray := prog_1_method_45_code
def yX5_numberAt : MethodName := ⟨RX5, "numberAt", "(JI)I"⟩
abbrev cX5_withNumber : ByteArray := prog_1_method_46_code
def yX5_withNumber : MethodName := ⟨RX5, "withNumber", "(JII)J"⟩
abbrev cX5_isIn : ByteArray := prog_1_method_47_code
def yX5_isIn : MethodName := ⟨RX5, "isIn", "(II)Z"⟩
def RX6 : String := "ChipfieldLaw$Out"
def TX6 : u_T := fun k => match k with
  | 0 => ("ChipfieldLaw$Out", "n", "J", false)
  | _ => ("ChipfieldLaw$Out", "s", "Ljava/lang/String;", false)
def tyX6 : Nat → FieldType := fun k => match k with
  | 0 => .long
  | _ => .object "java/lang/String"
theorem nmX6 : ∀ a, a < 2 → ∀ b, b < 2 → a ≠ b → (TX6 a).2.1 ≠ (TX6 b).2.1 := by decide +kernel
theorem tyX6_ok : ∀ k, k < 2 → parseFieldDescriptor (TX6 k).2.2.1 = some (tyX6 k) := by decide +kernel
abbrev cX6_init : ByteArray := prog_8_method_1_code
def yX6_init : MethodName := ⟨RX6, "<init>", "()V"⟩
def RX7 : String := "ChipfieldModel$Chip"
def TX7 : u_T := fun k => match k with
  | 0 => ("ChipfieldModel$Chip", "place", "I", false)
  | 1 => ("ChipfieldModel$Chip", "key", "I", false)
  | 2 => ("ChipfieldModel$Chip", "blame", "I", false)
  | 3 => ("ChipfieldModel$Chip", "isErased", "Z", false)
  | _ => ("ChipfieldModel$Chip", "isOut", "Z", false)
def tyX7 : Nat → FieldType := fun k => match k with
  | 0 => .int
  | 1 => .int
  | 2 => .int
  | 3 => .boolean
  | _ => .boolean
theorem nmX7 : ∀ a, a < 5 → ∀ b, b < 5 → a ≠ b → (TX7 a).2.1 ≠ (TX7 b).2.1 := by decide +kernel
theorem tyX7_ok : ∀ k, k < 5 → parseFieldDescriptor (TX7 k).2.2.1 = some (tyX7 k) := by decide +kernel
abbrev cX7_init : ByteArray := prog_10_method_1_code
def yX7_init : MethodName := ⟨RX7, "<init>", "()V"⟩
def RX8 : String := "ChipfieldModel$Frame"
def TX8 : u_T := fun k => match k with
  | 0 => ("ChipfieldModel$Frame", "line", "I", false)
  | 1 => ("ChipfieldModel$Frame", "data", "J", false)
  | 2 => ("ChipfieldModel$Frame", "isDirty", "Z", false)
  | _ => ("ChipfieldModel$Frame", "time", "I", false)
def tyX8 : Nat → FieldType := fun k => match k with
  | 0 => .int
  | 1 => .long
  | 2 => .boolean
  | _ => .int
theorem nmX8 : ∀ a, a < 4 → ∀ b, b < 4 → a ≠ b → (TX8 a).2.1 ≠ (TX8 b).2.1 := by decide +kernel
theorem tyX8_ok : ∀ k, k < 4 → parseFieldDescriptor (TX8 k).2.2.1 = some (tyX8 k) := by decide +kernel
abbrev cX8_init : ByteArray := prog_11_method_1_code
def yX8_init : MethodName := ⟨RX8, "<init>", "()V"⟩
def RX9 : String := "ChipfieldModel"
def TX9 : u_T := fun k => match k with
  | 0 => ("ChipfieldModel", "thrown", "I", false)
  | 1 => ("ChipfieldModel", "products", "[I", true)
  | 2 => ("ChipfieldModel", "powers", "[I", true)
  | 3 => ("ChipfieldModel", "stored", "[I", true)
  | 4 => ("ChipfieldModel", "masks", "[I", true)
  | 5 => ("ChipfieldModel", "values", "[I", true)
  | 6 => ("ChipfieldModel", "chips", "[LChipfieldModel$Chip;", true)
  | 7 => ("ChipfieldModel", "seats", "[I", true)
  | 8 => ("ChipfieldModel", "frames", "Ljava/util/ArrayList;", true)
  | 9 => ("ChipfieldModel", "limit", "I", false)
  | 10 => ("ChipfieldModel", "at", "I", false)
  | 11 => ("ChipfieldModel", "uses", "I", false)
  | 12 => ("ChipfieldModel", "fetches", "I", false)
  | 13 => ("ChipfieldModel", "lost", "I", false)
  | 14 => ("ChipfieldModel", "mendings", "I", false)
  | 15 => ("ChipfieldModel", "hits", "I", false)
  | 16 => ("ChipfieldModel", "misses", "I", false)
  | 17 => ("ChipfieldModel", "refused", "I", false)
  | 18 => ("ChipfieldModel", "made", "[I", true)
  | 19 => ("ChipfieldModel", "rows", "[I", true)
  | 20 => ("ChipfieldModel", "wrong", "[I", true)
  | _ => ("ChipfieldModel", "sum", "J", false)
def tyX9 : Nat → FieldType := fun k => match k with
  | 0 => .int
  | 1 => .array .int
  | 2 => .array .int
  | 3 => .array .int
  | 4 => .array .int
  | 5 => .array .int
  | 6 => .array (.object "ChipfieldModel$Chip")
  | 7 => .array .int
  | 8 => .object "java/util/ArrayList"
  | 9 => .int
  | 10 => .int
  | 11 => .int
  | 12 => .int
  | 13 => .int
  | 14 => .int
  | 15 => .int
  | 16 => .int
  | 17 => .int
  | 18 => .array .int
  | 19 => .array .int
  | 20 => .array .int
  | _ => .long
theorem nmX9 : ∀ a, a < 22 → ∀ b, b < 22 → a ≠ b → (TX9 a).2.1 ≠ (TX9 b).2.1 := by decide +kernel
theorem tyX9_ok : ∀ k, k < 22 → parseFieldDescriptor (TX9 k).2.2.1 = some (tyX9 k) := by decide +kernel
abbrev cX9_init : ByteArray := prog_9_method_1_code
def yX9_init : MethodName := ⟨RX9, "<init>", "()V"⟩
abbrev cX9_thrown : ByteArray := prog_9_method_2_code
def yX9_thrown : MethodName := ⟨RX9, "thrown", "()I"⟩
abbrev cX9_refuse : ByteArray := prog_9_method_3_code
def yX9_refuse : MethodName := ⟨RX9, "refuse", "(I)I"⟩
abbrev cX9_is : ByteArray := prog_9_method_4_code
def yX9_is : MethodName := ⟨RX9, "is", "(III)Z"⟩
abbrev cX9_isLine : ByteArray := prog_9_method_5_code
def yX9_isLine : MethodName := ⟨RX9, "isLine", "(I)Z"⟩
abbrev cX9_isPlace : ByteArray := prog_9_method_6_code
def yX9_isPlace : MethodName := ⟨RX9, "isPlace", "(I)Z"⟩
abbrev cX9_isChip : ByteArray := prog_9_method_7_code
def yX9_isChip : MethodName := ⟨RX9, "isChip", "(I)Z"⟩
abbrev cX9_isData : ByteArray := prog_9_method_8_code
def yX9_isData : MethodName := ⟨RX9, "isData", "(J)Z"⟩
abbrev cX9_isIn : ByteArray := prog_9_method_9_code
def yX9_isIn : MethodName := ⟨RX9, "isIn", "(II)Z"⟩
abbrev cX9_product : ByteArray := prog_9_method_10_code
def yX9_product : MethodName := ⟨RX9, "product", "(II)I"⟩
abbrev cX9_by : ByteArray := prog_9_method_11_code
def yX9_by : MethodName := ⟨RX9, "by", "(II)I"⟩
abbrev cX9_over : ByteArray := prog_9_method_12_code
def yX9_over : MethodName := ⟨RX9, "over", "(II)I"⟩
abbrev cX9_powerOf : ByteArray := prog_9_method_13_code
def yX9_powerOf : MethodName := ⟨RX9, "powerOf", "(I)I"⟩
abbrev cX9_sumOf : ByteArray := prog_9_method_14_code
def yX9_sumOf : MethodName := ⟨RX9, "sumOf", "([II)I"⟩
abbrev cX9_solve : ByteArray := prog_9_method_15_code
def yX9_solve : MethodName := ⟨RX9, "solve", "([II)Z"⟩
abbrev cX9_mend : ByteArray := prog_9_method_16_code
def yX9_mend : MethodName := ⟨RX9, "mend", "([II)Z"⟩
abbrev cX9_wordOf : ByteArray := prog_9_method_17_code
def yX9_wordOf : MethodName := ⟨RX9, "wordOf", "(J)[I"⟩
abbrev cX9_dataOf : ByteArray := prog_9_method_18_code
def yX9_dataOf : MethodName := ⟨RX9, "dataOf", "([I)J"⟩
abbrev cX9_readOf : ByteArray := prog_9_method_19_code
def yX9_readOf : MethodName := ⟨RX9, "readOf", "(II)I"⟩
abbrev cX9_read : ByteArray := prog_9_method_20_code
def yX9_read : MethodName := ⟨RX9, "read", "(I)[I"⟩
abbrev cX9_write : ByteArray := prog_9_method_21_code
def yX9_write : MethodName := ⟨RX9, "write", "(I[I)V"⟩
abbrev cX9_erased : ByteArray := prog_9_method_22_code
def yX9_erased : MethodName := ⟨RX9, "erased", "()I"⟩
abbrev cX9_differing : ByteArray := prog_9_method_23_code
def yX9_differing : MethodName := ⟨RX9, "differing", "([I)I"⟩
abbrev cX9_write_ : ByteArray := prog_9_method_24_code
def yX9_write_ : MethodName := ⟨RX9, "write", "(IJ)I"⟩
abbrev cX9_stuck : ByteArray := prog_9_method_25_code
def yX9_stuck : MethodName := ⟨RX9, "stuck", "(I)I"⟩
abbrev cX9_stick : ByteArray := prog_9_method_26_code
def yX9_stick : MethodName := ⟨RX9, "stick", "(IIII)I"⟩
abbrev cX9_mad : ByteArray := prog_9_method_27_code
def yX9_mad : MethodName := ⟨RX9, "mad", "(II)I"⟩
abbrev cX9_ray : ByteArray := prog_9_method_28_code
def yX9_ray : MethodName := ⟨RX9, "ray", "(III)I"⟩
abbrev cX9_erase : ByteArray := prog_9_method_29_code
def yX9_erase : MethodName := ⟨RX9, "erase", "(IZ)I"⟩
abbrev cX9_spares : ByteArray := prog_9_method_30_code
def yX9_spares : MethodName := ⟨RX9, "spares", "()I"⟩
abbrev cX9_replace : ByteArray := prog_9_method_31_code
def yX9_replace : MethodName := ⟨RX9, "replace", "(I)I"⟩
abbrev cX9_limit : ByteArray := prog_9_method_32_code
def yX9_limit : MethodName := ⟨RX9, "limit", "(I)I"⟩
abbrev cX9_fetchNow : ByteArray := prog_9_method_33_code
def yX9_fetchNow : MethodName := ⟨RX9, "fetchNow", "(I)I"⟩
abbrev cX9_fetch : ByteArray := prog_9_method_34_code
def yX9_fetch : MethodName := ⟨RX9, "fetch", "(I)I"⟩
abbrev cX9_patrol : ByteArray := prog_9_method_35_code
def yX9_patrol : MethodName := ⟨RX9, "patrol", "(I)I"⟩
abbrev cX9_frameOf : ByteArray := prog_9_method_36_code
def yX9_frameOf : MethodName := ⟨RX9, "frameOf", "(I)I"⟩
abbrev cX9_use : ByteArray := prog_9_method_37_code
def yX9_use : MethodName := ⟨RX9, "use", "(LChipfieldModel$Frame;)V"⟩
abbrev cX9_room : ByteArray := prog_9_method_38_code
def yX9_room : MethodName := ⟨RX9, "room", "()I"⟩
abbrev cX9_keep : ByteArray := prog_9_method_39_code
def yX9_keep : MethodName := ⟨RX9, "keep", "(IJZ)I"⟩
abbrev cX9_load : ByteArray := prog_9_method_40_code
def yX9_load : MethodName := ⟨RX9, "load", "(I)J"⟩
abbrev cX9_store : ByteArray := prog_9_method_41_code
def yX9_store : MethodName := ⟨RX9, "store", "(IJ)I"⟩
abbrev cX9_dirty : ByteArray := prog_9_method_42_code
def yX9_dirty : MethodName := ⟨RX9, "dirty", "()I"⟩
abbrev cX9_flush : ByteArray := prog_9_method_43_code
def yX9_flush : MethodName := ⟨RX9, "flush", "()I"⟩
abbrev cX9_call : ByteArray := prog_9_method_44_code
def yX9_call : MethodName := ⟨RX9, "call", "()I"⟩
abbrev cX9_times : ByteArray := prog_9_method_45_code
def yX9_times : MethodName := ⟨RX9, "times", "(II)I"⟩
abbrev cX9_power : ByteArray := prog_9_method_46_code
def yX9_power : MethodName := ⟨RX9, "power", "(I)I"⟩
abbrev cX9_symbol : ByteArray := prog_9_method_47_code
def yX9_symbol : MethodName := ⟨RX9, "symbol", "(JI)I"⟩
abbrev cX9_fooled : ByteArray := prog_9_method_48_code
def yX9_fooled : MethodName := ⟨RX9, "fooled", "(IIIII)I"⟩
abbrev cX9_seen : ByteArray := prog_9_method_49_code
def yX9_seen : MethodName := ⟨RX9, "seen", "(II)I"⟩
abbrev cX9_sum : ByteArray := prog_9_method_50_code
def yX9_sum : MethodName := ⟨RX9, "sum", "(II)I"⟩
abbrev cX9_mendedNow : ByteArray := prog_9_method_51_code
def yX9_mendedNow : MethodName := ⟨RX9, "mendedNow", "([II)I"⟩
abbrev cX9_mended : ByteArray := prog_9_method_52_code
def yX9_mended : MethodName := ⟨RX9, "mended", "(I)I"⟩
abbrev cX9_data : ByteArray := prog_9_method_53_code
def yX9_data : MethodName := ⟨RX9, "data", "(I)J"⟩
abbrev cX9_ofChipNow : ByteArray := prog_9_method_54_code
def yX9_ofChipNow : MethodName := ⟨RX9, "ofChipNow", "(II)I"⟩
abbrev cX9_ofChip : ByteArray := prog_9_method_55_code
def yX9_ofChip : MethodName := ⟨RX9, "ofChip", "(II)I"⟩
abbrev cX9_stored : ByteArray := prog_9_method_56_code
def yX9_stored : MethodName := ⟨RX9, "stored", "(II)I"⟩
abbrev cX9_ofFrameNow : ByteArray := prog_9_method_57_code
def yX9_ofFrameNow : MethodName := ⟨RX9, "ofFrameNow", "(II)I"⟩
abbrev cX9_ofFrame : ByteArray := prog_9_method_58_code
def yX9_ofFrame : MethodName := ⟨RX9, "ofFrame", "(II)I"⟩
abbrev cX9_heldNow : ByteArray := prog_9_method_59_code
def yX9_heldNow : MethodName := ⟨RX9, "heldNow", "(I)J"⟩
abbrev cX9_held : ByteArray := prog_9_method_60_code
def yX9_held : MethodName := ⟨RX9, "held", "(I)J"⟩
abbrev cX9_bad : ByteArray := prog_9_method_61_code
def yX9_bad : MethodName := ⟨RX9, "bad", "()I"⟩
abbrev cX9_out : ByteArray := prog_9_method_62_code
def yX9_out : MethodName := ⟨RX9, "out", "()I"⟩
abbrev cX9_bankNow : ByteArray := prog_9_method_63_code
def yX9_bankNow : MethodName := ⟨RX9, "bankNow", "(II)I"⟩
abbrev cX9_bank : ByteArray := prog_9_method_64_code
def yX9_bank : MethodName := ⟨RX9, "bank", "(I)I"⟩
abbrev cX9_row : ByteArray := prog_9_method_65_code
def yX9_row : MethodName := ⟨RX9, "row", "(I)Ljava/lang/String;"⟩
abbrev cX9_wouldMend : ByteArray := prog_9_method_66_code
def yX9_wouldMend : MethodName := ⟨RX9, "wouldMend", "(II)I"⟩
abbrev cX9_spareNow : ByteArray := prog_9_method_67_code
def yX9_spareNow : MethodName := ⟨RX9, "spareNow", "(II)I"⟩
abbrev cX9_spare : ByteArray := prog_9_method_68_code
def yX9_spare : MethodName := ⟨RX9, "spare", "(I)I"⟩
abbrev cX9_wouldLose : ByteArray := prog_9_method_69_code
def yX9_wouldLose : MethodName := ⟨RX9, "wouldLose", "(II)I"⟩
abbrev cX9_health : ByteArray := prog_9_method_70_code
def yX9_health : MethodName := ⟨RX9, "health", "()D"⟩
abbrev cX9_isSoundNow : ByteArray := prog_9_method_71_code
def yX9_isSoundNow : MethodName := ⟨RX9, "isSoundNow", "()Z"⟩
abbrev cX9_isSound : ByteArray := prog_9_method_72_code
def yX9_isSound : MethodName := ⟨RX9, "isSound", "()Z"⟩
abbrev cX9_add : ByteArray := prog_9_method_73_code
def yX9_add : MethodName := ⟨RX9, "add", "(J)V"⟩
abbrev cX9_digest : ByteArray := prog_9_method_74_code
def yX9_digest : MethodName := ⟨RX9, "digest", "()J"⟩
def RJx145de : String := "java/io/Serializable"
def TJx145de : u_T := fun k => match k with
  | _ => ("", "", "", false)
def tyJx145de : Nat → FieldType := fun k => match k with
  | _ => .int
theorem nmJx145de : ∀ a, a < 0 → ∀ b, b < 0 → a ≠ b → (TJx145de a).2.1 ≠ (TJx145de b).2.1 := by decide +kernel
theorem tyJx145de_ok : ∀ k, k < 0 → parseFieldDescriptor (TJx145de k).2.2.1 = some (tyJx145de k) := by decide +kernel
def RJ5 : String := "java/lang/AbstractStringBuilder"
def TJ5 : u_T := fun k => match k with
  | _ => ("", "", "", false)
def tyJ5 : Nat → FieldType := fun k => match k with
  | _ => .int
theorem nmJ5 : ∀ a, a < 0 → ∀ b, b < 0 → a ≠ b → (TJ5 a).2.1 ≠ (TJ5 b).2.1 := by decide +kernel
theorem tyJ5_ok : ∀ k, k < 0 → parseFieldDescriptor (TJ5 k).2.2.1 = some (tyJ5 k) := by decide +kernel
abbrev cJ5_init_d00df : ByteArray := prog_13_method_2_code
def yJ5_init_d00df : MethodName := ⟨RJ5, "<init>", "(I)V"⟩
abbrev cJ5_length_8abf5 : ByteArray := prog_13_method_6_code
def yJ5_length_8abf5 : MethodName := ⟨RJ5, "length", "()I"⟩
abbrev cJ5_ensureCapacityInternal_d00df : ByteArray := prog_13_method_9_code
def yJ5_ensureCapacityInternal_d00df : MethodName := ⟨RJ5, "ensureCapacityInternal", "(I)V"⟩
abbrev cJ5_newCapacity_0f7a4 : ByteArray := prog_13_method_10_code
def yJ5_newCapacity_0f7a4 : MethodName := ⟨RJ5, "newCapacity", "(I)I"⟩
abbrev cJ5_inflate_da8c8 : ByteArray := prog_13_method_11_code
def yJ5_inflate_da8c8 : MethodName := ⟨RJ5, "inflate", "()V"⟩
abbrev cJ5_append_cf1ce : ByteArray := prog_13_method_22_code
def yJ5_append_cf1ce : MethodName := ⟨RJ5, "append", "(Ljava/lang/String;)Ljava/lang/AbstractStringBuilder;"⟩
abbrev cJ5_appendNull_278bc : ByteArray := prog_13_method_26_code
def yJ5_appendNull_278bc : MethodName := ⟨RJ5, "appendNull", "()Ljava/lang/AbstractStringBuilder;"⟩
abbrev cJ5_append_3fe6f : ByteArray := prog_13_method_31_code
def yJ5_append_3fe6f : MethodName := ⟨RJ5, "append", "(C)Ljava/lang/AbstractStringBuilder;"⟩
abbrev cJ5_append_c97b9 : ByteArray := prog_13_method_32_code
def yJ5_append_c97b9 : MethodName := ⟨RJ5, "append", "(I)Ljava/lang/AbstractStringBuilder;"⟩
abbrev cJ5_getValue_6d5f1 : ByteArray := prog_13_method_64_code
def yJ5_getValue_6d5f1 : MethodName := ⟨RJ5, "getValue", "()[B"⟩
abbrev cJ5_isLatin1_aae02 : ByteArray := prog_13_method_68_code
def yJ5_isLatin1_aae02 : MethodName := ⟨RJ5, "isLatin1", "()Z"⟩
abbrev cJ5_inflateIfNeededFor_a7421 : ByteArray := prog_13_method_71_code
def yJ5_inflateIfNeededFor_a7421 : MethodName := ⟨RJ5, "inflateIfNeededFor", "(Ljava/lang/String;)V"⟩
abbrev cJ5_putStringAt_47b60 : ByteArray := prog_13_method_73_code
def yJ5_putStringAt_47b60 : MethodName := ⟨RJ5, "putStringAt", "(ILjava/lang/String;)V"⟩
def RJx2cfe8 : String := "java/lang/Appendable"
def TJx2cfe8 : u_T := fun k => match k with
  | _ => ("", "", "", false)
def tyJx2cfe8 : Nat → FieldType := fun k => match k with
  | _ => .int
theorem nmJx2cfe8 : ∀ a, a < 0 → ∀ b, b < 0 → a ≠ b → (TJx2cfe8 a).2.1 ≠ (TJx2cfe8 b).2.1 := by decide +kernel
theorem tyJx2cfe8_ok : ∀ k, k < 0 → parseFieldDescriptor (TJx2cfe8 k).2.2.1 = some (tyJx2cfe8 k) := by decide +kernel
def RJx9f9b0 : String := "java/lang/CharSequence"
def TJx9f9b0 : u_T := fun k => match k with
  | _ => ("", "", "", false)
def tyJx9f9b0 : Nat → FieldType := fun k => match k with
  | _ => .int
theorem nmJx9f9b0 : ∀ a, a < 0 → ∀ b, b < 0 → a ≠ b → (TJx9f9b0 a).2.1 ≠ (TJx9f9b0 b).2.1 := by decide +kernel
theorem tyJx9f9b0_ok : ∀ k, k < 0 → parseFieldDescriptor (TJx9f9b0 k).2.2.1 = some (tyJx9f9b0 k) := by decide +kernel
def RJx8e188 : String := "java/lang/Cloneable"
def TJx8e188 : u_T := fun k => match k with
  | _ => ("", "", "", false)
def tyJx8e188 : Nat → FieldType := fun k => match k with
  | _ => .int
theorem nmJx8e188 : ∀ a, a < 0 → ∀ b, b < 0 → a ≠ b → (TJx8e188 a).2.1 ≠ (TJx8e188 b).2.1 := by decide +kernel
theorem tyJx8e188_ok : ∀ k, k < 0 → parseFieldDescriptor (TJx8e188 k).2.2.1 = some (tyJx8e188 k) := by decide +kernel
def RJxb160c : String := "java/lang/Comparable"
def TJxb160c : u_T := fun k => match k with
  | _ => ("", "", "", false)
def tyJxb160c : Nat → FieldType := fun k => match k with
  | _ => .int
theorem nmJxb160c : ∀ a, a < 0 → ∀ b, b < 0 → a ≠ b → (TJxb160c a).2.1 ≠ (TJxb160c b).2.1 := by decide +kernel
theorem tyJxb160c_ok : ∀ k, k < 0 → parseFieldDescriptor (TJxb160c k).2.2.1 = some (tyJxb160c k) := by decide +kernel
def RJ6 : String := "java/lang/Integer"
def TJ6 : u_T := fun k => match k with
  | _ => ("", "", "", false)
def tyJ6 : Nat → FieldType := fun k => match k with
  | _ => .int
theorem nmJ6 : ∀ a, a < 0 → ∀ b, b < 0 → a ≠ b → (TJ6 a).2.1 ≠ (TJ6 b).2.1 := by decide +kernel
theorem tyJ6_ok : ∀ k, k < 0 → parseFieldDescriptor (TJ6 k).2.2.1 = some (tyJ6 k) := by decide +kernel
abbrev cJ6_getChars_ba4f3 : ByteArray := prog_22_method_12_code
def yJ6_getChars_ba4f3 : MethodName := ⟨RJ6, "getChars", "(II[B)I"⟩
abbrev cJ6_stringSize_0f7a4 : ByteArray := prog_22_method_13_code
def yJ6_stringSize_0f7a4 : MethodName := ⟨RJ6, "stringSize", "(I)I"⟩
abbrev cJ6_bitCount_0f7a4 : ByteArray := prog_22_method_49_code
def yJ6_bitCount_0f7a4 : MethodName := ⟨RJ6, "bitCount", "(I)I"⟩
def RJxab1ab : String := "java/lang/Iterable"
def TJxab1ab : u_T := fun k => match k with
  | _ => ("", "", "", false)
def tyJxab1ab : Nat → FieldType := fun k => match k with
  | _ => .int
theorem nmJxab1ab : ∀ a, a < 0 → ∀ b, b < 0 → a ≠ b → (TJxab1ab a).2.1 ≠ (TJxab1ab b).2.1 := by decide +kernel
theorem tyJxab1ab_ok : ∀ k, k < 0 → parseFieldDescriptor (TJxab1ab k).2.2.1 = some (tyJxab1ab k) := by decide +kernel
def RJ9 : String := "java/lang/Math"
def TJ9 : u_T := fun k => match k with
  | _ => ("", "", "", false)
def tyJ9 : Nat → FieldType := fun k => match k with
  | _ => .int
theorem nmJ9 : ∀ a, a < 0 → ∀ b, b < 0 → a ≠ b → (TJ9 a).2.1 ≠ (TJ9 b).2.1 := by decide +kernel
theorem tyJ9_ok : ∀ k, k < 0 → parseFieldDescriptor (TJ9 k).2.2.1 = some (tyJ9 k) := by decide +kernel
abbrev cJ9_max_7cf53 : ByteArray := prog_24_method_65_code
def yJ9_max_7cf53 : MethodName := ⟨RJ9, "max", "(II)I"⟩
abbrev cJ9_min_7cf53 : ByteArray := prog_24_method_69_code
def yJ9_min_7cf53 : MethodName := ⟨RJ9, "min", "(II)I"⟩
def RJxd2413 : String := "java/lang/Number"
def TJxd2413 : u_T := fun k => match k with
  | _ => ("", "", "", false)
def tyJxd2413 : Nat → FieldType := fun k => match k with
  | _ => .int
theorem nmJxd2413 : ∀ a, a < 0 → ∀ b, b < 0 → a ≠ b → (TJxd2413 a).2.1 ≠ (TJxd2413 b).2.1 := by decide +kernel
theorem tyJxd2413_ok : ∀ k, k < 0 → parseFieldDescriptor (TJxd2413 k).2.2.1 = some (tyJxd2413 k) := by decide +kernel
def RJ0 : String := "java/lang/String"
def TJ0 : u_T := fun k => match k with
  | 0 => ("java/lang/String", "value", "[B", true)
  | 1 => ("java/lang/String", "coder", "B", true)
  | 2 => ("java/lang/String", "hash", "I", false)
  | _ => ("java/lang/String", "hashIsZero", "Z", false)
def tyJ0 : Nat → FieldType := fun k => match k with
  | 0 => .array .byte
  | 1 => .byte
  | 2 => .int
  | _ => .boolean
theorem nmJ0 : ∀ a, a < 4 → ∀ b, b < 4 → a ≠ b → (TJ0 a).2.1 ≠ (TJ0 b).2.1 := by decide +kernel
theorem tyJ0_ok : ∀ k, k < 4 → parseFieldDescriptor (TJ0 k).2.2.1 = some (tyJ0 k) := by decide +kernel
abbrev cJ0_init_81219 : ByteArray := prog_27_method_53_code
def yJ0_init_81219 : MethodName := ⟨RJ0, "<init>", "(Ljava/lang/StringBuilder;)V"⟩
abbrev cJ0_length_8abf5 : ByteArray := prog_27_method_54_code
def yJ0_length_8abf5 : MethodName := ⟨RJ0, "length", "()I"⟩
abbrev cJ0_equals_9ea2d : ByteArray := prog_27_method_66_code
def yJ0_equals_9ea2d : MethodName := ⟨RJ0, "equals", "(Ljava/lang/Object;)Z"⟩
abbrev cJ0_getBytes_840e7 : ByteArray := prog_27_method_147_code
def yJ0_getBytes_840e7 : MethodName := ⟨RJ0, "getBytes", "([BIB)V"⟩
abbrev cJ0_init_db425 : ByteArray := prog_27_method_150_code
def yJ0_init_db425 : MethodName := ⟨RJ0, "<init>", "(Ljava/lang/AbstractStringBuilder;Ljava/lang/Void;)V"⟩
abbrev cJ0_coder_7d493 : ByteArray := prog_27_method_152_code
def yJ0_coder_7d493 : MethodName := ⟨RJ0, "coder", "()B"⟩
abbrev cJ0_checkIndex_df160 : ByteArray := prog_27_method_155_code
def yJ0_checkIndex_df160 : MethodName := ⟨RJ0, "checkIndex", "(II)V"⟩
abbrev cJ0_checkBoundsOffCount_cabcc : ByteArray := prog_27_method_157_code
def yJ0_checkBoundsOffCount_cabcc : MethodName := ⟨RJ0, "checkBoundsOffCount", "(III)I"⟩
abbrev cJ0_checkBoundsBeginEnd_23922 : ByteArray := prog_27_method_158_code
def yJ0_checkBoundsBeginEnd_23922 : MethodName := ⟨RJ0, "checkBoundsBeginEnd", "(III)V"⟩
def RJ4 : String := "java/lang/StringBuilder"
def TJ4 : u_T := fun k => match k with
  | 0 => ("java/lang/AbstractStringBuilder", "value", "[B", false)
  | 1 => ("java/lang/AbstractStringBuilder", "coder", "B", false)
  | 2 => ("java/lang/AbstractStringBuilder", "maybeLatin1", "Z", false)
  | _ => ("java/lang/AbstractStringBuilder", "count", "I", false)
def tyJ4 : Nat → FieldType := fun k => match k with
  | 0 => .array .byte
  | 1 => .byte
  | 2 => .boolean
  | _ => .int
theorem nmJ4 : ∀ a, a < 4 → ∀ b, b < 4 → a ≠ b → (TJ4 a).2.1 ≠ (TJ4 b).2.1 := by decide +kernel
theorem tyJ4_ok : ∀ k, k < 4 → parseFieldDescriptor (TJ4 k).2.2.1 = some (tyJ4 k) := by decide +kernel
abbrev cJ4_init_da8c8 : ByteArray := prog_28_method_1_code
def yJ4_init_da8c8 : MethodName := ⟨RJ4, "<init>", "()V"⟩
abbrev cJ4_append_15ec4 : ByteArray := prog_28_method_7_code
def yJ4_append_15ec4 : MethodName := ⟨RJ4, "append", "(Ljava/lang/String;)Ljava/lang/StringBuilder;"⟩
abbrev cJ4_append_cf468 : ByteArray := prog_28_method_14_code
def yJ4_append_cf468 : MethodName := ⟨RJ4, "append", "(C)Ljava/lang/StringBuilder;"⟩
abbrev cJ4_append_bf812 : ByteArray := prog_28_method_15_code
def yJ4_append_bf812 : MethodName := ⟨RJ4, "append", "(I)Ljava/lang/StringBuilder;"⟩
abbrev cJ4_toString_0e30d : ByteArray := prog_28_method_42_code
def yJ4_toString_0e30d : MethodName := ⟨RJ4, "toString", "()Ljava/lang/String;"⟩
abbrev cJ4_length_8abf5 : ByteArray := prog_28_method_93_code
def yJ4_length_8abf5 : MethodName := ⟨RJ4, "length", "()I"⟩
def RJ1 : String := "java/lang/StringLatin1"
def TJ1 : u_T := fun k => match k with
  | _ => ("", "", "", false)
def tyJ1 : Nat → FieldType := fun k => match k with
  | _ => .int
theorem nmJ1 : ∀ a, a < 0 → ∀ b, b < 0 → a ≠ b → (TJ1 a).2.1 ≠ (TJ1 b).2.1 := by decide +kernel
theorem tyJ1_ok : ∀ k, k < 0 → parseFieldDescriptor (TJ1 k).2.2.1 = some (tyJ1 k) := by decide +kernel
abbrev cJ1_canEncode_fc78d : ByteArray := prog_29_method_3_code
def yJ1_canEncode_fc78d : MethodName := ⟨RJ1, "canEncode", "(C)Z"⟩
abbrev cJ1_equals_b5fdf : ByteArray := prog_29_method_13_code
def yJ1_equals_b5fdf : MethodName := ⟨RJ1, "equals", "([B[B)Z"⟩
abbrev cJ1_inflate_0e8fd : ByteArray := prog_29_method_50_code
def yJ1_inflate_0e8fd : MethodName := ⟨RJ1, "inflate", "([BI[BII)V"⟩
def RJ2 : String := "java/lang/StringUTF16"
def TJ2 : u_T := fun k => match k with
  | _ => ("", "", "", false)
def tyJ2 : Nat → FieldType := fun k => match k with
  | _ => .int
theorem nmJ2 : ∀ a, a < 0 → ∀ b, b < 0 → a ≠ b → (TJ2 a).2.1 ≠ (TJ2 b).2.1 := by decide +kernel
theorem tyJ2_ok : ∀ k, k < 0 → parseFieldDescriptor (TJ2 k).2.2.1 = some (tyJ2 k) := by decide +kernel
abbrev cJ2_newBytesFor_77867 : ByteArray := prog_30_method_2_code
def yJ2_newBytesFor_77867 : MethodName := ⟨RJ2, "newBytesFor", "(I)[B"⟩
abbrev cJ2_newBytesLength_0f7a4 : ByteArray := prog_30_method_3_code
def yJ2_newBytesLength_0f7a4 : MethodName := ⟨RJ2, "newBytesLength", "(I)I"⟩
abbrev cJ2_putChar_b72d1 : ByteArray := prog_30_method_4_code
def yJ2_putChar_b72d1 : MethodName := ⟨RJ2, "putChar", "([BII)V"⟩
abbrev cJ2_getChar_3b067 : ByteArray := prog_30_method_5_code
def yJ2_getChar_3b067 : MethodName := ⟨RJ2, "getChar", "([BI)C"⟩
abbrev cJ2_length_9d52b : ByteArray := prog_30_method_6_code
def yJ2_length_9d52b : MethodName := ⟨RJ2, "length", "([B)I"⟩
abbrev cJ2_coderFromArrayLen_85cad : ByteArray := prog_30_method_15_code
def yJ2_coderFromArrayLen_85cad : MethodName := ⟨RJ2, "coderFromArrayLen", "([BI)B"⟩
abbrev cJ2_compress_39247 : ByteArray := prog_30_method_17_code
def yJ2_compress_39247 : MethodName := ⟨RJ2, "compress", "([BII)[B"⟩
abbrev cJ2_compress_5af95 : ByteArray := prog_30_method_22_code
def yJ2_compress_5af95 : MethodName := ⟨RJ2, "compress", "([BI[BII)I"⟩
abbrev cJ2_putCharSB_b72d1 : ByteArray := prog_30_method_71_code
def yJ2_putCharSB_b72d1 : MethodName := ⟨RJ2, "putCharSB", "([BII)V"⟩
abbrev cJ2_getChars_46870 : ByteArray := prog_30_method_77_code
def yJ2_getChars_46870 : MethodName := ⟨RJ2, "getChars", "(III[B)I"⟩
abbrev cJ2_putCharsAt_cd4e5 : ByteArray := prog_30_method_81_code
def yJ2_putCharsAt_cd4e5 : MethodName := ⟨RJ2, "putCharsAt", "([BICCCC)I"⟩
abbrev cJ2_inflate_0e8fd : ByteArray := prog_30_method_86_code
def yJ2_inflate_0e8fd : MethodName := ⟨RJ2, "inflate", "([BI[BII)V"⟩
abbrev cJ2_getChars_ba4f3 : ByteArray := prog_30_method_89_code
def yJ2_getChars_ba4f3 : MethodName := ⟨RJ2, "getChars", "(II[B)I"⟩
abbrev cJ2_checkIndex_2214a : ByteArray := prog_30_method_91_code
def yJ2_checkIndex_2214a : MethodName := ⟨RJ2, "checkIndex", "(I[B)V"⟩
abbrev cJ2_checkBoundsBeginEnd_d044e : ByteArray := prog_30_method_93_code
def yJ2_checkBoundsBeginEnd_d044e : MethodName := ⟨RJ2, "checkBoundsBeginEnd", "(II[B)V"⟩
abbrev cJ2_checkBoundsOffCount_d044e : ByteArray := prog_30_method_94_code
def yJ2_checkBoundsOffCount_d044e : MethodName := ⟨RJ2, "checkBoundsOffCount", "(II[B)V"⟩
def RJ10 : String := "java/lang/System"
def TJ10 : u_T := fun k => match k with
  | _ => ("", "", "", false)
def tyJ10 : Nat → FieldType := fun k => match k with
  | _ => .int
theorem nmJ10 : ∀ a, a < 0 → ∀ b, b < 0 → a ≠ b → (TJ10 a).2.1 ≠ (TJ10 b).2.1 := by decide +kernel
theorem tyJ10_ok : ∀ k, k < 0 → parseFieldDescriptor (TJ10 k).2.2.1 = some (tyJ10 k) := by decide +kernel
def RJxfd54e : String := "java/lang/constant/Constable"
def TJxfd54e : u_T := fun k => match k with
  | _ => ("", "", "", false)
def tyJxfd54e : Nat → FieldType := fun k => match k with
  | _ => .int
theorem nmJxfd54e : ∀ a, a < 0 → ∀ b, b < 0 → a ≠ b → (TJxfd54e a).2.1 ≠ (TJxfd54e b).2.1 := by decide +kernel
theorem tyJxfd54e_ok : ∀ k, k < 0 → parseFieldDescriptor (TJxfd54e k).2.2.1 = some (tyJxfd54e k) := by decide +kernel
def RJx3cf43 : String := "java/lang/constant/ConstantDesc"
def TJx3cf43 : u_T := fun k => match k with
  | _ => ("", "", "", false)
def tyJx3cf43 : Nat → FieldType := fun k => match k with
  | _ => .int
theorem nmJx3cf43 : ∀ a, a < 0 → ∀ b, b < 0 → a ≠ b → (TJx3cf43 a).2.1 ≠ (TJx3cf43 b).2.1 := by decide +kernel
theorem tyJx3cf43_ok : ∀ k, k < 0 → parseFieldDescriptor (TJx3cf43 k).2.2.1 = some (tyJx3cf43 k) := by decide +kernel
def RJxa1e45 : String := "java/util/AbstractCollection"
def TJxa1e45 : u_T := fun k => match k with
  | _ => ("", "", "", false)
def tyJxa1e45 : Nat → FieldType := fun k => match k with
  | _ => .int
theorem nmJxa1e45 : ∀ a, a < 0 → ∀ b, b < 0 → a ≠ b → (TJxa1e45 a).2.1 ≠ (TJxa1e45 b).2.1 := by decide +kernel
theorem tyJxa1e45_ok : ∀ k, k < 0 → parseFieldDescriptor (TJxa1e45 k).2.2.1 = some (tyJxa1e45 k) := by decide +kernel
abbrev cJxa1e45_init_da8c8 : ByteArray := prog_35_method_1_code
def yJxa1e45_init_da8c8 : MethodName := ⟨RJxa1e45, "<init>", "()V"⟩
def RJxc12de : String := "java/util/AbstractList"
def TJxc12de : u_T := fun k => match k with
  | _ => ("", "", "", false)
def tyJxc12de : Nat → FieldType := fun k => match k with
  | _ => .int
theorem nmJxc12de : ∀ a, a < 0 → ∀ b, b < 0 → a ≠ b → (TJxc12de a).2.1 ≠ (TJxc12de b).2.1 := by decide +kernel
theorem tyJxc12de_ok : ∀ k, k < 0 → parseFieldDescriptor (TJxc12de k).2.2.1 = some (tyJxc12de k) := by decide +kernel
abbrev cJxc12de_init_da8c8 : ByteArray := prog_36_method_1_code
def yJxc12de_init_da8c8 : MethodName := ⟨RJxc12de, "<init>", "()V"⟩
def RJx4a65c : String := "java/util/ArrayList"
def TJx4a65c : u_T := fun k => match k with
  | 0 => ("java/util/AbstractList", "modCount", "I", false)
  | 1 => ("java/util/ArrayList", "elementData", "[Ljava/lang/Object;", false)
  | _ => ("java/util/ArrayList", "size", "I", false)
def tyJx4a65c : Nat → FieldType := fun k => match k with
  | 0 => .int
  | 1 => .array (.object "java/lang/Object")
  | _ => .int
theorem nmJx4a65c : ∀ a, a < 3 → ∀ b, b < 3 → a ≠ b → (TJx4a65c a).2.1 ≠ (TJx4a65c b).2.1 := by decide +kernel
theorem tyJx4a65c_ok : ∀ k, k < 3 → parseFieldDescriptor (TJx4a65c k).2.2.1 = some (tyJx4a65c k) := by decide +kernel
abbrev cJx4a65c_init_da8c8 : ByteArray := prog_37_method_2_code
def yJx4a65c_init_da8c8 : MethodName := ⟨RJx4a65c, "<init>", "()V"⟩
abbrev cJx4a65c_grow_92f84 : ByteArray := prog_37_method_6_code
def yJx4a65c_grow_92f84 : MethodName := ⟨RJx4a65c, "grow", "(I)[Ljava/lang/Object;"⟩
abbrev cJx4a65c_grow_d5877 : ByteArray := prog_37_method_7_code
def yJx4a65c_grow_d5877 : MethodName := ⟨RJx4a65c, "grow", "()[Ljava/lang/Object;"⟩
abbrev cJx4a65c_elementData_915e3 : ByteArray := prog_37_method_18_code
def yJx4a65c_elementData_915e3 : MethodName := ⟨RJx4a65c, "elementData", "(I)Ljava/lang/Object;"⟩
abbrev cJx4a65c_get_915e3 : ByteArray := prog_37_method_20_code
def yJx4a65c_get_915e3 : MethodName := ⟨RJx4a65c, "get", "(I)Ljava/lang/Object;"⟩
abbrev cJx4a65c_add_72be8 : ByteArray := prog_37_method_24_code
def yJx4a65c_add_72be8 : MethodName := ⟨RJx4a65c, "add", "(Ljava/lang/Object;[Ljava/lang/Object;I)V"⟩
abbrev cJx4a65c_add_9ea2d : ByteArray := prog_37_method_25_code
def yJx4a65c_add_9ea2d : MethodName := ⟨RJx4a65c, "add", "(Ljava/lang/Object;)Z"⟩
def RJ7 : String := "java/util/Arrays"
def TJ7 : u_T := fun k => match k with
  | _ => ("", "", "", false)
def tyJ7 : Nat → FieldType := fun k => match k with
  | _ => .int
theorem nmJ7 : ∀ a, a < 0 → ∀ b, b < 0 → a ≠ b → (TJ7 a).2.1 ≠ (TJ7 b).2.1 := by decide +kernel
theorem tyJ7_ok : ∀ k, k < 0 → parseFieldDescriptor (TJ7 k).2.2.1 = some (tyJ7 k) := by decide +kernel
abbrev cJ7_copyOf_1904c : ByteArray := prog_38_method_119_code
def yJ7_copyOf_1904c : MethodName := ⟨RJ7, "copyOf", "([Ljava/lang/Object;I)[Ljava/lang/Object;"⟩
abbrev cJ7_copyOf_6403c : ByteArray := prog_38_method_120_code
def yJ7_copyOf_6403c : MethodName := ⟨RJ7, "copyOf", "([Ljava/lang/Object;ILjava/lang/Class;)[Ljava/lang/Object;"⟩
abbrev cJ7_copyOf_9075b : ByteArray := prog_38_method_121_code
def yJ7_copyOf_9075b : MethodName := ⟨RJ7, "copyOf", "([BI)[B"⟩
abbrev cJ7_checkLength_df160 : ByteArray := prog_38_method_131_code
def yJ7_checkLength_df160 : MethodName := ⟨RJ7, "checkLength", "(II)V"⟩
abbrev cJ7_copyOfRange_39247 : ByteArray := prog_38_method_132_code
def yJ7_copyOfRange_39247 : MethodName := ⟨RJ7, "copyOfRange", "([BII)[B"⟩
abbrev cJ7_copyOfRangeByte_39247 : ByteArray := prog_38_method_133_code
def yJ7_copyOfRangeByte_39247 : MethodName := ⟨RJ7, "copyOfRangeByte", "([BII)[B"⟩
def RJx5ef63 : String := "java/util/Collection"
def TJx5ef63 : u_T := fun k => match k with
  | _ => ("", "", "", false)
def tyJx5ef63 : Nat → FieldType := fun k => match k with
  | _ => .int
theorem nmJx5ef63 : ∀ a, a < 0 → ∀ b, b < 0 → a ≠ b → (TJx5ef63 a).2.1 ≠ (TJx5ef63 b).2.1 := by decide +kernel
theorem tyJx5ef63_ok : ∀ k, k < 0 → parseFieldDescriptor (TJx5ef63 k).2.2.1 = some (tyJx5ef63 k) := by decide +kernel
def RJxbd725 : String := "java/util/List"
def TJxbd725 : u_T := fun k => match k with
  | _ => ("", "", "", false)
def tyJxbd725 : Nat → FieldType := fun k => match k with
  | _ => .int
theorem nmJxbd725 : ∀ a, a < 0 → ∀ b, b < 0 → a ≠ b → (TJxbd725 a).2.1 ≠ (TJxbd725 b).2.1 := by decide +kernel
theorem tyJxbd725_ok : ∀ k, k < 0 → parseFieldDescriptor (TJxbd725 k).2.2.1 = some (tyJxbd725 k) := by decide +kernel
def RJ15 : String := "java/util/Objects"
def TJ15 : u_T := fun k => match k with
  | _ => ("", "", "", false)
def tyJ15 : Nat → FieldType := fun k => match k with
  | _ => .int
theorem nmJ15 : ∀ a, a < 0 → ∀ b, b < 0 → a ≠ b → (TJ15 a).2.1 ≠ (TJ15 b).2.1 := by decide +kernel
theorem tyJ15_ok : ∀ k, k < 0 → parseFieldDescriptor (TJ15 k).2.2.1 = some (tyJ15 k) := by decide +kernel
abbrev cJ15_checkIndex_7cf53 : ByteArray := prog_41_method_17_code
def yJ15_checkIndex_7cf53 : MethodName := ⟨RJ15, "checkIndex", "(II)I"⟩
def RJxf0a74 : String := "java/util/RandomAccess"
def TJxf0a74 : u_T := fun k => match k with
  | _ => ("", "", "", false)
def tyJxf0a74 : Nat → FieldType := fun k => match k with
  | _ => .int
theorem nmJxf0a74 : ∀ a, a < 0 → ∀ b, b < 0 → a ≠ b → (TJxf0a74 a).2.1 ≠ (TJxf0a74 b).2.1 := by decide +kernel
theorem tyJxf0a74_ok : ∀ k, k < 0 → parseFieldDescriptor (TJxf0a74 k).2.2.1 = some (tyJxf0a74 k) := by decide +kernel
def RJxa66e6 : String := "java/util/SequencedCollection"
def TJxa66e6 : u_T := fun k => match k with
  | _ => ("", "", "", false)
def tyJxa66e6 : Nat → FieldType := fun k => match k with
  | _ => .int
theorem nmJxa66e6 : ∀ a, a < 0 → ∀ b, b < 0 → a ≠ b → (TJxa66e6 a).2.1 ≠ (TJxa66e6 b).2.1 := by decide +kernel
theorem tyJxa66e6_ok : ∀ k, k < 0 → parseFieldDescriptor (TJxa66e6 k).2.2.1 = some (tyJxa66e6 k) := by decide +kernel
def RJ8 : String := "jdk/internal/util/ArraysSupport"
def TJ8 : u_T := fun k => match k with
  | _ => ("", "", "", false)
def tyJ8 : Nat → FieldType := fun k => match k with
  | _ => .int
theorem nmJ8 : ∀ a, a < 0 → ∀ b, b < 0 → a ≠ b → (TJ8 a).2.1 ≠ (TJ8 b).2.1 := by decide +kernel
theorem tyJ8_ok : ∀ k, k < 0 → parseFieldDescriptor (TJ8 k).2.2.1 = some (tyJ8 k) := by decide +kernel
abbrev cJ8_newLength_cabcc : ByteArray := prog_44_method_27_code
def yJ8_newLength_cabcc : MethodName := ⟨RJ8, "newLength", "(III)I"⟩
abbrev cJ8_hugeLength_7cf53 : ByteArray := prog_44_method_28_code
def yJ8_hugeLength_7cf53 : MethodName := ⟨RJ8, "hugeLength", "(II)I"⟩
def RJ3 : String := "jdk/internal/util/Preconditions"
def TJ3 : u_T := fun k => match k with
  | _ => ("", "", "", false)
def tyJ3 : Nat → FieldType := fun k => match k with
  | _ => .int
theorem nmJ3 : ∀ a, a < 0 → ∀ b, b < 0 → a ≠ b → (TJ3 a).2.1 ≠ (TJ3 b).2.1 := by decide +kernel
theorem tyJ3_ok : ∀ k, k < 0 → parseFieldDescriptor (TJ3 k).2.2.1 = some (tyJ3 k) := by decide +kernel
abbrev cJ3_checkIndex_8e157 : ByteArray := prog_45_method_11_code
def yJ3_checkIndex_8e157 : MethodName := ⟨RJ3, "checkIndex", "(IILjava/util/function/BiFunction;)I"⟩
abbrev cJ3_checkFromToIndex_8c36e : ByteArray := prog_45_method_12_code
def yJ3_checkFromToIndex_8c36e : MethodName := ⟨RJ3, "checkFromToIndex", "(IIILjava/util/function/BiFunction;)I"⟩
abbrev cJ3_checkFromIndexSize_8c36e : ByteArray := prog_45_method_13_code
def yJ3_checkFromIndexSize_8c36e : MethodName := ⟨RJ3, "checkFromIndexSize", "(IIILjava/util/function/BiFunction;)I"⟩
def RL : String := "ChipfieldLaw"
abbrev cL_write : ByteArray := method_2_code
def yL_write : MethodName := ⟨RL, "write", "(LChipfield;IJLChipfieldLaw$Out;)I"⟩
abbrev cL_stick : ByteArray := method_3_code
def yL_stick : MethodName := ⟨RL, "stick", "(LChipfield;IIIILChipfieldLaw$Out;)I"⟩
abbrev cL_mad : ByteArray := method_4_code
def yL_mad : MethodName := ⟨RL, "mad", "(LChipfield;IILChipfieldLaw$Out;)I"⟩
abbrev cL_ray : ByteArray := method_5_code
def yL_ray : MethodName := ⟨RL, "ray", "(LChipfield;IIILChipfieldLaw$Out;)I"⟩
abbrev cL_erase : ByteArray := method_6_code
def yL_erase : MethodName := ⟨RL, "erase", "(LChipfield;IZLChipfieldLaw$Out;)I"⟩
abbrev cL_replace : ByteArray := method_7_code
def yL_replace : MethodName := ⟨RL, "replace", "(LChipfield;ILChipfieldLaw$Out;)I"⟩
abbrev cL_limit : ByteArray := method_8_code
def yL_limit : MethodName := ⟨RL, "limit", "(LChipfield;ILChipfieldLaw$Out;)I"⟩
abbrev cL_fetch : ByteArray := method_9_code
def yL_fetch : MethodName := ⟨RL, "fetch", "(LChipfield;ILChipfieldLaw$Out;)I"⟩
abbrev cL_patrol : ByteArray := method_10_code
def yL_patrol : MethodName := ⟨RL, "patrol", "(LChipfield;ILChipfieldLaw$Out;)I"⟩
abbrev cL_load : ByteArray := method_11_code
def yL_load : MethodName := ⟨RL, "load", "(LChipfield;ILChipfieldLaw$Out;)I"⟩
abbrev cL_store : ByteArray := method_12_code
def yL_store : MethodName := ⟨RL, "store", "(LChipfield;IJLChipfieldLaw$Out;)I"⟩
abbrev cL_times : ByteArray := method_13_code
def yL_times : MethodName := ⟨RL, "times", "(LChipfield;IILChipfieldLaw$Out;)I"⟩
abbrev cL_power : ByteArray := method_14_code
def yL_power : MethodName := ⟨RL, "power", "(LChipfield;ILChipfieldLaw$Out;)I"⟩
abbrev cL_symbol : ByteArray := method_15_code
def yL_symbol : MethodName := ⟨RL, "symbol", "(LChipfield;JILChipfieldLaw$Out;)I"⟩
abbrev cL_fooled : ByteArray := method_16_code
def yL_fooled : MethodName := ⟨RL, "fooled", "(LChipfield;IIIIILChipfieldLaw$Out;)I"⟩
abbrev cL_seen : ByteArray := method_17_code
def yL_seen : MethodName := ⟨RL, "seen", "(LChipfield;IILChipfieldLaw$Out;)I"⟩
abbrev cL_sum : ByteArray := method_18_code
def yL_sum : MethodName := ⟨RL, "sum", "(LChipfield;IILChipfieldLaw$Out;)I"⟩
abbrev cL_mended : ByteArray := method_19_code
def yL_mended : MethodName := ⟨RL, "mended", "(LChipfield;ILChipfieldLaw$Out;)I"⟩
abbrev cL_data : ByteArray := method_20_code
def yL_data : MethodName := ⟨RL, "data", "(LChipfield;ILChipfieldLaw$Out;)I"⟩
abbrev cL_ofChip : ByteArray := method_21_code
def yL_ofChip : MethodName := ⟨RL, "ofChip", "(LChipfield;IILChipfieldLaw$Out;)I"⟩
abbrev cL_stored : ByteArray := method_22_code
def yL_stored : MethodName := ⟨RL, "stored", "(LChipfield;IILChipfieldLaw$Out;)I"⟩
abbrev cL_ofFrame : ByteArray := method_23_code
def yL_ofFrame : MethodName := ⟨RL, "ofFrame", "(LChipfield;IILChipfieldLaw$Out;)I"⟩
abbrev cL_held : ByteArray := method_24_code
def yL_held : MethodName := ⟨RL, "held", "(LChipfield;ILChipfieldLaw$Out;)I"⟩
abbrev cL_bank : ByteArray := method_25_code
def yL_bank : MethodName := ⟨RL, "bank", "(LChipfield;ILChipfieldLaw$Out;)I"⟩
abbrev cL_row : ByteArray := method_26_code
def yL_row : MethodName := ⟨RL, "row", "(LChipfield;ILChipfieldLaw$Out;)I"⟩
abbrev cL_wouldMend : ByteArray := method_27_code
def yL_wouldMend : MethodName := ⟨RL, "wouldMend", "(LChipfield;IILChipfieldLaw$Out;)I"⟩
abbrev cL_spare : ByteArray := method_28_code
def yL_spare : MethodName := ⟨RL, "spare", "(LChipfield;ILChipfieldLaw$Out;)I"⟩
abbrev cL_wouldLose : ByteArray := method_29_code
def yL_wouldLose : MethodName := ⟨RL, "wouldLose", "(LChipfield;IILChipfieldLaw$Out;)I"⟩
abbrev cL_law : ByteArray := code
def yL_law : MethodName := ⟨RL, "law", "([I)Z"⟩
