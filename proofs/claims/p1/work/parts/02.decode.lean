theorem dX0_init_1 : decode cX0_init 1 = .ok (.invokespecial 3, 3) := by decide +kernel
theorem dX0_init_6 : decode cX0_init 6 = .ok (.anewarray 9, 3) := by decide +kernel
theorem dX0_init_9 : decode cX0_init 9 = .ok (.putfield 11, 3) := by decide +kernel
theorem dX0_init_14 : decode cX0_init 14 = .ok (.putfield 17, 3) := by decide +kernel
theorem dX0_init_19 : decode cX0_init 19 = .ok (.putfield 21, 3) := by decide +kernel
theorem dX0_init_24 : decode cX0_init 24 = .ok (.putfield 24, 3) := by decide +kernel
theorem dX0_init_29 : decode cX0_init 29 = .ok (.putfield 27, 3) := by decide +kernel
theorem dX0_init_36 : decode cX0_init 36 = .ok (.if_icmp .ge 23, 3) := by decide +kernel
theorem dX0_init_40 : decode cX0_init 40 = .ok (.getfield 11, 3) := by decide +kernel
theorem dX0_init_44 : decode cX0_init 44 = .ok (.new 9, 3) := by decide +kernel
theorem dX0_init_49 : decode cX0_init 49 = .ok (.invokespecial 31, 3) := by decide +kernel
theorem dX0_init_52 : decode cX0_init 52 = .ok (.aastore, 1) := by decide +kernel
theorem dX0_init_59 : decode cX0_init 59 = .ok (.return_, 1) := by decide +kernel
theorem dX0_wordThrough_2 : decode cX0_wordThrough 2 = .ok (.invokevirtual 34, 3) := by decide +kernel
theorem dX0_wordThrough_7 : decode cX0_wordThrough 7 = .ok (.ifnull 23, 3) := by decide +kernel
theorem dX0_wordThrough_12 : decode cX0_wordThrough 12 = .ok (.getfield 17, 3) := by decide +kernel
theorem dX0_wordThrough_17 : decode cX0_wordThrough 17 = .ok (.putfield 17, 3) := by decide +kernel
theorem dX0_wordThrough_22 : decode cX0_wordThrough 22 = .ok (.invokevirtual 38, 3) := by decide +kernel
theorem dX0_wordThrough_26 : decode cX0_wordThrough 26 = .ok (.getfield 42, 3) := by decide +kernel
theorem dX0_wordThrough_29 : decode cX0_wordThrough 29 = .ok (.lreturn, 1) := by decide +kernel
theorem dX0_wordThrough_32 : decode cX0_wordThrough 32 = .ok (.getfield 21, 3) := by decide +kernel
theorem dX0_wordThrough_37 : decode cX0_wordThrough 37 = .ok (.putfield 21, 3) := by decide +kernel
theorem dX0_wordThrough_41 : decode cX0_wordThrough 41 = .ok (.getfield 27, 3) := by decide +kernel
theorem dX0_wordThrough_45 : decode cX0_wordThrough 45 = .ok (.invokevirtual 46, 3) := by decide +kernel
theorem dX0_wordThrough_50 : decode cX0_wordThrough 50 = .ok (.ldc2_w 52, 3) := by decide +kernel
theorem dX0_wordThrough_54 : decode cX0_wordThrough 54 = .ok (.ifCond .eq 13, 3) := by decide +kernel
theorem dX0_wordThrough_59 : decode cX0_wordThrough 59 = .ok (.invokevirtual 54, 3) := by decide +kernel
theorem dX0_wordThrough_64 : decode cX0_wordThrough 64 = .ok (.invokevirtual 58, 3) := by decide +kernel
theorem dX0_wordThrough_68 : decode cX0_wordThrough 68 = .ok (.lreturn, 1) := by decide +kernel
theorem dX0_keepDirty_2 : decode cX0_keepDirty 2 = .ok (.invokevirtual 34, 3) := by decide +kernel
theorem dX0_keepDirty_9 : decode cX0_keepDirty 9 = .ok (.ifnull 16, 3) := by decide +kernel
theorem dX0_keepDirty_14 : decode cX0_keepDirty 14 = .ok (.getfield 17, 3) := by decide +kernel
theorem dX0_keepDirty_19 : decode cX0_keepDirty 19 = .ok (.putfield 17, 3) := by decide +kernel
theorem dX0_keepDirty_27 : decode cX0_keepDirty 27 = .ok (.getfield 21, 3) := by decide +kernel
theorem dX0_keepDirty_32 : decode cX0_keepDirty 32 = .ok (.putfield 21, 3) := by decide +kernel
theorem dX0_keepDirty_36 : decode cX0_keepDirty 36 = .ok (.invokevirtual 54, 3) := by decide +kernel
theorem dX0_keepDirty_46 : decode cX0_keepDirty 46 = .ok (.invokevirtual 58, 3) := by decide +kernel
theorem dX0_keepDirty_52 : decode cX0_keepDirty 52 = .ok (.putfield 62, 3) := by decide +kernel
theorem dX0_keepDirty_57 : decode cX0_keepDirty 57 = .ok (.getfield 66, 3) := by decide +kernel
theorem dX0_keepDirty_60 : decode cX0_keepDirty 60 = .ok (.ireturn, 1) := by decide +kernel
theorem dX0_writeBackAll_1 : decode cX0_writeBackAll 1 = .ok (.invokevirtual 69, 3) := by decide +kernel
theorem dX0_writeBackAll_9 : decode cX0_writeBackAll 9 = .ok (.if_icmp .ge 19, 3) := by decide +kernel
theorem dX0_writeBackAll_14 : decode cX0_writeBackAll 14 = .ok (.getfield 11, 3) := by decide +kernel
theorem dX0_writeBackAll_18 : decode cX0_writeBackAll 18 = .ok (.aaload, 1) := by decide +kernel
theorem dX0_writeBackAll_19 : decode cX0_writeBackAll 19 = .ok (.invokevirtual 73, 3) := by decide +kernel
theorem dX0_writeBackAll_29 : decode cX0_writeBackAll 29 = .ok (.ireturn, 1) := by decide +kernel
theorem dX0_dirtyFrames_6 : decode cX0_dirtyFrames 6 = .ok (.if_icmp .ge 24, 3) := by decide +kernel
theorem dX0_dirtyFrames_10 : decode cX0_dirtyFrames 10 = .ok (.getfield 11, 3) := by decide +kernel
theorem dX0_dirtyFrames_14 : decode cX0_dirtyFrames 14 = .ok (.aaload, 1) := by decide +kernel
theorem dX0_dirtyFrames_15 : decode cX0_dirtyFrames 15 = .ok (.getfield 62, 3) := by decide +kernel
theorem dX0_dirtyFrames_18 : decode cX0_dirtyFrames 18 = .ok (.ifCond .eq 6, 3) := by decide +kernel
theorem dX0_dirtyFrames_31 : decode cX0_dirtyFrames 31 = .ok (.ireturn, 1) := by decide +kernel
theorem dX0_areFramesSound_4 : decode cX0_areFramesSound 4 = .ok (.if_icmp .ge 94, 3) := by decide +kernel
theorem dX0_areFramesSound_13 : decode cX0_areFramesSound 13 = .ok (.if_icmp .ge 79, 3) := by decide +kernel
theorem dX0_areFramesSound_17 : decode cX0_areFramesSound 17 = .ok (.getfield 11, 3) := by decide +kernel
theorem dX0_areFramesSound_21 : decode cX0_areFramesSound 21 = .ok (.aaload, 1) := by decide +kernel
theorem dX0_areFramesSound_24 : decode cX0_areFramesSound 24 = .ok (.getfield 11, 3) := by decide +kernel
theorem dX0_areFramesSound_28 : decode cX0_areFramesSound 28 = .ok (.aaload, 1) := by decide +kernel
theorem dX0_areFramesSound_32 : decode cX0_areFramesSound 32 = .ok (.getfield 76, 3) := by decide +kernel
theorem dX0_areFramesSound_37 : decode cX0_areFramesSound 37 = .ok (.getfield 76, 3) := by decide +kernel
theorem dX0_areFramesSound_40 : decode cX0_areFramesSound 40 = .ok (.if_icmp .eq 15, 3) := by decide +kernel
theorem dX0_areFramesSound_44 : decode cX0_areFramesSound 44 = .ok (.getfield 79, 3) := by decide +kernel
theorem dX0_areFramesSound_49 : decode cX0_areFramesSound 49 = .ok (.getfield 79, 3) := by decide +kernel
theorem dX0_areFramesSound_52 : decode cX0_areFramesSound 52 = .ok (.if_icmp .ne 7, 3) := by decide +kernel
theorem dX0_areFramesSound_63 : decode cX0_areFramesSound 63 = .ok (.getfield 76, 3) := by decide +kernel
theorem dX0_areFramesSound_67 : decode cX0_areFramesSound 67 = .ok (.if_icmp .eq 19, 3) := by decide +kernel
theorem dX0_areFramesSound_72 : decode cX0_areFramesSound 72 = .ok (.getfield 76, 3) := by decide +kernel
theorem dX0_areFramesSound_76 : decode cX0_areFramesSound 76 = .ok (.if_icmp .eq 10, 3) := by decide +kernel
theorem dX0_areFramesSound_81 : decode cX0_areFramesSound 81 = .ok (.ifCond .eq 5, 3) := by decide +kernel
theorem dX0_areFramesSound_85 : decode cX0_areFramesSound 85 = .ok (.ireturn, 1) := by decide +kernel
theorem dX0_areFramesSound_99 : decode cX0_areFramesSound 99 = .ok (.ireturn, 1) := by decide +kernel
theorem dX0_frameOf_4 : decode cX0_frameOf 4 = .ok (.if_icmp .ge 29, 3) := by decide +kernel
theorem dX0_frameOf_8 : decode cX0_frameOf 8 = .ok (.getfield 11, 3) := by decide +kernel
theorem dX0_frameOf_12 : decode cX0_frameOf 12 = .ok (.aaload, 1) := by decide +kernel
theorem dX0_frameOf_13 : decode cX0_frameOf 13 = .ok (.getfield 76, 3) := by decide +kernel
theorem dX0_frameOf_17 : decode cX0_frameOf 17 = .ok (.if_icmp .ne 10, 3) := by decide +kernel
theorem dX0_frameOf_21 : decode cX0_frameOf 21 = .ok (.getfield 11, 3) := by decide +kernel
theorem dX0_frameOf_25 : decode cX0_frameOf 25 = .ok (.aaload, 1) := by decide +kernel
theorem dX0_frameOf_26 : decode cX0_frameOf 26 = .ok (.areturn, 1) := by decide +kernel
theorem dX0_frameOf_34 : decode cX0_frameOf 34 = .ok (.areturn, 1) := by decide +kernel
theorem dX0_frameToFill_1 : decode cX0_frameToFill 1 = .ok (.getfield 11, 3) := by decide +kernel
theorem dX0_frameToFill_5 : decode cX0_frameToFill 5 = .ok (.aaload, 1) := by decide +kernel
theorem dX0_frameToFill_11 : decode cX0_frameToFill 11 = .ok (.if_icmp .ge 32, 3) := by decide +kernel
theorem dX0_frameToFill_15 : decode cX0_frameToFill 15 = .ok (.getfield 11, 3) := by decide +kernel
theorem dX0_frameToFill_19 : decode cX0_frameToFill 19 = .ok (.aaload, 1) := by decide +kernel
theorem dX0_frameToFill_20 : decode cX0_frameToFill 20 = .ok (.getfield 79, 3) := by decide +kernel
theorem dX0_frameToFill_24 : decode cX0_frameToFill 24 = .ok (.getfield 79, 3) := by decide +kernel
theorem dX0_frameToFill_27 : decode cX0_frameToFill 27 = .ok (.if_icmp .ge 10, 3) := by decide +kernel
theorem dX0_frameToFill_31 : decode cX0_frameToFill 31 = .ok (.getfield 11, 3) := by decide +kernel
theorem dX0_frameToFill_35 : decode cX0_frameToFill 35 = .ok (.aaload, 1) := by decide +kernel
theorem dX0_frameToFill_45 : decode cX0_frameToFill 45 = .ok (.invokevirtual 73, 3) := by decide +kernel
theorem dX0_frameToFill_49 : decode cX0_frameToFill 49 = .ok (.areturn, 1) := by decide +kernel
theorem dX0_writeBack_1 : decode cX0_writeBack 1 = .ok (.getfield 62, 3) := by decide +kernel
theorem dX0_writeBack_4 : decode cX0_writeBack 4 = .ok (.ifCond .eq 23, 3) := by decide +kernel
theorem dX0_writeBack_8 : decode cX0_writeBack 8 = .ok (.getfield 27, 3) := by decide +kernel
theorem dX0_writeBack_12 : decode cX0_writeBack 12 = .ok (.getfield 76, 3) := by decide +kernel
theorem dX0_writeBack_16 : decode cX0_writeBack 16 = .ok (.getfield 42, 3) := by decide +kernel
theorem dX0_writeBack_19 : decode cX0_writeBack 19 = .ok (.invokevirtual 82, 3) := by decide +kernel
theorem dX0_writeBack_24 : decode cX0_writeBack 24 = .ok (.putfield 62, 3) := by decide +kernel
theorem dX0_writeBack_27 : decode cX0_writeBack 27 = .ok (.return_, 1) := by decide +kernel
theorem dX0_fill_2 : decode cX0_fill 2 = .ok (.putfield 76, 3) := by decide +kernel
theorem dX0_fill_7 : decode cX0_fill 7 = .ok (.putfield 42, 3) := by decide +kernel
theorem dX0_fill_12 : decode cX0_fill 12 = .ok (.invokevirtual 38, 3) := by decide +kernel
theorem dX0_fill_15 : decode cX0_fill 15 = .ok (.return_, 1) := by decide +kernel
theorem dX0_use_2 : decode cX0_use 2 = .ok (.getfield 24, 3) := by decide +kernel
theorem dX0_use_7 : decode cX0_use 7 = .ok (.putfield 24, 3) := by decide +kernel
theorem dX0_use_12 : decode cX0_use 12 = .ok (.getfield 24, 3) := by decide +kernel
theorem dX0_use_15 : decode cX0_use 15 = .ok (.putfield 79, 3) := by decide +kernel
theorem dX0_use_18 : decode cX0_use 18 = .ok (.return_, 1) := by decide +kernel
theorem dX1_init_1 : decode cX1_init 1 = .ok (.invokespecial 3, 3) := by decide +kernel
theorem dX1_init_6 : decode cX1_init 6 = .ok (.putfield 9, 3) := by decide +kernel
theorem dX1_init_11 : decode cX1_init 11 = .ok (.putfield 15, 3) := by decide +kernel
theorem dX1_init_16 : decode cX1_init 16 = .ok (.putfield 18, 3) := by decide +kernel
theorem dX1_init_21 : decode cX1_init 21 = .ok (.putfield 22, 3) := by decide +kernel
theorem dX1_init_26 : decode cX1_init 26 = .ok (.putfield 25, 3) := by decide +kernel
theorem dX1_init_31 : decode cX1_init 31 = .ok (.putfield 29, 3) := by decide +kernel
theorem dX1_init_36 : decode cX1_init 36 = .ok (.putfield 32, 3) := by decide +kernel
theorem dX1_init_41 : decode cX1_init 41 = .ok (.putfield 35, 3) := by decide +kernel
theorem dX1_init_46 : decode cX1_init 46 = .ok (.putfield 38, 3) := by decide +kernel
theorem dX1_init_49 : decode cX1_init 49 = .ok (.return_, 1) := by decide +kernel
theorem dX1_madSymbol_6 : decode cX1_madSymbol 6 = .ok (.ireturn, 1) := by decide +kernel
theorem dX1_storedAt_1 : decode cX1_storedAt 1 = .ok (.getfield 25, 3) := by decide +kernel
theorem dX1_storedAt_5 : decode cX1_storedAt 5 = .ok (.invokestatic 41, 3) := by decide +kernel
theorem dX1_storedAt_8 : decode cX1_storedAt 8 = .ok (.ireturn, 1) := by decide +kernel
theorem dX1_putAt_2 : decode cX1_putAt 2 = .ok (.getfield 25, 3) := by decide +kernel
theorem dX1_putAt_7 : decode cX1_putAt 7 = .ok (.invokestatic 45, 3) := by decide +kernel
theorem dX1_putAt_10 : decode cX1_putAt 10 = .ok (.putfield 25, 3) := by decide +kernel
theorem dX1_putAt_13 : decode cX1_putAt 13 = .ok (.return_, 1) := by decide +kernel
theorem dX1_readAt_1 : decode cX1_readAt 1 = .ok (.getfield 9, 3) := by decide +kernel
theorem dX1_readAt_5 : decode cX1_readAt 5 = .ok (.if_icmp .eq 12, 3) := by decide +kernel
theorem dX1_readAt_9 : decode cX1_readAt 9 = .ok (.getfield 9, 3) := by decide +kernel
theorem dX1_readAt_13 : decode cX1_readAt 13 = .ok (.invokestatic 49, 3) := by decide +kernel
theorem dX1_readAt_16 : decode cX1_readAt 16 = .ok (.ireturn, 1) := by decide +kernel
theorem dX1_readAt_18 : decode cX1_readAt 18 = .ok (.getfield 29, 3) := by decide +kernel
theorem dX1_readAt_22 : decode cX1_readAt 22 = .ok (.invokestatic 41, 3) := by decide +kernel
theorem dX1_readAt_27 : decode cX1_readAt 27 = .ok (.getfield 25, 3) := by decide +kernel
theorem dX1_readAt_31 : decode cX1_readAt 31 = .ok (.invokestatic 41, 3) := by decide +kernel
theorem dX1_readAt_39 : decode cX1_readAt 39 = .ok (.getfield 32, 3) := by decide +kernel
theorem dX1_readAt_43 : decode cX1_readAt 43 = .ok (.invokestatic 41, 3) := by decide +kernel
theorem dX1_readAt_49 : decode cX1_readAt 49 = .ok (.ireturn, 1) := by decide +kernel
theorem dX1_stickCell_2 : decode cX1_stickCell 2 = .ok (.getfield 29, 3) := by decide +kernel
theorem dX1_stickCell_7 : decode cX1_stickCell 7 = .ok (.invokestatic 45, 3) := by decide +kernel
theorem dX1_stickCell_10 : decode cX1_stickCell 10 = .ok (.putfield 29, 3) := by decide +kernel
theorem dX1_stickCell_15 : decode cX1_stickCell 15 = .ok (.getfield 32, 3) := by decide +kernel
theorem dX1_stickCell_20 : decode cX1_stickCell 20 = .ok (.invokestatic 45, 3) := by decide +kernel
theorem dX1_stickCell_23 : decode cX1_stickCell 23 = .ok (.putfield 32, 3) := by decide +kernel
theorem dX1_stickCell_26 : decode cX1_stickCell 26 = .ok (.return_, 1) := by decide +kernel
theorem dX1_stuckCells_7 : decode cX1_stuckCells 7 = .ok (.if_icmp .ge 23, 3) := by decide +kernel
theorem dX1_stuckCells_11 : decode cX1_stuckCells 11 = .ok (.getfield 29, 3) := by decide +kernel
theorem dX1_stuckCells_15 : decode cX1_stuckCells 15 = .ok (.invokestatic 41, 3) := by decide +kernel
theorem dX1_stuckCells_18 : decode cX1_stuckCells 18 = .ok (.ifCond .eq 6, 3) := by decide +kernel
theorem dX1_stuckCells_31 : decode cX1_stuckCells 31 = .ok (.ireturn, 1) := by decide +kernel
theorem dX2_timesPower_2 : decode cX2_timesPower 2 = .ok (.if_icmp .lt 13, 3) := by decide +kernel
theorem dX2_timesPower_8 : decode cX2_timesPower 8 = .ok (.if_icmp .gt 7, 3) := by decide +kernel
theorem dX2_timesPower_12 : decode cX2_timesPower 12 = .ok (.ifCond .ge 5, 3) := by decide +kernel
theorem dX2_timesPower_16 : decode cX2_timesPower 16 = .ok (.ireturn, 1) := by decide +kernel
theorem dX2_timesPower_17 : decode cX2_timesPower 17 = .ok (.getstatic 9, 3) := by decide +kernel
theorem dX2_timesPower_20 : decode cX2_timesPower 20 = .ok (.getstatic 15, 3) := by decide +kernel
theorem dX2_timesPower_24 : decode cX2_timesPower 24 = .ok (.iaload, 1) := by decide +kernel
theorem dX2_timesPower_28 : decode cX2_timesPower 28 = .ok (.irem, 1) := by decide +kernel
theorem dX2_timesPower_32 : decode cX2_timesPower 32 = .ok (.irem, 1) := by decide +kernel
theorem dX2_timesPower_33 : decode cX2_timesPower 33 = .ok (.iaload, 1) := by decide +kernel
theorem dX2_timesPower_34 : decode cX2_timesPower 34 = .ok (.ireturn, 1) := by decide +kernel
theorem dX2_product_2 : decode cX2_product 2 = .ok (.if_icmp .lt 9, 3) := by decide +kernel
theorem dX2_product_8 : decode cX2_product 8 = .ok (.if_icmp .le 5, 3) := by decide +kernel
theorem dX2_product_12 : decode cX2_product 12 = .ok (.ireturn, 1) := by decide +kernel
theorem dX2_product_14 : decode cX2_product 14 = .ok (.getstatic 15, 3) := by decide +kernel
theorem dX2_product_18 : decode cX2_product 18 = .ok (.iaload, 1) := by decide +kernel
theorem dX2_product_19 : decode cX2_product 19 = .ok (.invokestatic 18, 3) := by decide +kernel
theorem dX2_product_22 : decode cX2_product 22 = .ok (.ireturn, 1) := by decide +kernel
theorem dX2_quotient_2 : decode cX2_quotient 2 = .ok (.if_icmp .lt 9, 3) := by decide +kernel
theorem dX2_quotient_8 : decode cX2_quotient 8 = .ok (.if_icmp .le 5, 3) := by decide +kernel
theorem dX2_quotient_12 : decode cX2_quotient 12 = .ok (.ireturn, 1) := by decide +kernel
theorem dX2_quotient_16 : decode cX2_quotient 16 = .ok (.getstatic 15, 3) := by decide +kernel
theorem dX2_quotient_20 : decode cX2_quotient 20 = .ok (.iaload, 1) := by decide +kernel
theorem dX2_quotient_22 : decode cX2_quotient 22 = .ok (.invokestatic 18, 3) := by decide +kernel
theorem dX2_quotient_25 : decode cX2_quotient 25 = .ok (.ireturn, 1) := by decide +kernel
theorem dX2_sumOf_9 : decode cX2_sumOf 9 = .ok (.if_icmp .ge 25, 3) := by decide +kernel
theorem dX2_sumOf_16 : decode cX2_sumOf 16 = .ok (.invokestatic 22, 3) := by decide +kernel
theorem dX2_sumOf_23 : decode cX2_sumOf 23 = .ok (.invokestatic 18, 3) := by decide +kernel
theorem dX2_sumOf_35 : decode cX2_sumOf 35 = .ok (.ireturn, 1) := by decide +kernel
theorem dX2_placesIn_7 : decode cX2_placesIn 7 = .ok (.if_icmp .ge 23, 3) := by decide +kernel
theorem dX2_placesIn_12 : decode cX2_placesIn 12 = .ok (.invokestatic 22, 3) := by decide +kernel
theorem dX2_placesIn_15 : decode cX2_placesIn 15 = .ok (.ifCond .eq 9, 3) := by decide +kernel
theorem dX2_placesIn_31 : decode cX2_placesIn 31 = .ok (.ireturn, 1) := by decide +kernel
theorem dX2_dataIn_4 : decode cX2_dataIn 4 = .ok (.lreturn, 1) := by decide +kernel
theorem dX2_wordOf_6 : decode cX2_wordOf 6 = .ok (.invokestatic 26, 3) := by decide +kernel
theorem dX2_wordOf_9 : decode cX2_wordOf 9 = .ok (.lreturn, 1) := by decide +kernel
theorem dX2_mendedWord_1 : decode cX2_mendedWord 1 = .ok (.invokestatic 30, 3) := by decide +kernel
theorem dX2_mendedWord_5 : decode cX2_mendedWord 5 = .ok (.if_icmp .le 7, 3) := by decide +kernel
theorem dX2_mendedWord_8 : decode cX2_mendedWord 8 = .ok (.ldc2_w 36, 3) := by decide +kernel
theorem dX2_mendedWord_11 : decode cX2_mendedWord 11 = .ok (.lreturn, 1) := by decide +kernel
theorem dX2_mendedWord_20 : decode cX2_mendedWord 20 = .ok (.if_icmp .gt 24, 3) := by decide +kernel
theorem dX2_mendedWord_31 : decode cX2_mendedWord 31 = .ok (.invokestatic 38, 3) := by decide +kernel
theorem dX2_mendedWord_34 : decode cX2_mendedWord 34 = .ok (.invokestatic 41, 3) := by decide +kernel
theorem dX2_mendedWord_46 : decode cX2_mendedWord 46 = .ok (.invokestatic 45, 3) := by decide +kernel
theorem dX2_mendedWord_54 : decode cX2_mendedWord 54 = .ok (.if_icmp .ne 7, 3) := by decide +kernel
theorem dX2_mendedWord_57 : decode cX2_mendedWord 57 = .ok (.ldc2_w 36, 3) := by decide +kernel
theorem dX2_mendedWord_60 : decode cX2_mendedWord 60 = .ok (.lreturn, 1) := by decide +kernel
theorem dX2_mendedWord_77 : decode cX2_mendedWord 77 = .ok (.if_icmp .ge 38, 3) := by decide +kernel
theorem dX2_mendedWord_84 : decode cX2_mendedWord 84 = .ok (.invokestatic 49, 3) := by decide +kernel
theorem dX2_mendedWord_87 : decode cX2_mendedWord 87 = .ok (.ifCond .eq 22, 3) := by decide +kernel
theorem dX2_mendedWord_100 : decode cX2_mendedWord 100 = .ok (.invokestatic 53, 3) := by decide +kernel
theorem dX2_mendedWord_103 : decode cX2_mendedWord 103 = .ok (.invokestatic 41, 3) := by decide +kernel
theorem dX2_mendedWord_117 : decode cX2_mendedWord 117 = .ok (.lreturn, 1) := by decide +kernel
theorem dX2_errorsBeside_12 : decode cX2_errorsBeside 12 = .ok (.if_icmp .ge 30, 3) := by decide +kernel
theorem dX2_errorsBeside_18 : decode cX2_errorsBeside 18 = .ok (.invokestatic 49, 3) := by decide +kernel
theorem dX2_errorsBeside_21 : decode cX2_errorsBeside 21 = .ok (.ifCond .eq 15, 3) := by decide +kernel
theorem dX2_errorsBeside_29 : decode cX2_errorsBeside 29 = .ok (.invokestatic 57, 3) := by decide +kernel
theorem dX2_errorsBeside_45 : decode cX2_errorsBeside 45 = .ok (.ifCond .ne 5, 3) := by decide +kernel
theorem dX2_errorsBeside_49 : decode cX2_errorsBeside 49 = .ok (.ireturn, 1) := by decide +kernel
theorem dX2_errorsBeside_53 : decode cX2_errorsBeside 53 = .ok (.invokestatic 61, 3) := by decide +kernel
theorem dX2_errorsBeside_61 : decode cX2_errorsBeside 61 = .ok (.if_icmp .eq 17, 3) := by decide +kernel
theorem dX2_errorsBeside_67 : decode cX2_errorsBeside 67 = .ok (.invokestatic 49, 3) := by decide +kernel
theorem dX2_errorsBeside_70 : decode cX2_errorsBeside 70 = .ok (.ifCond .ne 8, 3) := by decide +kernel
theorem dX2_errorsBeside_77 : decode cX2_errorsBeside 77 = .ok (.ireturn, 1) := by decide +kernel
theorem dX2_errorsBeside_81 : decode cX2_errorsBeside 81 = .ok (.if_icmp .ge 5, 3) := by decide +kernel
theorem dX2_errorsBeside_85 : decode cX2_errorsBeside 85 = .ok (.ireturn, 1) := by decide +kernel
theorem dX2_errorsBeside_93 : decode cX2_errorsBeside 93 = .ok (.if_icmp .ge 49, 3) := by decide +kernel
theorem dX2_errorsBeside_101 : decode cX2_errorsBeside 101 = .ok (.invokestatic 57, 3) := by decide +kernel
theorem dX2_errorsBeside_108 : decode cX2_errorsBeside 108 = .ok (.invokestatic 61, 3) := by decide +kernel
theorem dX2_errorsBeside_116 : decode cX2_errorsBeside 116 = .ok (.if_icmp .eq 20, 3) := by decide +kernel
theorem dX2_errorsBeside_123 : decode cX2_errorsBeside 123 = .ok (.if_icmp .eq 13, 3) := by decide +kernel
theorem dX2_errorsBeside_135 : decode cX2_errorsBeside 135 = .ok (.ireturn, 1) := by decide +kernel
theorem dX2_errorsBeside_143 : decode cX2_errorsBeside 143 = .ok (.ireturn, 1) := by decide +kernel
theorem dX2_blindTo_11 : decode cX2_blindTo 11 = .ok (.if_icmp .ge 37, 3) := by decide +kernel
theorem dX2_blindTo_21 : decode cX2_blindTo 21 = .ok (.invokestatic 22, 3) := by decide +kernel
theorem dX2_blindTo_25 : decode cX2_blindTo 25 = .ok (.invokestatic 18, 3) := by decide +kernel
theorem dX2_blindTo_33 : decode cX2_blindTo 33 = .ok (.invokestatic 22, 3) := by decide +kernel
theorem dX2_blindTo_37 : decode cX2_blindTo 37 = .ok (.invokestatic 41, 3) := by decide +kernel
theorem dX2_blindTo_50 : decode cX2_blindTo 50 = .ok (.lreturn, 1) := by decide +kernel
theorem dX2_onlyError_2 : decode cX2_onlyError 2 = .ok (.invokestatic 22, 3) := by decide +kernel
theorem dX2_onlyError_8 : decode cX2_onlyError 8 = .ok (.invokestatic 22, 3) := by decide +kernel
theorem dX2_onlyError_15 : decode cX2_onlyError 15 = .ok (.if_icmp .lt 12, 3) := by decide +kernel
theorem dX2_onlyError_19 : decode cX2_onlyError 19 = .ok (.ifCond .eq 8, 3) := by decide +kernel
theorem dX2_onlyError_24 : decode cX2_onlyError 24 = .ok (.ifCond .ne 5, 3) := by decide +kernel
theorem dX2_onlyError_28 : decode cX2_onlyError 28 = .ok (.ireturn, 1) := by decide +kernel
theorem dX2_onlyError_29 : decode cX2_onlyError 29 = .ok (.getstatic 15, 3) := by decide +kernel
theorem dX2_onlyError_34 : decode cX2_onlyError 34 = .ok (.iaload, 1) := by decide +kernel
theorem dX2_onlyError_35 : decode cX2_onlyError 35 = .ok (.getstatic 15, 3) := by decide +kernel
theorem dX2_onlyError_39 : decode cX2_onlyError 39 = .ok (.iaload, 1) := by decide +kernel
theorem dX2_onlyError_46 : decode cX2_onlyError 46 = .ok (.irem, 1) := by decide +kernel
theorem dX2_onlyError_55 : decode cX2_onlyError 55 = .ok (.if_icmp .ge 33, 3) := by decide +kernel
theorem dX2_onlyError_63 : decode cX2_onlyError 63 = .ok (.invokestatic 22, 3) := by decide +kernel
theorem dX2_onlyError_68 : decode cX2_onlyError 68 = .ok (.invokestatic 18, 3) := by decide +kernel
theorem dX2_onlyError_74 : decode cX2_onlyError 74 = .ok (.invokestatic 22, 3) := by decide +kernel
theorem dX2_onlyError_77 : decode cX2_onlyError 77 = .ok (.if_icmp .eq 5, 3) := by decide +kernel
theorem dX2_onlyError_81 : decode cX2_onlyError 81 = .ok (.ireturn, 1) := by decide +kernel
theorem dX2_onlyError_90 : decode cX2_onlyError 90 = .ok (.ireturn, 1) := by decide +kernel
theorem dX2_errorAt_8 : decode cX2_errorAt 8 = .ok (.invokestatic 18, 3) := by decide +kernel
theorem dX2_errorAt_24 : decode cX2_errorAt 24 = .ok (.if_icmp .ge 54, 3) := by decide +kernel
theorem dX2_errorAt_30 : decode cX2_errorAt 30 = .ok (.if_icmp .eq 42, 3) := by decide +kernel
theorem dX2_errorAt_36 : decode cX2_errorAt 36 = .ok (.invokestatic 49, 3) := by decide +kernel
theorem dX2_errorAt_39 : decode cX2_errorAt 39 = .ok (.ifCond .eq 33, 3) := by decide +kernel
theorem dX2_errorAt_48 : decode cX2_errorAt 48 = .ok (.invokestatic 57, 3) := by decide +kernel
theorem dX2_errorAt_63 : decode cX2_errorAt 63 = .ok (.invokestatic 18, 3) := by decide +kernel
theorem dX2_errorAt_67 : decode cX2_errorAt 67 = .ok (.invokestatic 64, 3) := by decide +kernel
theorem dX2_errorAt_81 : decode cX2_errorAt 81 = .ok (.invokestatic 22, 3) := by decide +kernel
theorem dX2_errorAt_86 : decode cX2_errorAt 86 = .ok (.invokestatic 67, 3) := by decide +kernel
theorem dX2_errorAt_89 : decode cX2_errorAt 89 = .ok (.ireturn, 1) := by decide +kernel
theorem dX3_init_1 : decode cX3_init 1 = .ok (.invokespecial 3, 3) := by decide +kernel
theorem dX3_init_6 : decode cX3_init 6 = .ok (.putfield 9, 3) := by decide +kernel
theorem dX3_init_10 : decode cX3_init 10 = .ok (.ldc2_w 15, 3) := by decide +kernel
theorem dX3_init_13 : decode cX3_init 13 = .ok (.putfield 17, 3) := by decide +kernel
theorem dX3_init_18 : decode cX3_init 18 = .ok (.putfield 21, 3) := by decide +kernel
theorem dX3_init_23 : decode cX3_init 23 = .ok (.putfield 25, 3) := by decide +kernel
theorem dX3_init_28 : decode cX3_init 28 = .ok (.putfield 28, 3) := by decide +kernel
theorem dX3_init_31 : decode cX3_init 31 = .ok (.return_, 1) := by decide +kernel
theorem dX4_init_1 : decode cX4_init 1 = .ok (.invokespecial 3, 3) := by decide +kernel
theorem dX4_init_7 : decode cX4_init 7 = .ok (.anewarray 9, 3) := by decide +kernel
theorem dX4_init_10 : decode cX4_init 10 = .ok (.putfield 11, 3) := by decide +kernel
theorem dX4_init_16 : decode cX4_init 16 = .ok (.anewarray 9, 3) := by decide +kernel
theorem dX4_init_19 : decode cX4_init 19 = .ok (.putfield 17, 3) := by decide +kernel
theorem dX4_init_24 : decode cX4_init 24 = .ok (.putfield 20, 3) := by decide +kernel
theorem dX4_init_29 : decode cX4_init 29 = .ok (.putfield 24, 3) := by decide +kernel
theorem dX4_init_34 : decode cX4_init 34 = .ok (.putfield 27, 3) := by decide +kernel
theorem dX4_init_39 : decode cX4_init 39 = .ok (.putfield 30, 3) := by decide +kernel
theorem dX4_init_44 : decode cX4_init 44 = .ok (.putfield 33, 3) := by decide +kernel
theorem dX4_init_50 : decode cX4_init 50 = .ok (.putfield 36, 3) := by decide +kernel
theorem dX4_init_58 : decode cX4_init 58 = .ok (.if_icmp .ge 34, 3) := by decide +kernel
theorem dX4_init_62 : decode cX4_init 62 = .ok (.getfield 11, 3) := by decide +kernel
theorem dX4_init_66 : decode cX4_init 66 = .ok (.new 9, 3) := by decide +kernel
theorem dX4_init_74 : decode cX4_init 74 = .ok (.if_icmp .ge 7, 3) := by decide +kernel
theorem dX4_init_82 : decode cX4_init 82 = .ok (.invokespecial 39, 3) := by decide +kernel
theorem dX4_init_85 : decode cX4_init 85 = .ok (.aastore, 1) := by decide +kernel
theorem dX4_init_97 : decode cX4_init 97 = .ok (.if_icmp .ge 21, 3) := by decide +kernel
theorem dX4_init_101 : decode cX4_init 101 = .ok (.getfield 17, 3) := by decide +kernel
theorem dX4_init_106 : decode cX4_init 106 = .ok (.getfield 11, 3) := by decide +kernel
theorem dX4_init_110 : decode cX4_init 110 = .ok (.aaload, 1) := by decide +kernel
theorem dX4_init_111 : decode cX4_init 111 = .ok (.aastore, 1) := by decide +kernel
theorem dX4_init_118 : decode cX4_init 118 = .ok (.return_, 1) := by decide +kernel
theorem dX4_readWord_9 : decode cX4_readWord 9 = .ok (.if_icmp .ge 27, 3) := by decide +kernel
theorem dX4_readWord_16 : decode cX4_readWord 16 = .ok (.getfield 17, 3) := by decide +kernel
theorem dX4_readWord_21 : decode cX4_readWord 21 = .ok (.aaload, 1) := by decide +kernel
theorem dX4_readWord_23 : decode cX4_readWord 23 = .ok (.invokevirtual 42, 3) := by decide +kernel
theorem dX4_readWord_26 : decode cX4_readWord 26 = .ok (.invokestatic 46, 3) := by decide +kernel
theorem dX4_readWord_37 : decode cX4_readWord 37 = .ok (.lreturn, 1) := by decide +kernel
theorem dX4_writeWord_7 : decode cX4_writeWord 7 = .ok (.if_icmp .ge 26, 3) := by decide +kernel
theorem dX4_writeWord_11 : decode cX4_writeWord 11 = .ok (.getfield 17, 3) := by decide +kernel
theorem dX4_writeWord_16 : decode cX4_writeWord 16 = .ok (.aaload, 1) := by decide +kernel
theorem dX4_writeWord_21 : decode cX4_writeWord 21 = .ok (.invokestatic 50, 3) := by decide +kernel
theorem dX4_writeWord_24 : decode cX4_writeWord 24 = .ok (.invokevirtual 54, 3) := by decide +kernel
theorem dX4_writeWord_33 : decode cX4_writeWord 33 = .ok (.return_, 1) := by decide +kernel
theorem dX4_erasedPlaces_7 : decode cX4_erasedPlaces 7 = .ok (.if_icmp .ge 27, 3) := by decide +kernel
theorem dX4_erasedPlaces_11 : decode cX4_erasedPlaces 11 = .ok (.getfield 17, 3) := by decide +kernel
theorem dX4_erasedPlaces_15 : decode cX4_erasedPlaces 15 = .ok (.aaload, 1) := by decide +kernel
theorem dX4_erasedPlaces_16 : decode cX4_erasedPlaces 16 = .ok (.getfield 57, 3) := by decide +kernel
theorem dX4_erasedPlaces_19 : decode cX4_erasedPlaces 19 = .ok (.ifCond .eq 9, 3) := by decide +kernel
theorem dX4_erasedPlaces_35 : decode cX4_erasedPlaces 35 = .ok (.ireturn, 1) := by decide +kernel
theorem dX4_wordMendedTo_2 : decode cX4_wordMendedTo 2 = .ok (.invokevirtual 61, 3) := by decide +kernel
theorem dX4_wordMendedTo_6 : decode cX4_wordMendedTo 6 = .ok (.invokevirtual 65, 3) := by decide +kernel
theorem dX4_wordMendedTo_9 : decode cX4_wordMendedTo 9 = .ok (.invokestatic 69, 3) := by decide +kernel
theorem dX4_wordMendedTo_12 : decode cX4_wordMendedTo 12 = .ok (.lreturn, 1) := by decide +kernel
theorem dX4_badLines_1 : decode cX4_badLines 1 = .ok (.invokevirtual 65, 3) := by decide +kernel
theorem dX4_badLines_12 : decode cX4_badLines 12 = .ok (.if_icmp .ge 28, 3) := by decide +kernel
theorem dX4_badLines_17 : decode cX4_badLines 17 = .ok (.invokevirtual 61, 3) := by decide +kernel
theorem dX4_badLines_21 : decode cX4_badLines 21 = .ok (.invokestatic 69, 3) := by decide +kernel
theorem dX4_badLines_24 : decode cX4_badLines 24 = .ok (.ldc2_w 75, 3) := by decide +kernel
theorem dX4_badLines_28 : decode cX4_badLines 28 = .ok (.ifCond .ne 6, 3) := by decide +kernel
theorem dX4_badLines_41 : decode cX4_badLines 41 = .ok (.ireturn, 1) := by decide +kernel
theorem dX4_fetchLine_2 : decode cX4_fetchLine 2 = .ok (.invokevirtual 61, 3) := by decide +kernel
theorem dX4_fetchLine_8 : decode cX4_fetchLine 8 = .ok (.invokevirtual 65, 3) := by decide +kernel
theorem dX4_fetchLine_11 : decode cX4_fetchLine 11 = .ok (.invokestatic 69, 3) := by decide +kernel
theorem dX4_fetchLine_18 : decode cX4_fetchLine 18 = .ok (.getfield 27, 3) := by decide +kernel
theorem dX4_fetchLine_23 : decode cX4_fetchLine 23 = .ok (.putfield 27, 3) := by decide +kernel
theorem dX4_fetchLine_28 : decode cX4_fetchLine 28 = .ok (.ldc2_w 75, 3) := by decide +kernel
theorem dX4_fetchLine_32 : decode cX4_fetchLine 32 = .ok (.ifCond .ne 16, 3) := by decide +kernel
theorem dX4_fetchLine_37 : decode cX4_fetchLine 37 = .ok (.getfield 30, 3) := by decide +kernel
theorem dX4_fetchLine_42 : decode cX4_fetchLine 42 = .ok (.putfield 30, 3) := by decide +kernel
theorem dX4_fetchLine_52 : decode cX4_fetchLine 52 = .ok (.ifCond .eq 21, 3) := by decide +kernel
theorem dX4_fetchLine_60 : decode cX4_fetchLine 60 = .ok (.invokestatic 77, 3) := by decide +kernel
theorem dX4_fetchLine_63 : decode cX4_fetchLine 63 = .ok (.invokevirtual 81, 3) := by decide +kernel
theorem dX4_fetchLine_70 : decode cX4_fetchLine 70 = .ok (.invokevirtual 85, 3) := by decide +kernel
theorem dX4_fetchLine_74 : decode cX4_fetchLine 74 = .ok (.invokevirtual 89, 3) := by decide +kernel
theorem dX4_fetchLine_79 : decode cX4_fetchLine 79 = .ok (.lreturn, 1) := by decide +kernel
theorem dX4_countMended_2 : decode cX4_countMended 2 = .ok (.getfield 33, 3) := by decide +kernel
theorem dX4_countMended_6 : decode cX4_countMended 6 = .ok (.invokestatic 92, 3) := by decide +kernel
theorem dX4_countMended_10 : decode cX4_countMended 10 = .ok (.putfield 33, 3) := by decide +kernel
theorem dX4_countMended_18 : decode cX4_countMended 18 = .ok (.if_icmp .ge 44, 3) := by decide +kernel
theorem dX4_countMended_23 : decode cX4_countMended 23 = .ok (.invokestatic 97, 3) := by decide +kernel
theorem dX4_countMended_26 : decode cX4_countMended 26 = .ok (.ifCond .eq 30, 3) := by decide +kernel
theorem dX4_countMended_30 : decode cX4_countMended 30 = .ok (.getfield 17, 3) := by decide +kernel
theorem dX4_countMended_34 : decode cX4_countMended 34 = .ok (.aaload, 1) := by decide +kernel
theorem dX4_countMended_35 : decode cX4_countMended 35 = .ok (.getfield 57, 3) := by decide +kernel
theorem dX4_countMended_38 : decode cX4_countMended 38 = .ok (.ifCond .ne 18, 3) := by decide +kernel
theorem dX4_countMended_42 : decode cX4_countMended 42 = .ok (.getfield 17, 3) := by decide +kernel
theorem dX4_countMended_46 : decode cX4_countMended 46 = .ok (.aaload, 1) := by decide +kernel
theorem dX4_countMended_48 : decode cX4_countMended 48 = .ok (.getfield 101, 3) := by decide +kernel
theorem dX4_countMended_53 : decode cX4_countMended 53 = .ok (.putfield 101, 3) := by decide +kernel
theorem dX4_countMended_62 : decode cX4_countMended 62 = .ok (.return_, 1) := by decide +kernel
theorem dX4_eraseBlamed_1 : decode cX4_eraseBlamed 1 = .ok (.invokevirtual 65, 3) := by decide +kernel
theorem dX4_eraseBlamed_4 : decode cX4_eraseBlamed 4 = .ok (.invokestatic 92, 3) := by decide +kernel
theorem dX4_eraseBlamed_13 : decode cX4_eraseBlamed 13 = .ok (.if_icmp .ge 47, 3) := by decide +kernel
theorem dX4_eraseBlamed_18 : decode cX4_eraseBlamed 18 = .ok (.if_icmp .ge 42, 3) := by decide +kernel
theorem dX4_eraseBlamed_22 : decode cX4_eraseBlamed 22 = .ok (.getfield 17, 3) := by decide +kernel
theorem dX4_eraseBlamed_26 : decode cX4_eraseBlamed 26 = .ok (.aaload, 1) := by decide +kernel
theorem dX4_eraseBlamed_29 : decode cX4_eraseBlamed 29 = .ok (.getfield 101, 3) := by decide +kernel
theorem dX4_eraseBlamed_33 : decode cX4_eraseBlamed 33 = .ok (.getfield 20, 3) := by decide +kernel
theorem dX4_eraseBlamed_36 : decode cX4_eraseBlamed 36 = .ok (.if_icmp .lt 18, 3) := by decide +kernel
theorem dX4_eraseBlamed_40 : decode cX4_eraseBlamed 40 = .ok (.getfield 57, 3) := by decide +kernel
theorem dX4_eraseBlamed_43 : decode cX4_eraseBlamed 43 = .ok (.ifCond .ne 11, 3) := by decide +kernel
theorem dX4_eraseBlamed_48 : decode cX4_eraseBlamed 48 = .ok (.putfield 57, 3) := by decide +kernel
theorem dX4_eraseBlamed_60 : decode cX4_eraseBlamed 60 = .ok (.return_, 1) := by decide +kernel
theorem dX4_stepPatrol_1 : decode cX4_stepPatrol 1 = .ok (.getfield 24, 3) := by decide +kernel
theorem dX4_stepPatrol_11 : decode cX4_stepPatrol 11 = .ok (.irem, 1) := by decide +kernel
theorem dX4_stepPatrol_12 : decode cX4_stepPatrol 12 = .ok (.putfield 24, 3) := by decide +kernel
theorem dX4_stepPatrol_17 : decode cX4_stepPatrol 17 = .ok (.invokevirtual 104, 3) := by decide +kernel
theorem dX4_stepPatrol_20 : decode cX4_stepPatrol 20 = .ok (.lreturn, 1) := by decide +kernel
theorem dX4_sparesLeft_3 : decode cX4_sparesLeft 3 = .ok (.getfield 36, 3) := by decide +kernel
theorem dX4_sparesLeft_7 : decode cX4_sparesLeft 7 = .ok (.ireturn, 1) := by decide +kernel
theorem dX4_chipsOut_7 : decode cX4_chipsOut 7 = .ok (.if_icmp .ge 24, 3) := by decide +kernel
theorem dX4_chipsOut_11 : decode cX4_chipsOut 11 = .ok (.getfield 11, 3) := by decide +kernel
theorem dX4_chipsOut_15 : decode cX4_chipsOut 15 = .ok (.aaload, 1) := by decide +kernel
theorem dX4_chipsOut_16 : decode cX4_chipsOut 16 = .ok (.getfield 107, 3) := by decide +kernel
theorem dX4_chipsOut_19 : decode cX4_chipsOut 19 = .ok (.ifCond .eq 6, 3) := by decide +kernel
theorem dX4_chipsOut_32 : decode cX4_chipsOut 32 = .ok (.ireturn, 1) := by decide +kernel
theorem dX4_replaceAt_1 : decode cX4_replaceAt 1 = .ok (.getfield 36, 3) := by decide +kernel
theorem dX4_replaceAt_6 : decode cX4_replaceAt 6 = .ok (.if_icmp .lt 4, 3) := by decide +kernel
theorem dX4_replaceAt_11 : decode cX4_replaceAt 11 = .ok (.getfield 11, 3) := by decide +kernel
theorem dX4_replaceAt_15 : decode cX4_replaceAt 15 = .ok (.getfield 36, 3) := by decide +kernel
theorem dX4_replaceAt_18 : decode cX4_replaceAt 18 = .ok (.aaload, 1) := by decide +kernel
theorem dX4_replaceAt_22 : decode cX4_replaceAt 22 = .ok (.getfield 36, 3) := by decide +kernel
theorem dX4_replaceAt_27 : decode cX4_replaceAt 27 = .ok (.putfield 36, 3) := by decide +kernel
theorem dX4_replaceAt_33 : decode cX4_replaceAt 33 = .ok (.invokevirtual 110, 3) := by decide +kernel
theorem dX4_replaceAt_37 : decode cX4_replaceAt 37 = .ok (.getfield 17, 3) := by decide +kernel
theorem dX4_replaceAt_41 : decode cX4_replaceAt 41 = .ok (.aaload, 1) := by decide +kernel
theorem dX4_replaceAt_45 : decode cX4_replaceAt 45 = .ok (.putfield 114, 3) := by decide +kernel
theorem dX4_replaceAt_50 : decode cX4_replaceAt 50 = .ok (.putfield 107, 3) := by decide +kernel
theorem dX4_replaceAt_55 : decode cX4_replaceAt 55 = .ok (.putfield 114, 3) := by decide +kernel
theorem dX4_replaceAt_59 : decode cX4_replaceAt 59 = .ok (.getfield 17, 3) := by decide +kernel
theorem dX4_replaceAt_64 : decode cX4_replaceAt 64 = .ok (.aastore, 1) := by decide +kernel
theorem dX4_replaceAt_65 : decode cX4_replaceAt 65 = .ok (.return_, 1) := by decide +kernel
theorem dX4_fillFor_1 : decode cX4_fillFor 1 = .ok (.invokevirtual 65, 3) := by decide +kernel
theorem dX4_fillFor_10 : decode cX4_fillFor 10 = .ok (.invokestatic 92, 3) := by decide +kernel
theorem dX4_fillFor_14 : decode cX4_fillFor 14 = .ok (.if_icmp .gt 9, 3) := by decide +kernel
theorem dX4_fillFor_30 : decode cX4_fillFor 30 = .ok (.if_icmp .ge 51, 3) := by decide +kernel
theorem dX4_fillFor_36 : decode cX4_fillFor 36 = .ok (.invokevirtual 61, 3) := by decide +kernel
theorem dX4_fillFor_44 : decode cX4_fillFor 44 = .ok (.invokestatic 69, 3) := by decide +kernel
theorem dX4_fillFor_54 : decode cX4_fillFor 54 = .ok (.ldc2_w 75, 3) := by decide +kernel
theorem dX4_fillFor_58 : decode cX4_fillFor 58 = .ok (.ifCond .ne 8, 3) := by decide +kernel
theorem dX4_fillFor_69 : decode cX4_fillFor 69 = .ok (.invokestatic 50, 3) := by decide +kernel
theorem dX4_fillFor_72 : decode cX4_fillFor 72 = .ok (.invokevirtual 54, 3) := by decide +kernel
theorem dX4_fillFor_81 : decode cX4_fillFor 81 = .ok (.return_, 1) := by decide +kernel
theorem dX4_areSeatsSound_7 : decode cX4_areSeatsSound 7 = .ok (.if_icmp .ge 45, 3) := by decide +kernel
theorem dX4_areSeatsSound_11 : decode cX4_areSeatsSound 11 = .ok (.getfield 17, 3) := by decide +kernel
theorem dX4_areSeatsSound_15 : decode cX4_areSeatsSound 15 = .ok (.aaload, 1) := by decide +kernel
theorem dX4_areSeatsSound_18 : decode cX4_areSeatsSound 18 = .ok (.getfield 107, 3) := by decide +kernel
theorem dX4_areSeatsSound_21 : decode cX4_areSeatsSound 21 = .ok (.ifCond .ne 14, 3) := by decide +kernel
theorem dX4_areSeatsSound_26 : decode cX4_areSeatsSound 26 = .ok (.getfield 117, 3) := by decide +kernel
theorem dX4_areSeatsSound_29 : decode cX4_areSeatsSound 29 = .ok (.invokestatic 97, 3) := by decide +kernel
theorem dX4_areSeatsSound_32 : decode cX4_areSeatsSound 32 = .ok (.ifCond .eq 5, 3) := by decide +kernel
theorem dX4_areSeatsSound_36 : decode cX4_areSeatsSound 36 = .ok (.ireturn, 1) := by decide +kernel
theorem dX4_areSeatsSound_40 : decode cX4_areSeatsSound 40 = .ok (.getfield 117, 3) := by decide +kernel
theorem dX4_areSeatsSound_53 : decode cX4_areSeatsSound 53 = .ok (.ireturn, 1) := by decide +kernel
theorem dX5_init_1 : decode cX5_init 1 = .ok (.invokespecial 3, 3) := by decide +kernel
theorem dX5_init_5 : decode cX5_init 5 = .ok (.new 9, 3) := by decide +kernel
theorem dX5_init_9 : decode cX5_init 9 = .ok (.invokespecial 11, 3) := by decide +kernel
theorem dX5_init_12 : decode cX5_init 12 = .ok (.putfield 12, 3) := by decide +kernel
theorem dX5_init_16 : decode cX5_init 16 = .ok (.new 16, 3) := by decide +kernel
theorem dX5_init_21 : decode cX5_init 21 = .ok (.getfield 12, 3) := by decide +kernel
theorem dX5_init_24 : decode cX5_init 24 = .ok (.invokespecial 18, 3) := by decide +kernel
theorem dX5_init_27 : decode cX5_init 27 = .ok (.putfield 21, 3) := by decide +kernel
theorem dX5_init_32 : decode cX5_init 32 = .ok (.putfield 25, 3) := by decide +kernel
theorem dX5_init_35 : decode cX5_init 35 = .ok (.return_, 1) := by decide +kernel
theorem dX5_write_1 : decode cX5_write 1 = .ok (.invokestatic 29, 3) := by decide +kernel
theorem dX5_write_5 : decode cX5_write 5 = .ok (.invokestatic 33, 3) := by decide +kernel
theorem dX5_write_9 : decode cX5_write 9 = .ok (.getfield 12, 3) := by decide +kernel
theorem dX5_write_13 : decode cX5_write 13 = .ok (.invokevirtual 37, 3) := by decide +kernel
theorem dX5_write_19 : decode cX5_write 19 = .ok (.getfield 12, 3) := by decide +kernel
theorem dX5_write_24 : decode cX5_write 24 = .ok (.invokestatic 41, 3) := by decide +kernel
theorem dX5_write_27 : decode cX5_write 27 = .ok (.invokevirtual 47, 3) := by decide +kernel
theorem dX5_write_33 : decode cX5_write 33 = .ok (.getfield 12, 3) := by decide +kernel
theorem dX5_write_37 : decode cX5_write 37 = .ok (.invokevirtual 37, 3) := by decide +kernel
theorem dX5_write_41 : decode cX5_write 41 = .ok (.invokestatic 51, 3) := by decide +kernel
theorem dX5_write_44 : decode cX5_write 44 = .ok (.invokestatic 55, 3) := by decide +kernel
theorem dX5_write_47 : decode cX5_write 47 = .ok (.ireturn, 1) := by decide +kernel
theorem dX5_stick_1 : decode cX5_stick 1 = .ok (.invokestatic 61, 3) := by decide +kernel
theorem dX5_stick_5 : decode cX5_stick 5 = .ok (.invokestatic 29, 3) := by decide +kernel
theorem dX5_stick_9 : decode cX5_stick 9 = .ok (.invokestatic 64, 3) := by decide +kernel
theorem dX5_stick_14 : decode cX5_stick 14 = .ok (.invokestatic 64, 3) := by decide +kernel
theorem dX5_stick_18 : decode cX5_stick 18 = .ok (.getfield 12, 3) := by decide +kernel
theorem dX5_stick_21 : decode cX5_stick 21 = .ok (.getfield 67, 3) := by decide +kernel
theorem dX5_stick_25 : decode cX5_stick 25 = .ok (.aaload, 1) := by decide +kernel
theorem dX5_stick_30 : decode cX5_stick 30 = .ok (.invokevirtual 71, 3) := by decide +kernel
theorem dX5_stick_34 : decode cX5_stick 34 = .ok (.getfield 12, 3) := by decide +kernel
theorem dX5_stick_37 : decode cX5_stick 37 = .ok (.getfield 67, 3) := by decide +kernel
theorem dX5_stick_41 : decode cX5_stick 41 = .ok (.aaload, 1) := by decide +kernel
theorem dX5_stick_42 : decode cX5_stick 42 = .ok (.invokevirtual 77, 3) := by decide +kernel
theorem dX5_stick_45 : decode cX5_stick 45 = .ok (.ireturn, 1) := by decide +kernel
theorem dX5_mad_1 : decode cX5_mad 1 = .ok (.invokestatic 61, 3) := by decide +kernel
theorem dX5_mad_6 : decode cX5_mad 6 = .ok (.if_icmp .eq 7, 3) := by decide +kernel
theorem dX5_mad_10 : decode cX5_mad 10 = .ok (.invokestatic 64, 3) := by decide +kernel
theorem dX5_mad_14 : decode cX5_mad 14 = .ok (.getfield 12, 3) := by decide +kernel
theorem dX5_mad_17 : decode cX5_mad 17 = .ok (.getfield 67, 3) := by decide +kernel
theorem dX5_mad_21 : decode cX5_mad 21 = .ok (.aaload, 1) := by decide +kernel
theorem dX5_mad_22 : decode cX5_mad 22 = .ok (.getfield 81, 3) := by decide +kernel
theorem dX5_mad_27 : decode cX5_mad 27 = .ok (.getfield 12, 3) := by decide +kernel
theorem dX5_mad_30 : decode cX5_mad 30 = .ok (.getfield 67, 3) := by decide +kernel
theorem dX5_mad_34 : decode cX5_mad 34 = .ok (.aaload, 1) := by decide +kernel
theorem dX5_mad_36 : decode cX5_mad 36 = .ok (.putfield 81, 3) := by decide +kernel
theorem dX5_mad_40 : decode cX5_mad 40 = .ok (.ireturn, 1) := by decide +kernel
theorem dX5_ray_1 : decode cX5_ray 1 = .ok (.invokestatic 61, 3) := by decide +kernel
theorem dX5_ray_5 : decode cX5_ray 5 = .ok (.invokestatic 29, 3) := by decide +kernel
theorem dX5_ray_9 : decode cX5_ray 9 = .ok (.invokestatic 84, 3) := by decide +kernel
theorem dX5_ray_13 : decode cX5_ray 13 = .ok (.getfield 12, 3) := by decide +kernel
theorem dX5_ray_16 : decode cX5_ray 16 = .ok (.getfield 67, 3) := by decide +kernel
theorem dX5_ray_20 : decode cX5_ray 20 = .ok (.aaload, 1) := by decide +kernel
theorem dX5_ray_29 : decode cX5_ray 29 = .ok (.invokevirtual 87, 3) := by decide +kernel
theorem dX5_ray_34 : decode cX5_ray 34 = .ok (.invokevirtual 90, 3) := by decide +kernel
theorem dX5_ray_40 : decode cX5_ray 40 = .ok (.invokevirtual 87, 3) := by decide +kernel
theorem dX5_ray_43 : decode cX5_ray 43 = .ok (.ireturn, 1) := by decide +kernel
theorem dX5_erase_1 : decode cX5_erase 1 = .ok (.invokestatic 94, 3) := by decide +kernel
theorem dX5_erase_5 : decode cX5_erase 5 = .ok (.getfield 12, 3) := by decide +kernel
theorem dX5_erase_8 : decode cX5_erase 8 = .ok (.invokevirtual 97, 3) := by decide +kernel
theorem dX5_erase_19 : decode cX5_erase 19 = .ok (.ifCond .eq 21, 3) := by decide +kernel
theorem dX5_erase_23 : decode cX5_erase 23 = .ok (.invokestatic 55, 3) := by decide +kernel
theorem dX5_erase_27 : decode cX5_erase 27 = .ok (.if_icmp .lt 13, 3) := by decide +kernel
theorem dX5_erase_30 : decode cX5_erase 30 = .ok (.new 100, 3) := by decide +kernel
theorem dX5_erase_33 : decode cX5_erase 33 = .ok (.dup, 1) := by decide +kernel
theorem dX5_erase_34 : decode cX5_erase 34 = .ok (.ldc 102, 2) := by decide +kernel
theorem dX5_erase_36 : decode cX5_erase 36 = .ok (.invokespecial 104, 3) := by decide +kernel
theorem dX5_erase_39 : decode cX5_erase 39 = .ok (.athrow, 1) := by decide +kernel
theorem dX5_erase_41 : decode cX5_erase 41 = .ok (.getfield 12, 3) := by decide +kernel
theorem dX5_erase_44 : decode cX5_erase 44 = .ok (.getfield 107, 3) := by decide +kernel
theorem dX5_erase_48 : decode cX5_erase 48 = .ok (.aaload, 1) := by decide +kernel
theorem dX5_erase_50 : decode cX5_erase 50 = .ok (.putfield 110, 3) := by decide +kernel
theorem dX5_erase_54 : decode cX5_erase 54 = .ok (.getfield 12, 3) := by decide +kernel
theorem dX5_erase_57 : decode cX5_erase 57 = .ok (.invokevirtual 97, 3) := by decide +kernel
theorem dX5_erase_60 : decode cX5_erase 60 = .ok (.invokestatic 55, 3) := by decide +kernel
theorem dX5_erase_63 : decode cX5_erase 63 = .ok (.ireturn, 1) := by decide +kernel
theorem dX5_replace_1 : decode cX5_replace 1 = .ok (.invokestatic 94, 3) := by decide +kernel
theorem dX5_replace_5 : decode cX5_replace 5 = .ok (.getfield 12, 3) := by decide +kernel
theorem dX5_replace_8 : decode cX5_replace 8 = .ok (.invokevirtual 114, 3) := by decide +kernel
theorem dX5_replace_11 : decode cX5_replace 11 = .ok (.ifCond .ne 13, 3) := by decide +kernel
theorem dX5_replace_14 : decode cX5_replace 14 = .ok (.new 100, 3) := by decide +kernel
theorem dX5_replace_17 : decode cX5_replace 17 = .ok (.dup, 1) := by decide +kernel
theorem dX5_replace_18 : decode cX5_replace 18 = .ok (.ldc 117, 2) := by decide +kernel
theorem dX5_replace_20 : decode cX5_replace 20 = .ok (.invokespecial 104, 3) := by decide +kernel
theorem dX5_replace_23 : decode cX5_replace 23 = .ok (.athrow, 1) := by decide +kernel
theorem dX5_replace_25 : decode cX5_replace 25 = .ok (.getfield 12, 3) := by decide +kernel
theorem dX5_replace_29 : decode cX5_replace 29 = .ok (.invokevirtual 119, 3) := by decide +kernel
theorem dX5_replace_33 : decode cX5_replace 33 = .ok (.getfield 12, 3) := by decide +kernel
theorem dX5_replace_36 : decode cX5_replace 36 = .ok (.getfield 107, 3) := by decide +kernel
theorem dX5_replace_40 : decode cX5_replace 40 = .ok (.aaload, 1) := by decide +kernel
theorem dX5_replace_41 : decode cX5_replace 41 = .ok (.getfield 122, 3) := by decide +kernel
theorem dX5_replace_44 : decode cX5_replace 44 = .ok (.ireturn, 1) := by decide +kernel
theorem dX5_limit_2 : decode cX5_limit 2 = .ok (.if_icmp .lt 9, 3) := by decide +kernel
theorem dX5_limit_8 : decode cX5_limit 8 = .ok (.if_icmp .le 13, 3) := by decide +kernel
theorem dX5_limit_11 : decode cX5_limit 11 = .ok (.new 125, 3) := by decide +kernel
theorem dX5_limit_14 : decode cX5_limit 14 = .ok (.dup, 1) := by decide +kernel
theorem dX5_limit_15 : decode cX5_limit 15 = .ok (.ldc 127, 2) := by decide +kernel
theorem dX5_limit_17 : decode cX5_limit 17 = .ok (.invokespecial 129, 3) := by decide +kernel
theorem dX5_limit_20 : decode cX5_limit 20 = .ok (.athrow, 1) := by decide +kernel
theorem dX5_limit_22 : decode cX5_limit 22 = .ok (.getfield 12, 3) := by decide +kernel
theorem dX5_limit_25 : decode cX5_limit 25 = .ok (.getfield 130, 3) := by decide +kernel
theorem dX5_limit_30 : decode cX5_limit 30 = .ok (.getfield 12, 3) := by decide +kernel
theorem dX5_limit_34 : decode cX5_limit 34 = .ok (.putfield 130, 3) := by decide +kernel
theorem dX5_limit_38 : decode cX5_limit 38 = .ok (.ireturn, 1) := by decide +kernel
theorem dX5_fetch_1 : decode cX5_fetch 1 = .ok (.invokestatic 29, 3) := by decide +kernel
theorem dX5_fetch_5 : decode cX5_fetch 5 = .ok (.getfield 12, 3) := by decide +kernel
theorem dX5_fetch_9 : decode cX5_fetch 9 = .ok (.invokevirtual 37, 3) := by decide +kernel
theorem dX5_fetch_15 : decode cX5_fetch 15 = .ok (.getfield 12, 3) := by decide +kernel
theorem dX5_fetch_19 : decode cX5_fetch 19 = .ok (.invokevirtual 133, 3) := by decide +kernel
theorem dX5_fetch_22 : decode cX5_fetch 22 = .ok (.invokestatic 136, 3) := by decide +kernel
theorem dX5_fetch_25 : decode cX5_fetch 25 = .ok (.ireturn, 1) := by decide +kernel
theorem dX5_patrol_2 : decode cX5_patrol 2 = .ok (.if_icmp .lt 9, 3) := by decide +kernel
theorem dX5_patrol_8 : decode cX5_patrol 8 = .ok (.if_icmp .le 13, 3) := by decide +kernel
theorem dX5_patrol_11 : decode cX5_patrol 11 = .ok (.new 125, 3) := by decide +kernel
theorem dX5_patrol_14 : decode cX5_patrol 14 = .ok (.dup, 1) := by decide +kernel
theorem dX5_patrol_15 : decode cX5_patrol 15 = .ok (.ldc 140, 2) := by decide +kernel
theorem dX5_patrol_17 : decode cX5_patrol 17 = .ok (.invokespecial 129, 3) := by decide +kernel
theorem dX5_patrol_20 : decode cX5_patrol 20 = .ok (.athrow, 1) := by decide +kernel
theorem dX5_patrol_27 : decode cX5_patrol 27 = .ok (.if_icmp .ge 26, 3) := by decide +kernel
theorem dX5_patrol_31 : decode cX5_patrol 31 = .ok (.getfield 12, 3) := by decide +kernel
theorem dX5_patrol_34 : decode cX5_patrol 34 = .ok (.invokevirtual 142, 3) := by decide +kernel
theorem dX5_patrol_37 : decode cX5_patrol 37 = .ok (.ldc2_w 146, 3) := by decide +kernel
theorem dX5_patrol_41 : decode cX5_patrol 41 = .ok (.ifCond .ne 6, 3) := by decide +kernel
theorem dX5_patrol_54 : decode cX5_patrol 54 = .ok (.ireturn, 1) := by decide +kernel
theorem dX5_load_1 : decode cX5_load 1 = .ok (.invokestatic 29, 3) := by decide +kernel
theorem dX5_load_5 : decode cX5_load 5 = .ok (.getfield 21, 3) := by decide +kernel
theorem dX5_load_9 : decode cX5_load 9 = .ok (.invokevirtual 148, 3) := by decide +kernel
theorem dX5_load_12 : decode cX5_load 12 = .ok (.invokestatic 151, 3) := by decide +kernel
theorem dX5_load_15 : decode cX5_load 15 = .ok (.lreturn, 1) := by decide +kernel
theorem dX5_store_1 : decode cX5_store 1 = .ok (.invokestatic 29, 3) := by decide +kernel
theorem dX5_store_5 : decode cX5_store 5 = .ok (.invokestatic 33, 3) := by decide +kernel
theorem dX5_store_9 : decode cX5_store 9 = .ok (.getfield 21, 3) := by decide +kernel
theorem dX5_store_14 : decode cX5_store 14 = .ok (.invokestatic 41, 3) := by decide +kernel
theorem dX5_store_17 : decode cX5_store 17 = .ok (.invokevirtual 154, 3) := by decide +kernel
theorem dX5_store_20 : decode cX5_store 20 = .ok (.ireturn, 1) := by decide +kernel
theorem dX5_flush_1 : decode cX5_flush 1 = .ok (.getfield 21, 3) := by decide +kernel
theorem dX5_flush_4 : decode cX5_flush 4 = .ok (.invokevirtual 158, 3) := by decide +kernel
theorem dX5_flush_7 : decode cX5_flush 7 = .ok (.ireturn, 1) := by decide +kernel
theorem dX5_call_2 : decode cX5_call 2 = .ok (.getfield 25, 3) := by decide +kernel
theorem dX5_call_7 : decode cX5_call 7 = .ok (.putfield 25, 3) := by decide +kernel
theorem dX5_call_11 : decode cX5_call 11 = .ok (.getfield 25, 3) := by decide +kernel
theorem dX5_call_14 : decode cX5_call 14 = .ok (.ireturn, 1) := by decide +kernel
theorem dX5_times_1 : decode cX5_times 1 = .ok (.invokestatic 64, 3) := by decide +kernel
theorem dX5_times_5 : decode cX5_times 5 = .ok (.invokestatic 64, 3) := by decide +kernel
theorem dX5_times_10 : decode cX5_times 10 = .ok (.invokestatic 161, 3) := by decide +kernel
theorem dX5_times_13 : decode cX5_times 13 = .ok (.ireturn, 1) := by decide +kernel
theorem dX5_power_1 : decode cX5_power 1 = .ok (.ifCond .lt 10, 3) := by decide +kernel
theorem dX5_power_8 : decode cX5_power 8 = .ok (.if_icmp .le 13, 3) := by decide +kernel
theorem dX5_power_11 : decode cX5_power 11 = .ok (.new 125, 3) := by decide +kernel
theorem dX5_power_14 : decode cX5_power 14 = .ok (.dup, 1) := by decide +kernel
theorem dX5_power_15 : decode cX5_power 15 = .ok (.ldc 165, 2) := by decide +kernel
theorem dX5_power_17 : decode cX5_power 17 = .ok (.invokespecial 129, 3) := by decide +kernel
theorem dX5_power_20 : decode cX5_power 20 = .ok (.athrow, 1) := by decide +kernel
theorem dX5_power_23 : decode cX5_power 23 = .ok (.invokestatic 167, 3) := by decide +kernel
theorem dX5_power_26 : decode cX5_power 26 = .ok (.ireturn, 1) := by decide +kernel
theorem dX5_symbol_1 : decode cX5_symbol 1 = .ok (.invokestatic 94, 3) := by decide +kernel
theorem dX5_symbol_5 : decode cX5_symbol 5 = .ok (.invokestatic 33, 3) := by decide +kernel
theorem dX5_symbol_9 : decode cX5_symbol 9 = .ok (.invokestatic 41, 3) := by decide +kernel
theorem dX5_symbol_13 : decode cX5_symbol 13 = .ok (.invokestatic 170, 3) := by decide +kernel
theorem dX5_symbol_16 : decode cX5_symbol 16 = .ok (.ireturn, 1) := by decide +kernel
theorem dX5_fooled_1 : decode cX5_fooled 1 = .ok (.invokestatic 94, 3) := by decide +kernel
theorem dX5_fooled_5 : decode cX5_fooled 5 = .ok (.invokestatic 94, 3) := by decide +kernel
theorem dX5_fooled_9 : decode cX5_fooled 9 = .ok (.invokestatic 94, 3) := by decide +kernel
theorem dX5_fooled_14 : decode cX5_fooled 14 = .ok (.if_icmp .eq 13, 3) := by decide +kernel
theorem dX5_fooled_19 : decode cX5_fooled 19 = .ok (.if_icmp .eq 8, 3) := by decide +kernel
theorem dX5_fooled_24 : decode cX5_fooled 24 = .ok (.if_icmp .ne 13, 3) := by decide +kernel
theorem dX5_fooled_27 : decode cX5_fooled 27 = .ok (.new 125, 3) := by decide +kernel
theorem dX5_fooled_30 : decode cX5_fooled 30 = .ok (.dup, 1) := by decide +kernel
theorem dX5_fooled_31 : decode cX5_fooled 31 = .ok (.ldc 174, 2) := by decide +kernel
theorem dX5_fooled_33 : decode cX5_fooled 33 = .ok (.invokespecial 129, 3) := by decide +kernel
theorem dX5_fooled_36 : decode cX5_fooled 36 = .ok (.athrow, 1) := by decide +kernel
theorem dX5_fooled_39 : decode cX5_fooled 39 = .ok (.invokestatic 84, 3) := by decide +kernel
theorem dX5_fooled_44 : decode cX5_fooled 44 = .ok (.invokestatic 84, 3) := by decide +kernel
theorem dX5_fooled_51 : decode cX5_fooled 51 = .ok (.invokestatic 176, 3) := by decide +kernel
theorem dX5_fooled_57 : decode cX5_fooled 57 = .ok (.invokestatic 176, 3) := by decide +kernel
theorem dX5_fooled_72 : decode cX5_fooled 72 = .ok (.if_icmp .gt 31, 3) := by decide +kernel
theorem dX5_fooled_80 : decode cX5_fooled 80 = .ok (.invokestatic 176, 3) := by decide +kernel
theorem dX5_fooled_84 : decode cX5_fooled 84 = .ok (.invokestatic 180, 3) := by decide +kernel
theorem dX5_fooled_87 : decode cX5_fooled 87 = .ok (.ldc2_w 146, 3) := by decide +kernel
theorem dX5_fooled_91 : decode cX5_fooled 91 = .ok (.ifCond .eq 6, 3) := by decide +kernel
theorem dX5_fooled_105 : decode cX5_fooled 105 = .ok (.ireturn, 1) := by decide +kernel
theorem dX5_seen_1 : decode cX5_seen 1 = .ok (.invokestatic 29, 3) := by decide +kernel
theorem dX5_seen_5 : decode cX5_seen 5 = .ok (.invokestatic 94, 3) := by decide +kernel
theorem dX5_seen_9 : decode cX5_seen 9 = .ok (.getfield 12, 3) := by decide +kernel
theorem dX5_seen_12 : decode cX5_seen 12 = .ok (.getfield 107, 3) := by decide +kernel
theorem dX5_seen_16 : decode cX5_seen 16 = .ok (.aaload, 1) := by decide +kernel
theorem dX5_seen_18 : decode cX5_seen 18 = .ok (.invokevirtual 184, 3) := by decide +kernel
theorem dX5_seen_21 : decode cX5_seen 21 = .ok (.ireturn, 1) := by decide +kernel
theorem dX5_sum_1 : decode cX5_sum 1 = .ok (.invokestatic 29, 3) := by decide +kernel
theorem dX5_sum_6 : decode cX5_sum 6 = .ok (.if_icmp .lt 8, 3) := by decide +kernel
theorem dX5_sum_11 : decode cX5_sum 11 = .ok (.if_icmp .le 13, 3) := by decide +kernel
theorem dX5_sum_14 : decode cX5_sum 14 = .ok (.new 125, 3) := by decide +kernel
theorem dX5_sum_17 : decode cX5_sum 17 = .ok (.dup, 1) := by decide +kernel
theorem dX5_sum_18 : decode cX5_sum 18 = .ok (.ldc 187, 2) := by decide +kernel
theorem dX5_sum_20 : decode cX5_sum 20 = .ok (.invokespecial 129, 3) := by decide +kernel
theorem dX5_sum_23 : decode cX5_sum 23 = .ok (.athrow, 1) := by decide +kernel
theorem dX5_sum_25 : decode cX5_sum 25 = .ok (.getfield 12, 3) := by decide +kernel
theorem dX5_sum_29 : decode cX5_sum 29 = .ok (.invokevirtual 37, 3) := by decide +kernel
theorem dX5_sum_33 : decode cX5_sum 33 = .ok (.invokestatic 189, 3) := by decide +kernel
theorem dX5_sum_36 : decode cX5_sum 36 = .ok (.ireturn, 1) := by decide +kernel
theorem dX5_mended_1 : decode cX5_mended 1 = .ok (.invokestatic 29, 3) := by decide +kernel
theorem dX5_mended_5 : decode cX5_mended 5 = .ok (.getfield 12, 3) := by decide +kernel
theorem dX5_mended_9 : decode cX5_mended 9 = .ok (.invokevirtual 192, 3) := by decide +kernel
theorem dX5_mended_14 : decode cX5_mended 14 = .ok (.ldc2_w 146, 3) := by decide +kernel
theorem dX5_mended_18 : decode cX5_mended 18 = .ok (.ifCond .ne 7, 3) := by decide +kernel
theorem dX5_mended_26 : decode cX5_mended 26 = .ok (.getfield 12, 3) := by decide +kernel
theorem dX5_mended_30 : decode cX5_mended 30 = .ok (.invokevirtual 37, 3) := by decide +kernel
theorem dX5_mended_35 : decode cX5_mended 35 = .ok (.invokestatic 51, 3) := by decide +kernel
theorem dX5_mended_38 : decode cX5_mended 38 = .ok (.ireturn, 1) := by decide +kernel
theorem dX5_data_1 : decode cX5_data 1 = .ok (.invokestatic 29, 3) := by decide +kernel
theorem dX5_data_5 : decode cX5_data 5 = .ok (.getfield 12, 3) := by decide +kernel
theorem dX5_data_9 : decode cX5_data 9 = .ok (.invokevirtual 192, 3) := by decide +kernel
theorem dX5_data_12 : decode cX5_data 12 = .ok (.invokestatic 151, 3) := by decide +kernel
theorem dX5_data_15 : decode cX5_data 15 = .ok (.lreturn, 1) := by decide +kernel
theorem dX5_ofChip_1 : decode cX5_ofChip 1 = .ok (.invokestatic 61, 3) := by decide +kernel
theorem dX5_ofChip_5 : decode cX5_ofChip 5 = .ok (.getfield 12, 3) := by decide +kernel
theorem dX5_ofChip_8 : decode cX5_ofChip 8 = .ok (.getfield 67, 3) := by decide +kernel
theorem dX5_ofChip_12 : decode cX5_ofChip 12 = .ok (.aaload, 1) := by decide +kernel
theorem dX5_ofChip_15 : decode cX5_ofChip 15 = .ok (.tableswitch 83 0 5 #[37, 42, 47, 52, 65, 78], 37) := by decide +kernel
theorem dX5_ofChip_53 : decode cX5_ofChip 53 = .ok (.getfield 195, 3) := by decide +kernel
theorem dX5_ofChip_56 : decode cX5_ofChip 56 = .ok (.ireturn, 1) := by decide +kernel
theorem dX5_ofChip_58 : decode cX5_ofChip 58 = .ok (.getfield 81, 3) := by decide +kernel
theorem dX5_ofChip_61 : decode cX5_ofChip 61 = .ok (.ireturn, 1) := by decide +kernel
theorem dX5_ofChip_63 : decode cX5_ofChip 63 = .ok (.getfield 198, 3) := by decide +kernel
theorem dX5_ofChip_66 : decode cX5_ofChip 66 = .ok (.ireturn, 1) := by decide +kernel
theorem dX5_ofChip_68 : decode cX5_ofChip 68 = .ok (.getfield 110, 3) := by decide +kernel
theorem dX5_ofChip_71 : decode cX5_ofChip 71 = .ok (.ifCond .eq 7, 3) := by decide +kernel
theorem dX5_ofChip_79 : decode cX5_ofChip 79 = .ok (.ireturn, 1) := by decide +kernel
theorem dX5_ofChip_81 : decode cX5_ofChip 81 = .ok (.getfield 201, 3) := by decide +kernel
theorem dX5_ofChip_84 : decode cX5_ofChip 84 = .ok (.ifCond .eq 7, 3) := by decide +kernel
theorem dX5_ofChip_92 : decode cX5_ofChip 92 = .ok (.ireturn, 1) := by decide +kernel
theorem dX5_ofChip_94 : decode cX5_ofChip 94 = .ok (.invokevirtual 77, 3) := by decide +kernel
theorem dX5_ofChip_97 : decode cX5_ofChip 97 = .ok (.ireturn, 1) := by decide +kernel
theorem dX5_ofChip_98 : decode cX5_ofChip 98 = .ok (.new 125, 3) := by decide +kernel
theorem dX5_ofChip_101 : decode cX5_ofChip 101 = .ok (.dup, 1) := by decide +kernel
theorem dX5_ofChip_102 : decode cX5_ofChip 102 = .ok (.ldc 204, 2) := by decide +kernel
theorem dX5_ofChip_104 : decode cX5_ofChip 104 = .ok (.invokespecial 129, 3) := by decide +kernel
theorem dX5_ofChip_107 : decode cX5_ofChip 107 = .ok (.athrow, 1) := by decide +kernel
theorem dX5_stored_1 : decode cX5_stored 1 = .ok (.invokestatic 61, 3) := by decide +kernel
theorem dX5_stored_5 : decode cX5_stored 5 = .ok (.invokestatic 29, 3) := by decide +kernel
theorem dX5_stored_9 : decode cX5_stored 9 = .ok (.getfield 12, 3) := by decide +kernel
theorem dX5_stored_12 : decode cX5_stored 12 = .ok (.getfield 67, 3) := by decide +kernel
theorem dX5_stored_16 : decode cX5_stored 16 = .ok (.aaload, 1) := by decide +kernel
theorem dX5_stored_18 : decode cX5_stored 18 = .ok (.invokevirtual 87, 3) := by decide +kernel
theorem dX5_stored_21 : decode cX5_stored 21 = .ok (.ireturn, 1) := by decide +kernel
theorem dX5_ofFrame_1 : decode cX5_ofFrame 1 = .ok (.invokestatic 206, 3) := by decide +kernel
theorem dX5_ofFrame_5 : decode cX5_ofFrame 5 = .ok (.getfield 21, 3) := by decide +kernel
theorem dX5_ofFrame_8 : decode cX5_ofFrame 8 = .ok (.getfield 209, 3) := by decide +kernel
theorem dX5_ofFrame_12 : decode cX5_ofFrame 12 = .ok (.aaload, 1) := by decide +kernel
theorem dX5_ofFrame_15 : decode cX5_ofFrame 15 = .ok (.tableswitch 48 0 2 #[25, 30, 43], 25) := by decide +kernel
theorem dX5_ofFrame_41 : decode cX5_ofFrame 41 = .ok (.getfield 213, 3) := by decide +kernel
theorem dX5_ofFrame_44 : decode cX5_ofFrame 44 = .ok (.ireturn, 1) := by decide +kernel
theorem dX5_ofFrame_46 : decode cX5_ofFrame 46 = .ok (.getfield 218, 3) := by decide +kernel
theorem dX5_ofFrame_49 : decode cX5_ofFrame 49 = .ok (.ifCond .eq 7, 3) := by decide +kernel
theorem dX5_ofFrame_57 : decode cX5_ofFrame 57 = .ok (.ireturn, 1) := by decide +kernel
theorem dX5_ofFrame_59 : decode cX5_ofFrame 59 = .ok (.getfield 221, 3) := by decide +kernel
theorem dX5_ofFrame_62 : decode cX5_ofFrame 62 = .ok (.ireturn, 1) := by decide +kernel
theorem dX5_ofFrame_63 : decode cX5_ofFrame 63 = .ok (.new 125, 3) := by decide +kernel
theorem dX5_ofFrame_66 : decode cX5_ofFrame 66 = .ok (.dup, 1) := by decide +kernel
theorem dX5_ofFrame_67 : decode cX5_ofFrame 67 = .ok (.ldc 224, 2) := by decide +kernel
theorem dX5_ofFrame_69 : decode cX5_ofFrame 69 = .ok (.invokespecial 129, 3) := by decide +kernel
theorem dX5_ofFrame_72 : decode cX5_ofFrame 72 = .ok (.athrow, 1) := by decide +kernel
theorem dX5_held_1 : decode cX5_held 1 = .ok (.invokestatic 206, 3) := by decide +kernel
theorem dX5_held_5 : decode cX5_held 5 = .ok (.getfield 21, 3) := by decide +kernel
theorem dX5_held_8 : decode cX5_held 8 = .ok (.getfield 209, 3) := by decide +kernel
theorem dX5_held_12 : decode cX5_held 12 = .ok (.aaload, 1) := by decide +kernel
theorem dX5_held_13 : decode cX5_held 13 = .ok (.getfield 226, 3) := by decide +kernel
theorem dX5_held_16 : decode cX5_held 16 = .ok (.invokestatic 151, 3) := by decide +kernel
theorem dX5_held_19 : decode cX5_held 19 = .ok (.lreturn, 1) := by decide +kernel
theorem dX5_bank_1 : decode cX5_bank 1 = .ok (.tableswitch 171 0 12 #[67, 75, 83, 91, 99, 110, 118, 126, 134, 142, 150, 158, 166], 67) := by decide +kernel
theorem dX5_bank_69 : decode cX5_bank 69 = .ok (.getfield 12, 3) := by decide +kernel
theorem dX5_bank_72 : decode cX5_bank 72 = .ok (.getfield 230, 3) := by decide +kernel
theorem dX5_bank_75 : decode cX5_bank 75 = .ok (.ireturn, 1) := by decide +kernel
theorem dX5_bank_77 : decode cX5_bank 77 = .ok (.getfield 12, 3) := by decide +kernel
theorem dX5_bank_80 : decode cX5_bank 80 = .ok (.getfield 233, 3) := by decide +kernel
theorem dX5_bank_83 : decode cX5_bank 83 = .ok (.ireturn, 1) := by decide +kernel
theorem dX5_bank_85 : decode cX5_bank 85 = .ok (.getfield 12, 3) := by decide +kernel
theorem dX5_bank_88 : decode cX5_bank 88 = .ok (.getfield 236, 3) := by decide +kernel
theorem dX5_bank_91 : decode cX5_bank 91 = .ok (.ireturn, 1) := by decide +kernel
theorem dX5_bank_93 : decode cX5_bank 93 = .ok (.getfield 12, 3) := by decide +kernel
theorem dX5_bank_96 : decode cX5_bank 96 = .ok (.invokevirtual 114, 3) := by decide +kernel
theorem dX5_bank_99 : decode cX5_bank 99 = .ok (.ireturn, 1) := by decide +kernel
theorem dX5_bank_101 : decode cX5_bank 101 = .ok (.getfield 12, 3) := by decide +kernel
theorem dX5_bank_104 : decode cX5_bank 104 = .ok (.invokevirtual 97, 3) := by decide +kernel
theorem dX5_bank_107 : decode cX5_bank 107 = .ok (.invokestatic 55, 3) := by decide +kernel
theorem dX5_bank_110 : decode cX5_bank 110 = .ok (.ireturn, 1) := by decide +kernel
theorem dX5_bank_112 : decode cX5_bank 112 = .ok (.getfield 12, 3) := by decide +kernel
theorem dX5_bank_115 : decode cX5_bank 115 = .ok (.invokevirtual 239, 3) := by decide +kernel
theorem dX5_bank_118 : decode cX5_bank 118 = .ok (.ireturn, 1) := by decide +kernel
theorem dX5_bank_120 : decode cX5_bank 120 = .ok (.getfield 12, 3) := by decide +kernel
theorem dX5_bank_123 : decode cX5_bank 123 = .ok (.getfield 242, 3) := by decide +kernel
theorem dX5_bank_126 : decode cX5_bank 126 = .ok (.ireturn, 1) := by decide +kernel
theorem dX5_bank_128 : decode cX5_bank 128 = .ok (.getfield 21, 3) := by decide +kernel
theorem dX5_bank_131 : decode cX5_bank 131 = .ok (.getfield 245, 3) := by decide +kernel
theorem dX5_bank_134 : decode cX5_bank 134 = .ok (.ireturn, 1) := by decide +kernel
theorem dX5_bank_136 : decode cX5_bank 136 = .ok (.getfield 21, 3) := by decide +kernel
theorem dX5_bank_139 : decode cX5_bank 139 = .ok (.getfield 248, 3) := by decide +kernel
theorem dX5_bank_142 : decode cX5_bank 142 = .ok (.ireturn, 1) := by decide +kernel
theorem dX5_bank_144 : decode cX5_bank 144 = .ok (.getfield 21, 3) := by decide +kernel
theorem dX5_bank_147 : decode cX5_bank 147 = .ok (.invokevirtual 251, 3) := by decide +kernel
theorem dX5_bank_150 : decode cX5_bank 150 = .ok (.ireturn, 1) := by decide +kernel
theorem dX5_bank_152 : decode cX5_bank 152 = .ok (.getfield 12, 3) := by decide +kernel
theorem dX5_bank_155 : decode cX5_bank 155 = .ok (.invokevirtual 254, 3) := by decide +kernel
theorem dX5_bank_158 : decode cX5_bank 158 = .ok (.ireturn, 1) := by decide +kernel
theorem dX5_bank_160 : decode cX5_bank 160 = .ok (.getfield 12, 3) := by decide +kernel
theorem dX5_bank_163 : decode cX5_bank 163 = .ok (.getfield 130, 3) := by decide +kernel
theorem dX5_bank_166 : decode cX5_bank 166 = .ok (.ireturn, 1) := by decide +kernel
theorem dX5_bank_168 : decode cX5_bank 168 = .ok (.getfield 25, 3) := by decide +kernel
theorem dX5_bank_171 : decode cX5_bank 171 = .ok (.ireturn, 1) := by decide +kernel
theorem dX5_bank_172 : decode cX5_bank 172 = .ok (.new 125, 3) := by decide +kernel
theorem dX5_bank_175 : decode cX5_bank 175 = .ok (.dup, 1) := by decide +kernel
theorem dX5_bank_176 : decode cX5_bank 176 = .ok (.ldc_w 257, 3) := by decide +kernel
theorem dX5_bank_179 : decode cX5_bank 179 = .ok (.invokespecial 129, 3) := by decide +kernel
theorem dX5_bank_182 : decode cX5_bank 182 = .ok (.athrow, 1) := by decide +kernel
theorem dX5_row_1 : decode cX5_row 1 = .ok (.invokestatic 29, 3) := by decide +kernel
theorem dX5_row_4 : decode cX5_row 4 = .ok (.new 259, 3) := by decide +kernel
theorem dX5_row_8 : decode cX5_row 8 = .ok (.invokespecial 261, 3) := by decide +kernel
theorem dX5_row_17 : decode cX5_row 17 = .ok (.if_icmp .ge 47, 3) := by decide +kernel
theorem dX5_row_21 : decode cX5_row 21 = .ok (.getfield 12, 3) := by decide +kernel
theorem dX5_row_24 : decode cX5_row 24 = .ok (.getfield 107, 3) := by decide +kernel
theorem dX5_row_28 : decode cX5_row 28 = .ok (.aaload, 1) := by decide +kernel
theorem dX5_row_34 : decode cX5_row 34 = .ok (.getfield 110, 3) := by decide +kernel
theorem dX5_row_37 : decode cX5_row 37 = .ok (.ifCond .eq 8, 3) := by decide +kernel
theorem dX5_row_48 : decode cX5_row 48 = .ok (.invokevirtual 184, 3) := by decide +kernel
theorem dX5_row_51 : decode cX5_row 51 = .ok (.invokestatic 262, 3) := by decide +kernel
theorem dX5_row_54 : decode cX5_row 54 = .ok (.invokevirtual 266, 3) := by decide +kernel
theorem dX5_row_65 : decode cX5_row 65 = .ok (.invokevirtual 270, 3) := by decide +kernel
theorem dX5_row_68 : decode cX5_row 68 = .ok (.areturn, 1) := by decide +kernel
theorem dX5_wouldMend_1 : decode cX5_wouldMend 1 = .ok (.invokestatic 29, 3) := by decide +kernel
theorem dX5_wouldMend_5 : decode cX5_wouldMend 5 = .ok (.ifCond .lt 10, 3) := by decide +kernel
theorem dX5_wouldMend_12 : decode cX5_wouldMend 12 = .ok (.if_icmp .le 14, 3) := by decide +kernel
theorem dX5_wouldMend_15 : decode cX5_wouldMend 15 = .ok (.new 125, 3) := by decide +kernel
theorem dX5_wouldMend_18 : decode cX5_wouldMend 18 = .ok (.dup, 1) := by decide +kernel
theorem dX5_wouldMend_19 : decode cX5_wouldMend 19 = .ok (.ldc_w 274, 3) := by decide +kernel
theorem dX5_wouldMend_22 : decode cX5_wouldMend 22 = .ok (.invokespecial 129, 3) := by decide +kernel
theorem dX5_wouldMend_25 : decode cX5_wouldMend 25 = .ok (.athrow, 1) := by decide +kernel
theorem dX5_wouldMend_27 : decode cX5_wouldMend 27 = .ok (.getfield 12, 3) := by decide +kernel
theorem dX5_wouldMend_31 : decode cX5_wouldMend 31 = .ok (.invokevirtual 37, 3) := by decide +kernel
theorem dX5_wouldMend_38 : decode cX5_wouldMend 38 = .ok (.getfield 12, 3) := by decide +kernel
theorem dX5_wouldMend_41 : decode cX5_wouldMend 41 = .ok (.invokevirtual 97, 3) := by decide +kernel
theorem dX5_wouldMend_46 : decode cX5_wouldMend 46 = .ok (.invokestatic 180, 3) := by decide +kernel
theorem dX5_wouldMend_49 : decode cX5_wouldMend 49 = .ok (.invokestatic 136, 3) := by decide +kernel
theorem dX5_wouldMend_52 : decode cX5_wouldMend 52 = .ok (.ireturn, 1) := by decide +kernel
theorem dX5_spare_1 : decode cX5_spare 1 = .ok (.invokestatic 29, 3) := by decide +kernel
theorem dX5_spare_5 : decode cX5_spare 5 = .ok (.getfield 12, 3) := by decide +kernel
theorem dX5_spare_9 : decode cX5_spare 9 = .ok (.invokevirtual 192, 3) := by decide +kernel
theorem dX5_spare_14 : decode cX5_spare 14 = .ok (.ldc2_w 146, 3) := by decide +kernel
theorem dX5_spare_18 : decode cX5_spare 18 = .ok (.ifCond .ne 5, 3) := by decide +kernel
theorem dX5_spare_22 : decode cX5_spare 22 = .ok (.ireturn, 1) := by decide +kernel
theorem dX5_spare_24 : decode cX5_spare 24 = .ok (.getfield 12, 3) := by decide +kernel
theorem dX5_spare_28 : decode cX5_spare 28 = .ok (.invokevirtual 37, 3) := by decide +kernel
theorem dX5_spare_33 : decode cX5_spare 33 = .ok (.invokestatic 51, 3) := by decide +kernel
theorem dX5_spare_39 : decode cX5_spare 39 = .ok (.getfield 12, 3) := by decide +kernel
theorem dX5_spare_42 : decode cX5_spare 42 = .ok (.invokevirtual 97, 3) := by decide +kernel
theorem dX5_spare_50 : decode cX5_spare 50 = .ok (.invokestatic 55, 3) := by decide +kernel
theorem dX5_spare_62 : decode cX5_spare 62 = .ok (.invokestatic 55, 3) := by decide +kernel
theorem dX5_spare_67 : decode cX5_spare 67 = .ok (.ireturn, 1) := by decide +kernel
theorem dX5_wouldLose_1 : decode cX5_wouldLose 1 = .ok (.invokestatic 94, 3) := by decide +kernel
theorem dX5_wouldLose_5 : decode cX5_wouldLose 5 = .ok (.invokestatic 64, 3) := by decide +kernel
theorem dX5_wouldLose_9 : decode cX5_wouldLose 9 = .ok (.getfield 12, 3) := by decide +kernel
theorem dX5_wouldLose_12 : decode cX5_wouldLose 12 = .ok (.invokevirtual 97, 3) := by decide +kernel
theorem dX5_wouldLose_26 : decode cX5_wouldLose 26 = .ok (.if_icmp .ge 46, 3) := by decide +kernel
theorem dX5_wouldLose_30 : decode cX5_wouldLose 30 = .ok (.getfield 12, 3) := by decide +kernel
theorem dX5_wouldLose_35 : decode cX5_wouldLose 35 = .ok (.invokevirtual 37, 3) := by decide +kernel
theorem dX5_wouldLose_42 : decode cX5_wouldLose 42 = .ok (.invokestatic 276, 3) := by decide +kernel
theorem dX5_wouldLose_45 : decode cX5_wouldLose 45 = .ok (.invokestatic 176, 3) := by decide +kernel
theorem dX5_wouldLose_53 : decode cX5_wouldLose 53 = .ok (.invokestatic 180, 3) := by decide +kernel
theorem dX5_wouldLose_56 : decode cX5_wouldLose 56 = .ok (.ldc2_w 146, 3) := by decide +kernel
theorem dX5_wouldLose_60 : decode cX5_wouldLose 60 = .ok (.ifCond .ne 6, 3) := by decide +kernel
theorem dX5_wouldLose_74 : decode cX5_wouldLose 74 = .ok (.ireturn, 1) := by decide +kernel
theorem dX5_health_3 : decode cX5_health 3 = .ok (.getfield 12, 3) := by decide +kernel
theorem dX5_health_6 : decode cX5_health 6 = .ok (.invokevirtual 254, 3) := by decide +kernel
theorem dX5_health_10 : decode cX5_health 10 = .ok (.i2d, 1) := by decide +kernel
theorem dX5_health_11 : decode cX5_health 11 = .ok (.ldc2_w 279, 3) := by decide +kernel
theorem dX5_health_14 : decode cX5_health 14 = .ok (.ddiv, 1) := by decide +kernel
theorem dX5_health_15 : decode cX5_health 15 = .ok (.dreturn, 1) := by decide +kernel
theorem dX5_isSound_1 : decode cX5_isSound 1 = .ok (.getfield 12, 3) := by decide +kernel
theorem dX5_isSound_4 : decode cX5_isSound 4 = .ok (.invokevirtual 281, 3) := by decide +kernel
theorem dX5_isSound_7 : decode cX5_isSound 7 = .ok (.ifCond .eq 48, 3) := by decide +kernel
theorem dX5_isSound_11 : decode cX5_isSound 11 = .ok (.getfield 12, 3) := by decide +kernel
theorem dX5_isSound_14 : decode cX5_isSound 14 = .ok (.invokevirtual 97, 3) := by decide +kernel
theorem dX5_isSound_17 : decode cX5_isSound 17 = .ok (.invokestatic 55, 3) := by decide +kernel
theorem dX5_isSound_21 : decode cX5_isSound 21 = .ok (.if_icmp .gt 34, 3) := by decide +kernel
theorem dX5_isSound_25 : decode cX5_isSound 25 = .ok (.getfield 21, 3) := by decide +kernel
theorem dX5_isSound_28 : decode cX5_isSound 28 = .ok (.invokevirtual 285, 3) := by decide +kernel
theorem dX5_isSound_31 : decode cX5_isSound 31 = .ok (.ifCond .eq 24, 3) := by decide +kernel
theorem dX5_isSound_35 : decode cX5_isSound 35 = .ok (.getfield 12, 3) := by decide +kernel
theorem dX5_isSound_38 : decode cX5_isSound 38 = .ok (.getfield 233, 3) := by decide +kernel
theorem dX5_isSound_42 : decode cX5_isSound 42 = .ok (.getfield 12, 3) := by decide +kernel
theorem dX5_isSound_45 : decode cX5_isSound 45 = .ok (.getfield 230, 3) := by decide +kernel
theorem dX5_isSound_48 : decode cX5_isSound 48 = .ok (.if_icmp .gt 7, 3) := by decide +kernel
theorem dX5_isSound_56 : decode cX5_isSound 56 = .ok (.ireturn, 1) := by decide +kernel
theorem dX5_digest_0 : decode cX5_digest 0 = .ok (.ldc2_w 288, 3) := by decide +kernel
theorem dX5_digest_9 : decode cX5_digest 9 = .ok (.if_icmp .ge 22, 3) := by decide +kernel
theorem dX5_digest_13 : decode cX5_digest 13 = .ok (.ldc2_w 290, 3) := by decide +kernel
theorem dX5_digest_19 : decode cX5_digest 19 = .ok (.invokevirtual 292, 3) := by decide +kernel
theorem dX5_digest_36 : decode cX5_digest 36 = .ok (.if_icmp .ge 40, 3) := by decide +kernel
theorem dX5_digest_46 : decode cX5_digest 46 = .ok (.if_icmp .ge 24, 3) := by decide +kernel
theorem dX5_digest_50 : decode cX5_digest 50 = .ok (.ldc2_w 290, 3) := by decide +kernel
theorem dX5_digest_58 : decode cX5_digest 58 = .ok (.invokevirtual 295, 3) := by decide +kernel
theorem dX5_digest_81 : decode cX5_digest 81 = .ok (.if_icmp .ge 47, 3) := by decide +kernel
theorem dX5_digest_85 : decode cX5_digest 85 = .ok (.ldc2_w 290, 3) := by decide +kernel
theorem dX5_digest_91 : decode cX5_digest 91 = .ok (.invokevirtual 298, 3) := by decide +kernel
theorem dX5_digest_98 : decode cX5_digest 98 = .ok (.ldc2_w 290, 3) := by decide +kernel
theorem dX5_digest_104 : decode cX5_digest 104 = .ok (.invokevirtual 301, 3) := by decide +kernel
theorem dX5_digest_110 : decode cX5_digest 110 = .ok (.ldc2_w 290, 3) := by decide +kernel
theorem dX5_digest_116 : decode cX5_digest 116 = .ok (.invokevirtual 304, 3) := by decide +kernel
theorem dX5_digest_133 : decode cX5_digest 133 = .ok (.if_icmp .ge 40, 3) := by decide +kernel
theorem dX5_digest_143 : decode cX5_digest 143 = .ok (.if_icmp .ge 24, 3) := by decide +kernel
theorem dX5_digest_147 : decode cX5_digest 147 = .ok (.ldc2_w 290, 3) := by decide +kernel
theorem dX5_digest_155 : decode cX5_digest 155 = .ok (.invokevirtual 307, 3) := by decide +kernel
theorem dX5_digest_177 : decode cX5_digest 177 = .ok (.if_icmp .ge 51, 3) := by decide +kernel
theorem dX5_digest_186 : decode cX5_digest 186 = .ok (.if_icmp .ge 24, 3) := by decide +kernel
theorem dX5_digest_190 : decode cX5_digest 190 = .ok (.ldc2_w 290, 3) := by decide +kernel
theorem dX5_digest_198 : decode cX5_digest 198 = .ok (.invokevirtual 310, 3) := by decide +kernel
theorem dX5_digest_211 : decode cX5_digest 211 = .ok (.ldc2_w 290, 3) := by decide +kernel
theorem dX5_digest_217 : decode cX5_digest 217 = .ok (.invokevirtual 313, 3) := by decide +kernel
theorem dX5_digest_229 : decode cX5_digest 229 = .ok (.ldc2_w 290, 3) := by decide +kernel
theorem dX5_digest_233 : decode cX5_digest 233 = .ok (.ldc2_w 316, 3) := by decide +kernel
theorem dX5_digest_237 : decode cX5_digest 237 = .ok (.invokevirtual 318, 3) := by decide +kernel
theorem dX5_digest_240 : decode cX5_digest 240 = .ok (.dmul, 1) := by decide +kernel
theorem dX5_digest_241 : decode cX5_digest 241 = .ok (.d2l, 1) := by decide +kernel
theorem dX5_digest_245 : decode cX5_digest 245 = .ok (.ldc2_w 290, 3) := by decide +kernel
theorem dX5_digest_250 : decode cX5_digest 250 = .ok (.invokevirtual 322, 3) := by decide +kernel
theorem dX5_digest_253 : decode cX5_digest 253 = .ok (.ifCond .eq 7, 3) := by decide +kernel
theorem dX5_digest_263 : decode cX5_digest 263 = .ok (.lreturn, 1) := by decide +kernel
theorem dX5_checkLine_1 : decode cX5_checkLine 1 = .ok (.ifCond .lt 9, 3) := by decide +kernel
theorem dX5_checkLine_7 : decode cX5_checkLine 7 = .ok (.if_icmp .lt 14, 3) := by decide +kernel
theorem dX5_checkLine_10 : decode cX5_checkLine 10 = .ok (.new 325, 3) := by decide +kernel
theorem dX5_checkLine_13 : decode cX5_checkLine 13 = .ok (.dup, 1) := by decide +kernel
theorem dX5_checkLine_14 : decode cX5_checkLine 14 = .ok (.ldc_w 327, 3) := by decide +kernel
theorem dX5_checkLine_17 : decode cX5_checkLine 17 = .ok (.invokespecial 329, 3) := by decide +kernel
theorem dX5_checkLine_20 : decode cX5_checkLine 20 = .ok (.athrow, 1) := by decide +kernel
theorem dX5_checkLine_21 : decode cX5_checkLine 21 = .ok (.return_, 1) := by decide +kernel
theorem dX5_checkPlace_1 : decode cX5_checkPlace 1 = .ok (.ifCond .lt 9, 3) := by decide +kernel
theorem dX5_checkPlace_7 : decode cX5_checkPlace 7 = .ok (.if_icmp .lt 14, 3) := by decide +kernel
theorem dX5_checkPlace_10 : decode cX5_checkPlace 10 = .ok (.new 325, 3) := by decide +kernel
theorem dX5_checkPlace_13 : decode cX5_checkPlace 13 = .ok (.dup, 1) := by decide +kernel
theorem dX5_checkPlace_14 : decode cX5_checkPlace 14 = .ok (.ldc_w 330, 3) := by decide +kernel
theorem dX5_checkPlace_17 : decode cX5_checkPlace 17 = .ok (.invokespecial 329, 3) := by decide +kernel
theorem dX5_checkPlace_20 : decode cX5_checkPlace 20 = .ok (.athrow, 1) := by decide +kernel
theorem dX5_checkPlace_21 : decode cX5_checkPlace 21 = .ok (.return_, 1) := by decide +kernel
theorem dX5_checkChip_1 : decode cX5_checkChip 1 = .ok (.ifCond .lt 9, 3) := by decide +kernel
theorem dX5_checkChip_7 : decode cX5_checkChip 7 = .ok (.if_icmp .lt 14, 3) := by decide +kernel
theorem dX5_checkChip_10 : decode cX5_checkChip 10 = .ok (.new 325, 3) := by decide +kernel
theorem dX5_checkChip_13 : decode cX5_checkChip 13 = .ok (.dup, 1) := by decide +kernel
theorem dX5_checkChip_14 : decode cX5_checkChip 14 = .ok (.ldc_w 332, 3) := by decide +kernel
theorem dX5_checkChip_17 : decode cX5_checkChip 17 = .ok (.invokespecial 329, 3) := by decide +kernel
theorem dX5_checkChip_20 : decode cX5_checkChip 20 = .ok (.athrow, 1) := by decide +kernel
theorem dX5_checkChip_21 : decode cX5_checkChip 21 = .ok (.return_, 1) := by decide +kernel
theorem dX5_checkFrame_1 : decode cX5_checkFrame 1 = .ok (.ifCond .lt 8, 3) := by decide +kernel
theorem dX5_checkFrame_6 : decode cX5_checkFrame 6 = .ok (.if_icmp .lt 14, 3) := by decide +kernel
theorem dX5_checkFrame_9 : decode cX5_checkFrame 9 = .ok (.new 325, 3) := by decide +kernel
theorem dX5_checkFrame_12 : decode cX5_checkFrame 12 = .ok (.dup, 1) := by decide +kernel
theorem dX5_checkFrame_13 : decode cX5_checkFrame 13 = .ok (.ldc_w 334, 3) := by decide +kernel
theorem dX5_checkFrame_16 : decode cX5_checkFrame 16 = .ok (.invokespecial 329, 3) := by decide +kernel
theorem dX5_checkFrame_19 : decode cX5_checkFrame 19 = .ok (.athrow, 1) := by decide +kernel
theorem dX5_checkFrame_20 : decode cX5_checkFrame 20 = .ok (.return_, 1) := by decide +kernel
theorem dX5_checkElement_1 : decode cX5_checkElement 1 = .ok (.ifCond .lt 9, 3) := by decide +kernel
theorem dX5_checkElement_7 : decode cX5_checkElement 7 = .ok (.if_icmp .le 14, 3) := by decide +kernel
theorem dX5_checkElement_10 : decode cX5_checkElement 10 = .ok (.new 125, 3) := by decide +kernel
theorem dX5_checkElement_13 : decode cX5_checkElement 13 = .ok (.dup, 1) := by decide +kernel
theorem dX5_checkElement_14 : decode cX5_checkElement 14 = .ok (.ldc_w 336, 3) := by decide +kernel
theorem dX5_checkElement_17 : decode cX5_checkElement 17 = .ok (.invokespecial 129, 3) := by decide +kernel
theorem dX5_checkElement_20 : decode cX5_checkElement 20 = .ok (.athrow, 1) := by decide +kernel
theorem dX5_checkElement_21 : decode cX5_checkElement 21 = .ok (.return_, 1) := by decide +kernel
theorem dX5_checkElementNotZero_2 : decode cX5_checkElementNotZero 2 = .ok (.if_icmp .lt 9, 3) := by decide +kernel
theorem dX5_checkElementNotZero_8 : decode cX5_checkElementNotZero 8 = .ok (.if_icmp .le 14, 3) := by decide +kernel
theorem dX5_checkElementNotZero_11 : decode cX5_checkElementNotZero 11 = .ok (.new 125, 3) := by decide +kernel
theorem dX5_checkElementNotZero_14 : decode cX5_checkElementNotZero 14 = .ok (.dup, 1) := by decide +kernel
theorem dX5_checkElementNotZero_15 : decode cX5_checkElementNotZero 15 = .ok (.ldc_w 338, 3) := by decide +kernel
theorem dX5_checkElementNotZero_18 : decode cX5_checkElementNotZero 18 = .ok (.invokespecial 129, 3) := by decide +kernel
theorem dX5_checkElementNotZero_21 : decode cX5_checkElementNotZero 21 = .ok (.athrow, 1) := by decide +kernel
theorem dX5_checkElementNotZero_22 : decode cX5_checkElementNotZero 22 = .ok (.return_, 1) := by decide +kernel
theorem dX5_checkData_3 : decode cX5_checkData 3 = .ok (.ifCond .lt 11, 3) := by decide +kernel
theorem dX5_checkData_7 : decode cX5_checkData 7 = .ok (.ldc2_w 340, 3) := by decide +kernel
theorem dX5_checkData_11 : decode cX5_checkData 11 = .ok (.ifCond .le 14, 3) := by decide +kernel
theorem dX5_checkData_14 : decode cX5_checkData 14 = .ok (.new 125, 3) := by decide +kernel
theorem dX5_checkData_17 : decode cX5_checkData 17 = .ok (.dup, 1) := by decide +kernel
theorem dX5_checkData_18 : decode cX5_checkData 18 = .ok (.ldc_w 342, 3) := by decide +kernel
theorem dX5_checkData_21 : decode cX5_checkData 21 = .ok (.invokespecial 129, 3) := by decide +kernel
theorem dX5_checkData_24 : decode cX5_checkData 24 = .ok (.athrow, 1) := by decide +kernel
theorem dX5_checkData_25 : decode cX5_checkData 25 = .ok (.return_, 1) := by decide +kernel
theorem dX5_wrongIn_1 : decode cX5_wrongIn 1 = .ok (.ldc2_w 146, 3) := by decide +kernel
theorem dX5_wrongIn_5 : decode cX5_wrongIn 5 = .ok (.ifCond .ne 7, 3) := by decide +kernel
theorem dX5_wrongIn_15 : decode cX5_wrongIn 15 = .ok (.invokestatic 51, 3) := by decide +kernel
theorem dX5_wrongIn_18 : decode cX5_wrongIn 18 = .ok (.invokestatic 55, 3) := by decide +kernel
theorem dX5_wrongIn_21 : decode cX5_wrongIn 21 = .ok (.ireturn, 1) := by decide +kernel
theorem dX5_dataOrNone_1 : decode cX5_dataOrNone 1 = .ok (.ldc2_w 146, 3) := by decide +kernel
theorem dX5_dataOrNone_5 : decode cX5_dataOrNone 5 = .ok (.ifCond .ne 9, 3) := by decide +kernel
theorem dX5_dataOrNone_8 : decode cX5_dataOrNone 8 = .ok (.ldc2_w 146, 3) := by decide +kernel
theorem dX5_dataOrNone_15 : decode cX5_dataOrNone 15 = .ok (.invokestatic 344, 3) := by decide +kernel
theorem dX5_dataOrNone_18 : decode cX5_dataOrNone 18 = .ok (.lreturn, 1) := by decide +kernel
theorem dX5_signOf_3 : decode cX5_signOf 3 = .ok (.if_icmp .ge 10, 3) := by decide +kernel
theorem dX5_signOf_21 : decode cX5_signOf 21 = .ok (.ireturn, 1) := by decide +kernel
theorem dX5_numberAt_9 : decode cX5_numberAt 9 = .ok (.ireturn, 1) := by decide +kernel
theorem dX5_withNumber_6 : decode cX5_withNumber 6 = .ok (.ldc2_w 347, 3) := by decide +kernel
theorem dX5_withNumber_12 : decode cX5_withNumber 12 = .ok (.ldc2_w 146, 3) := by decide +kernel
theorem dX5_withNumber_26 : decode cX5_withNumber 26 = .ok (.lreturn, 1) := by decide +kernel
theorem dX5_isIn_5 : decode cX5_isIn 5 = .ok (.ifCond .eq 7, 3) := by decide +kernel
theorem dX5_isIn_13 : decode cX5_isIn 13 = .ok (.ireturn, 1) := by decide +kernel
theorem dX6_init_1 : decode cX6_init 1 = .ok (.invokespecial 1, 3) := by decide +kernel
theorem dX6_init_4 : decode cX6_init 4 = .ok (.return_, 1) := by decide +kernel
theorem dX7_init_1 : decode cX7_init 1 = .ok (.invokespecial 3, 3) := by decide +kernel
theorem dX7_init_6 : decode cX7_init 6 = .ok (.putfield 9, 3) := by decide +kernel
theorem dX7_init_9 : decode cX7_init 9 = .ok (.return_, 1) := by decide +kernel
theorem dX8_init_1 : decode cX8_init 1 = .ok (.invokespecial 3, 3) := by decide +kernel
theorem dX8_init_6 : decode cX8_init 6 = .ok (.putfield 9, 3) := by decide +kernel
theorem dX8_init_9 : decode cX8_init 9 = .ok (.return_, 1) := by decide +kernel
theorem dX9_init_1 : decode cX9_init 1 = .ok (.invokespecial 1, 3) := by decide +kernel
theorem dX9_init_8 : decode cX9_init 8 = .ok (.newarray .int, 2) := by decide +kernel
theorem dX9_init_10 : decode cX9_init 10 = .ok (.putfield 7, 3) := by decide +kernel
theorem dX9_init_16 : decode cX9_init 16 = .ok (.newarray .int, 2) := by decide +kernel
theorem dX9_init_18 : decode cX9_init 18 = .ok (.putfield 13, 3) := by decide +kernel
theorem dX9_init_25 : decode cX9_init 25 = .ok (.newarray .int, 2) := by decide +kernel
theorem dX9_init_27 : decode cX9_init 27 = .ok (.putfield 16, 3) := by decide +kernel
theorem dX9_init_34 : decode cX9_init 34 = .ok (.newarray .int, 2) := by decide +kernel
theorem dX9_init_36 : decode cX9_init 36 = .ok (.putfield 19, 3) := by decide +kernel
theorem dX9_init_43 : decode cX9_init 43 = .ok (.newarray .int, 2) := by decide +kernel
theorem dX9_init_45 : decode cX9_init 45 = .ok (.putfield 22, 3) := by decide +kernel
theorem dX9_init_51 : decode cX9_init 51 = .ok (.anewarray 25, 3) := by decide +kernel
theorem dX9_init_54 : decode cX9_init 54 = .ok (.putfield 27, 3) := by decide +kernel
theorem dX9_init_60 : decode cX9_init 60 = .ok (.newarray .int, 2) := by decide +kernel
theorem dX9_init_62 : decode cX9_init 62 = .ok (.putfield 31, 3) := by decide +kernel
theorem dX9_init_66 : decode cX9_init 66 = .ok (.new 34, 3) := by decide +kernel
theorem dX9_init_70 : decode cX9_init 70 = .ok (.invokespecial 36, 3) := by decide +kernel
theorem dX9_init_73 : decode cX9_init 73 = .ok (.putfield 37, 3) := by decide +kernel
theorem dX9_init_78 : decode cX9_init 78 = .ok (.putfield 41, 3) := by decide +kernel
theorem dX9_init_84 : decode cX9_init 84 = .ok (.newarray .int, 2) := by decide +kernel
theorem dX9_init_86 : decode cX9_init 86 = .ok (.putfield 45, 3) := by decide +kernel
theorem dX9_init_92 : decode cX9_init 92 = .ok (.newarray .int, 2) := by decide +kernel
theorem dX9_init_94 : decode cX9_init 94 = .ok (.putfield 48, 3) := by decide +kernel
theorem dX9_init_99 : decode cX9_init 99 = .ok (.newarray .int, 2) := by decide +kernel
theorem dX9_init_101 : decode cX9_init 101 = .ok (.putfield 51, 3) := by decide +kernel
theorem dX9_init_109 : decode cX9_init 109 = .ok (.if_icmp .ge 39, 3) := by decide +kernel
theorem dX9_init_117 : decode cX9_init 117 = .ok (.if_icmp .ge 25, 3) := by decide +kernel
theorem dX9_init_121 : decode cX9_init 121 = .ok (.getfield 7, 3) := by decide +kernel
theorem dX9_init_132 : decode cX9_init 132 = .ok (.invokestatic 54, 3) := by decide +kernel
theorem dX9_init_135 : decode cX9_init 135 = .ok (.iastore, 1) := by decide +kernel
theorem dX9_init_149 : decode cX9_init 149 = .ok (.getfield 13, 3) := by decide +kernel
theorem dX9_init_154 : decode cX9_init 154 = .ok (.iastore, 1) := by decide +kernel
theorem dX9_init_160 : decode cX9_init 160 = .ok (.if_icmp .ge 27, 3) := by decide +kernel
theorem dX9_init_164 : decode cX9_init 164 = .ok (.getfield 13, 3) := by decide +kernel
theorem dX9_init_169 : decode cX9_init 169 = .ok (.getfield 13, 3) := by decide +kernel
theorem dX9_init_175 : decode cX9_init 175 = .ok (.iaload, 1) := by decide +kernel
theorem dX9_init_177 : decode cX9_init 177 = .ok (.invokestatic 54, 3) := by decide +kernel
theorem dX9_init_180 : decode cX9_init 180 = .ok (.iastore, 1) := by decide +kernel
theorem dX9_init_192 : decode cX9_init 192 = .ok (.if_icmp .ge 42, 3) := by decide +kernel
theorem dX9_init_196 : decode cX9_init 196 = .ok (.getfield 27, 3) := by decide +kernel
theorem dX9_init_200 : decode cX9_init 200 = .ok (.new 25, 3) := by decide +kernel
theorem dX9_init_204 : decode cX9_init 204 = .ok (.invokespecial 58, 3) := by decide +kernel
theorem dX9_init_207 : decode cX9_init 207 = .ok (.aastore, 1) := by decide +kernel
theorem dX9_init_209 : decode cX9_init 209 = .ok (.getfield 27, 3) := by decide +kernel
theorem dX9_init_213 : decode cX9_init 213 = .ok (.aaload, 1) := by decide +kernel
theorem dX9_init_217 : decode cX9_init 217 = .ok (.if_icmp .ge 7, 3) := by decide +kernel
theorem dX9_init_225 : decode cX9_init 225 = .ok (.putfield 59, 3) := by decide +kernel
theorem dX9_init_239 : decode cX9_init 239 = .ok (.if_icmp .ge 16, 3) := by decide +kernel
theorem dX9_init_243 : decode cX9_init 243 = .ok (.getfield 31, 3) := by decide +kernel
theorem dX9_init_248 : decode cX9_init 248 = .ok (.iastore, 1) := by decide +kernel
theorem dX9_init_259 : decode cX9_init 259 = .ok (.if_icmp .ge 24, 3) := by decide +kernel
theorem dX9_init_263 : decode cX9_init 263 = .ok (.getfield 37, 3) := by decide +kernel
theorem dX9_init_266 : decode cX9_init 266 = .ok (.new 62, 3) := by decide +kernel
theorem dX9_init_270 : decode cX9_init 270 = .ok (.invokespecial 64, 3) := by decide +kernel
theorem dX9_init_273 : decode cX9_init 273 = .ok (.invokevirtual 65, 3) := by decide +kernel
theorem dX9_init_283 : decode cX9_init 283 = .ok (.return_, 1) := by decide +kernel
theorem dX9_thrown_1 : decode cX9_thrown 1 = .ok (.getfield 69, 3) := by decide +kernel
theorem dX9_thrown_4 : decode cX9_thrown 4 = .ok (.ireturn, 1) := by decide +kernel
theorem dX9_refuse_2 : decode cX9_refuse 2 = .ok (.putfield 69, 3) := by decide +kernel
theorem dX9_refuse_6 : decode cX9_refuse 6 = .ok (.ireturn, 1) := by decide +kernel
theorem dX9_is_2 : decode cX9_is 2 = .ok (.if_icmp .lt 12, 3) := by decide +kernel
theorem dX9_is_7 : decode cX9_is 7 = .ok (.if_icmp .gt 7, 3) := by decide +kernel
theorem dX9_is_15 : decode cX9_is 15 = .ok (.ireturn, 1) := by decide +kernel
theorem dX9_isLine_4 : decode cX9_isLine 4 = .ok (.invokestatic 72, 3) := by decide +kernel
theorem dX9_isLine_7 : decode cX9_isLine 7 = .ok (.ireturn, 1) := by decide +kernel
theorem dX9_isPlace_4 : decode cX9_isPlace 4 = .ok (.invokestatic 72, 3) := by decide +kernel
theorem dX9_isPlace_7 : decode cX9_isPlace 7 = .ok (.ireturn, 1) := by decide +kernel
theorem dX9_isChip_4 : decode cX9_isChip 4 = .ok (.invokestatic 72, 3) := by decide +kernel
theorem dX9_isChip_7 : decode cX9_isChip 7 = .ok (.ireturn, 1) := by decide +kernel
theorem dX9_isData_3 : decode cX9_isData 3 = .ok (.ifCond .lt 15, 3) := by decide +kernel
theorem dX9_isData_7 : decode cX9_isData 7 = .ok (.ldc2_w 76, 3) := by decide +kernel
theorem dX9_isData_11 : decode cX9_isData 11 = .ok (.ifCond .ge 7, 3) := by decide +kernel
theorem dX9_isData_19 : decode cX9_isData 19 = .ok (.ireturn, 1) := by decide +kernel
theorem dX9_isIn_6 : decode cX9_isIn 6 = .ok (.if_icmp .ne 7, 3) := by decide +kernel
theorem dX9_isIn_14 : decode cX9_isIn 14 = .ok (.ireturn, 1) := by decide +kernel
theorem dX9_product_9 : decode cX9_product 9 = .ok (.ifCond .le 39, 3) := by decide +kernel
theorem dX9_product_15 : decode cX9_product 15 = .ok (.irem, 1) := by decide +kernel
theorem dX9_product_17 : decode cX9_product 17 = .ok (.if_icmp .ne 7, 3) := by decide +kernel
theorem dX9_product_31 : decode cX9_product 31 = .ok (.if_icmp .le 8, 3) := by decide +kernel
theorem dX9_product_42 : decode cX9_product 42 = .ok (.idiv, 1) := by decide +kernel
theorem dX9_product_49 : decode cX9_product 49 = .ok (.ireturn, 1) := by decide +kernel
theorem dX9_by_1 : decode cX9_by 1 = .ok (.getfield 7, 3) := by decide +kernel
theorem dX9_by_10 : decode cX9_by 10 = .ok (.iaload, 1) := by decide +kernel
theorem dX9_by_11 : decode cX9_by 11 = .ok (.ireturn, 1) := by decide +kernel
theorem dX9_over_5 : decode cX9_over 5 = .ok (.invokevirtual 78, 3) := by decide +kernel
theorem dX9_over_9 : decode cX9_over 9 = .ok (.if_icmp .eq 9, 3) := by decide +kernel
theorem dX9_over_19 : decode cX9_over 19 = .ok (.ireturn, 1) := by decide +kernel
theorem dX9_powerOf_1 : decode cX9_powerOf 1 = .ok (.getfield 13, 3) := by decide +kernel
theorem dX9_powerOf_7 : decode cX9_powerOf 7 = .ok (.irem, 1) := by decide +kernel
theorem dX9_powerOf_8 : decode cX9_powerOf 8 = .ok (.iaload, 1) := by decide +kernel
theorem dX9_powerOf_9 : decode cX9_powerOf 9 = .ok (.ireturn, 1) := by decide +kernel
theorem dX9_sumOf_9 : decode cX9_sumOf 9 = .ok (.if_icmp .ge 28, 3) := by decide +kernel
theorem dX9_sumOf_17 : decode cX9_sumOf 17 = .ok (.iaload, 1) := by decide +kernel
theorem dX9_sumOf_23 : decode cX9_sumOf 23 = .ok (.invokevirtual 81, 3) := by decide +kernel
theorem dX9_sumOf_26 : decode cX9_sumOf 26 = .ok (.invokevirtual 78, 3) := by decide +kernel
theorem dX9_sumOf_38 : decode cX9_sumOf 38 = .ok (.ireturn, 1) := by decide +kernel
theorem dX9_solve_9 : decode cX9_solve 9 = .ok (.if_icmp .ge 29, 3) := by decide +kernel
theorem dX9_solve_15 : decode cX9_solve 15 = .ok (.invokestatic 85, 3) := by decide +kernel
theorem dX9_solve_18 : decode cX9_solve 18 = .ok (.ifCond .eq 14, 3) := by decide +kernel
theorem dX9_solve_22 : decode cX9_solve 22 = .ok (.getfield 51, 3) := by decide +kernel
theorem dX9_solve_28 : decode cX9_solve 28 = .ok (.iastore, 1) := by decide +kernel
theorem dX9_solve_47 : decode cX9_solve 47 = .ok (.if_icmp .ge 74, 3) := by decide +kernel
theorem dX9_solve_56 : decode cX9_solve 56 = .ok (.if_icmp .ge 38, 3) := by decide +kernel
theorem dX9_solve_60 : decode cX9_solve 60 = .ok (.getfield 48, 3) := by decide +kernel
theorem dX9_solve_73 : decode cX9_solve 73 = .ok (.getfield 51, 3) := by decide +kernel
theorem dX9_solve_78 : decode cX9_solve 78 = .ok (.iaload, 1) := by decide +kernel
theorem dX9_solve_84 : decode cX9_solve 84 = .ok (.invokevirtual 81, 3) := by decide +kernel
theorem dX9_solve_87 : decode cX9_solve 87 = .ok (.iastore, 1) := by decide +kernel
theorem dX9_solve_95 : decode cX9_solve 95 = .ok (.getfield 48, 3) := by decide +kernel
theorem dX9_solve_111 : decode cX9_solve 111 = .ok (.invokevirtual 89, 3) := by decide +kernel
theorem dX9_solve_114 : decode cX9_solve 114 = .ok (.iastore, 1) := by decide +kernel
theorem dX9_solve_127 : decode cX9_solve 127 = .ok (.if_icmp .ge 266, 3) := by decide +kernel
theorem dX9_solve_135 : decode cX9_solve 135 = .ok (.getfield 48, 3) := by decide +kernel
theorem dX9_solve_146 : decode cX9_solve 146 = .ok (.iaload, 1) := by decide +kernel
theorem dX9_solve_147 : decode cX9_solve 147 = .ok (.ifCond .ne 9, 3) := by decide +kernel
theorem dX9_solve_163 : decode cX9_solve 163 = .ok (.if_icmp .ge 65, 3) := by decide +kernel
theorem dX9_solve_167 : decode cX9_solve 167 = .ok (.getfield 48, 3) := by decide +kernel
theorem dX9_solve_178 : decode cX9_solve 178 = .ok (.iaload, 1) := by decide +kernel
theorem dX9_solve_182 : decode cX9_solve 182 = .ok (.getfield 48, 3) := by decide +kernel
theorem dX9_solve_194 : decode cX9_solve 194 = .ok (.getfield 48, 3) := by decide +kernel
theorem dX9_solve_205 : decode cX9_solve 205 = .ok (.iaload, 1) := by decide +kernel
theorem dX9_solve_206 : decode cX9_solve 206 = .ok (.iastore, 1) := by decide +kernel
theorem dX9_solve_208 : decode cX9_solve 208 = .ok (.getfield 48, 3) := by decide +kernel
theorem dX9_solve_221 : decode cX9_solve 221 = .ok (.iastore, 1) := by decide +kernel
theorem dX9_solve_229 : decode cX9_solve 229 = .ok (.getfield 48, 3) := by decide +kernel
theorem dX9_solve_240 : decode cX9_solve 240 = .ok (.iaload, 1) := by decide +kernel
theorem dX9_solve_250 : decode cX9_solve 250 = .ok (.if_icmp .ge 41, 3) := by decide +kernel
theorem dX9_solve_254 : decode cX9_solve 254 = .ok (.getfield 48, 3) := by decide +kernel
theorem dX9_solve_267 : decode cX9_solve 267 = .ok (.getfield 48, 3) := by decide +kernel
theorem dX9_solve_278 : decode cX9_solve 278 = .ok (.iaload, 1) := by decide +kernel
theorem dX9_solve_281 : decode cX9_solve 281 = .ok (.invokevirtual 93, 3) := by decide +kernel
theorem dX9_solve_284 : decode cX9_solve 284 = .ok (.iastore, 1) := by decide +kernel
theorem dX9_solve_297 : decode cX9_solve 297 = .ok (.if_icmp .ge 90, 3) := by decide +kernel
theorem dX9_solve_301 : decode cX9_solve 301 = .ok (.getfield 48, 3) := by decide +kernel
theorem dX9_solve_312 : decode cX9_solve 312 = .ok (.iaload, 1) := by decide +kernel
theorem dX9_solve_319 : decode cX9_solve 319 = .ok (.if_icmp .eq 62, 3) := by decide +kernel
theorem dX9_solve_324 : decode cX9_solve 324 = .ok (.ifCond .ne 6, 3) := by decide +kernel
theorem dX9_solve_337 : decode cX9_solve 337 = .ok (.if_icmp .ge 44, 3) := by decide +kernel
theorem dX9_solve_341 : decode cX9_solve 341 = .ok (.getfield 48, 3) := by decide +kernel
theorem dX9_solve_353 : decode cX9_solve 353 = .ok (.iaload, 1) := by decide +kernel
theorem dX9_solve_358 : decode cX9_solve 358 = .ok (.getfield 48, 3) := by decide +kernel
theorem dX9_solve_369 : decode cX9_solve 369 = .ok (.iaload, 1) := by decide +kernel
theorem dX9_solve_370 : decode cX9_solve 370 = .ok (.invokevirtual 78, 3) := by decide +kernel
theorem dX9_solve_374 : decode cX9_solve 374 = .ok (.iastore, 1) := by decide +kernel
theorem dX9_solve_399 : decode cX9_solve 399 = .ok (.if_icmp .ge 26, 3) := by decide +kernel
theorem dX9_solve_403 : decode cX9_solve 403 = .ok (.getfield 48, 3) := by decide +kernel
theorem dX9_solve_413 : decode cX9_solve 413 = .ok (.iaload, 1) := by decide +kernel
theorem dX9_solve_414 : decode cX9_solve 414 = .ok (.ifCond .eq 5, 3) := by decide +kernel
theorem dX9_solve_418 : decode cX9_solve 418 = .ok (.ireturn, 1) := by decide +kernel
theorem dX9_solve_428 : decode cX9_solve 428 = .ok (.getfield 45, 3) := by decide +kernel
theorem dX9_solve_434 : decode cX9_solve 434 = .ok (.invokestatic 96, 3) := by decide +kernel
theorem dX9_solve_443 : decode cX9_solve 443 = .ok (.if_icmp .ge 40, 3) := by decide +kernel
theorem dX9_solve_447 : decode cX9_solve 447 = .ok (.getfield 51, 3) := by decide +kernel
theorem dX9_solve_452 : decode cX9_solve 452 = .ok (.iaload, 1) := by decide +kernel
theorem dX9_solve_456 : decode cX9_solve 456 = .ok (.getfield 45, 3) := by decide +kernel
theorem dX9_solve_462 : decode cX9_solve 462 = .ok (.iaload, 1) := by decide +kernel
theorem dX9_solve_464 : decode cX9_solve 464 = .ok (.getfield 48, 3) := by decide +kernel
theorem dX9_solve_474 : decode cX9_solve 474 = .ok (.iaload, 1) := by decide +kernel
theorem dX9_solve_476 : decode cX9_solve 476 = .ok (.iastore, 1) := by decide +kernel
theorem dX9_solve_484 : decode cX9_solve 484 = .ok (.ireturn, 1) := by decide +kernel
theorem dX9_mend_1 : decode cX9_mend 1 = .ok (.invokestatic 102, 3) := by decide +kernel
theorem dX9_mend_7 : decode cX9_mend 7 = .ok (.if_icmp .le 5, 3) := by decide +kernel
theorem dX9_mend_11 : decode cX9_mend 11 = .ok (.ireturn, 1) := by decide +kernel
theorem dX9_mend_15 : decode cX9_mend 15 = .ok (.invokevirtual 107, 3) := by decide +kernel
theorem dX9_mend_18 : decode cX9_mend 18 = .ok (.ifCond .eq 5, 3) := by decide +kernel
theorem dX9_mend_22 : decode cX9_mend 22 = .ok (.ireturn, 1) := by decide +kernel
theorem dX9_mend_30 : decode cX9_mend 30 = .ok (.if_icmp .ge 41, 3) := by decide +kernel
theorem dX9_mend_37 : decode cX9_mend 37 = .ok (.if_icmp .gt 34, 3) := by decide +kernel
theorem dX9_mend_43 : decode cX9_mend 43 = .ok (.invokestatic 85, 3) := by decide +kernel
theorem dX9_mend_46 : decode cX9_mend 46 = .ok (.ifCond .ne 19, 3) := by decide +kernel
theorem dX9_mend_57 : decode cX9_mend 57 = .ok (.invokevirtual 107, 3) := by decide +kernel
theorem dX9_mend_60 : decode cX9_mend 60 = .ok (.ifCond .eq 5, 3) := by decide +kernel
theorem dX9_mend_64 : decode cX9_mend 64 = .ok (.ireturn, 1) := by decide +kernel
theorem dX9_mend_78 : decode cX9_mend 78 = .ok (.if_icmp .ge 48, 3) := by decide +kernel
theorem dX9_mend_82 : decode cX9_mend 82 = .ok (.ifCond .ne 44, 3) := by decide +kernel
theorem dX9_mend_92 : decode cX9_mend 92 = .ok (.if_icmp .ge 28, 3) := by decide +kernel
theorem dX9_mend_106 : decode cX9_mend 106 = .ok (.invokevirtual 107, 3) := by decide +kernel
theorem dX9_mend_109 : decode cX9_mend 109 = .ok (.ifCond .eq 5, 3) := by decide +kernel
theorem dX9_mend_113 : decode cX9_mend 113 = .ok (.ireturn, 1) := by decide +kernel
theorem dX9_mend_127 : decode cX9_mend 127 = .ok (.ireturn, 1) := by decide +kernel
theorem dX9_wordOf_2 : decode cX9_wordOf 2 = .ok (.newarray .int, 2) := by decide +kernel
theorem dX9_wordOf_15 : decode cX9_wordOf 15 = .ok (.if_icmp .ge 28, 3) := by decide +kernel
theorem dX9_wordOf_23 : decode cX9_wordOf 23 = .ok (.ldc2_w 111, 3) := by decide +kernel
theorem dX9_wordOf_26 : decode cX9_wordOf 26 = .ok (.lrem, 1) := by decide +kernel
theorem dX9_wordOf_28 : decode cX9_wordOf 28 = .ok (.iastore, 1) := by decide +kernel
theorem dX9_wordOf_31 : decode cX9_wordOf 31 = .ok (.ldc2_w 111, 3) := by decide +kernel
theorem dX9_wordOf_34 : decode cX9_wordOf 34 = .ok (.ldiv, 1) := by decide +kernel
theorem dX9_wordOf_47 : decode cX9_wordOf 47 = .ok (.invokevirtual 107, 3) := by decide +kernel
theorem dX9_wordOf_52 : decode cX9_wordOf 52 = .ok (.getfield 45, 3) := by decide +kernel
theorem dX9_wordOf_60 : decode cX9_wordOf 60 = .ok (.invokestatic 96, 3) := by decide +kernel
theorem dX9_wordOf_64 : decode cX9_wordOf 64 = .ok (.areturn, 1) := by decide +kernel
theorem dX9_dataOf_7 : decode cX9_dataOf 7 = .ok (.if_icmp .lt 20, 3) := by decide +kernel
theorem dX9_dataOf_10 : decode cX9_dataOf 10 = .ok (.ldc2_w 111, 3) := by decide +kernel
theorem dX9_dataOf_17 : decode cX9_dataOf 17 = .ok (.iaload, 1) := by decide +kernel
theorem dX9_dataOf_28 : decode cX9_dataOf 28 = .ok (.lreturn, 1) := by decide +kernel
theorem dX9_readOf_1 : decode cX9_readOf 1 = .ok (.getfield 27, 3) := by decide +kernel
theorem dX9_readOf_5 : decode cX9_readOf 5 = .ok (.aaload, 1) := by decide +kernel
theorem dX9_readOf_6 : decode cX9_readOf 6 = .ok (.getfield 113, 3) := by decide +kernel
theorem dX9_readOf_10 : decode cX9_readOf 10 = .ok (.if_icmp .eq 18, 3) := by decide +kernel
theorem dX9_readOf_14 : decode cX9_readOf 14 = .ok (.getfield 27, 3) := by decide +kernel
theorem dX9_readOf_18 : decode cX9_readOf 18 = .ok (.aaload, 1) := by decide +kernel
theorem dX9_readOf_19 : decode cX9_readOf 19 = .ok (.getfield 113, 3) := by decide +kernel
theorem dX9_readOf_26 : decode cX9_readOf 26 = .ok (.irem, 1) := by decide +kernel
theorem dX9_readOf_27 : decode cX9_readOf 27 = .ok (.ireturn, 1) := by decide +kernel
theorem dX9_readOf_36 : decode cX9_readOf 36 = .ok (.getfield 16, 3) := by decide +kernel
theorem dX9_readOf_40 : decode cX9_readOf 40 = .ok (.iaload, 1) := by decide +kernel
theorem dX9_readOf_42 : decode cX9_readOf 42 = .ok (.getfield 19, 3) := by decide +kernel
theorem dX9_readOf_46 : decode cX9_readOf 46 = .ok (.iaload, 1) := by decide +kernel
theorem dX9_readOf_51 : decode cX9_readOf 51 = .ok (.getfield 22, 3) := by decide +kernel
theorem dX9_readOf_55 : decode cX9_readOf 55 = .ok (.iaload, 1) := by decide +kernel
theorem dX9_readOf_57 : decode cX9_readOf 57 = .ok (.getfield 19, 3) := by decide +kernel
theorem dX9_readOf_61 : decode cX9_readOf 61 = .ok (.iaload, 1) := by decide +kernel
theorem dX9_readOf_64 : decode cX9_readOf 64 = .ok (.ireturn, 1) := by decide +kernel
theorem dX9_read_2 : decode cX9_read 2 = .ok (.newarray .int, 2) := by decide +kernel
theorem dX9_read_10 : decode cX9_read 10 = .ok (.if_icmp .ge 23, 3) := by decide +kernel
theorem dX9_read_17 : decode cX9_read 17 = .ok (.getfield 31, 3) := by decide +kernel
theorem dX9_read_21 : decode cX9_read 21 = .ok (.iaload, 1) := by decide +kernel
theorem dX9_read_23 : decode cX9_read 23 = .ok (.invokevirtual 116, 3) := by decide +kernel
theorem dX9_read_26 : decode cX9_read 26 = .ok (.iastore, 1) := by decide +kernel
theorem dX9_read_34 : decode cX9_read 34 = .ok (.areturn, 1) := by decide +kernel
theorem dX9_write_5 : decode cX9_write 5 = .ok (.if_icmp .ge 28, 3) := by decide +kernel
theorem dX9_write_9 : decode cX9_write 9 = .ok (.getfield 16, 3) := by decide +kernel
theorem dX9_write_13 : decode cX9_write 13 = .ok (.getfield 31, 3) := by decide +kernel
theorem dX9_write_17 : decode cX9_write 17 = .ok (.iaload, 1) := by decide +kernel
theorem dX9_write_25 : decode cX9_write 25 = .ok (.iaload, 1) := by decide +kernel
theorem dX9_write_26 : decode cX9_write 26 = .ok (.iastore, 1) := by decide +kernel
theorem dX9_write_33 : decode cX9_write 33 = .ok (.return_, 1) := by decide +kernel
theorem dX9_erased_7 : decode cX9_erased 7 = .ok (.if_icmp .ge 36, 3) := by decide +kernel
theorem dX9_erased_12 : decode cX9_erased 12 = .ok (.getfield 27, 3) := by decide +kernel
theorem dX9_erased_16 : decode cX9_erased 16 = .ok (.getfield 31, 3) := by decide +kernel
theorem dX9_erased_20 : decode cX9_erased 20 = .ok (.iaload, 1) := by decide +kernel
theorem dX9_erased_21 : decode cX9_erased 21 = .ok (.aaload, 1) := by decide +kernel
theorem dX9_erased_22 : decode cX9_erased 22 = .ok (.getfield 119, 3) := by decide +kernel
theorem dX9_erased_25 : decode cX9_erased 25 = .ok (.ifCond .eq 9, 3) := by decide +kernel
theorem dX9_erased_44 : decode cX9_erased 44 = .ok (.ireturn, 1) := by decide +kernel
theorem dX9_differing_7 : decode cX9_differing 7 = .ok (.if_icmp .ge 31, 3) := by decide +kernel
theorem dX9_differing_13 : decode cX9_differing 13 = .ok (.iaload, 1) := by decide +kernel
theorem dX9_differing_15 : decode cX9_differing 15 = .ok (.getfield 45, 3) := by decide +kernel
theorem dX9_differing_19 : decode cX9_differing 19 = .ok (.iaload, 1) := by decide +kernel
theorem dX9_differing_20 : decode cX9_differing 20 = .ok (.if_icmp .ne 7, 3) := by decide +kernel
theorem dX9_differing_39 : decode cX9_differing 39 = .ok (.ireturn, 1) := by decide +kernel
theorem dX9_write__2 : decode cX9_write_ 2 = .ok (.putfield 69, 3) := by decide +kernel
theorem dX9_write__6 : decode cX9_write_ 6 = .ok (.invokestatic 123, 3) := by decide +kernel
theorem dX9_write__9 : decode cX9_write_ 9 = .ok (.ifCond .ne 9, 3) := by decide +kernel
theorem dX9_write__14 : decode cX9_write_ 14 = .ok (.invokevirtual 127, 3) := by decide +kernel
theorem dX9_write__17 : decode cX9_write_ 17 = .ok (.ireturn, 1) := by decide +kernel
theorem dX9_write__19 : decode cX9_write_ 19 = .ok (.invokestatic 130, 3) := by decide +kernel
theorem dX9_write__22 : decode cX9_write_ 22 = .ok (.ifCond .ne 9, 3) := by decide +kernel
theorem dX9_write__27 : decode cX9_write_ 27 = .ok (.invokevirtual 127, 3) := by decide +kernel
theorem dX9_write__30 : decode cX9_write_ 30 = .ok (.ireturn, 1) := by decide +kernel
theorem dX9_write__33 : decode cX9_write_ 33 = .ok (.invokevirtual 134, 3) := by decide +kernel
theorem dX9_write__42 : decode cX9_write_ 42 = .ok (.invokevirtual 138, 3) := by decide +kernel
theorem dX9_write__45 : decode cX9_write_ 45 = .ok (.invokevirtual 142, 3) := by decide +kernel
theorem dX9_write__50 : decode cX9_write_ 50 = .ok (.invokevirtual 134, 3) := by decide +kernel
theorem dX9_write__65 : decode cX9_write_ 65 = .ok (.if_icmp .ge 32, 3) := by decide +kernel
theorem dX9_write__74 : decode cX9_write_ 74 = .ok (.iaload, 1) := by decide +kernel
theorem dX9_write__79 : decode cX9_write_ 79 = .ok (.iaload, 1) := by decide +kernel
theorem dX9_write__80 : decode cX9_write_ 80 = .ok (.if_icmp .ne 7, 3) := by decide +kernel
theorem dX9_write__99 : decode cX9_write_ 99 = .ok (.ireturn, 1) := by decide +kernel
theorem dX9_stuck_7 : decode cX9_stuck 7 = .ok (.if_icmp .ge 31, 3) := by decide +kernel
theorem dX9_stuck_12 : decode cX9_stuck 12 = .ok (.getfield 19, 3) := by decide +kernel
theorem dX9_stuck_21 : decode cX9_stuck 21 = .ok (.iaload, 1) := by decide +kernel
theorem dX9_stuck_22 : decode cX9_stuck 22 = .ok (.ifCond .ne 7, 3) := by decide +kernel
theorem dX9_stuck_39 : decode cX9_stuck 39 = .ok (.ireturn, 1) := by decide +kernel
theorem dX9_stick_2 : decode cX9_stick 2 = .ok (.putfield 69, 3) := by decide +kernel
theorem dX9_stick_6 : decode cX9_stick 6 = .ok (.invokestatic 146, 3) := by decide +kernel
theorem dX9_stick_9 : decode cX9_stick 9 = .ok (.ifCond .eq 10, 3) := by decide +kernel
theorem dX9_stick_13 : decode cX9_stick 13 = .ok (.invokestatic 123, 3) := by decide +kernel
theorem dX9_stick_16 : decode cX9_stick 16 = .ok (.ifCond .ne 9, 3) := by decide +kernel
theorem dX9_stick_21 : decode cX9_stick 21 = .ok (.invokevirtual 127, 3) := by decide +kernel
theorem dX9_stick_24 : decode cX9_stick 24 = .ok (.ireturn, 1) := by decide +kernel
theorem dX9_stick_29 : decode cX9_stick 29 = .ok (.invokestatic 72, 3) := by decide +kernel
theorem dX9_stick_32 : decode cX9_stick 32 = .ok (.ifCond .eq 14, 3) := by decide +kernel
theorem dX9_stick_40 : decode cX9_stick 40 = .ok (.invokestatic 72, 3) := by decide +kernel
theorem dX9_stick_43 : decode cX9_stick 43 = .ok (.ifCond .ne 9, 3) := by decide +kernel
theorem dX9_stick_48 : decode cX9_stick 48 = .ok (.invokevirtual 127, 3) := by decide +kernel
theorem dX9_stick_51 : decode cX9_stick 51 = .ok (.ireturn, 1) := by decide +kernel
theorem dX9_stick_53 : decode cX9_stick 53 = .ok (.getfield 19, 3) := by decide +kernel
theorem dX9_stick_63 : decode cX9_stick 63 = .ok (.iastore, 1) := by decide +kernel
theorem dX9_stick_65 : decode cX9_stick 65 = .ok (.getfield 22, 3) := by decide +kernel
theorem dX9_stick_76 : decode cX9_stick 76 = .ok (.iastore, 1) := by decide +kernel
theorem dX9_stick_79 : decode cX9_stick 79 = .ok (.invokevirtual 149, 3) := by decide +kernel
theorem dX9_stick_82 : decode cX9_stick 82 = .ok (.ireturn, 1) := by decide +kernel
theorem dX9_mad_2 : decode cX9_mad 2 = .ok (.putfield 69, 3) := by decide +kernel
theorem dX9_mad_6 : decode cX9_mad 6 = .ok (.invokestatic 146, 3) := by decide +kernel
theorem dX9_mad_9 : decode cX9_mad 9 = .ok (.ifCond .ne 9, 3) := by decide +kernel
theorem dX9_mad_14 : decode cX9_mad 14 = .ok (.invokevirtual 127, 3) := by decide +kernel
theorem dX9_mad_17 : decode cX9_mad 17 = .ok (.ireturn, 1) := by decide +kernel
theorem dX9_mad_22 : decode cX9_mad 22 = .ok (.invokestatic 72, 3) := by decide +kernel
theorem dX9_mad_25 : decode cX9_mad 25 = .ok (.ifCond .ne 9, 3) := by decide +kernel
theorem dX9_mad_30 : decode cX9_mad 30 = .ok (.invokevirtual 127, 3) := by decide +kernel
theorem dX9_mad_33 : decode cX9_mad 33 = .ok (.ireturn, 1) := by decide +kernel
theorem dX9_mad_35 : decode cX9_mad 35 = .ok (.getfield 27, 3) := by decide +kernel
theorem dX9_mad_39 : decode cX9_mad 39 = .ok (.aaload, 1) := by decide +kernel
theorem dX9_mad_40 : decode cX9_mad 40 = .ok (.getfield 113, 3) := by decide +kernel
theorem dX9_mad_45 : decode cX9_mad 45 = .ok (.getfield 27, 3) := by decide +kernel
theorem dX9_mad_49 : decode cX9_mad 49 = .ok (.aaload, 1) := by decide +kernel
theorem dX9_mad_51 : decode cX9_mad 51 = .ok (.putfield 113, 3) := by decide +kernel
theorem dX9_mad_55 : decode cX9_mad 55 = .ok (.ireturn, 1) := by decide +kernel
theorem dX9_ray_2 : decode cX9_ray 2 = .ok (.putfield 69, 3) := by decide +kernel
theorem dX9_ray_6 : decode cX9_ray 6 = .ok (.invokestatic 146, 3) := by decide +kernel
theorem dX9_ray_9 : decode cX9_ray 9 = .ok (.ifCond .eq 10, 3) := by decide +kernel
theorem dX9_ray_13 : decode cX9_ray 13 = .ok (.invokestatic 123, 3) := by decide +kernel
theorem dX9_ray_16 : decode cX9_ray 16 = .ok (.ifCond .ne 9, 3) := by decide +kernel
theorem dX9_ray_21 : decode cX9_ray 21 = .ok (.invokevirtual 127, 3) := by decide +kernel
theorem dX9_ray_24 : decode cX9_ray 24 = .ok (.ireturn, 1) := by decide +kernel
theorem dX9_ray_29 : decode cX9_ray 29 = .ok (.invokestatic 72, 3) := by decide +kernel
theorem dX9_ray_32 : decode cX9_ray 32 = .ok (.ifCond .ne 9, 3) := by decide +kernel
theorem dX9_ray_37 : decode cX9_ray 37 = .ok (.invokevirtual 127, 3) := by decide +kernel
theorem dX9_ray_40 : decode cX9_ray 40 = .ok (.ireturn, 1) := by decide +kernel
theorem dX9_ray_50 : decode cX9_ray 50 = .ok (.getfield 16, 3) := by decide +kernel
theorem dX9_ray_56 : decode cX9_ray 56 = .ok (.iaload, 1) := by decide +kernel
theorem dX9_ray_59 : decode cX9_ray 59 = .ok (.iastore, 1) := by decide +kernel
theorem dX9_ray_61 : decode cX9_ray 61 = .ok (.getfield 16, 3) := by decide +kernel
theorem dX9_ray_66 : decode cX9_ray 66 = .ok (.iaload, 1) := by decide +kernel
theorem dX9_ray_67 : decode cX9_ray 67 = .ok (.ireturn, 1) := by decide +kernel
theorem dX9_erase_2 : decode cX9_erase 2 = .ok (.putfield 69, 3) := by decide +kernel
theorem dX9_erase_6 : decode cX9_erase 6 = .ok (.invokestatic 152, 3) := by decide +kernel
theorem dX9_erase_9 : decode cX9_erase 9 = .ok (.ifCond .ne 9, 3) := by decide +kernel
theorem dX9_erase_14 : decode cX9_erase 14 = .ok (.invokevirtual 127, 3) := by decide +kernel
theorem dX9_erase_17 : decode cX9_erase 17 = .ok (.ireturn, 1) := by decide +kernel
theorem dX9_erase_19 : decode cX9_erase 19 = .ok (.ifCond .eq 26, 3) := by decide +kernel
theorem dX9_erase_23 : decode cX9_erase 23 = .ok (.invokevirtual 155, 3) := by decide +kernel
theorem dX9_erase_32 : decode cX9_erase 32 = .ok (.invokestatic 102, 3) := by decide +kernel
theorem dX9_erase_36 : decode cX9_erase 36 = .ok (.if_icmp .ne 9, 3) := by decide +kernel
theorem dX9_erase_41 : decode cX9_erase 41 = .ok (.invokevirtual 127, 3) := by decide +kernel
theorem dX9_erase_44 : decode cX9_erase 44 = .ok (.ireturn, 1) := by decide +kernel
theorem dX9_erase_46 : decode cX9_erase 46 = .ok (.getfield 27, 3) := by decide +kernel
theorem dX9_erase_50 : decode cX9_erase 50 = .ok (.getfield 31, 3) := by decide +kernel
theorem dX9_erase_54 : decode cX9_erase 54 = .ok (.iaload, 1) := by decide +kernel
theorem dX9_erase_55 : decode cX9_erase 55 = .ok (.aaload, 1) := by decide +kernel
theorem dX9_erase_57 : decode cX9_erase 57 = .ok (.putfield 119, 3) := by decide +kernel
theorem dX9_erase_61 : decode cX9_erase 61 = .ok (.invokevirtual 155, 3) := by decide +kernel
theorem dX9_erase_64 : decode cX9_erase 64 = .ok (.invokestatic 102, 3) := by decide +kernel
theorem dX9_erase_67 : decode cX9_erase 67 = .ok (.ireturn, 1) := by decide +kernel
theorem dX9_spares_3 : decode cX9_spares 3 = .ok (.getfield 27, 3) := by decide +kernel
theorem dX9_spares_8 : decode cX9_spares 8 = .ok (.arraylength, 1) := by decide +kernel
theorem dX9_spares_16 : decode cX9_spares 16 = .ok (.if_icmp .ge 40, 3) := by decide +kernel
theorem dX9_spares_22 : decode cX9_spares 22 = .ok (.aaload, 1) := by decide +kernel
theorem dX9_spares_28 : decode cX9_spares 28 = .ok (.getfield 59, 3) := by decide +kernel
theorem dX9_spares_32 : decode cX9_spares 32 = .ok (.if_icmp .ne 15, 3) := by decide +kernel
theorem dX9_spares_37 : decode cX9_spares 37 = .ok (.getfield 159, 3) := by decide +kernel
theorem dX9_spares_40 : decode cX9_spares 40 = .ok (.ifCond .ne 7, 3) := by decide +kernel
theorem dX9_spares_57 : decode cX9_spares 57 = .ok (.ireturn, 1) := by decide +kernel
theorem dX9_replace_2 : decode cX9_replace 2 = .ok (.putfield 69, 3) := by decide +kernel
theorem dX9_replace_6 : decode cX9_replace 6 = .ok (.invokestatic 152, 3) := by decide +kernel
theorem dX9_replace_9 : decode cX9_replace 9 = .ok (.ifCond .ne 9, 3) := by decide +kernel
theorem dX9_replace_14 : decode cX9_replace 14 = .ok (.invokevirtual 127, 3) := by decide +kernel
theorem dX9_replace_17 : decode cX9_replace 17 = .ok (.ireturn, 1) := by decide +kernel
theorem dX9_replace_19 : decode cX9_replace 19 = .ok (.invokevirtual 162, 3) := by decide +kernel
theorem dX9_replace_22 : decode cX9_replace 22 = .ok (.ifCond .ne 9, 3) := by decide +kernel
theorem dX9_replace_27 : decode cX9_replace 27 = .ok (.invokevirtual 127, 3) := by decide +kernel
theorem dX9_replace_30 : decode cX9_replace 30 = .ok (.ireturn, 1) := by decide +kernel
theorem dX9_replace_35 : decode cX9_replace 35 = .ok (.getfield 27, 3) := by decide +kernel
theorem dX9_replace_39 : decode cX9_replace 39 = .ok (.aaload, 1) := by decide +kernel
theorem dX9_replace_40 : decode cX9_replace 40 = .ok (.getfield 59, 3) := by decide +kernel
theorem dX9_replace_44 : decode cX9_replace 44 = .ok (.if_icmp .ne 15, 3) := by decide +kernel
theorem dX9_replace_48 : decode cX9_replace 48 = .ok (.getfield 27, 3) := by decide +kernel
theorem dX9_replace_52 : decode cX9_replace 52 = .ok (.aaload, 1) := by decide +kernel
theorem dX9_replace_53 : decode cX9_replace 53 = .ok (.getfield 159, 3) := by decide +kernel
theorem dX9_replace_56 : decode cX9_replace 56 = .ok (.ifCond .eq 9, 3) := by decide +kernel
theorem dX9_replace_66 : decode cX9_replace 66 = .ok (.invokevirtual 155, 3) := by decide +kernel
theorem dX9_replace_75 : decode cX9_replace 75 = .ok (.invokestatic 102, 3) := by decide +kernel
theorem dX9_replace_79 : decode cX9_replace 79 = .ok (.if_icmp .gt 9, 3) := by decide +kernel
theorem dX9_replace_95 : decode cX9_replace 95 = .ok (.if_icmp .ge 52, 3) := by decide +kernel
theorem dX9_replace_101 : decode cX9_replace 101 = .ok (.invokevirtual 134, 3) := by decide +kernel
theorem dX9_replace_107 : decode cX9_replace 107 = .ok (.getfield 16, 3) := by decide +kernel
theorem dX9_replace_121 : decode cX9_replace 121 = .ok (.invokevirtual 165, 3) := by decide +kernel
theorem dX9_replace_124 : decode cX9_replace 124 = .ok (.ifCond .eq 12, 3) := by decide +kernel
theorem dX9_replace_128 : decode cX9_replace 128 = .ok (.getfield 45, 3) := by decide +kernel
theorem dX9_replace_132 : decode cX9_replace 132 = .ok (.iaload, 1) := by decide +kernel
theorem dX9_replace_139 : decode cX9_replace 139 = .ok (.iaload, 1) := by decide +kernel
theorem dX9_replace_140 : decode cX9_replace 140 = .ok (.iastore, 1) := by decide +kernel
theorem dX9_replace_148 : decode cX9_replace 148 = .ok (.getfield 31, 3) := by decide +kernel
theorem dX9_replace_152 : decode cX9_replace 152 = .ok (.iaload, 1) := by decide +kernel
theorem dX9_replace_156 : decode cX9_replace 156 = .ok (.getfield 27, 3) := by decide +kernel
theorem dX9_replace_161 : decode cX9_replace 161 = .ok (.aaload, 1) := by decide +kernel
theorem dX9_replace_163 : decode cX9_replace 163 = .ok (.putfield 59, 3) := by decide +kernel
theorem dX9_replace_167 : decode cX9_replace 167 = .ok (.getfield 27, 3) := by decide +kernel
theorem dX9_replace_172 : decode cX9_replace 172 = .ok (.aaload, 1) := by decide +kernel
theorem dX9_replace_174 : decode cX9_replace 174 = .ok (.putfield 159, 3) := by decide +kernel
theorem dX9_replace_178 : decode cX9_replace 178 = .ok (.getfield 27, 3) := by decide +kernel
theorem dX9_replace_182 : decode cX9_replace 182 = .ok (.aaload, 1) := by decide +kernel
theorem dX9_replace_184 : decode cX9_replace 184 = .ok (.putfield 59, 3) := by decide +kernel
theorem dX9_replace_188 : decode cX9_replace 188 = .ok (.getfield 27, 3) := by decide +kernel
theorem dX9_replace_192 : decode cX9_replace 192 = .ok (.aaload, 1) := by decide +kernel
theorem dX9_replace_194 : decode cX9_replace 194 = .ok (.putfield 119, 3) := by decide +kernel
theorem dX9_replace_198 : decode cX9_replace 198 = .ok (.getfield 27, 3) := by decide +kernel
theorem dX9_replace_202 : decode cX9_replace 202 = .ok (.aaload, 1) := by decide +kernel
theorem dX9_replace_204 : decode cX9_replace 204 = .ok (.putfield 168, 3) := by decide +kernel
theorem dX9_replace_208 : decode cX9_replace 208 = .ok (.getfield 31, 3) := by decide +kernel
theorem dX9_replace_213 : decode cX9_replace 213 = .ok (.iastore, 1) := by decide +kernel
theorem dX9_replace_215 : decode cX9_replace 215 = .ok (.ireturn, 1) := by decide +kernel
theorem dX9_limit_2 : decode cX9_limit 2 = .ok (.putfield 69, 3) := by decide +kernel
theorem dX9_limit_9 : decode cX9_limit 9 = .ok (.invokestatic 72, 3) := by decide +kernel
theorem dX9_limit_12 : decode cX9_limit 12 = .ok (.ifCond .ne 9, 3) := by decide +kernel
theorem dX9_limit_17 : decode cX9_limit 17 = .ok (.invokevirtual 127, 3) := by decide +kernel
theorem dX9_limit_20 : decode cX9_limit 20 = .ok (.ireturn, 1) := by decide +kernel
theorem dX9_limit_22 : decode cX9_limit 22 = .ok (.getfield 41, 3) := by decide +kernel
theorem dX9_limit_28 : decode cX9_limit 28 = .ok (.putfield 41, 3) := by decide +kernel
theorem dX9_limit_32 : decode cX9_limit 32 = .ok (.ireturn, 1) := by decide +kernel
theorem dX9_fetchNow_2 : decode cX9_fetchNow 2 = .ok (.getfield 171, 3) := by decide +kernel
theorem dX9_fetchNow_7 : decode cX9_fetchNow 7 = .ok (.putfield 171, 3) := by decide +kernel
theorem dX9_fetchNow_12 : decode cX9_fetchNow 12 = .ok (.invokevirtual 134, 3) := by decide +kernel
theorem dX9_fetchNow_17 : decode cX9_fetchNow 17 = .ok (.invokevirtual 155, 3) := by decide +kernel
theorem dX9_fetchNow_27 : decode cX9_fetchNow 27 = .ok (.invokevirtual 165, 3) := by decide +kernel
theorem dX9_fetchNow_30 : decode cX9_fetchNow 30 = .ok (.ifCond .eq 100, 3) := by decide +kernel
theorem dX9_fetchNow_35 : decode cX9_fetchNow 35 = .ok (.invokevirtual 174, 3) := by decide +kernel
theorem dX9_fetchNow_47 : decode cX9_fetchNow 47 = .ok (.if_icmp .ge 48, 3) := by decide +kernel
theorem dX9_fetchNow_51 : decode cX9_fetchNow 51 = .ok (.getfield 27, 3) := by decide +kernel
theorem dX9_fetchNow_55 : decode cX9_fetchNow 55 = .ok (.getfield 31, 3) := by decide +kernel
theorem dX9_fetchNow_60 : decode cX9_fetchNow 60 = .ok (.iaload, 1) := by decide +kernel
theorem dX9_fetchNow_61 : decode cX9_fetchNow 61 = .ok (.aaload, 1) := by decide +kernel
theorem dX9_fetchNow_63 : decode cX9_fetchNow 63 = .ok (.getfield 168, 3) := by decide +kernel
theorem dX9_fetchNow_74 : decode cX9_fetchNow 74 = .ok (.invokestatic 85, 3) := by decide +kernel
theorem dX9_fetchNow_77 : decode cX9_fetchNow 77 = .ok (.ifCond .eq 7, 3) := by decide +kernel
theorem dX9_fetchNow_86 : decode cX9_fetchNow 86 = .ok (.putfield 168, 3) := by decide +kernel
theorem dX9_fetchNow_97 : decode cX9_fetchNow 97 = .ok (.ifCond .eq 12, 3) := by decide +kernel
theorem dX9_fetchNow_103 : decode cX9_fetchNow 103 = .ok (.getfield 45, 3) := by decide +kernel
theorem dX9_fetchNow_106 : decode cX9_fetchNow 106 = .ok (.invokevirtual 142, 3) := by decide +kernel
theorem dX9_fetchNow_111 : decode cX9_fetchNow 111 = .ok (.invokestatic 102, 3) := by decide +kernel
theorem dX9_fetchNow_118 : decode cX9_fetchNow 118 = .ok (.getfield 178, 3) := by decide +kernel
theorem dX9_fetchNow_124 : decode cX9_fetchNow 124 = .ok (.putfield 178, 3) := by decide +kernel
theorem dX9_fetchNow_132 : decode cX9_fetchNow 132 = .ok (.getfield 181, 3) := by decide +kernel
theorem dX9_fetchNow_137 : decode cX9_fetchNow 137 = .ok (.putfield 181, 3) := by decide +kernel
theorem dX9_fetchNow_147 : decode cX9_fetchNow 147 = .ok (.if_icmp .ge 52, 3) := by decide +kernel
theorem dX9_fetchNow_151 : decode cX9_fetchNow 151 = .ok (.getfield 27, 3) := by decide +kernel
theorem dX9_fetchNow_155 : decode cX9_fetchNow 155 = .ok (.getfield 31, 3) := by decide +kernel
theorem dX9_fetchNow_160 : decode cX9_fetchNow 160 = .ok (.iaload, 1) := by decide +kernel
theorem dX9_fetchNow_161 : decode cX9_fetchNow 161 = .ok (.aaload, 1) := by decide +kernel
theorem dX9_fetchNow_166 : decode cX9_fetchNow 166 = .ok (.getfield 168, 3) := by decide +kernel
theorem dX9_fetchNow_170 : decode cX9_fetchNow 170 = .ok (.getfield 41, 3) := by decide +kernel
theorem dX9_fetchNow_173 : decode cX9_fetchNow 173 = .ok (.if_icmp .lt 20, 3) := by decide +kernel
theorem dX9_fetchNow_177 : decode cX9_fetchNow 177 = .ok (.invokevirtual 155, 3) := by decide +kernel
theorem dX9_fetchNow_180 : decode cX9_fetchNow 180 = .ok (.invokestatic 102, 3) := by decide +kernel
theorem dX9_fetchNow_184 : decode cX9_fetchNow 184 = .ok (.if_icmp .ge 9, 3) := by decide +kernel
theorem dX9_fetchNow_190 : decode cX9_fetchNow 190 = .ok (.putfield 119, 3) := by decide +kernel
theorem dX9_fetchNow_201 : decode cX9_fetchNow 201 = .ok (.ireturn, 1) := by decide +kernel
theorem dX9_fetch_2 : decode cX9_fetch 2 = .ok (.putfield 69, 3) := by decide +kernel
theorem dX9_fetch_6 : decode cX9_fetch 6 = .ok (.invokestatic 123, 3) := by decide +kernel
theorem dX9_fetch_9 : decode cX9_fetch 9 = .ok (.ifCond .eq 11, 3) := by decide +kernel
theorem dX9_fetch_14 : decode cX9_fetch 14 = .ok (.invokevirtual 184, 3) := by decide +kernel
theorem dX9_fetch_22 : decode cX9_fetch 22 = .ok (.invokevirtual 127, 3) := by decide +kernel
theorem dX9_fetch_25 : decode cX9_fetch 25 = .ok (.ireturn, 1) := by decide +kernel
theorem dX9_patrol_2 : decode cX9_patrol 2 = .ok (.putfield 69, 3) := by decide +kernel
theorem dX9_patrol_9 : decode cX9_patrol 9 = .ok (.invokestatic 72, 3) := by decide +kernel
theorem dX9_patrol_12 : decode cX9_patrol 12 = .ok (.ifCond .ne 9, 3) := by decide +kernel
theorem dX9_patrol_17 : decode cX9_patrol 17 = .ok (.invokevirtual 127, 3) := by decide +kernel
theorem dX9_patrol_20 : decode cX9_patrol 20 = .ok (.ireturn, 1) := by decide +kernel
theorem dX9_patrol_27 : decode cX9_patrol 27 = .ok (.if_icmp .ge 42, 3) := by decide +kernel
theorem dX9_patrol_33 : decode cX9_patrol 33 = .ok (.getfield 187, 3) := by decide +kernel
theorem dX9_patrol_36 : decode cX9_patrol 36 = .ok (.invokevirtual 184, 3) := by decide +kernel
theorem dX9_patrol_40 : decode cX9_patrol 40 = .ok (.if_icmp .ne 7, 3) := by decide +kernel
theorem dX9_patrol_52 : decode cX9_patrol 52 = .ok (.getfield 187, 3) := by decide +kernel
theorem dX9_patrol_59 : decode cX9_patrol 59 = .ok (.irem, 1) := by decide +kernel
theorem dX9_patrol_60 : decode cX9_patrol 60 = .ok (.putfield 187, 3) := by decide +kernel
theorem dX9_patrol_70 : decode cX9_patrol 70 = .ok (.ireturn, 1) := by decide +kernel
theorem dX9_frameOf_4 : decode cX9_frameOf 4 = .ok (.if_icmp .ge 29, 3) := by decide +kernel
theorem dX9_frameOf_8 : decode cX9_frameOf 8 = .ok (.getfield 37, 3) := by decide +kernel
theorem dX9_frameOf_12 : decode cX9_frameOf 12 = .ok (.invokevirtual 190, 3) := by decide +kernel
theorem dX9_frameOf_15 : decode cX9_frameOf 15 = .ok (.checkcast 62, 3) := by decide +kernel
theorem dX9_frameOf_18 : decode cX9_frameOf 18 = .ok (.getfield 194, 3) := by decide +kernel
theorem dX9_frameOf_22 : decode cX9_frameOf 22 = .ok (.if_icmp .ne 5, 3) := by decide +kernel
theorem dX9_frameOf_26 : decode cX9_frameOf 26 = .ok (.ireturn, 1) := by decide +kernel
theorem dX9_frameOf_34 : decode cX9_frameOf 34 = .ok (.ireturn, 1) := by decide +kernel
theorem dX9_use_2 : decode cX9_use 2 = .ok (.getfield 197, 3) := by decide +kernel
theorem dX9_use_7 : decode cX9_use 7 = .ok (.putfield 197, 3) := by decide +kernel
theorem dX9_use_12 : decode cX9_use 12 = .ok (.getfield 197, 3) := by decide +kernel
theorem dX9_use_15 : decode cX9_use 15 = .ok (.putfield 200, 3) := by decide +kernel
theorem dX9_use_18 : decode cX9_use 18 = .ok (.return_, 1) := by decide +kernel
theorem dX9_room_6 : decode cX9_room 6 = .ok (.if_icmp .ge 42, 3) := by decide +kernel
theorem dX9_room_10 : decode cX9_room 10 = .ok (.getfield 37, 3) := by decide +kernel
theorem dX9_room_14 : decode cX9_room 14 = .ok (.invokevirtual 190, 3) := by decide +kernel
theorem dX9_room_17 : decode cX9_room 17 = .ok (.checkcast 62, 3) := by decide +kernel
theorem dX9_room_20 : decode cX9_room 20 = .ok (.getfield 200, 3) := by decide +kernel
theorem dX9_room_24 : decode cX9_room 24 = .ok (.getfield 37, 3) := by decide +kernel
theorem dX9_room_28 : decode cX9_room 28 = .ok (.invokevirtual 190, 3) := by decide +kernel
theorem dX9_room_31 : decode cX9_room 31 = .ok (.checkcast 62, 3) := by decide +kernel
theorem dX9_room_34 : decode cX9_room 34 = .ok (.getfield 200, 3) := by decide +kernel
theorem dX9_room_37 : decode cX9_room 37 = .ok (.if_icmp .ge 5, 3) := by decide +kernel
theorem dX9_room_49 : decode cX9_room 49 = .ok (.getfield 37, 3) := by decide +kernel
theorem dX9_room_53 : decode cX9_room 53 = .ok (.invokevirtual 190, 3) := by decide +kernel
theorem dX9_room_56 : decode cX9_room 56 = .ok (.checkcast 62, 3) := by decide +kernel
theorem dX9_room_61 : decode cX9_room 61 = .ok (.getfield 203, 3) := by decide +kernel
theorem dX9_room_64 : decode cX9_room 64 = .ok (.ifCond .eq 19, 3) := by decide +kernel
theorem dX9_room_69 : decode cX9_room 69 = .ok (.getfield 194, 3) := by decide +kernel
theorem dX9_room_74 : decode cX9_room 74 = .ok (.getfield 206, 3) := by decide +kernel
theorem dX9_room_77 : decode cX9_room 77 = .ok (.invokevirtual 138, 3) := by decide +kernel
theorem dX9_room_80 : decode cX9_room 80 = .ok (.invokevirtual 142, 3) := by decide +kernel
theorem dX9_room_84 : decode cX9_room 84 = .ok (.ireturn, 1) := by decide +kernel
theorem dX9_keep_1 : decode cX9_keep 1 = .ok (.invokevirtual 210, 3) := by decide +kernel
theorem dX9_keep_7 : decode cX9_keep 7 = .ok (.getfield 37, 3) := by decide +kernel
theorem dX9_keep_12 : decode cX9_keep 12 = .ok (.invokevirtual 190, 3) := by decide +kernel
theorem dX9_keep_15 : decode cX9_keep 15 = .ok (.checkcast 62, 3) := by decide +kernel
theorem dX9_keep_23 : decode cX9_keep 23 = .ok (.putfield 194, 3) := by decide +kernel
theorem dX9_keep_29 : decode cX9_keep 29 = .ok (.putfield 206, 3) := by decide +kernel
theorem dX9_keep_36 : decode cX9_keep 36 = .ok (.putfield 203, 3) := by decide +kernel
theorem dX9_keep_42 : decode cX9_keep 42 = .ok (.invokevirtual 213, 3) := by decide +kernel
theorem dX9_keep_47 : decode cX9_keep 47 = .ok (.ireturn, 1) := by decide +kernel
theorem dX9_load_2 : decode cX9_load 2 = .ok (.putfield 69, 3) := by decide +kernel
theorem dX9_load_6 : decode cX9_load 6 = .ok (.invokestatic 123, 3) := by decide +kernel
theorem dX9_load_9 : decode cX9_load 9 = .ok (.ifCond .ne 10, 3) := by decide +kernel
theorem dX9_load_14 : decode cX9_load 14 = .ok (.invokevirtual 127, 3) := by decide +kernel
theorem dX9_load_18 : decode cX9_load 18 = .ok (.lreturn, 1) := by decide +kernel
theorem dX9_load_21 : decode cX9_load 21 = .ok (.invokevirtual 217, 3) := by decide +kernel
theorem dX9_load_27 : decode cX9_load 27 = .ok (.if_icmp .eq 43, 3) := by decide +kernel
theorem dX9_load_32 : decode cX9_load 32 = .ok (.getfield 220, 3) := by decide +kernel
theorem dX9_load_37 : decode cX9_load 37 = .ok (.putfield 220, 3) := by decide +kernel
theorem dX9_load_42 : decode cX9_load 42 = .ok (.getfield 37, 3) := by decide +kernel
theorem dX9_load_46 : decode cX9_load 46 = .ok (.invokevirtual 190, 3) := by decide +kernel
theorem dX9_load_49 : decode cX9_load 49 = .ok (.checkcast 62, 3) := by decide +kernel
theorem dX9_load_52 : decode cX9_load 52 = .ok (.invokevirtual 213, 3) := by decide +kernel
theorem dX9_load_56 : decode cX9_load 56 = .ok (.getfield 37, 3) := by decide +kernel
theorem dX9_load_60 : decode cX9_load 60 = .ok (.invokevirtual 190, 3) := by decide +kernel
theorem dX9_load_63 : decode cX9_load 63 = .ok (.checkcast 62, 3) := by decide +kernel
theorem dX9_load_66 : decode cX9_load 66 = .ok (.getfield 206, 3) := by decide +kernel
theorem dX9_load_69 : decode cX9_load 69 = .ok (.lreturn, 1) := by decide +kernel
theorem dX9_load_72 : decode cX9_load 72 = .ok (.getfield 223, 3) := by decide +kernel
theorem dX9_load_77 : decode cX9_load 77 = .ok (.putfield 223, 3) := by decide +kernel
theorem dX9_load_82 : decode cX9_load 82 = .ok (.invokevirtual 184, 3) := by decide +kernel
theorem dX9_load_86 : decode cX9_load 86 = .ok (.if_icmp .ne 7, 3) := by decide +kernel
theorem dX9_load_89 : decode cX9_load 89 = .ok (.ldc2_w 226, 3) := by decide +kernel
theorem dX9_load_92 : decode cX9_load 92 = .ok (.lreturn, 1) := by decide +kernel
theorem dX9_load_94 : decode cX9_load 94 = .ok (.getfield 45, 3) := by decide +kernel
theorem dX9_load_97 : decode cX9_load 97 = .ok (.invokestatic 228, 3) := by decide +kernel
theorem dX9_load_105 : decode cX9_load 105 = .ok (.invokevirtual 232, 3) := by decide +kernel
theorem dX9_load_110 : decode cX9_load 110 = .ok (.lreturn, 1) := by decide +kernel
theorem dX9_store_2 : decode cX9_store 2 = .ok (.putfield 69, 3) := by decide +kernel
theorem dX9_store_6 : decode cX9_store 6 = .ok (.invokestatic 123, 3) := by decide +kernel
theorem dX9_store_9 : decode cX9_store 9 = .ok (.ifCond .ne 9, 3) := by decide +kernel
theorem dX9_store_14 : decode cX9_store 14 = .ok (.invokevirtual 127, 3) := by decide +kernel
theorem dX9_store_17 : decode cX9_store 17 = .ok (.ireturn, 1) := by decide +kernel
theorem dX9_store_19 : decode cX9_store 19 = .ok (.invokestatic 130, 3) := by decide +kernel
theorem dX9_store_22 : decode cX9_store 22 = .ok (.ifCond .ne 9, 3) := by decide +kernel
theorem dX9_store_27 : decode cX9_store 27 = .ok (.invokevirtual 127, 3) := by decide +kernel
theorem dX9_store_30 : decode cX9_store 30 = .ok (.ireturn, 1) := by decide +kernel
theorem dX9_store_33 : decode cX9_store 33 = .ok (.invokevirtual 217, 3) := by decide +kernel
theorem dX9_store_41 : decode cX9_store 41 = .ok (.if_icmp .ne 21, 3) := by decide +kernel
theorem dX9_store_46 : decode cX9_store 46 = .ok (.getfield 223, 3) := by decide +kernel
theorem dX9_store_51 : decode cX9_store 51 = .ok (.putfield 223, 3) := by decide +kernel
theorem dX9_store_58 : decode cX9_store 58 = .ok (.invokevirtual 232, 3) := by decide +kernel
theorem dX9_store_61 : decode cX9_store 61 = .ok (.ireturn, 1) := by decide +kernel
theorem dX9_store_64 : decode cX9_store 64 = .ok (.getfield 220, 3) := by decide +kernel
theorem dX9_store_69 : decode cX9_store 69 = .ok (.putfield 220, 3) := by decide +kernel
theorem dX9_store_73 : decode cX9_store 73 = .ok (.getfield 37, 3) := by decide +kernel
theorem dX9_store_78 : decode cX9_store 78 = .ok (.invokevirtual 190, 3) := by decide +kernel
theorem dX9_store_81 : decode cX9_store 81 = .ok (.checkcast 62, 3) := by decide +kernel
theorem dX9_store_85 : decode cX9_store 85 = .ok (.putfield 206, 3) := by decide +kernel
theorem dX9_store_89 : decode cX9_store 89 = .ok (.getfield 37, 3) := by decide +kernel
theorem dX9_store_94 : decode cX9_store 94 = .ok (.invokevirtual 190, 3) := by decide +kernel
theorem dX9_store_97 : decode cX9_store 97 = .ok (.checkcast 62, 3) := by decide +kernel
theorem dX9_store_101 : decode cX9_store 101 = .ok (.putfield 203, 3) := by decide +kernel
theorem dX9_store_106 : decode cX9_store 106 = .ok (.getfield 37, 3) := by decide +kernel
theorem dX9_store_111 : decode cX9_store 111 = .ok (.invokevirtual 190, 3) := by decide +kernel
theorem dX9_store_114 : decode cX9_store 114 = .ok (.checkcast 62, 3) := by decide +kernel
theorem dX9_store_117 : decode cX9_store 117 = .ok (.invokevirtual 213, 3) := by decide +kernel
theorem dX9_store_122 : decode cX9_store 122 = .ok (.ireturn, 1) := by decide +kernel
theorem dX9_dirty_6 : decode cX9_dirty 6 = .ok (.if_icmp .ge 34, 3) := by decide +kernel
theorem dX9_dirty_11 : decode cX9_dirty 11 = .ok (.getfield 37, 3) := by decide +kernel
theorem dX9_dirty_15 : decode cX9_dirty 15 = .ok (.invokevirtual 190, 3) := by decide +kernel
theorem dX9_dirty_18 : decode cX9_dirty 18 = .ok (.checkcast 62, 3) := by decide +kernel
theorem dX9_dirty_21 : decode cX9_dirty 21 = .ok (.getfield 203, 3) := by decide +kernel
theorem dX9_dirty_24 : decode cX9_dirty 24 = .ok (.ifCond .eq 7, 3) := by decide +kernel
theorem dX9_dirty_41 : decode cX9_dirty 41 = .ok (.ireturn, 1) := by decide +kernel
theorem dX9_flush_2 : decode cX9_flush 2 = .ok (.putfield 69, 3) := by decide +kernel
theorem dX9_flush_6 : decode cX9_flush 6 = .ok (.invokevirtual 236, 3) := by decide +kernel
theorem dX9_flush_14 : decode cX9_flush 14 = .ok (.if_icmp .ge 49, 3) := by decide +kernel
theorem dX9_flush_18 : decode cX9_flush 18 = .ok (.getfield 37, 3) := by decide +kernel
theorem dX9_flush_22 : decode cX9_flush 22 = .ok (.invokevirtual 190, 3) := by decide +kernel
theorem dX9_flush_25 : decode cX9_flush 25 = .ok (.checkcast 62, 3) := by decide +kernel
theorem dX9_flush_30 : decode cX9_flush 30 = .ok (.getfield 203, 3) := by decide +kernel
theorem dX9_flush_33 : decode cX9_flush 33 = .ok (.ifCond .eq 19, 3) := by decide +kernel
theorem dX9_flush_38 : decode cX9_flush 38 = .ok (.getfield 194, 3) := by decide +kernel
theorem dX9_flush_43 : decode cX9_flush 43 = .ok (.getfield 206, 3) := by decide +kernel
theorem dX9_flush_46 : decode cX9_flush 46 = .ok (.invokevirtual 138, 3) := by decide +kernel
theorem dX9_flush_49 : decode cX9_flush 49 = .ok (.invokevirtual 142, 3) := by decide +kernel
theorem dX9_flush_54 : decode cX9_flush 54 = .ok (.putfield 203, 3) := by decide +kernel
theorem dX9_flush_64 : decode cX9_flush 64 = .ok (.ireturn, 1) := by decide +kernel
theorem dX9_call_2 : decode cX9_call 2 = .ok (.putfield 69, 3) := by decide +kernel
theorem dX9_call_7 : decode cX9_call 7 = .ok (.getfield 239, 3) := by decide +kernel
theorem dX9_call_12 : decode cX9_call 12 = .ok (.putfield 239, 3) := by decide +kernel
theorem dX9_call_16 : decode cX9_call 16 = .ok (.getfield 239, 3) := by decide +kernel
theorem dX9_call_19 : decode cX9_call 19 = .ok (.ireturn, 1) := by decide +kernel
theorem dX9_times_2 : decode cX9_times 2 = .ok (.putfield 69, 3) := by decide +kernel
theorem dX9_times_9 : decode cX9_times 9 = .ok (.invokestatic 72, 3) := by decide +kernel
theorem dX9_times_12 : decode cX9_times 12 = .ok (.ifCond .eq 22, 3) := by decide +kernel
theorem dX9_times_19 : decode cX9_times 19 = .ok (.invokestatic 72, 3) := by decide +kernel
theorem dX9_times_22 : decode cX9_times 22 = .ok (.ifCond .eq 12, 3) := by decide +kernel
theorem dX9_times_28 : decode cX9_times 28 = .ok (.invokevirtual 78, 3) := by decide +kernel
theorem dX9_times_36 : decode cX9_times 36 = .ok (.invokevirtual 127, 3) := by decide +kernel
theorem dX9_times_39 : decode cX9_times 39 = .ok (.ireturn, 1) := by decide +kernel
theorem dX9_power_2 : decode cX9_power 2 = .ok (.putfield 69, 3) := by decide +kernel
theorem dX9_power_10 : decode cX9_power 10 = .ok (.invokestatic 72, 3) := by decide +kernel
theorem dX9_power_13 : decode cX9_power 13 = .ok (.ifCond .eq 11, 3) := by decide +kernel
theorem dX9_power_18 : decode cX9_power 18 = .ok (.invokevirtual 81, 3) := by decide +kernel
theorem dX9_power_26 : decode cX9_power 26 = .ok (.invokevirtual 127, 3) := by decide +kernel
theorem dX9_power_29 : decode cX9_power 29 = .ok (.ireturn, 1) := by decide +kernel
theorem dX9_symbol_2 : decode cX9_symbol 2 = .ok (.putfield 69, 3) := by decide +kernel
theorem dX9_symbol_6 : decode cX9_symbol 6 = .ok (.invokestatic 152, 3) := by decide +kernel
theorem dX9_symbol_9 : decode cX9_symbol 9 = .ok (.ifCond .ne 9, 3) := by decide +kernel
theorem dX9_symbol_14 : decode cX9_symbol 14 = .ok (.invokevirtual 127, 3) := by decide +kernel
theorem dX9_symbol_17 : decode cX9_symbol 17 = .ok (.ireturn, 1) := by decide +kernel
theorem dX9_symbol_19 : decode cX9_symbol 19 = .ok (.invokestatic 130, 3) := by decide +kernel
theorem dX9_symbol_22 : decode cX9_symbol 22 = .ok (.ifCond .eq 13, 3) := by decide +kernel
theorem dX9_symbol_27 : decode cX9_symbol 27 = .ok (.invokevirtual 138, 3) := by decide +kernel
theorem dX9_symbol_31 : decode cX9_symbol 31 = .ok (.iaload, 1) := by decide +kernel
theorem dX9_symbol_37 : decode cX9_symbol 37 = .ok (.invokevirtual 127, 3) := by decide +kernel
theorem dX9_symbol_40 : decode cX9_symbol 40 = .ok (.ireturn, 1) := by decide +kernel
theorem dX9_fooled_2 : decode cX9_fooled 2 = .ok (.putfield 69, 3) := by decide +kernel
theorem dX9_fooled_6 : decode cX9_fooled 6 = .ok (.invokestatic 152, 3) := by decide +kernel
theorem dX9_fooled_9 : decode cX9_fooled 9 = .ok (.ifCond .eq 17, 3) := by decide +kernel
theorem dX9_fooled_13 : decode cX9_fooled 13 = .ok (.invokestatic 152, 3) := by decide +kernel
theorem dX9_fooled_16 : decode cX9_fooled 16 = .ok (.ifCond .eq 10, 3) := by decide +kernel
theorem dX9_fooled_20 : decode cX9_fooled 20 = .ok (.invokestatic 152, 3) := by decide +kernel
theorem dX9_fooled_23 : decode cX9_fooled 23 = .ok (.ifCond .ne 9, 3) := by decide +kernel
theorem dX9_fooled_28 : decode cX9_fooled 28 = .ok (.invokevirtual 127, 3) := by decide +kernel
theorem dX9_fooled_31 : decode cX9_fooled 31 = .ok (.ireturn, 1) := by decide +kernel
theorem dX9_fooled_34 : decode cX9_fooled 34 = .ok (.if_icmp .eq 35, 3) := by decide +kernel
theorem dX9_fooled_39 : decode cX9_fooled 39 = .ok (.if_icmp .eq 30, 3) := by decide +kernel
theorem dX9_fooled_44 : decode cX9_fooled 44 = .ok (.if_icmp .eq 25, 3) := by decide +kernel
theorem dX9_fooled_52 : decode cX9_fooled 52 = .ok (.invokestatic 72, 3) := by decide +kernel
theorem dX9_fooled_55 : decode cX9_fooled 55 = .ok (.ifCond .eq 14, 3) := by decide +kernel
theorem dX9_fooled_63 : decode cX9_fooled 63 = .ok (.invokestatic 72, 3) := by decide +kernel
theorem dX9_fooled_66 : decode cX9_fooled 66 = .ok (.ifCond .ne 9, 3) := by decide +kernel
theorem dX9_fooled_71 : decode cX9_fooled 71 = .ok (.invokevirtual 127, 3) := by decide +kernel
theorem dX9_fooled_74 : decode cX9_fooled 74 = .ok (.ireturn, 1) := by decide +kernel
theorem dX9_fooled_77 : decode cX9_fooled 77 = .ok (.newarray .int, 2) := by decide +kernel
theorem dX9_fooled_86 : decode cX9_fooled 86 = .ok (.iastore, 1) := by decide +kernel
theorem dX9_fooled_92 : decode cX9_fooled 92 = .ok (.iastore, 1) := by decide +kernel
theorem dX9_fooled_103 : decode cX9_fooled 103 = .ok (.if_icmp .ge 35, 3) := by decide +kernel
theorem dX9_fooled_111 : decode cX9_fooled 111 = .ok (.iastore, 1) := by decide +kernel
theorem dX9_fooled_118 : decode cX9_fooled 118 = .ok (.invokevirtual 165, 3) := by decide +kernel
theorem dX9_fooled_121 : decode cX9_fooled 121 = .ok (.ifCond .eq 7, 3) := by decide +kernel
theorem dX9_fooled_140 : decode cX9_fooled 140 = .ok (.ireturn, 1) := by decide +kernel
theorem dX9_seen_2 : decode cX9_seen 2 = .ok (.putfield 69, 3) := by decide +kernel
theorem dX9_seen_6 : decode cX9_seen 6 = .ok (.invokestatic 123, 3) := by decide +kernel
theorem dX9_seen_9 : decode cX9_seen 9 = .ok (.ifCond .eq 24, 3) := by decide +kernel
theorem dX9_seen_13 : decode cX9_seen 13 = .ok (.invokestatic 152, 3) := by decide +kernel
theorem dX9_seen_16 : decode cX9_seen 16 = .ok (.ifCond .eq 17, 3) := by decide +kernel
theorem dX9_seen_21 : decode cX9_seen 21 = .ok (.getfield 31, 3) := by decide +kernel
theorem dX9_seen_25 : decode cX9_seen 25 = .ok (.iaload, 1) := by decide +kernel
theorem dX9_seen_27 : decode cX9_seen 27 = .ok (.invokevirtual 116, 3) := by decide +kernel
theorem dX9_seen_35 : decode cX9_seen 35 = .ok (.invokevirtual 127, 3) := by decide +kernel
theorem dX9_seen_38 : decode cX9_seen 38 = .ok (.ireturn, 1) := by decide +kernel
theorem dX9_sum_2 : decode cX9_sum 2 = .ok (.putfield 69, 3) := by decide +kernel
theorem dX9_sum_6 : decode cX9_sum 6 = .ok (.invokestatic 123, 3) := by decide +kernel
theorem dX9_sum_9 : decode cX9_sum 9 = .ok (.ifCond .ne 9, 3) := by decide +kernel
theorem dX9_sum_14 : decode cX9_sum 14 = .ok (.invokevirtual 127, 3) := by decide +kernel
theorem dX9_sum_17 : decode cX9_sum 17 = .ok (.ireturn, 1) := by decide +kernel
theorem dX9_sum_21 : decode cX9_sum 21 = .ok (.invokestatic 72, 3) := by decide +kernel
theorem dX9_sum_24 : decode cX9_sum 24 = .ok (.ifCond .eq 16, 3) := by decide +kernel
theorem dX9_sum_30 : decode cX9_sum 30 = .ok (.invokevirtual 134, 3) := by decide +kernel
theorem dX9_sum_34 : decode cX9_sum 34 = .ok (.invokevirtual 89, 3) := by decide +kernel
theorem dX9_sum_42 : decode cX9_sum 42 = .ok (.invokevirtual 127, 3) := by decide +kernel
theorem dX9_sum_45 : decode cX9_sum 45 = .ok (.ireturn, 1) := by decide +kernel
theorem dX9_mendedNow_3 : decode cX9_mendedNow 3 = .ok (.invokevirtual 165, 3) := by decide +kernel
theorem dX9_mendedNow_6 : decode cX9_mendedNow 6 = .ok (.ifCond .eq 11, 3) := by decide +kernel
theorem dX9_mendedNow_11 : decode cX9_mendedNow 11 = .ok (.invokevirtual 174, 3) := by decide +kernel
theorem dX9_mendedNow_18 : decode cX9_mendedNow 18 = .ok (.ireturn, 1) := by decide +kernel
theorem dX9_mended_2 : decode cX9_mended 2 = .ok (.putfield 69, 3) := by decide +kernel
theorem dX9_mended_6 : decode cX9_mended 6 = .ok (.invokestatic 123, 3) := by decide +kernel
theorem dX9_mended_9 : decode cX9_mended 9 = .ok (.ifCond .eq 19, 3) := by decide +kernel
theorem dX9_mended_15 : decode cX9_mended 15 = .ok (.invokevirtual 134, 3) := by decide +kernel
theorem dX9_mended_19 : decode cX9_mended 19 = .ok (.invokevirtual 155, 3) := by decide +kernel
theorem dX9_mended_22 : decode cX9_mended 22 = .ok (.invokevirtual 242, 3) := by decide +kernel
theorem dX9_mended_30 : decode cX9_mended 30 = .ok (.invokevirtual 127, 3) := by decide +kernel
theorem dX9_mended_33 : decode cX9_mended 33 = .ok (.ireturn, 1) := by decide +kernel
theorem dX9_data_2 : decode cX9_data 2 = .ok (.putfield 69, 3) := by decide +kernel
theorem dX9_data_6 : decode cX9_data 6 = .ok (.invokestatic 123, 3) := by decide +kernel
theorem dX9_data_9 : decode cX9_data 9 = .ok (.ifCond .ne 10, 3) := by decide +kernel
theorem dX9_data_14 : decode cX9_data 14 = .ok (.invokevirtual 127, 3) := by decide +kernel
theorem dX9_data_18 : decode cX9_data 18 = .ok (.lreturn, 1) := by decide +kernel
theorem dX9_data_22 : decode cX9_data 22 = .ok (.invokevirtual 134, 3) := by decide +kernel
theorem dX9_data_26 : decode cX9_data 26 = .ok (.invokevirtual 155, 3) := by decide +kernel
theorem dX9_data_29 : decode cX9_data 29 = .ok (.invokevirtual 165, 3) := by decide +kernel
theorem dX9_data_32 : decode cX9_data 32 = .ok (.ifCond .eq 13, 3) := by decide +kernel
theorem dX9_data_36 : decode cX9_data 36 = .ok (.getfield 45, 3) := by decide +kernel
theorem dX9_data_39 : decode cX9_data 39 = .ok (.invokestatic 228, 3) := by decide +kernel
theorem dX9_data_45 : decode cX9_data 45 = .ok (.ldc2_w 226, 3) := by decide +kernel
theorem dX9_data_48 : decode cX9_data 48 = .ok (.lreturn, 1) := by decide +kernel
theorem dX9_ofChipNow_1 : decode cX9_ofChipNow 1 = .ok (.getfield 27, 3) := by decide +kernel
theorem dX9_ofChipNow_5 : decode cX9_ofChipNow 5 = .ok (.aaload, 1) := by decide +kernel
theorem dX9_ofChipNow_8 : decode cX9_ofChipNow 8 = .ok (.tableswitch 77 0 4 #[36, 41, 46, 51, 64], 36) := by decide +kernel
theorem dX9_ofChipNow_45 : decode cX9_ofChipNow 45 = .ok (.getfield 59, 3) := by decide +kernel
theorem dX9_ofChipNow_48 : decode cX9_ofChipNow 48 = .ok (.ireturn, 1) := by decide +kernel
theorem dX9_ofChipNow_50 : decode cX9_ofChipNow 50 = .ok (.getfield 113, 3) := by decide +kernel
theorem dX9_ofChipNow_53 : decode cX9_ofChipNow 53 = .ok (.ireturn, 1) := by decide +kernel
theorem dX9_ofChipNow_55 : decode cX9_ofChipNow 55 = .ok (.getfield 168, 3) := by decide +kernel
theorem dX9_ofChipNow_58 : decode cX9_ofChipNow 58 = .ok (.ireturn, 1) := by decide +kernel
theorem dX9_ofChipNow_60 : decode cX9_ofChipNow 60 = .ok (.getfield 119, 3) := by decide +kernel
theorem dX9_ofChipNow_63 : decode cX9_ofChipNow 63 = .ok (.ifCond .eq 7, 3) := by decide +kernel
theorem dX9_ofChipNow_71 : decode cX9_ofChipNow 71 = .ok (.ireturn, 1) := by decide +kernel
theorem dX9_ofChipNow_73 : decode cX9_ofChipNow 73 = .ok (.getfield 159, 3) := by decide +kernel
theorem dX9_ofChipNow_76 : decode cX9_ofChipNow 76 = .ok (.ifCond .eq 7, 3) := by decide +kernel
theorem dX9_ofChipNow_84 : decode cX9_ofChipNow 84 = .ok (.ireturn, 1) := by decide +kernel
theorem dX9_ofChipNow_87 : decode cX9_ofChipNow 87 = .ok (.invokevirtual 149, 3) := by decide +kernel
theorem dX9_ofChipNow_90 : decode cX9_ofChipNow 90 = .ok (.ireturn, 1) := by decide +kernel
theorem dX9_ofChip_2 : decode cX9_ofChip 2 = .ok (.putfield 69, 3) := by decide +kernel
theorem dX9_ofChip_6 : decode cX9_ofChip 6 = .ok (.invokestatic 146, 3) := by decide +kernel
theorem dX9_ofChip_9 : decode cX9_ofChip 9 = .ok (.ifCond .ne 9, 3) := by decide +kernel
theorem dX9_ofChip_14 : decode cX9_ofChip 14 = .ok (.invokevirtual 127, 3) := by decide +kernel
theorem dX9_ofChip_17 : decode cX9_ofChip 17 = .ok (.ireturn, 1) := by decide +kernel
theorem dX9_ofChip_21 : decode cX9_ofChip 21 = .ok (.invokestatic 72, 3) := by decide +kernel
theorem dX9_ofChip_24 : decode cX9_ofChip 24 = .ok (.ifCond .eq 12, 3) := by decide +kernel
theorem dX9_ofChip_30 : decode cX9_ofChip 30 = .ok (.invokevirtual 245, 3) := by decide +kernel
theorem dX9_ofChip_38 : decode cX9_ofChip 38 = .ok (.invokevirtual 127, 3) := by decide +kernel
theorem dX9_ofChip_41 : decode cX9_ofChip 41 = .ok (.ireturn, 1) := by decide +kernel
theorem dX9_stored_2 : decode cX9_stored 2 = .ok (.putfield 69, 3) := by decide +kernel
theorem dX9_stored_6 : decode cX9_stored 6 = .ok (.invokestatic 146, 3) := by decide +kernel
theorem dX9_stored_9 : decode cX9_stored 9 = .ok (.ifCond .eq 24, 3) := by decide +kernel
theorem dX9_stored_13 : decode cX9_stored 13 = .ok (.invokestatic 123, 3) := by decide +kernel
theorem dX9_stored_16 : decode cX9_stored 16 = .ok (.ifCond .eq 17, 3) := by decide +kernel
theorem dX9_stored_20 : decode cX9_stored 20 = .ok (.getfield 16, 3) := by decide +kernel
theorem dX9_stored_29 : decode cX9_stored 29 = .ok (.iaload, 1) := by decide +kernel
theorem dX9_stored_35 : decode cX9_stored 35 = .ok (.invokevirtual 127, 3) := by decide +kernel
theorem dX9_stored_38 : decode cX9_stored 38 = .ok (.ireturn, 1) := by decide +kernel
theorem dX9_ofFrameNow_1 : decode cX9_ofFrameNow 1 = .ok (.getfield 37, 3) := by decide +kernel
theorem dX9_ofFrameNow_5 : decode cX9_ofFrameNow 5 = .ok (.invokevirtual 190, 3) := by decide +kernel
theorem dX9_ofFrameNow_8 : decode cX9_ofFrameNow 8 = .ok (.checkcast 62, 3) := by decide +kernel
theorem dX9_ofFrameNow_13 : decode cX9_ofFrameNow 13 = .ok (.ifCond .ne 10, 3) := by decide +kernel
theorem dX9_ofFrameNow_17 : decode cX9_ofFrameNow 17 = .ok (.getfield 194, 3) := by decide +kernel
theorem dX9_ofFrameNow_25 : decode cX9_ofFrameNow 25 = .ok (.if_icmp .ne 18, 3) := by decide +kernel
theorem dX9_ofFrameNow_29 : decode cX9_ofFrameNow 29 = .ok (.getfield 203, 3) := by decide +kernel
theorem dX9_ofFrameNow_32 : decode cX9_ofFrameNow 32 = .ok (.ifCond .eq 7, 3) := by decide +kernel
theorem dX9_ofFrameNow_44 : decode cX9_ofFrameNow 44 = .ok (.getfield 200, 3) := by decide +kernel
theorem dX9_ofFrameNow_47 : decode cX9_ofFrameNow 47 = .ok (.ireturn, 1) := by decide +kernel
theorem dX9_ofFrame_2 : decode cX9_ofFrame 2 = .ok (.putfield 69, 3) := by decide +kernel
theorem dX9_ofFrame_8 : decode cX9_ofFrame 8 = .ok (.invokestatic 72, 3) := by decide +kernel
theorem dX9_ofFrame_11 : decode cX9_ofFrame 11 = .ok (.ifCond .ne 9, 3) := by decide +kernel
theorem dX9_ofFrame_16 : decode cX9_ofFrame 16 = .ok (.invokevirtual 127, 3) := by decide +kernel
theorem dX9_ofFrame_19 : decode cX9_ofFrame 19 = .ok (.ireturn, 1) := by decide +kernel
theorem dX9_ofFrame_23 : decode cX9_ofFrame 23 = .ok (.invokestatic 72, 3) := by decide +kernel
theorem dX9_ofFrame_26 : decode cX9_ofFrame 26 = .ok (.ifCond .eq 12, 3) := by decide +kernel
theorem dX9_ofFrame_32 : decode cX9_ofFrame 32 = .ok (.invokevirtual 248, 3) := by decide +kernel
theorem dX9_ofFrame_40 : decode cX9_ofFrame 40 = .ok (.invokevirtual 127, 3) := by decide +kernel
theorem dX9_ofFrame_43 : decode cX9_ofFrame 43 = .ok (.ireturn, 1) := by decide +kernel
theorem dX9_heldNow_1 : decode cX9_heldNow 1 = .ok (.getfield 37, 3) := by decide +kernel
theorem dX9_heldNow_5 : decode cX9_heldNow 5 = .ok (.invokevirtual 190, 3) := by decide +kernel
theorem dX9_heldNow_8 : decode cX9_heldNow 8 = .ok (.checkcast 62, 3) := by decide +kernel
theorem dX9_heldNow_11 : decode cX9_heldNow 11 = .ok (.getfield 194, 3) := by decide +kernel
theorem dX9_heldNow_15 : decode cX9_heldNow 15 = .ok (.if_icmp .ne 9, 3) := by decide +kernel
theorem dX9_heldNow_18 : decode cX9_heldNow 18 = .ok (.ldc2_w 226, 3) := by decide +kernel
theorem dX9_heldNow_25 : decode cX9_heldNow 25 = .ok (.getfield 37, 3) := by decide +kernel
theorem dX9_heldNow_29 : decode cX9_heldNow 29 = .ok (.invokevirtual 190, 3) := by decide +kernel
theorem dX9_heldNow_32 : decode cX9_heldNow 32 = .ok (.checkcast 62, 3) := by decide +kernel
theorem dX9_heldNow_35 : decode cX9_heldNow 35 = .ok (.getfield 206, 3) := by decide +kernel
theorem dX9_heldNow_38 : decode cX9_heldNow 38 = .ok (.lreturn, 1) := by decide +kernel
theorem dX9_held_2 : decode cX9_held 2 = .ok (.putfield 69, 3) := by decide +kernel
theorem dX9_held_8 : decode cX9_held 8 = .ok (.invokestatic 72, 3) := by decide +kernel
theorem dX9_held_11 : decode cX9_held 11 = .ok (.ifCond .eq 11, 3) := by decide +kernel
theorem dX9_held_16 : decode cX9_held 16 = .ok (.invokevirtual 251, 3) := by decide +kernel
theorem dX9_held_24 : decode cX9_held 24 = .ok (.invokevirtual 127, 3) := by decide +kernel
theorem dX9_held_28 : decode cX9_held 28 = .ok (.lreturn, 1) := by decide +kernel
theorem dX9_bad_7 : decode cX9_bad 7 = .ok (.if_icmp .ge 33, 3) := by decide +kernel
theorem dX9_bad_14 : decode cX9_bad 14 = .ok (.invokevirtual 134, 3) := by decide +kernel
theorem dX9_bad_18 : decode cX9_bad 18 = .ok (.invokevirtual 155, 3) := by decide +kernel
theorem dX9_bad_21 : decode cX9_bad 21 = .ok (.invokevirtual 165, 3) := by decide +kernel
theorem dX9_bad_24 : decode cX9_bad 24 = .ok (.ifCond .eq 7, 3) := by decide +kernel
theorem dX9_bad_41 : decode cX9_bad 41 = .ok (.ireturn, 1) := by decide +kernel
theorem dX9_out_3 : decode cX9_out 3 = .ok (.getfield 27, 3) := by decide +kernel
theorem dX9_out_8 : decode cX9_out 8 = .ok (.arraylength, 1) := by decide +kernel
theorem dX9_out_16 : decode cX9_out 16 = .ok (.if_icmp .ge 31, 3) := by decide +kernel
theorem dX9_out_22 : decode cX9_out 22 = .ok (.aaload, 1) := by decide +kernel
theorem dX9_out_28 : decode cX9_out 28 = .ok (.getfield 159, 3) := by decide +kernel
theorem dX9_out_31 : decode cX9_out 31 = .ok (.ifCond .eq 7, 3) := by decide +kernel
theorem dX9_out_48 : decode cX9_out 48 = .ok (.ireturn, 1) := by decide +kernel
theorem dX9_bankNow_1 : decode cX9_bankNow 1 = .ok (.tableswitch 123 0 11 #[63, 68, 73, 78, 83, 91, 96, 101, 106, 111, 116, 118], 63) := by decide +kernel
theorem dX9_bankNow_65 : decode cX9_bankNow 65 = .ok (.getfield 171, 3) := by decide +kernel
theorem dX9_bankNow_68 : decode cX9_bankNow 68 = .ok (.ireturn, 1) := by decide +kernel
theorem dX9_bankNow_70 : decode cX9_bankNow 70 = .ok (.getfield 181, 3) := by decide +kernel
theorem dX9_bankNow_73 : decode cX9_bankNow 73 = .ok (.ireturn, 1) := by decide +kernel
theorem dX9_bankNow_75 : decode cX9_bankNow 75 = .ok (.getfield 178, 3) := by decide +kernel
theorem dX9_bankNow_78 : decode cX9_bankNow 78 = .ok (.ireturn, 1) := by decide +kernel
theorem dX9_bankNow_80 : decode cX9_bankNow 80 = .ok (.invokevirtual 162, 3) := by decide +kernel
theorem dX9_bankNow_83 : decode cX9_bankNow 83 = .ok (.ireturn, 1) := by decide +kernel
theorem dX9_bankNow_85 : decode cX9_bankNow 85 = .ok (.invokevirtual 155, 3) := by decide +kernel
theorem dX9_bankNow_88 : decode cX9_bankNow 88 = .ok (.invokestatic 102, 3) := by decide +kernel
theorem dX9_bankNow_91 : decode cX9_bankNow 91 = .ok (.ireturn, 1) := by decide +kernel
theorem dX9_bankNow_93 : decode cX9_bankNow 93 = .ok (.invokevirtual 255, 3) := by decide +kernel
theorem dX9_bankNow_96 : decode cX9_bankNow 96 = .ok (.ireturn, 1) := by decide +kernel
theorem dX9_bankNow_98 : decode cX9_bankNow 98 = .ok (.getfield 187, 3) := by decide +kernel
theorem dX9_bankNow_101 : decode cX9_bankNow 101 = .ok (.ireturn, 1) := by decide +kernel
theorem dX9_bankNow_103 : decode cX9_bankNow 103 = .ok (.getfield 220, 3) := by decide +kernel
theorem dX9_bankNow_106 : decode cX9_bankNow 106 = .ok (.ireturn, 1) := by decide +kernel
theorem dX9_bankNow_108 : decode cX9_bankNow 108 = .ok (.getfield 223, 3) := by decide +kernel
theorem dX9_bankNow_111 : decode cX9_bankNow 111 = .ok (.ireturn, 1) := by decide +kernel
theorem dX9_bankNow_113 : decode cX9_bankNow 113 = .ok (.invokevirtual 236, 3) := by decide +kernel
theorem dX9_bankNow_116 : decode cX9_bankNow 116 = .ok (.ireturn, 1) := by decide +kernel
theorem dX9_bankNow_118 : decode cX9_bankNow 118 = .ok (.ireturn, 1) := by decide +kernel
theorem dX9_bankNow_120 : decode cX9_bankNow 120 = .ok (.getfield 41, 3) := by decide +kernel
theorem dX9_bankNow_123 : decode cX9_bankNow 123 = .ok (.ireturn, 1) := by decide +kernel
theorem dX9_bankNow_125 : decode cX9_bankNow 125 = .ok (.getfield 239, 3) := by decide +kernel
theorem dX9_bankNow_128 : decode cX9_bankNow 128 = .ok (.ireturn, 1) := by decide +kernel
theorem dX9_bank_2 : decode cX9_bank 2 = .ok (.putfield 69, 3) := by decide +kernel
theorem dX9_bank_9 : decode cX9_bank 9 = .ok (.invokestatic 72, 3) := by decide +kernel
theorem dX9_bank_12 : decode cX9_bank 12 = .ok (.ifCond .eq 25, 3) := by decide +kernel
theorem dX9_bank_20 : decode cX9_bank 20 = .ok (.if_icmp .ne 10, 3) := by decide +kernel
theorem dX9_bank_24 : decode cX9_bank 24 = .ok (.invokevirtual 258, 3) := by decide +kernel
theorem dX9_bank_31 : decode cX9_bank 31 = .ok (.invokevirtual 261, 3) := by decide +kernel
theorem dX9_bank_39 : decode cX9_bank 39 = .ok (.invokevirtual 127, 3) := by decide +kernel
theorem dX9_bank_42 : decode cX9_bank 42 = .ok (.ireturn, 1) := by decide +kernel
theorem dX9_row_2 : decode cX9_row 2 = .ok (.invokestatic 123, 3) := by decide +kernel
theorem dX9_row_5 : decode cX9_row 5 = .ok (.ifCond .eq 7, 3) := by decide +kernel
theorem dX9_row_13 : decode cX9_row 13 = .ok (.putfield 69, 3) := by decide +kernel
theorem dX9_row_17 : decode cX9_row 17 = .ok (.getfield 69, 3) := by decide +kernel
theorem dX9_row_20 : decode cX9_row 20 = .ok (.ifCond .le 7, 3) := by decide +kernel
theorem dX9_row_23 : decode cX9_row 23 = .ok (.ldc_w 264, 3) := by decide +kernel
theorem dX9_row_26 : decode cX9_row 26 = .ok (.areturn, 1) := by decide +kernel
theorem dX9_row_27 : decode cX9_row 27 = .ok (.new 266, 3) := by decide +kernel
theorem dX9_row_31 : decode cX9_row 31 = .ok (.invokespecial 268, 3) := by decide +kernel
theorem dX9_row_37 : decode cX9_row 37 = .ok (.invokevirtual 134, 3) := by decide +kernel
theorem dX9_row_42 : decode cX9_row 42 = .ok (.invokevirtual 155, 3) := by decide +kernel
theorem dX9_row_54 : decode cX9_row 54 = .ok (.if_icmp .ge 63, 3) := by decide +kernel
theorem dX9_row_60 : decode cX9_row 60 = .ok (.iaload, 1) := by decide +kernel
theorem dX9_row_67 : decode cX9_row 67 = .ok (.if_icmp .ge 11, 3) := by decide +kernel
theorem dX9_row_94 : decode cX9_row 94 = .ok (.invokestatic 85, 3) := by decide +kernel
theorem dX9_row_97 : decode cX9_row 97 = .ok (.ifCond .eq 8, 3) := by decide +kernel
theorem dX9_row_107 : decode cX9_row 107 = .ok (.invokevirtual 269, 3) := by decide +kernel
theorem dX9_row_118 : decode cX9_row 118 = .ok (.invokevirtual 273, 3) := by decide +kernel
theorem dX9_row_121 : decode cX9_row 121 = .ok (.areturn, 1) := by decide +kernel
theorem dX9_wouldMend_2 : decode cX9_wouldMend 2 = .ok (.putfield 69, 3) := by decide +kernel
theorem dX9_wouldMend_6 : decode cX9_wouldMend 6 = .ok (.invokestatic 123, 3) := by decide +kernel
theorem dX9_wouldMend_9 : decode cX9_wouldMend 9 = .ok (.ifCond .ne 9, 3) := by decide +kernel
theorem dX9_wouldMend_14 : decode cX9_wouldMend 14 = .ok (.invokevirtual 127, 3) := by decide +kernel
theorem dX9_wouldMend_17 : decode cX9_wouldMend 17 = .ok (.ireturn, 1) := by decide +kernel
theorem dX9_wouldMend_23 : decode cX9_wouldMend 23 = .ok (.invokestatic 72, 3) := by decide +kernel
theorem dX9_wouldMend_26 : decode cX9_wouldMend 26 = .ok (.ifCond .ne 9, 3) := by decide +kernel
theorem dX9_wouldMend_31 : decode cX9_wouldMend 31 = .ok (.invokevirtual 127, 3) := by decide +kernel
theorem dX9_wouldMend_34 : decode cX9_wouldMend 34 = .ok (.ireturn, 1) := by decide +kernel
theorem dX9_wouldMend_38 : decode cX9_wouldMend 38 = .ok (.invokevirtual 134, 3) := by decide +kernel
theorem dX9_wouldMend_42 : decode cX9_wouldMend 42 = .ok (.invokevirtual 155, 3) := by decide +kernel
theorem dX9_wouldMend_47 : decode cX9_wouldMend 47 = .ok (.invokevirtual 242, 3) := by decide +kernel
theorem dX9_wouldMend_53 : decode cX9_wouldMend 53 = .ok (.if_icmp .ne 7, 3) := by decide +kernel
theorem dX9_wouldMend_61 : decode cX9_wouldMend 61 = .ok (.invokestatic 102, 3) := by decide +kernel
theorem dX9_wouldMend_64 : decode cX9_wouldMend 64 = .ok (.ireturn, 1) := by decide +kernel
theorem dX9_spareNow_2 : decode cX9_spareNow 2 = .ok (.if_icmp .ne 7, 3) := by decide +kernel
theorem dX9_spareNow_11 : decode cX9_spareNow 11 = .ok (.invokestatic 102, 3) := by decide +kernel
theorem dX9_spareNow_21 : decode cX9_spareNow 21 = .ok (.invokestatic 102, 3) := by decide +kernel
theorem dX9_spareNow_26 : decode cX9_spareNow 26 = .ok (.ireturn, 1) := by decide +kernel
theorem dX9_spare_2 : decode cX9_spare 2 = .ok (.putfield 69, 3) := by decide +kernel
theorem dX9_spare_6 : decode cX9_spare 6 = .ok (.invokestatic 123, 3) := by decide +kernel
theorem dX9_spare_9 : decode cX9_spare 9 = .ok (.ifCond .eq 27, 3) := by decide +kernel
theorem dX9_spare_16 : decode cX9_spare 16 = .ok (.invokevirtual 134, 3) := by decide +kernel
theorem dX9_spare_20 : decode cX9_spare 20 = .ok (.invokevirtual 155, 3) := by decide +kernel
theorem dX9_spare_23 : decode cX9_spare 23 = .ok (.invokevirtual 242, 3) := by decide +kernel
theorem dX9_spare_27 : decode cX9_spare 27 = .ok (.invokevirtual 155, 3) := by decide +kernel
theorem dX9_spare_30 : decode cX9_spare 30 = .ok (.invokevirtual 277, 3) := by decide +kernel
theorem dX9_spare_38 : decode cX9_spare 38 = .ok (.invokevirtual 127, 3) := by decide +kernel
theorem dX9_spare_41 : decode cX9_spare 41 = .ok (.ireturn, 1) := by decide +kernel
theorem dX9_wouldLose_2 : decode cX9_wouldLose 2 = .ok (.putfield 69, 3) := by decide +kernel
theorem dX9_wouldLose_6 : decode cX9_wouldLose 6 = .ok (.invokestatic 152, 3) := by decide +kernel
theorem dX9_wouldLose_9 : decode cX9_wouldLose 9 = .ok (.ifCond .ne 9, 3) := by decide +kernel
theorem dX9_wouldLose_14 : decode cX9_wouldLose 14 = .ok (.invokevirtual 127, 3) := by decide +kernel
theorem dX9_wouldLose_17 : decode cX9_wouldLose 17 = .ok (.ireturn, 1) := by decide +kernel
theorem dX9_wouldLose_22 : decode cX9_wouldLose 22 = .ok (.invokestatic 72, 3) := by decide +kernel
theorem dX9_wouldLose_25 : decode cX9_wouldLose 25 = .ok (.ifCond .ne 9, 3) := by decide +kernel
theorem dX9_wouldLose_30 : decode cX9_wouldLose 30 = .ok (.invokevirtual 127, 3) := by decide +kernel
theorem dX9_wouldLose_33 : decode cX9_wouldLose 33 = .ok (.ireturn, 1) := by decide +kernel
theorem dX9_wouldLose_43 : decode cX9_wouldLose 43 = .ok (.if_icmp .ge 49, 3) := by decide +kernel
theorem dX9_wouldLose_49 : decode cX9_wouldLose 49 = .ok (.invokevirtual 134, 3) := by decide +kernel
theorem dX9_wouldLose_63 : decode cX9_wouldLose 63 = .ok (.irem, 1) := by decide +kernel
theorem dX9_wouldLose_64 : decode cX9_wouldLose 64 = .ok (.iastore, 1) := by decide +kernel
theorem dX9_wouldLose_70 : decode cX9_wouldLose 70 = .ok (.invokevirtual 155, 3) := by decide +kernel
theorem dX9_wouldLose_73 : decode cX9_wouldLose 73 = .ok (.invokevirtual 165, 3) := by decide +kernel
theorem dX9_wouldLose_76 : decode cX9_wouldLose 76 = .ok (.ifCond .eq 7, 3) := by decide +kernel
theorem dX9_wouldLose_93 : decode cX9_wouldLose 93 = .ok (.ireturn, 1) := by decide +kernel
theorem dX9_health_2 : decode cX9_health 2 = .ok (.putfield 69, 3) := by decide +kernel
theorem dX9_health_8 : decode cX9_health 8 = .ok (.invokevirtual 258, 3) := by decide +kernel
theorem dX9_health_12 : decode cX9_health 12 = .ok (.i2d, 1) := by decide +kernel
theorem dX9_health_13 : decode cX9_health 13 = .ok (.ldc2_w 280, 3) := by decide +kernel
theorem dX9_health_16 : decode cX9_health 16 = .ok (.ddiv, 1) := by decide +kernel
theorem dX9_health_17 : decode cX9_health 17 = .ok (.dreturn, 1) := by decide +kernel
theorem dX9_isSoundNow_7 : decode cX9_isSoundNow 7 = .ok (.if_icmp .ge 62, 3) := by decide +kernel
theorem dX9_isSoundNow_11 : decode cX9_isSoundNow 11 = .ok (.getfield 27, 3) := by decide +kernel
theorem dX9_isSoundNow_15 : decode cX9_isSoundNow 15 = .ok (.getfield 31, 3) := by decide +kernel
theorem dX9_isSoundNow_19 : decode cX9_isSoundNow 19 = .ok (.iaload, 1) := by decide +kernel
theorem dX9_isSoundNow_20 : decode cX9_isSoundNow 20 = .ok (.aaload, 1) := by decide +kernel
theorem dX9_isSoundNow_23 : decode cX9_isSoundNow 23 = .ok (.getfield 59, 3) := by decide +kernel
theorem dX9_isSoundNow_27 : decode cX9_isSoundNow 27 = .ok (.if_icmp .ne 23, 3) := by decide +kernel
theorem dX9_isSoundNow_31 : decode cX9_isSoundNow 31 = .ok (.getfield 159, 3) := by decide +kernel
theorem dX9_isSoundNow_34 : decode cX9_isSoundNow 34 = .ok (.ifCond .ne 16, 3) := by decide +kernel
theorem dX9_isSoundNow_39 : decode cX9_isSoundNow 39 = .ok (.getfield 31, 3) := by decide +kernel
theorem dX9_isSoundNow_43 : decode cX9_isSoundNow 43 = .ok (.iaload, 1) := by decide +kernel
theorem dX9_isSoundNow_44 : decode cX9_isSoundNow 44 = .ok (.invokestatic 85, 3) := by decide +kernel
theorem dX9_isSoundNow_47 : decode cX9_isSoundNow 47 = .ok (.ifCond .eq 5, 3) := by decide +kernel
theorem dX9_isSoundNow_51 : decode cX9_isSoundNow 51 = .ok (.ireturn, 1) := by decide +kernel
theorem dX9_isSoundNow_55 : decode cX9_isSoundNow 55 = .ok (.getfield 31, 3) := by decide +kernel
theorem dX9_isSoundNow_59 : decode cX9_isSoundNow 59 = .ok (.iaload, 1) := by decide +kernel
theorem dX9_isSoundNow_73 : decode cX9_isSoundNow 73 = .ok (.if_icmp .ge 134, 3) := by decide +kernel
theorem dX9_isSoundNow_80 : decode cX9_isSoundNow 80 = .ok (.if_icmp .ge 121, 3) := by decide +kernel
theorem dX9_isSoundNow_84 : decode cX9_isSoundNow 84 = .ok (.getfield 37, 3) := by decide +kernel
theorem dX9_isSoundNow_88 : decode cX9_isSoundNow 88 = .ok (.invokevirtual 190, 3) := by decide +kernel
theorem dX9_isSoundNow_91 : decode cX9_isSoundNow 91 = .ok (.checkcast 62, 3) := by decide +kernel
theorem dX9_isSoundNow_94 : decode cX9_isSoundNow 94 = .ok (.getfield 194, 3) := by decide +kernel
theorem dX9_isSoundNow_98 : decode cX9_isSoundNow 98 = .ok (.if_icmp .eq 25, 3) := by decide +kernel
theorem dX9_isSoundNow_102 : decode cX9_isSoundNow 102 = .ok (.getfield 37, 3) := by decide +kernel
theorem dX9_isSoundNow_106 : decode cX9_isSoundNow 106 = .ok (.invokevirtual 190, 3) := by decide +kernel
theorem dX9_isSoundNow_109 : decode cX9_isSoundNow 109 = .ok (.checkcast 62, 3) := by decide +kernel
theorem dX9_isSoundNow_112 : decode cX9_isSoundNow 112 = .ok (.getfield 194, 3) := by decide +kernel
theorem dX9_isSoundNow_116 : decode cX9_isSoundNow 116 = .ok (.if_icmp .eq 7, 3) := by decide +kernel
theorem dX9_isSoundNow_128 : decode cX9_isSoundNow 128 = .ok (.ifCond .eq 67, 3) := by decide +kernel
theorem dX9_isSoundNow_132 : decode cX9_isSoundNow 132 = .ok (.getfield 37, 3) := by decide +kernel
theorem dX9_isSoundNow_136 : decode cX9_isSoundNow 136 = .ok (.invokevirtual 190, 3) := by decide +kernel
theorem dX9_isSoundNow_139 : decode cX9_isSoundNow 139 = .ok (.checkcast 62, 3) := by decide +kernel
theorem dX9_isSoundNow_142 : decode cX9_isSoundNow 142 = .ok (.getfield 194, 3) := by decide +kernel
theorem dX9_isSoundNow_146 : decode cX9_isSoundNow 146 = .ok (.getfield 37, 3) := by decide +kernel
theorem dX9_isSoundNow_150 : decode cX9_isSoundNow 150 = .ok (.invokevirtual 190, 3) := by decide +kernel
theorem dX9_isSoundNow_153 : decode cX9_isSoundNow 153 = .ok (.checkcast 62, 3) := by decide +kernel
theorem dX9_isSoundNow_156 : decode cX9_isSoundNow 156 = .ok (.getfield 194, 3) := by decide +kernel
theorem dX9_isSoundNow_159 : decode cX9_isSoundNow 159 = .ok (.if_icmp .eq 34, 3) := by decide +kernel
theorem dX9_isSoundNow_163 : decode cX9_isSoundNow 163 = .ok (.getfield 37, 3) := by decide +kernel
theorem dX9_isSoundNow_167 : decode cX9_isSoundNow 167 = .ok (.invokevirtual 190, 3) := by decide +kernel
theorem dX9_isSoundNow_170 : decode cX9_isSoundNow 170 = .ok (.checkcast 62, 3) := by decide +kernel
theorem dX9_isSoundNow_173 : decode cX9_isSoundNow 173 = .ok (.getfield 200, 3) := by decide +kernel
theorem dX9_isSoundNow_177 : decode cX9_isSoundNow 177 = .ok (.getfield 37, 3) := by decide +kernel
theorem dX9_isSoundNow_181 : decode cX9_isSoundNow 181 = .ok (.invokevirtual 190, 3) := by decide +kernel
theorem dX9_isSoundNow_184 : decode cX9_isSoundNow 184 = .ok (.checkcast 62, 3) := by decide +kernel
theorem dX9_isSoundNow_187 : decode cX9_isSoundNow 187 = .ok (.getfield 200, 3) := by decide +kernel
theorem dX9_isSoundNow_190 : decode cX9_isSoundNow 190 = .ok (.if_icmp .ne 5, 3) := by decide +kernel
theorem dX9_isSoundNow_194 : decode cX9_isSoundNow 194 = .ok (.ireturn, 1) := by decide +kernel
theorem dX9_isSoundNow_208 : decode cX9_isSoundNow 208 = .ok (.getfield 16, 3) := by decide +kernel
theorem dX9_isSoundNow_213 : decode cX9_isSoundNow 213 = .ok (.arraylength, 1) := by decide +kernel
theorem dX9_isSoundNow_221 : decode cX9_isSoundNow 221 = .ok (.if_icmp .ge 28, 3) := by decide +kernel
theorem dX9_isSoundNow_227 : decode cX9_isSoundNow 227 = .ok (.iaload, 1) := by decide +kernel
theorem dX9_isSoundNow_235 : decode cX9_isSoundNow 235 = .ok (.invokestatic 72, 3) := by decide +kernel
theorem dX9_isSoundNow_238 : decode cX9_isSoundNow 238 = .ok (.ifCond .ne 5, 3) := by decide +kernel
theorem dX9_isSoundNow_250 : decode cX9_isSoundNow 250 = .ok (.invokevirtual 155, 3) := by decide +kernel
theorem dX9_isSoundNow_253 : decode cX9_isSoundNow 253 = .ok (.invokestatic 102, 3) := by decide +kernel
theorem dX9_isSoundNow_257 : decode cX9_isSoundNow 257 = .ok (.if_icmp .gt 18, 3) := by decide +kernel
theorem dX9_isSoundNow_261 : decode cX9_isSoundNow 261 = .ok (.getfield 181, 3) := by decide +kernel
theorem dX9_isSoundNow_265 : decode cX9_isSoundNow 265 = .ok (.getfield 171, 3) := by decide +kernel
theorem dX9_isSoundNow_268 : decode cX9_isSoundNow 268 = .ok (.if_icmp .gt 7, 3) := by decide +kernel
theorem dX9_isSoundNow_276 : decode cX9_isSoundNow 276 = .ok (.ireturn, 1) := by decide +kernel
theorem dX9_isSound_2 : decode cX9_isSound 2 = .ok (.putfield 69, 3) := by decide +kernel
theorem dX9_isSound_6 : decode cX9_isSound 6 = .ok (.invokevirtual 282, 3) := by decide +kernel
theorem dX9_isSound_9 : decode cX9_isSound 9 = .ok (.ireturn, 1) := by decide +kernel
theorem dX9_add_2 : decode cX9_add 2 = .ok (.getfield 286, 3) := by decide +kernel
theorem dX9_add_5 : decode cX9_add 5 = .ok (.ldc2_w 289, 3) := by decide +kernel
theorem dX9_add_11 : decode cX9_add 11 = .ok (.putfield 286, 3) := by decide +kernel
theorem dX9_add_14 : decode cX9_add 14 = .ok (.return_, 1) := by decide +kernel
theorem dX9_digest_2 : decode cX9_digest 2 = .ok (.putfield 69, 3) := by decide +kernel
theorem dX9_digest_6 : decode cX9_digest 6 = .ok (.invokevirtual 155, 3) := by decide +kernel
theorem dX9_digest_14 : decode cX9_digest 14 = .ok (.newarray .int, 2) := by decide +kernel
theorem dX9_digest_19 : decode cX9_digest 19 = .ok (.newarray .long, 2) := by decide +kernel
theorem dX9_digest_30 : decode cX9_digest 30 = .ok (.if_icmp .ge 70, 3) := by decide +kernel
theorem dX9_digest_36 : decode cX9_digest 36 = .ok (.invokevirtual 134, 3) := by decide +kernel
theorem dX9_digest_48 : decode cX9_digest 48 = .ok (.invokevirtual 242, 3) := by decide +kernel
theorem dX9_digest_51 : decode cX9_digest 51 = .ok (.iastore, 1) := by decide +kernel
theorem dX9_digest_59 : decode cX9_digest 59 = .ok (.iaload, 1) := by decide +kernel
theorem dX9_digest_61 : decode cX9_digest 61 = .ok (.if_icmp .ne 9, 3) := by decide +kernel
theorem dX9_digest_64 : decode cX9_digest 64 = .ok (.ldc2_w 226, 3) := by decide +kernel
theorem dX9_digest_71 : decode cX9_digest 71 = .ok (.getfield 45, 3) := by decide +kernel
theorem dX9_digest_74 : decode cX9_digest 74 = .ok (.invokestatic 228, 3) := by decide +kernel
theorem dX9_digest_77 : decode cX9_digest 77 = .ok (.lastore, 1) := by decide +kernel
theorem dX9_digest_82 : decode cX9_digest 82 = .ok (.iaload, 1) := by decide +kernel
theorem dX9_digest_84 : decode cX9_digest 84 = .ok (.if_icmp .ne 7, 3) := by decide +kernel
theorem dX9_digest_101 : decode cX9_digest 101 = .ok (.ldc2_w 291, 3) := by decide +kernel
theorem dX9_digest_104 : decode cX9_digest 104 = .ok (.putfield 286, 3) := by decide +kernel
theorem dX9_digest_114 : decode cX9_digest 114 = .ok (.if_icmp .ge 21, 3) := by decide +kernel
theorem dX9_digest_122 : decode cX9_digest 122 = .ok (.invokevirtual 261, 3) := by decide +kernel
theorem dX9_digest_126 : decode cX9_digest 126 = .ok (.invokevirtual 293, 3) := by decide +kernel
theorem dX9_digest_142 : decode cX9_digest 142 = .ok (.if_icmp .ge 38, 3) := by decide +kernel
theorem dX9_digest_152 : decode cX9_digest 152 = .ok (.if_icmp .ge 22, 3) := by decide +kernel
theorem dX9_digest_161 : decode cX9_digest 161 = .ok (.invokevirtual 245, 3) := by decide +kernel
theorem dX9_digest_165 : decode cX9_digest 165 = .ok (.invokevirtual 293, 3) := by decide +kernel
theorem dX9_digest_187 : decode cX9_digest 187 = .ok (.if_icmp .ge 41, 3) := by decide +kernel
theorem dX9_digest_194 : decode cX9_digest 194 = .ok (.iaload, 1) := by decide +kernel
theorem dX9_digest_196 : decode cX9_digest 196 = .ok (.invokevirtual 293, 3) := by decide +kernel
theorem dX9_digest_204 : decode cX9_digest 204 = .ok (.laload, 1) := by decide +kernel
theorem dX9_digest_205 : decode cX9_digest 205 = .ok (.invokevirtual 293, 3) := by decide +kernel
theorem dX9_digest_213 : decode cX9_digest 213 = .ok (.iaload, 1) := by decide +kernel
theorem dX9_digest_215 : decode cX9_digest 215 = .ok (.invokevirtual 277, 3) := by decide +kernel
theorem dX9_digest_219 : decode cX9_digest 219 = .ok (.invokevirtual 293, 3) := by decide +kernel
theorem dX9_digest_229 : decode cX9_digest 229 = .ok (.getfield 16, 3) := by decide +kernel
theorem dX9_digest_236 : decode cX9_digest 236 = .ok (.arraylength, 1) := by decide +kernel
theorem dX9_digest_246 : decode cX9_digest 246 = .ok (.if_icmp .ge 23, 3) := by decide +kernel
theorem dX9_digest_253 : decode cX9_digest 253 = .ok (.iaload, 1) := by decide +kernel
theorem dX9_digest_260 : decode cX9_digest 260 = .ok (.invokevirtual 293, 3) := by decide +kernel
theorem dX9_digest_275 : decode cX9_digest 275 = .ok (.if_icmp .ge 47, 3) := by decide +kernel
theorem dX9_digest_284 : decode cX9_digest 284 = .ok (.if_icmp .ge 22, 3) := by decide +kernel
theorem dX9_digest_293 : decode cX9_digest 293 = .ok (.invokevirtual 248, 3) := by decide +kernel
theorem dX9_digest_297 : decode cX9_digest 297 = .ok (.invokevirtual 293, 3) := by decide +kernel
theorem dX9_digest_310 : decode cX9_digest 310 = .ok (.invokevirtual 251, 3) := by decide +kernel
theorem dX9_digest_313 : decode cX9_digest 313 = .ok (.invokevirtual 293, 3) := by decide +kernel
theorem dX9_digest_330 : decode cX9_digest 330 = .ok (.invokevirtual 293, 3) := by decide +kernel
theorem dX9_digest_335 : decode cX9_digest 335 = .ok (.invokevirtual 282, 3) := by decide +kernel
theorem dX9_digest_338 : decode cX9_digest 338 = .ok (.ifCond .eq 7, 3) := by decide +kernel
theorem dX9_digest_346 : decode cX9_digest 346 = .ok (.invokevirtual 293, 3) := by decide +kernel
theorem dX9_digest_350 : decode cX9_digest 350 = .ok (.getfield 286, 3) := by decide +kernel
theorem dX9_digest_353 : decode cX9_digest 353 = .ok (.lreturn, 1) := by decide +kernel
theorem dJ5_init_d00df_1 : decode cJ5_init_d00df 1 = .ok (.invokespecial 3, 3) := by decide +kernel
theorem dJ5_init_d00df_4 : decode cJ5_init_d00df 4 = .ok (.getstatic 18, 3) := by decide +kernel
theorem dJ5_init_d00df_7 : decode cJ5_init_d00df 7 = .ok (.ifCond .eq 18, 3) := by decide +kernel
theorem dJ5_init_d00df_12 : decode cJ5_init_d00df 12 = .ok (.newarray .byte, 2) := by decide +kernel
theorem dJ5_init_d00df_14 : decode cJ5_init_d00df 14 = .ok (.putfield 15, 3) := by decide +kernel
theorem dJ5_init_d00df_19 : decode cJ5_init_d00df 19 = .ok (.putfield 22, 3) := by decide +kernel
theorem dJ5_init_d00df_38 : decode cJ5_init_d00df 38 = .ok (.return_, 1) := by decide +kernel
theorem dJ5_length_8abf5_1 : decode cJ5_length_8abf5 1 = .ok (.getfield 79, 3) := by decide +kernel
theorem dJ5_length_8abf5_4 : decode cJ5_length_8abf5 4 = .ok (.ireturn, 1) := by decide +kernel
theorem dJ5_ensureCapacityInternal_d00df_1 : decode cJ5_ensureCapacityInternal_d00df 1 = .ok (.getfield 15, 3) := by decide +kernel
theorem dJ5_ensureCapacityInternal_d00df_4 : decode cJ5_ensureCapacityInternal_d00df 4 = .ok (.arraylength, 1) := by decide +kernel
theorem dJ5_ensureCapacityInternal_d00df_6 : decode cJ5_ensureCapacityInternal_d00df 6 = .ok (.getfield 22, 3) := by decide +kernel
theorem dJ5_ensureCapacityInternal_d00df_14 : decode cJ5_ensureCapacityInternal_d00df 14 = .ok (.ifCond .le 24, 3) := by decide +kernel
theorem dJ5_ensureCapacityInternal_d00df_38 : decode cJ5_ensureCapacityInternal_d00df 38 = .ok (.return_, 1) := by decide +kernel
theorem dJ5_append_3fe6f_2 : decode cJ5_append_3fe6f 2 = .ok (.getfield 79, 3) := by decide +kernel
theorem dJ5_append_3fe6f_7 : decode cJ5_append_3fe6f 7 = .ok (.invokevirtual 100, 3) := by decide +kernel
theorem dJ5_append_3fe6f_11 : decode cJ5_append_3fe6f 11 = .ok (.invokevirtual 83, 3) := by decide +kernel
theorem dJ5_append_3fe6f_14 : decode cJ5_append_3fe6f 14 = .ok (.ifCond .eq 31, 3) := by decide +kernel
theorem dJ5_append_3fe6f_18 : decode cJ5_append_3fe6f 18 = .ok (.invokestatic 191, 3) := by decide +kernel
theorem dJ5_append_3fe6f_21 : decode cJ5_append_3fe6f 21 = .ok (.ifCond .eq 24, 3) := by decide +kernel
theorem dJ5_append_3fe6f_25 : decode cJ5_append_3fe6f 25 = .ok (.getfield 15, 3) := by decide +kernel
theorem dJ5_append_3fe6f_30 : decode cJ5_append_3fe6f 30 = .ok (.getfield 79, 3) := by decide +kernel
theorem dJ5_append_3fe6f_36 : decode cJ5_append_3fe6f 36 = .ok (.putfield 79, 3) := by decide +kernel
theorem dJ5_append_3fe6f_41 : decode cJ5_append_3fe6f 41 = .ok (.bastore, 1) := by decide +kernel
theorem dJ5_append_3fe6f_76 : decode cJ5_append_3fe6f 76 = .ok (.areturn, 1) := by decide +kernel
theorem dJ5_getValue_6d5f1_1 : decode cJ5_getValue_6d5f1 1 = .ok (.getfield 15, 3) := by decide +kernel
theorem dJ5_getValue_6d5f1_4 : decode cJ5_getValue_6d5f1 4 = .ok (.areturn, 1) := by decide +kernel
theorem dJ5_isLatin1_aae02_0 : decode cJ5_isLatin1_aae02 0 = .ok (.getstatic 18, 3) := by decide +kernel
theorem dJ5_isLatin1_aae02_3 : decode cJ5_isLatin1_aae02 3 = .ok (.ifCond .eq 14, 3) := by decide +kernel
theorem dJ5_isLatin1_aae02_7 : decode cJ5_isLatin1_aae02 7 = .ok (.getfield 22, 3) := by decide +kernel
theorem dJ5_isLatin1_aae02_10 : decode cJ5_isLatin1_aae02 10 = .ok (.ifCond .ne 7, 3) := by decide +kernel
theorem dJ5_isLatin1_aae02_18 : decode cJ5_isLatin1_aae02 18 = .ok (.ireturn, 1) := by decide +kernel
theorem dJ6_bitCount_0f7a4_4 : decode cJ6_bitCount_0f7a4 4 = .ok (.ldc_w 265, 3) := by decide +kernel
theorem dJ6_bitCount_0f7a4_11 : decode cJ6_bitCount_0f7a4 11 = .ok (.ldc_w 266, 3) := by decide +kernel
theorem dJ6_bitCount_0f7a4_18 : decode cJ6_bitCount_0f7a4 18 = .ok (.ldc_w 266, 3) := by decide +kernel
theorem dJ6_bitCount_0f7a4_29 : decode cJ6_bitCount_0f7a4 29 = .ok (.ldc_w 267, 3) := by decide +kernel
theorem dJ6_bitCount_0f7a4_52 : decode cJ6_bitCount_0f7a4 52 = .ok (.ireturn, 1) := by decide +kernel
theorem dJ0_init_81219_3 : decode cJ0_init_81219 3 = .ok (.invokespecial 489, 3) := by decide +kernel
theorem dJ0_init_81219_6 : decode cJ0_init_81219 6 = .ok (.return_, 1) := by decide +kernel
theorem dJ0_equals_9ea2d_2 : decode cJ0_equals_9ea2d 2 = .ok (.if_acmp .ne 5, 3) := by decide +kernel
theorem dJ0_equals_9ea2d_6 : decode cJ0_equals_9ea2d 6 = .ok (.ireturn, 1) := by decide +kernel
theorem dJ0_equals_9ea2d_8 : decode cJ0_equals_9ea2d 8 = .ok (.instanceof 10, 3) := by decide +kernel
theorem dJ0_equals_9ea2d_11 : decode cJ0_equals_9ea2d 11 = .ok (.ifCond .eq 43, 3) := by decide +kernel
theorem dJ0_equals_9ea2d_15 : decode cJ0_equals_9ea2d 15 = .ok (.checkcast 10, 3) := by decide +kernel
theorem dJ0_equals_9ea2d_19 : decode cJ0_equals_9ea2d 19 = .ok (.getstatic 38, 3) := by decide +kernel
theorem dJ0_equals_9ea2d_22 : decode cJ0_equals_9ea2d 22 = .ok (.ifCond .eq 14, 3) := by decide +kernel
theorem dJ0_equals_9ea2d_26 : decode cJ0_equals_9ea2d 26 = .ok (.getfield 15, 3) := by decide +kernel
theorem dJ0_equals_9ea2d_30 : decode cJ0_equals_9ea2d 30 = .ok (.getfield 15, 3) := by decide +kernel
theorem dJ0_equals_9ea2d_33 : decode cJ0_equals_9ea2d 33 = .ok (.if_icmp .ne 21, 3) := by decide +kernel
theorem dJ0_equals_9ea2d_37 : decode cJ0_equals_9ea2d 37 = .ok (.getfield 9, 3) := by decide +kernel
theorem dJ0_equals_9ea2d_41 : decode cJ0_equals_9ea2d 41 = .ok (.getfield 9, 3) := by decide +kernel
theorem dJ0_equals_9ea2d_44 : decode cJ0_equals_9ea2d 44 = .ok (.invokestatic 541, 3) := by decide +kernel
theorem dJ0_equals_9ea2d_47 : decode cJ0_equals_9ea2d 47 = .ok (.ifCond .eq 7, 3) := by decide +kernel
theorem dJ0_equals_9ea2d_55 : decode cJ0_equals_9ea2d 55 = .ok (.ireturn, 1) := by decide +kernel
theorem dJ0_init_db425_1 : decode cJ0_init_db425 1 = .ok (.invokespecial 1, 3) := by decide +kernel
theorem dJ0_init_db425_5 : decode cJ0_init_db425 5 = .ok (.invokevirtual 552, 3) := by decide +kernel
theorem dJ0_init_db425_10 : decode cJ0_init_db425 10 = .ok (.invokevirtual 549, 3) := by decide +kernel
theorem dJ0_init_db425_16 : decode cJ0_init_db425 16 = .ok (.invokevirtual 1047, 3) := by decide +kernel
theorem dJ0_init_db425_19 : decode cJ0_init_db425 19 = .ok (.ifCond .eq 22, 3) := by decide +kernel
theorem dJ0_init_db425_24 : decode cJ0_init_db425 24 = .ok (.putfield 15, 3) := by decide +kernel
theorem dJ0_init_db425_32 : decode cJ0_init_db425 32 = .ok (.invokestatic 54, 3) := by decide +kernel
theorem dJ0_init_db425_35 : decode cJ0_init_db425 35 = .ok (.putfield 9, 3) := by decide +kernel
theorem dJ0_init_db425_97 : decode cJ0_init_db425 97 = .ok (.return_, 1) := by decide +kernel
theorem dJ4_init_da8c8_3 : decode cJ4_init_da8c8 3 = .ok (.invokespecial 1, 3) := by decide +kernel
theorem dJ4_init_da8c8_6 : decode cJ4_init_da8c8 6 = .ok (.return_, 1) := by decide +kernel
theorem dJ4_append_cf468_2 : decode cJ4_append_cf468 2 = .ok (.invokespecial 50, 3) := by decide +kernel
theorem dJ4_append_cf468_7 : decode cJ4_append_cf468 7 = .ok (.areturn, 1) := by decide +kernel
theorem dJ4_toString_0e30d_0 : decode cJ4_toString_0e30d 0 = .ok (.new 18, 3) := by decide +kernel
theorem dJ4_toString_0e30d_5 : decode cJ4_toString_0e30d 5 = .ok (.invokespecial 137, 3) := by decide +kernel
theorem dJ4_toString_0e30d_8 : decode cJ4_toString_0e30d 8 = .ok (.areturn, 1) := by decide +kernel
theorem dJ4_length_8abf5_1 : decode cJ4_length_8abf5 1 = .ok (.invokespecial 343, 3) := by decide +kernel
theorem dJ4_length_8abf5_4 : decode cJ4_length_8abf5 4 = .ok (.ireturn, 1) := by decide +kernel
theorem dJ1_canEncode_fc78d_4 : decode cJ1_canEncode_fc78d 4 = .ok (.if_icmp .gt 7, 3) := by decide +kernel
theorem dJ1_canEncode_fc78d_12 : decode cJ1_canEncode_fc78d 12 = .ok (.ireturn, 1) := by decide +kernel
theorem dJ1_equals_b5fdf_1 : decode cJ1_equals_b5fdf 1 = .ok (.arraylength, 1) := by decide +kernel
theorem dJ1_equals_b5fdf_3 : decode cJ1_equals_b5fdf 3 = .ok (.arraylength, 1) := by decide +kernel
theorem dJ1_equals_b5fdf_4 : decode cJ1_equals_b5fdf 4 = .ok (.if_icmp .ne 30, 3) := by decide +kernel
theorem dJ1_equals_b5fdf_11 : decode cJ1_equals_b5fdf 11 = .ok (.arraylength, 1) := by decide +kernel
theorem dJ1_equals_b5fdf_12 : decode cJ1_equals_b5fdf 12 = .ok (.if_icmp .ge 20, 3) := by decide +kernel
theorem dJ1_equals_b5fdf_17 : decode cJ1_equals_b5fdf 17 = .ok (.baload, 1) := by decide +kernel
theorem dJ1_equals_b5fdf_20 : decode cJ1_equals_b5fdf 20 = .ok (.baload, 1) := by decide +kernel
theorem dJ1_equals_b5fdf_21 : decode cJ1_equals_b5fdf 21 = .ok (.if_icmp .eq 5, 3) := by decide +kernel
theorem dJ1_equals_b5fdf_33 : decode cJ1_equals_b5fdf 33 = .ok (.ireturn, 1) := by decide +kernel
theorem dJxa1e45_init_da8c8_1 : decode cJxa1e45_init_da8c8 1 = .ok (.invokespecial 1, 3) := by decide +kernel
theorem dJxa1e45_init_da8c8_4 : decode cJxa1e45_init_da8c8 4 = .ok (.return_, 1) := by decide +kernel
theorem dJxc12de_init_da8c8_1 : decode cJxc12de_init_da8c8 1 = .ok (.invokespecial 1, 3) := by decide +kernel
theorem dJxc12de_init_da8c8_6 : decode cJxc12de_init_da8c8 6 = .ok (.putfield 7, 3) := by decide +kernel
theorem dJxc12de_init_da8c8_9 : decode cJxc12de_init_da8c8 9 = .ok (.return_, 1) := by decide +kernel
theorem dJx4a65c_init_da8c8_1 : decode cJx4a65c_init_da8c8 1 = .ok (.invokespecial 1, 3) := by decide +kernel
theorem dJx4a65c_init_da8c8_5 : decode cJx4a65c_init_da8c8 5 = .ok (.getstatic 39, 3) := by decide +kernel
theorem dJx4a65c_init_da8c8_8 : decode cJx4a65c_init_da8c8 8 = .ok (.putfield 9, 3) := by decide +kernel
theorem dJx4a65c_init_da8c8_11 : decode cJx4a65c_init_da8c8 11 = .ok (.return_, 1) := by decide +kernel
theorem dJx4a65c_grow_92f84_1 : decode cJx4a65c_grow_92f84 1 = .ok (.getfield 9, 3) := by decide +kernel
theorem dJx4a65c_grow_92f84_4 : decode cJx4a65c_grow_92f84 4 = .ok (.arraylength, 1) := by decide +kernel
theorem dJx4a65c_grow_92f84_7 : decode cJx4a65c_grow_92f84 7 = .ok (.ifCond .gt 13, 3) := by decide +kernel
theorem dJx4a65c_grow_92f84_11 : decode cJx4a65c_grow_92f84 11 = .ok (.getfield 9, 3) := by decide +kernel
theorem dJx4a65c_grow_92f84_14 : decode cJx4a65c_grow_92f84 14 = .ok (.getstatic 39, 3) := by decide +kernel
theorem dJx4a65c_grow_92f84_17 : decode cJx4a65c_grow_92f84 17 = .ok (.if_acmp .eq 28, 3) := by decide +kernel
theorem dJx4a65c_grow_92f84_49 : decode cJx4a65c_grow_92f84 49 = .ok (.invokestatic 79, 3) := by decide +kernel
theorem dJx4a65c_grow_92f84_52 : decode cJx4a65c_grow_92f84 52 = .ok (.anewarray 7, 3) := by decide +kernel
theorem dJx4a65c_grow_92f84_56 : decode cJx4a65c_grow_92f84 56 = .ok (.putfield 9, 3) := by decide +kernel
theorem dJx4a65c_grow_92f84_59 : decode cJx4a65c_grow_92f84 59 = .ok (.areturn, 1) := by decide +kernel
theorem dJx4a65c_grow_d5877_2 : decode cJx4a65c_grow_d5877 2 = .ok (.getfield 48, 3) := by decide +kernel
theorem dJx4a65c_grow_d5877_7 : decode cJx4a65c_grow_d5877 7 = .ok (.invokevirtual 69, 3) := by decide +kernel
theorem dJx4a65c_grow_d5877_10 : decode cJx4a65c_grow_d5877 10 = .ok (.areturn, 1) := by decide +kernel
theorem dJx4a65c_elementData_915e3_1 : decode cJx4a65c_elementData_915e3 1 = .ok (.getfield 9, 3) := by decide +kernel
theorem dJx4a65c_elementData_915e3_5 : decode cJx4a65c_elementData_915e3 5 = .ok (.aaload, 1) := by decide +kernel
theorem dJx4a65c_elementData_915e3_6 : decode cJx4a65c_elementData_915e3 6 = .ok (.areturn, 1) := by decide +kernel
theorem dJx4a65c_get_915e3_2 : decode cJx4a65c_get_915e3 2 = .ok (.getfield 48, 3) := by decide +kernel
theorem dJx4a65c_get_915e3_5 : decode cJx4a65c_get_915e3 5 = .ok (.invokestatic 118, 3) := by decide +kernel
theorem dJx4a65c_get_915e3_11 : decode cJx4a65c_get_915e3 11 = .ok (.invokevirtual 123, 3) := by decide +kernel
theorem dJx4a65c_get_915e3_14 : decode cJx4a65c_get_915e3 14 = .ok (.areturn, 1) := by decide +kernel
theorem dJx4a65c_add_72be8_2 : decode cJx4a65c_add_72be8 2 = .ok (.arraylength, 1) := by decide +kernel
theorem dJx4a65c_add_72be8_3 : decode cJx4a65c_add_72be8 3 = .ok (.if_icmp .ne 8, 3) := by decide +kernel
theorem dJx4a65c_add_72be8_7 : decode cJx4a65c_add_72be8 7 = .ok (.invokevirtual 129, 3) := by decide +kernel
theorem dJx4a65c_add_72be8_14 : decode cJx4a65c_add_72be8 14 = .ok (.aastore, 1) := by decide +kernel
theorem dJx4a65c_add_72be8_19 : decode cJx4a65c_add_72be8 19 = .ok (.putfield 48, 3) := by decide +kernel
theorem dJx4a65c_add_72be8_22 : decode cJx4a65c_add_72be8 22 = .ok (.return_, 1) := by decide +kernel
theorem dJx4a65c_add_9ea2d_2 : decode cJx4a65c_add_9ea2d 2 = .ok (.getfield 63, 3) := by decide +kernel
theorem dJx4a65c_add_9ea2d_7 : decode cJx4a65c_add_9ea2d 7 = .ok (.putfield 63, 3) := by decide +kernel
theorem dJx4a65c_add_9ea2d_13 : decode cJx4a65c_add_9ea2d 13 = .ok (.getfield 9, 3) := by decide +kernel
theorem dJx4a65c_add_9ea2d_17 : decode cJx4a65c_add_9ea2d 17 = .ok (.getfield 48, 3) := by decide +kernel
theorem dJx4a65c_add_9ea2d_20 : decode cJx4a65c_add_9ea2d 20 = .ok (.invokevirtual 131, 3) := by decide +kernel
theorem dJx4a65c_add_9ea2d_24 : decode cJx4a65c_add_9ea2d 24 = .ok (.ireturn, 1) := by decide +kernel
theorem dJ7_checkLength_df160_2 : decode cJ7_checkLength_df160 2 = .ok (.if_icmp .ge 35, 3) := by decide +kernel
theorem dJ7_checkLength_df160_37 : decode cJ7_checkLength_df160 37 = .ok (.return_, 1) := by decide +kernel
theorem dJ7_copyOfRange_39247_1 : decode cJ7_copyOfRange_39247 1 = .ok (.ifCond .ne 9, 3) := by decide +kernel
theorem dJ7_copyOfRange_39247_6 : decode cJ7_copyOfRange_39247 6 = .ok (.arraylength, 1) := by decide +kernel
theorem dJ7_copyOfRange_39247_7 : decode cJ7_copyOfRange_39247 7 = .ok (.if_icmp .eq 10, 3) := by decide +kernel
theorem dJ7_copyOfRange_39247_13 : decode cJ7_copyOfRange_39247 13 = .ok (.invokestatic 339, 3) := by decide +kernel
theorem dJ7_copyOfRange_39247_16 : decode cJ7_copyOfRange_39247 16 = .ok (.areturn, 1) := by decide +kernel
theorem dJ7_copyOfRangeByte_39247_2 : decode cJ7_copyOfRangeByte_39247 2 = .ok (.invokestatic 343, 3) := by decide +kernel
theorem dJ7_copyOfRangeByte_39247_10 : decode cJ7_copyOfRangeByte_39247 10 = .ok (.newarray .byte, 2) := by decide +kernel
theorem dJ7_copyOfRangeByte_39247_20 : decode cJ7_copyOfRangeByte_39247 20 = .ok (.arraylength, 1) := by decide +kernel
theorem dJ7_copyOfRangeByte_39247_24 : decode cJ7_copyOfRangeByte_39247 24 = .ok (.invokestatic 304, 3) := by decide +kernel
theorem dJ7_copyOfRangeByte_39247_27 : decode cJ7_copyOfRangeByte_39247 27 = .ok (.invokestatic 150, 3) := by decide +kernel
theorem dJ7_copyOfRangeByte_39247_32 : decode cJ7_copyOfRangeByte_39247 32 = .ok (.areturn, 1) := by decide +kernel
theorem dJ15_checkIndex_7cf53_3 : decode cJ15_checkIndex_7cf53 3 = .ok (.invokestatic 105, 3) := by decide +kernel
theorem dJ15_checkIndex_7cf53_6 : decode cJ15_checkIndex_7cf53 6 = .ok (.ireturn, 1) := by decide +kernel
theorem dJ3_checkIndex_8e157_1 : decode cJ3_checkIndex_8e157 1 = .ok (.ifCond .lt 8, 3) := by decide +kernel
theorem dJ3_checkIndex_8e157_6 : decode cJ3_checkIndex_8e157 6 = .ok (.if_icmp .lt 10, 3) := by decide +kernel
theorem dJ3_checkIndex_8e157_17 : decode cJ3_checkIndex_8e157 17 = .ok (.ireturn, 1) := by decide +kernel
theorem dL_write_5 : decode cL_write 5 = .ok (.invokevirtual 7, 3) := by decide +kernel
theorem dL_write_9 : decode cL_write 9 = .ok (.putfield 13, 3) := by decide +kernel
theorem dL_write_18 : decode cL_write 18 = .ok (.ireturn, 1) := by decide +kernel
theorem dL_write_22 : decode cL_write 22 = .ok (.ireturn, 1) := by decide +kernel
theorem dL_write_24 : decode cL_write 24 = .ok (.ireturn, 1) := by decide +kernel
theorem dL_stick_8 : decode cL_stick 8 = .ok (.invokevirtual 23, 3) := by decide +kernel
theorem dL_stick_12 : decode cL_stick 12 = .ok (.putfield 13, 3) := by decide +kernel
theorem dL_stick_21 : decode cL_stick 21 = .ok (.ireturn, 1) := by decide +kernel
theorem dL_stick_25 : decode cL_stick 25 = .ok (.ireturn, 1) := by decide +kernel
theorem dL_stick_27 : decode cL_stick 27 = .ok (.ireturn, 1) := by decide +kernel
theorem dL_mad_4 : decode cL_mad 4 = .ok (.invokevirtual 27, 3) := by decide +kernel
theorem dL_mad_8 : decode cL_mad 8 = .ok (.putfield 13, 3) := by decide +kernel
theorem dL_mad_17 : decode cL_mad 17 = .ok (.ireturn, 1) := by decide +kernel
theorem dL_mad_21 : decode cL_mad 21 = .ok (.ireturn, 1) := by decide +kernel
theorem dL_mad_23 : decode cL_mad 23 = .ok (.ireturn, 1) := by decide +kernel
theorem dL_ray_6 : decode cL_ray 6 = .ok (.invokevirtual 31, 3) := by decide +kernel
theorem dL_ray_10 : decode cL_ray 10 = .ok (.putfield 13, 3) := by decide +kernel
theorem dL_ray_19 : decode cL_ray 19 = .ok (.ireturn, 1) := by decide +kernel
theorem dL_ray_23 : decode cL_ray 23 = .ok (.ireturn, 1) := by decide +kernel
theorem dL_ray_25 : decode cL_ray 25 = .ok (.ireturn, 1) := by decide +kernel
theorem dL_erase_4 : decode cL_erase 4 = .ok (.invokevirtual 35, 3) := by decide +kernel
theorem dL_erase_8 : decode cL_erase 8 = .ok (.putfield 13, 3) := by decide +kernel
theorem dL_erase_17 : decode cL_erase 17 = .ok (.ireturn, 1) := by decide +kernel
theorem dL_erase_21 : decode cL_erase 21 = .ok (.ireturn, 1) := by decide +kernel
theorem dL_erase_23 : decode cL_erase 23 = .ok (.ireturn, 1) := by decide +kernel
theorem dL_replace_3 : decode cL_replace 3 = .ok (.invokevirtual 41, 3) := by decide +kernel
theorem dL_replace_7 : decode cL_replace 7 = .ok (.putfield 13, 3) := by decide +kernel
theorem dL_replace_15 : decode cL_replace 15 = .ok (.ireturn, 1) := by decide +kernel
theorem dL_replace_18 : decode cL_replace 18 = .ok (.ireturn, 1) := by decide +kernel
theorem dL_replace_20 : decode cL_replace 20 = .ok (.ireturn, 1) := by decide +kernel
theorem dL_limit_3 : decode cL_limit 3 = .ok (.invokevirtual 45, 3) := by decide +kernel
theorem dL_limit_7 : decode cL_limit 7 = .ok (.putfield 13, 3) := by decide +kernel
theorem dL_limit_15 : decode cL_limit 15 = .ok (.ireturn, 1) := by decide +kernel
theorem dL_limit_17 : decode cL_limit 17 = .ok (.ireturn, 1) := by decide +kernel
theorem dL_fetch_3 : decode cL_fetch 3 = .ok (.invokevirtual 48, 3) := by decide +kernel
theorem dL_fetch_7 : decode cL_fetch 7 = .ok (.putfield 13, 3) := by decide +kernel
theorem dL_fetch_15 : decode cL_fetch 15 = .ok (.ireturn, 1) := by decide +kernel
theorem dL_fetch_17 : decode cL_fetch 17 = .ok (.ireturn, 1) := by decide +kernel
theorem dL_patrol_3 : decode cL_patrol 3 = .ok (.invokevirtual 51, 3) := by decide +kernel
theorem dL_patrol_7 : decode cL_patrol 7 = .ok (.putfield 13, 3) := by decide +kernel
theorem dL_patrol_15 : decode cL_patrol 15 = .ok (.ireturn, 1) := by decide +kernel
theorem dL_patrol_17 : decode cL_patrol 17 = .ok (.ireturn, 1) := by decide +kernel
theorem dL_load_3 : decode cL_load 3 = .ok (.invokevirtual 54, 3) := by decide +kernel
theorem dL_load_6 : decode cL_load 6 = .ok (.putfield 13, 3) := by decide +kernel
theorem dL_load_14 : decode cL_load 14 = .ok (.ireturn, 1) := by decide +kernel
theorem dL_load_16 : decode cL_load 16 = .ok (.ireturn, 1) := by decide +kernel
theorem dL_store_5 : decode cL_store 5 = .ok (.invokevirtual 58, 3) := by decide +kernel
theorem dL_store_9 : decode cL_store 9 = .ok (.putfield 13, 3) := by decide +kernel
theorem dL_store_18 : decode cL_store 18 = .ok (.ireturn, 1) := by decide +kernel
theorem dL_store_22 : decode cL_store 22 = .ok (.ireturn, 1) := by decide +kernel
theorem dL_store_24 : decode cL_store 24 = .ok (.ireturn, 1) := by decide +kernel
theorem dL_times_4 : decode cL_times 4 = .ok (.invokevirtual 61, 3) := by decide +kernel
theorem dL_times_8 : decode cL_times 8 = .ok (.putfield 13, 3) := by decide +kernel
theorem dL_times_17 : decode cL_times 17 = .ok (.ireturn, 1) := by decide +kernel
theorem dL_times_19 : decode cL_times 19 = .ok (.ireturn, 1) := by decide +kernel
theorem dL_power_3 : decode cL_power 3 = .ok (.invokevirtual 64, 3) := by decide +kernel
theorem dL_power_7 : decode cL_power 7 = .ok (.putfield 13, 3) := by decide +kernel
theorem dL_power_15 : decode cL_power 15 = .ok (.ireturn, 1) := by decide +kernel
theorem dL_power_17 : decode cL_power 17 = .ok (.ireturn, 1) := by decide +kernel
theorem dL_symbol_5 : decode cL_symbol 5 = .ok (.invokevirtual 67, 3) := by decide +kernel
theorem dL_symbol_9 : decode cL_symbol 9 = .ok (.putfield 13, 3) := by decide +kernel
theorem dL_symbol_18 : decode cL_symbol 18 = .ok (.ireturn, 1) := by decide +kernel
theorem dL_symbol_22 : decode cL_symbol 22 = .ok (.ireturn, 1) := by decide +kernel
theorem dL_symbol_24 : decode cL_symbol 24 = .ok (.ireturn, 1) := by decide +kernel
theorem dL_fooled_10 : decode cL_fooled 10 = .ok (.invokevirtual 71, 3) := by decide +kernel
theorem dL_fooled_14 : decode cL_fooled 14 = .ok (.putfield 13, 3) := by decide +kernel
theorem dL_fooled_23 : decode cL_fooled 23 = .ok (.ireturn, 1) := by decide +kernel
theorem dL_fooled_27 : decode cL_fooled 27 = .ok (.ireturn, 1) := by decide +kernel
theorem dL_fooled_29 : decode cL_fooled 29 = .ok (.ireturn, 1) := by decide +kernel
theorem dL_seen_4 : decode cL_seen 4 = .ok (.invokevirtual 75, 3) := by decide +kernel
theorem dL_seen_8 : decode cL_seen 8 = .ok (.putfield 13, 3) := by decide +kernel
theorem dL_seen_17 : decode cL_seen 17 = .ok (.ireturn, 1) := by decide +kernel
theorem dL_seen_19 : decode cL_seen 19 = .ok (.ireturn, 1) := by decide +kernel
theorem dL_sum_4 : decode cL_sum 4 = .ok (.invokevirtual 78, 3) := by decide +kernel
theorem dL_sum_8 : decode cL_sum 8 = .ok (.putfield 13, 3) := by decide +kernel
theorem dL_sum_17 : decode cL_sum 17 = .ok (.ireturn, 1) := by decide +kernel
theorem dL_sum_21 : decode cL_sum 21 = .ok (.ireturn, 1) := by decide +kernel
theorem dL_sum_23 : decode cL_sum 23 = .ok (.ireturn, 1) := by decide +kernel
theorem dL_mended_3 : decode cL_mended 3 = .ok (.invokevirtual 81, 3) := by decide +kernel
theorem dL_mended_7 : decode cL_mended 7 = .ok (.putfield 13, 3) := by decide +kernel
theorem dL_mended_15 : decode cL_mended 15 = .ok (.ireturn, 1) := by decide +kernel
theorem dL_mended_17 : decode cL_mended 17 = .ok (.ireturn, 1) := by decide +kernel
theorem dL_data_3 : decode cL_data 3 = .ok (.invokevirtual 84, 3) := by decide +kernel
theorem dL_data_6 : decode cL_data 6 = .ok (.putfield 13, 3) := by decide +kernel
theorem dL_data_14 : decode cL_data 14 = .ok (.ireturn, 1) := by decide +kernel
theorem dL_data_16 : decode cL_data 16 = .ok (.ireturn, 1) := by decide +kernel
theorem dL_ofChip_4 : decode cL_ofChip 4 = .ok (.invokevirtual 87, 3) := by decide +kernel
theorem dL_ofChip_8 : decode cL_ofChip 8 = .ok (.putfield 13, 3) := by decide +kernel
theorem dL_ofChip_17 : decode cL_ofChip 17 = .ok (.ireturn, 1) := by decide +kernel
theorem dL_ofChip_21 : decode cL_ofChip 21 = .ok (.ireturn, 1) := by decide +kernel
theorem dL_ofChip_23 : decode cL_ofChip 23 = .ok (.ireturn, 1) := by decide +kernel
theorem dL_stored_4 : decode cL_stored 4 = .ok (.invokevirtual 90, 3) := by decide +kernel
theorem dL_stored_8 : decode cL_stored 8 = .ok (.putfield 13, 3) := by decide +kernel
theorem dL_stored_17 : decode cL_stored 17 = .ok (.ireturn, 1) := by decide +kernel
theorem dL_stored_19 : decode cL_stored 19 = .ok (.ireturn, 1) := by decide +kernel
theorem dL_ofFrame_4 : decode cL_ofFrame 4 = .ok (.invokevirtual 93, 3) := by decide +kernel
theorem dL_ofFrame_8 : decode cL_ofFrame 8 = .ok (.putfield 13, 3) := by decide +kernel
theorem dL_ofFrame_17 : decode cL_ofFrame 17 = .ok (.ireturn, 1) := by decide +kernel
theorem dL_ofFrame_21 : decode cL_ofFrame 21 = .ok (.ireturn, 1) := by decide +kernel
theorem dL_ofFrame_23 : decode cL_ofFrame 23 = .ok (.ireturn, 1) := by decide +kernel
theorem dL_held_3 : decode cL_held 3 = .ok (.invokevirtual 96, 3) := by decide +kernel
theorem dL_held_6 : decode cL_held 6 = .ok (.putfield 13, 3) := by decide +kernel
theorem dL_held_14 : decode cL_held 14 = .ok (.ireturn, 1) := by decide +kernel
theorem dL_held_16 : decode cL_held 16 = .ok (.ireturn, 1) := by decide +kernel
theorem dL_bank_3 : decode cL_bank 3 = .ok (.invokevirtual 99, 3) := by decide +kernel
theorem dL_bank_7 : decode cL_bank 7 = .ok (.putfield 13, 3) := by decide +kernel
theorem dL_bank_15 : decode cL_bank 15 = .ok (.ireturn, 1) := by decide +kernel
theorem dL_bank_17 : decode cL_bank 17 = .ok (.ireturn, 1) := by decide +kernel
theorem dL_row_3 : decode cL_row 3 = .ok (.invokevirtual 102, 3) := by decide +kernel
theorem dL_row_6 : decode cL_row 6 = .ok (.putfield 106, 3) := by decide +kernel
theorem dL_row_14 : decode cL_row 14 = .ok (.ireturn, 1) := by decide +kernel
theorem dL_row_16 : decode cL_row 16 = .ok (.ireturn, 1) := by decide +kernel
theorem dL_wouldMend_4 : decode cL_wouldMend 4 = .ok (.invokevirtual 110, 3) := by decide +kernel
theorem dL_wouldMend_8 : decode cL_wouldMend 8 = .ok (.putfield 13, 3) := by decide +kernel
theorem dL_wouldMend_17 : decode cL_wouldMend 17 = .ok (.ireturn, 1) := by decide +kernel
theorem dL_wouldMend_21 : decode cL_wouldMend 21 = .ok (.ireturn, 1) := by decide +kernel
theorem dL_wouldMend_23 : decode cL_wouldMend 23 = .ok (.ireturn, 1) := by decide +kernel
theorem dL_spare_3 : decode cL_spare 3 = .ok (.invokevirtual 113, 3) := by decide +kernel
theorem dL_spare_7 : decode cL_spare 7 = .ok (.putfield 13, 3) := by decide +kernel
theorem dL_spare_15 : decode cL_spare 15 = .ok (.ireturn, 1) := by decide +kernel
theorem dL_spare_17 : decode cL_spare 17 = .ok (.ireturn, 1) := by decide +kernel
theorem dL_wouldLose_4 : decode cL_wouldLose 4 = .ok (.invokevirtual 116, 3) := by decide +kernel
theorem dL_wouldLose_8 : decode cL_wouldLose 8 = .ok (.putfield 13, 3) := by decide +kernel
theorem dL_wouldLose_17 : decode cL_wouldLose 17 = .ok (.ireturn, 1) := by decide +kernel
theorem dL_wouldLose_21 : decode cL_wouldLose 21 = .ok (.ireturn, 1) := by decide +kernel
theorem dL_wouldLose_23 : decode cL_wouldLose 23 = .ok (.ireturn, 1) := by decide +kernel
theorem dL_law_0 : decode cL_law 0 = .ok (.new 8, 3) := by decide +kernel
theorem dL_law_4 : decode cL_law 4 = .ok (.invokespecial 119, 3) := by decide +kernel
theorem dL_law_8 : decode cL_law 8 = .ok (.new 120, 3) := by decide +kernel
theorem dL_law_12 : decode cL_law 12 = .ok (.invokespecial 122, 3) := by decide +kernel
theorem dL_law_16 : decode cL_law 16 = .ok (.new 14, 3) := by decide +kernel
theorem dL_law_20 : decode cL_law 20 = .ok (.invokespecial 123, 3) := by decide +kernel
theorem dL_law_30 : decode cL_law 30 = .ok (.arraylength, 1) := by decide +kernel
theorem dL_law_34 : decode cL_law 34 = .ok (.if_icmp .gt 2228, 3) := by decide +kernel
theorem dL_law_40 : decode cL_law 40 = .ok (.iaload, 1) := by decide +kernel
theorem dL_law_44 : decode cL_law 44 = .ok (.tableswitch 2212 0 32 #[148, 249, 342, 411, 492, 577, 634, 691, 748, 805, 861, 962, 975, 988, 1057, 1114, 1215, 1320, 1389, 1458, 1515, 1571, 1640, 1709, 1778, 1834, 1891, 1949, 2018, 2075, 2144, 2185, 2198], 148) := by decide +kernel
theorem dL_law_198 : decode cL_law 198 = .ok (.iaload, 1) := by decide +kernel
theorem dL_law_204 : decode cL_law 204 = .ok (.iaload, 1) := by decide +kernel
theorem dL_law_214 : decode cL_law 214 = .ok (.iaload, 1) := by decide +kernel
theorem dL_law_216 : decode cL_law 216 = .ok (.ldc2_w 124, 3) := by decide +kernel
theorem dL_law_222 : decode cL_law 222 = .ok (.invokestatic 126, 3) := by decide +kernel
theorem dL_law_233 : decode cL_law 233 = .ok (.iaload, 1) := by decide +kernel
theorem dL_law_239 : decode cL_law 239 = .ok (.iaload, 1) := by decide +kernel
theorem dL_law_249 : decode cL_law 249 = .ok (.iaload, 1) := by decide +kernel
theorem dL_law_251 : decode cL_law 251 = .ok (.ldc2_w 124, 3) := by decide +kernel
theorem dL_law_256 : decode cL_law 256 = .ok (.invokevirtual 131, 3) := by decide +kernel
theorem dL_law_262 : decode cL_law 262 = .ok (.invokevirtual 132, 3) := by decide +kernel
theorem dL_law_267 : decode cL_law 267 = .ok (.if_icmp .eq 5, 3) := by decide +kernel
theorem dL_law_274 : decode cL_law 274 = .ok (.ifCond .ne 16, 3) := by decide +kernel
theorem dL_law_278 : decode cL_law 278 = .ok (.getfield 13, 3) := by decide +kernel
theorem dL_law_285 : decode cL_law 285 = .ok (.ifCond .eq 5, 3) := by decide +kernel
theorem dL_law_299 : decode cL_law 299 = .ok (.iaload, 1) := by decide +kernel
theorem dL_law_305 : decode cL_law 305 = .ok (.iaload, 1) := by decide +kernel
theorem dL_law_311 : decode cL_law 311 = .ok (.iaload, 1) := by decide +kernel
theorem dL_law_317 : decode cL_law 317 = .ok (.iaload, 1) := by decide +kernel
theorem dL_law_319 : decode cL_law 319 = .ok (.invokestatic 136, 3) := by decide +kernel
theorem dL_law_330 : decode cL_law 330 = .ok (.iaload, 1) := by decide +kernel
theorem dL_law_336 : decode cL_law 336 = .ok (.iaload, 1) := by decide +kernel
theorem dL_law_342 : decode cL_law 342 = .ok (.iaload, 1) := by decide +kernel
theorem dL_law_348 : decode cL_law 348 = .ok (.iaload, 1) := by decide +kernel
theorem dL_law_349 : decode cL_law 349 = .ok (.invokevirtual 139, 3) := by decide +kernel
theorem dL_law_355 : decode cL_law 355 = .ok (.invokevirtual 132, 3) := by decide +kernel
theorem dL_law_360 : decode cL_law 360 = .ok (.if_icmp .eq 5, 3) := by decide +kernel
theorem dL_law_367 : decode cL_law 367 = .ok (.ifCond .ne 16, 3) := by decide +kernel
theorem dL_law_371 : decode cL_law 371 = .ok (.getfield 13, 3) := by decide +kernel
theorem dL_law_378 : decode cL_law 378 = .ok (.ifCond .eq 5, 3) := by decide +kernel
theorem dL_law_392 : decode cL_law 392 = .ok (.iaload, 1) := by decide +kernel
theorem dL_law_398 : decode cL_law 398 = .ok (.iaload, 1) := by decide +kernel
theorem dL_law_400 : decode cL_law 400 = .ok (.invokestatic 140, 3) := by decide +kernel
theorem dL_law_411 : decode cL_law 411 = .ok (.iaload, 1) := by decide +kernel
theorem dL_law_417 : decode cL_law 417 = .ok (.iaload, 1) := by decide +kernel
theorem dL_law_418 : decode cL_law 418 = .ok (.invokevirtual 143, 3) := by decide +kernel
theorem dL_law_424 : decode cL_law 424 = .ok (.invokevirtual 132, 3) := by decide +kernel
theorem dL_law_429 : decode cL_law 429 = .ok (.if_icmp .eq 5, 3) := by decide +kernel
theorem dL_law_436 : decode cL_law 436 = .ok (.ifCond .ne 16, 3) := by decide +kernel
theorem dL_law_440 : decode cL_law 440 = .ok (.getfield 13, 3) := by decide +kernel
theorem dL_law_447 : decode cL_law 447 = .ok (.ifCond .eq 5, 3) := by decide +kernel
theorem dL_law_461 : decode cL_law 461 = .ok (.iaload, 1) := by decide +kernel
theorem dL_law_467 : decode cL_law 467 = .ok (.iaload, 1) := by decide +kernel
theorem dL_law_473 : decode cL_law 473 = .ok (.iaload, 1) := by decide +kernel
theorem dL_law_475 : decode cL_law 475 = .ok (.invokestatic 144, 3) := by decide +kernel
theorem dL_law_486 : decode cL_law 486 = .ok (.iaload, 1) := by decide +kernel
theorem dL_law_492 : decode cL_law 492 = .ok (.iaload, 1) := by decide +kernel
theorem dL_law_498 : decode cL_law 498 = .ok (.iaload, 1) := by decide +kernel
theorem dL_law_499 : decode cL_law 499 = .ok (.invokevirtual 147, 3) := by decide +kernel
theorem dL_law_505 : decode cL_law 505 = .ok (.invokevirtual 132, 3) := by decide +kernel
theorem dL_law_510 : decode cL_law 510 = .ok (.if_icmp .eq 5, 3) := by decide +kernel
theorem dL_law_517 : decode cL_law 517 = .ok (.ifCond .ne 16, 3) := by decide +kernel
theorem dL_law_521 : decode cL_law 521 = .ok (.getfield 13, 3) := by decide +kernel
theorem dL_law_528 : decode cL_law 528 = .ok (.ifCond .eq 5, 3) := by decide +kernel
theorem dL_law_542 : decode cL_law 542 = .ok (.iaload, 1) := by decide +kernel
theorem dL_law_548 : decode cL_law 548 = .ok (.iaload, 1) := by decide +kernel
theorem dL_law_549 : decode cL_law 549 = .ok (.ifCond .eq 7, 3) := by decide +kernel
theorem dL_law_558 : decode cL_law 558 = .ok (.invokestatic 148, 3) := by decide +kernel
theorem dL_law_569 : decode cL_law 569 = .ok (.iaload, 1) := by decide +kernel
theorem dL_law_575 : decode cL_law 575 = .ok (.iaload, 1) := by decide +kernel
theorem dL_law_576 : decode cL_law 576 = .ok (.ifCond .eq 7, 3) := by decide +kernel
theorem dL_law_584 : decode cL_law 584 = .ok (.invokevirtual 151, 3) := by decide +kernel
theorem dL_law_590 : decode cL_law 590 = .ok (.invokevirtual 132, 3) := by decide +kernel
theorem dL_law_595 : decode cL_law 595 = .ok (.if_icmp .eq 5, 3) := by decide +kernel
theorem dL_law_602 : decode cL_law 602 = .ok (.ifCond .ne 16, 3) := by decide +kernel
theorem dL_law_606 : decode cL_law 606 = .ok (.getfield 13, 3) := by decide +kernel
theorem dL_law_613 : decode cL_law 613 = .ok (.ifCond .eq 5, 3) := by decide +kernel
theorem dL_law_627 : decode cL_law 627 = .ok (.iaload, 1) := by decide +kernel
theorem dL_law_629 : decode cL_law 629 = .ok (.invokestatic 152, 3) := by decide +kernel
theorem dL_law_640 : decode cL_law 640 = .ok (.iaload, 1) := by decide +kernel
theorem dL_law_641 : decode cL_law 641 = .ok (.invokevirtual 155, 3) := by decide +kernel
theorem dL_law_647 : decode cL_law 647 = .ok (.invokevirtual 132, 3) := by decide +kernel
theorem dL_law_652 : decode cL_law 652 = .ok (.if_icmp .eq 5, 3) := by decide +kernel
theorem dL_law_659 : decode cL_law 659 = .ok (.ifCond .ne 16, 3) := by decide +kernel
theorem dL_law_663 : decode cL_law 663 = .ok (.getfield 13, 3) := by decide +kernel
theorem dL_law_670 : decode cL_law 670 = .ok (.ifCond .eq 5, 3) := by decide +kernel
theorem dL_law_684 : decode cL_law 684 = .ok (.iaload, 1) := by decide +kernel
theorem dL_law_686 : decode cL_law 686 = .ok (.invokestatic 156, 3) := by decide +kernel
theorem dL_law_697 : decode cL_law 697 = .ok (.iaload, 1) := by decide +kernel
theorem dL_law_698 : decode cL_law 698 = .ok (.invokevirtual 158, 3) := by decide +kernel
theorem dL_law_704 : decode cL_law 704 = .ok (.invokevirtual 132, 3) := by decide +kernel
theorem dL_law_709 : decode cL_law 709 = .ok (.if_icmp .eq 5, 3) := by decide +kernel
theorem dL_law_716 : decode cL_law 716 = .ok (.ifCond .ne 16, 3) := by decide +kernel
theorem dL_law_720 : decode cL_law 720 = .ok (.getfield 13, 3) := by decide +kernel
theorem dL_law_727 : decode cL_law 727 = .ok (.ifCond .eq 5, 3) := by decide +kernel
theorem dL_law_741 : decode cL_law 741 = .ok (.iaload, 1) := by decide +kernel
theorem dL_law_743 : decode cL_law 743 = .ok (.invokestatic 159, 3) := by decide +kernel
theorem dL_law_754 : decode cL_law 754 = .ok (.iaload, 1) := by decide +kernel
theorem dL_law_755 : decode cL_law 755 = .ok (.invokevirtual 161, 3) := by decide +kernel
theorem dL_law_761 : decode cL_law 761 = .ok (.invokevirtual 132, 3) := by decide +kernel
theorem dL_law_766 : decode cL_law 766 = .ok (.if_icmp .eq 5, 3) := by decide +kernel
theorem dL_law_773 : decode cL_law 773 = .ok (.ifCond .ne 16, 3) := by decide +kernel
theorem dL_law_777 : decode cL_law 777 = .ok (.getfield 13, 3) := by decide +kernel
theorem dL_law_784 : decode cL_law 784 = .ok (.ifCond .eq 5, 3) := by decide +kernel
theorem dL_law_798 : decode cL_law 798 = .ok (.iaload, 1) := by decide +kernel
theorem dL_law_800 : decode cL_law 800 = .ok (.invokestatic 162, 3) := by decide +kernel
theorem dL_law_811 : decode cL_law 811 = .ok (.iaload, 1) := by decide +kernel
theorem dL_law_812 : decode cL_law 812 = .ok (.invokevirtual 164, 3) := by decide +kernel
theorem dL_law_818 : decode cL_law 818 = .ok (.invokevirtual 132, 3) := by decide +kernel
theorem dL_law_823 : decode cL_law 823 = .ok (.if_icmp .eq 5, 3) := by decide +kernel
theorem dL_law_830 : decode cL_law 830 = .ok (.ifCond .ne 16, 3) := by decide +kernel
theorem dL_law_834 : decode cL_law 834 = .ok (.getfield 13, 3) := by decide +kernel
theorem dL_law_841 : decode cL_law 841 = .ok (.ifCond .eq 5, 3) := by decide +kernel
theorem dL_law_855 : decode cL_law 855 = .ok (.iaload, 1) := by decide +kernel
theorem dL_law_857 : decode cL_law 857 = .ok (.invokestatic 165, 3) := by decide +kernel
theorem dL_law_868 : decode cL_law 868 = .ok (.iaload, 1) := by decide +kernel
theorem dL_law_869 : decode cL_law 869 = .ok (.invokevirtual 167, 3) := by decide +kernel
theorem dL_law_875 : decode cL_law 875 = .ok (.invokevirtual 132, 3) := by decide +kernel
theorem dL_law_880 : decode cL_law 880 = .ok (.if_icmp .eq 5, 3) := by decide +kernel
theorem dL_law_887 : decode cL_law 887 = .ok (.ifCond .ne 15, 3) := by decide +kernel
theorem dL_law_891 : decode cL_law 891 = .ok (.getfield 13, 3) := by decide +kernel
theorem dL_law_897 : decode cL_law 897 = .ok (.ifCond .eq 5, 3) := by decide +kernel
theorem dL_law_911 : decode cL_law 911 = .ok (.iaload, 1) := by decide +kernel
theorem dL_law_917 : decode cL_law 917 = .ok (.iaload, 1) := by decide +kernel
theorem dL_law_927 : decode cL_law 927 = .ok (.iaload, 1) := by decide +kernel
theorem dL_law_929 : decode cL_law 929 = .ok (.ldc2_w 124, 3) := by decide +kernel
theorem dL_law_935 : decode cL_law 935 = .ok (.invokestatic 168, 3) := by decide +kernel
theorem dL_law_946 : decode cL_law 946 = .ok (.iaload, 1) := by decide +kernel
theorem dL_law_952 : decode cL_law 952 = .ok (.iaload, 1) := by decide +kernel
theorem dL_law_962 : decode cL_law 962 = .ok (.iaload, 1) := by decide +kernel
theorem dL_law_964 : decode cL_law 964 = .ok (.ldc2_w 124, 3) := by decide +kernel
theorem dL_law_969 : decode cL_law 969 = .ok (.invokevirtual 170, 3) := by decide +kernel
theorem dL_law_975 : decode cL_law 975 = .ok (.invokevirtual 132, 3) := by decide +kernel
theorem dL_law_980 : decode cL_law 980 = .ok (.if_icmp .eq 5, 3) := by decide +kernel
theorem dL_law_987 : decode cL_law 987 = .ok (.ifCond .ne 16, 3) := by decide +kernel
theorem dL_law_991 : decode cL_law 991 = .ok (.getfield 13, 3) := by decide +kernel
theorem dL_law_998 : decode cL_law 998 = .ok (.ifCond .eq 5, 3) := by decide +kernel
theorem dL_law_1007 : decode cL_law 1007 = .ok (.invokevirtual 171, 3) := by decide +kernel
theorem dL_law_1011 : decode cL_law 1011 = .ok (.invokevirtual 174, 3) := by decide +kernel
theorem dL_law_1014 : decode cL_law 1014 = .ok (.if_icmp .eq 1242, 3) := by decide +kernel
theorem dL_law_1020 : decode cL_law 1020 = .ok (.invokevirtual 175, 3) := by decide +kernel
theorem dL_law_1024 : decode cL_law 1024 = .ok (.invokevirtual 178, 3) := by decide +kernel
theorem dL_law_1027 : decode cL_law 1027 = .ok (.if_icmp .eq 1229, 3) := by decide +kernel
theorem dL_law_1038 : decode cL_law 1038 = .ok (.iaload, 1) := by decide +kernel
theorem dL_law_1044 : decode cL_law 1044 = .ok (.iaload, 1) := by decide +kernel
theorem dL_law_1046 : decode cL_law 1046 = .ok (.invokestatic 179, 3) := by decide +kernel
theorem dL_law_1057 : decode cL_law 1057 = .ok (.iaload, 1) := by decide +kernel
theorem dL_law_1063 : decode cL_law 1063 = .ok (.iaload, 1) := by decide +kernel
theorem dL_law_1064 : decode cL_law 1064 = .ok (.invokevirtual 181, 3) := by decide +kernel
theorem dL_law_1070 : decode cL_law 1070 = .ok (.invokevirtual 132, 3) := by decide +kernel
theorem dL_law_1075 : decode cL_law 1075 = .ok (.if_icmp .eq 5, 3) := by decide +kernel
theorem dL_law_1082 : decode cL_law 1082 = .ok (.ifCond .ne 16, 3) := by decide +kernel
theorem dL_law_1086 : decode cL_law 1086 = .ok (.getfield 13, 3) := by decide +kernel
theorem dL_law_1093 : decode cL_law 1093 = .ok (.ifCond .eq 5, 3) := by decide +kernel
theorem dL_law_1107 : decode cL_law 1107 = .ok (.iaload, 1) := by decide +kernel
theorem dL_law_1109 : decode cL_law 1109 = .ok (.invokestatic 182, 3) := by decide +kernel
theorem dL_law_1120 : decode cL_law 1120 = .ok (.iaload, 1) := by decide +kernel
theorem dL_law_1121 : decode cL_law 1121 = .ok (.invokevirtual 184, 3) := by decide +kernel
theorem dL_law_1127 : decode cL_law 1127 = .ok (.invokevirtual 132, 3) := by decide +kernel
theorem dL_law_1132 : decode cL_law 1132 = .ok (.if_icmp .eq 5, 3) := by decide +kernel
theorem dL_law_1139 : decode cL_law 1139 = .ok (.ifCond .ne 16, 3) := by decide +kernel
theorem dL_law_1143 : decode cL_law 1143 = .ok (.getfield 13, 3) := by decide +kernel
theorem dL_law_1150 : decode cL_law 1150 = .ok (.ifCond .eq 5, 3) := by decide +kernel
theorem dL_law_1164 : decode cL_law 1164 = .ok (.iaload, 1) := by decide +kernel
theorem dL_law_1174 : decode cL_law 1174 = .ok (.iaload, 1) := by decide +kernel
theorem dL_law_1176 : decode cL_law 1176 = .ok (.ldc2_w 124, 3) := by decide +kernel
theorem dL_law_1186 : decode cL_law 1186 = .ok (.iaload, 1) := by decide +kernel
theorem dL_law_1188 : decode cL_law 1188 = .ok (.invokestatic 185, 3) := by decide +kernel
theorem dL_law_1199 : decode cL_law 1199 = .ok (.iaload, 1) := by decide +kernel
theorem dL_law_1209 : decode cL_law 1209 = .ok (.iaload, 1) := by decide +kernel
theorem dL_law_1211 : decode cL_law 1211 = .ok (.ldc2_w 124, 3) := by decide +kernel
theorem dL_law_1221 : decode cL_law 1221 = .ok (.iaload, 1) := by decide +kernel
theorem dL_law_1222 : decode cL_law 1222 = .ok (.invokevirtual 188, 3) := by decide +kernel
theorem dL_law_1228 : decode cL_law 1228 = .ok (.invokevirtual 132, 3) := by decide +kernel
theorem dL_law_1233 : decode cL_law 1233 = .ok (.if_icmp .eq 5, 3) := by decide +kernel
theorem dL_law_1240 : decode cL_law 1240 = .ok (.ifCond .ne 16, 3) := by decide +kernel
theorem dL_law_1244 : decode cL_law 1244 = .ok (.getfield 13, 3) := by decide +kernel
theorem dL_law_1251 : decode cL_law 1251 = .ok (.ifCond .eq 5, 3) := by decide +kernel
theorem dL_law_1265 : decode cL_law 1265 = .ok (.iaload, 1) := by decide +kernel
theorem dL_law_1271 : decode cL_law 1271 = .ok (.iaload, 1) := by decide +kernel
theorem dL_law_1277 : decode cL_law 1277 = .ok (.iaload, 1) := by decide +kernel
theorem dL_law_1283 : decode cL_law 1283 = .ok (.iaload, 1) := by decide +kernel
theorem dL_law_1289 : decode cL_law 1289 = .ok (.iaload, 1) := by decide +kernel
theorem dL_law_1291 : decode cL_law 1291 = .ok (.invokestatic 189, 3) := by decide +kernel
theorem dL_law_1302 : decode cL_law 1302 = .ok (.iaload, 1) := by decide +kernel
theorem dL_law_1308 : decode cL_law 1308 = .ok (.iaload, 1) := by decide +kernel
theorem dL_law_1314 : decode cL_law 1314 = .ok (.iaload, 1) := by decide +kernel
theorem dL_law_1320 : decode cL_law 1320 = .ok (.iaload, 1) := by decide +kernel
theorem dL_law_1326 : decode cL_law 1326 = .ok (.iaload, 1) := by decide +kernel
theorem dL_law_1327 : decode cL_law 1327 = .ok (.invokevirtual 192, 3) := by decide +kernel
theorem dL_law_1333 : decode cL_law 1333 = .ok (.invokevirtual 132, 3) := by decide +kernel
theorem dL_law_1338 : decode cL_law 1338 = .ok (.if_icmp .eq 5, 3) := by decide +kernel
theorem dL_law_1345 : decode cL_law 1345 = .ok (.ifCond .ne 16, 3) := by decide +kernel
theorem dL_law_1349 : decode cL_law 1349 = .ok (.getfield 13, 3) := by decide +kernel
theorem dL_law_1356 : decode cL_law 1356 = .ok (.ifCond .eq 5, 3) := by decide +kernel
theorem dL_law_1370 : decode cL_law 1370 = .ok (.iaload, 1) := by decide +kernel
theorem dL_law_1376 : decode cL_law 1376 = .ok (.iaload, 1) := by decide +kernel
theorem dL_law_1378 : decode cL_law 1378 = .ok (.invokestatic 193, 3) := by decide +kernel
theorem dL_law_1389 : decode cL_law 1389 = .ok (.iaload, 1) := by decide +kernel
theorem dL_law_1395 : decode cL_law 1395 = .ok (.iaload, 1) := by decide +kernel
theorem dL_law_1396 : decode cL_law 1396 = .ok (.invokevirtual 195, 3) := by decide +kernel
theorem dL_law_1402 : decode cL_law 1402 = .ok (.invokevirtual 132, 3) := by decide +kernel
theorem dL_law_1407 : decode cL_law 1407 = .ok (.if_icmp .eq 5, 3) := by decide +kernel
theorem dL_law_1414 : decode cL_law 1414 = .ok (.ifCond .ne 16, 3) := by decide +kernel
theorem dL_law_1418 : decode cL_law 1418 = .ok (.getfield 13, 3) := by decide +kernel
theorem dL_law_1425 : decode cL_law 1425 = .ok (.ifCond .eq 5, 3) := by decide +kernel
theorem dL_law_1439 : decode cL_law 1439 = .ok (.iaload, 1) := by decide +kernel
theorem dL_law_1445 : decode cL_law 1445 = .ok (.iaload, 1) := by decide +kernel
theorem dL_law_1447 : decode cL_law 1447 = .ok (.invokestatic 196, 3) := by decide +kernel
theorem dL_law_1458 : decode cL_law 1458 = .ok (.iaload, 1) := by decide +kernel
theorem dL_law_1464 : decode cL_law 1464 = .ok (.iaload, 1) := by decide +kernel
theorem dL_law_1465 : decode cL_law 1465 = .ok (.invokevirtual 198, 3) := by decide +kernel
theorem dL_law_1471 : decode cL_law 1471 = .ok (.invokevirtual 132, 3) := by decide +kernel
theorem dL_law_1476 : decode cL_law 1476 = .ok (.if_icmp .eq 5, 3) := by decide +kernel
theorem dL_law_1483 : decode cL_law 1483 = .ok (.ifCond .ne 16, 3) := by decide +kernel
theorem dL_law_1487 : decode cL_law 1487 = .ok (.getfield 13, 3) := by decide +kernel
theorem dL_law_1494 : decode cL_law 1494 = .ok (.ifCond .eq 5, 3) := by decide +kernel
theorem dL_law_1508 : decode cL_law 1508 = .ok (.iaload, 1) := by decide +kernel
theorem dL_law_1510 : decode cL_law 1510 = .ok (.invokestatic 199, 3) := by decide +kernel
theorem dL_law_1521 : decode cL_law 1521 = .ok (.iaload, 1) := by decide +kernel
theorem dL_law_1522 : decode cL_law 1522 = .ok (.invokevirtual 201, 3) := by decide +kernel
theorem dL_law_1528 : decode cL_law 1528 = .ok (.invokevirtual 132, 3) := by decide +kernel
theorem dL_law_1533 : decode cL_law 1533 = .ok (.if_icmp .eq 5, 3) := by decide +kernel
theorem dL_law_1540 : decode cL_law 1540 = .ok (.ifCond .ne 16, 3) := by decide +kernel
theorem dL_law_1544 : decode cL_law 1544 = .ok (.getfield 13, 3) := by decide +kernel
theorem dL_law_1551 : decode cL_law 1551 = .ok (.ifCond .eq 5, 3) := by decide +kernel
theorem dL_law_1565 : decode cL_law 1565 = .ok (.iaload, 1) := by decide +kernel
theorem dL_law_1567 : decode cL_law 1567 = .ok (.invokestatic 202, 3) := by decide +kernel
theorem dL_law_1578 : decode cL_law 1578 = .ok (.iaload, 1) := by decide +kernel
theorem dL_law_1579 : decode cL_law 1579 = .ok (.invokevirtual 204, 3) := by decide +kernel
theorem dL_law_1585 : decode cL_law 1585 = .ok (.invokevirtual 132, 3) := by decide +kernel
theorem dL_law_1590 : decode cL_law 1590 = .ok (.if_icmp .eq 5, 3) := by decide +kernel
theorem dL_law_1597 : decode cL_law 1597 = .ok (.ifCond .ne 15, 3) := by decide +kernel
theorem dL_law_1601 : decode cL_law 1601 = .ok (.getfield 13, 3) := by decide +kernel
theorem dL_law_1607 : decode cL_law 1607 = .ok (.ifCond .eq 5, 3) := by decide +kernel
theorem dL_law_1621 : decode cL_law 1621 = .ok (.iaload, 1) := by decide +kernel
theorem dL_law_1627 : decode cL_law 1627 = .ok (.iaload, 1) := by decide +kernel
theorem dL_law_1629 : decode cL_law 1629 = .ok (.invokestatic 205, 3) := by decide +kernel
theorem dL_law_1640 : decode cL_law 1640 = .ok (.iaload, 1) := by decide +kernel
theorem dL_law_1646 : decode cL_law 1646 = .ok (.iaload, 1) := by decide +kernel
theorem dL_law_1647 : decode cL_law 1647 = .ok (.invokevirtual 207, 3) := by decide +kernel
theorem dL_law_1653 : decode cL_law 1653 = .ok (.invokevirtual 132, 3) := by decide +kernel
theorem dL_law_1658 : decode cL_law 1658 = .ok (.if_icmp .eq 5, 3) := by decide +kernel
theorem dL_law_1665 : decode cL_law 1665 = .ok (.ifCond .ne 16, 3) := by decide +kernel
theorem dL_law_1669 : decode cL_law 1669 = .ok (.getfield 13, 3) := by decide +kernel
theorem dL_law_1676 : decode cL_law 1676 = .ok (.ifCond .eq 5, 3) := by decide +kernel
theorem dL_law_1690 : decode cL_law 1690 = .ok (.iaload, 1) := by decide +kernel
theorem dL_law_1696 : decode cL_law 1696 = .ok (.iaload, 1) := by decide +kernel
theorem dL_law_1698 : decode cL_law 1698 = .ok (.invokestatic 208, 3) := by decide +kernel
theorem dL_law_1709 : decode cL_law 1709 = .ok (.iaload, 1) := by decide +kernel
theorem dL_law_1715 : decode cL_law 1715 = .ok (.iaload, 1) := by decide +kernel
theorem dL_law_1716 : decode cL_law 1716 = .ok (.invokevirtual 210, 3) := by decide +kernel
theorem dL_law_1722 : decode cL_law 1722 = .ok (.invokevirtual 132, 3) := by decide +kernel
theorem dL_law_1727 : decode cL_law 1727 = .ok (.if_icmp .eq 5, 3) := by decide +kernel
theorem dL_law_1734 : decode cL_law 1734 = .ok (.ifCond .ne 16, 3) := by decide +kernel
theorem dL_law_1738 : decode cL_law 1738 = .ok (.getfield 13, 3) := by decide +kernel
theorem dL_law_1745 : decode cL_law 1745 = .ok (.ifCond .eq 5, 3) := by decide +kernel
theorem dL_law_1759 : decode cL_law 1759 = .ok (.iaload, 1) := by decide +kernel
theorem dL_law_1765 : decode cL_law 1765 = .ok (.iaload, 1) := by decide +kernel
theorem dL_law_1767 : decode cL_law 1767 = .ok (.invokestatic 211, 3) := by decide +kernel
theorem dL_law_1778 : decode cL_law 1778 = .ok (.iaload, 1) := by decide +kernel
theorem dL_law_1784 : decode cL_law 1784 = .ok (.iaload, 1) := by decide +kernel
theorem dL_law_1785 : decode cL_law 1785 = .ok (.invokevirtual 213, 3) := by decide +kernel
theorem dL_law_1791 : decode cL_law 1791 = .ok (.invokevirtual 132, 3) := by decide +kernel
theorem dL_law_1796 : decode cL_law 1796 = .ok (.if_icmp .eq 5, 3) := by decide +kernel
theorem dL_law_1803 : decode cL_law 1803 = .ok (.ifCond .ne 16, 3) := by decide +kernel
theorem dL_law_1807 : decode cL_law 1807 = .ok (.getfield 13, 3) := by decide +kernel
theorem dL_law_1814 : decode cL_law 1814 = .ok (.ifCond .eq 5, 3) := by decide +kernel
theorem dL_law_1828 : decode cL_law 1828 = .ok (.iaload, 1) := by decide +kernel
theorem dL_law_1830 : decode cL_law 1830 = .ok (.invokestatic 214, 3) := by decide +kernel
theorem dL_law_1841 : decode cL_law 1841 = .ok (.iaload, 1) := by decide +kernel
theorem dL_law_1842 : decode cL_law 1842 = .ok (.invokevirtual 216, 3) := by decide +kernel
theorem dL_law_1848 : decode cL_law 1848 = .ok (.invokevirtual 132, 3) := by decide +kernel
theorem dL_law_1853 : decode cL_law 1853 = .ok (.if_icmp .eq 5, 3) := by decide +kernel
theorem dL_law_1860 : decode cL_law 1860 = .ok (.ifCond .ne 15, 3) := by decide +kernel
theorem dL_law_1864 : decode cL_law 1864 = .ok (.getfield 13, 3) := by decide +kernel
theorem dL_law_1870 : decode cL_law 1870 = .ok (.ifCond .eq 5, 3) := by decide +kernel
theorem dL_law_1884 : decode cL_law 1884 = .ok (.iaload, 1) := by decide +kernel
theorem dL_law_1886 : decode cL_law 1886 = .ok (.invokestatic 217, 3) := by decide +kernel
theorem dL_law_1897 : decode cL_law 1897 = .ok (.iaload, 1) := by decide +kernel
theorem dL_law_1898 : decode cL_law 1898 = .ok (.invokevirtual 219, 3) := by decide +kernel
theorem dL_law_1904 : decode cL_law 1904 = .ok (.invokevirtual 132, 3) := by decide +kernel
theorem dL_law_1909 : decode cL_law 1909 = .ok (.if_icmp .eq 5, 3) := by decide +kernel
theorem dL_law_1916 : decode cL_law 1916 = .ok (.ifCond .ne 16, 3) := by decide +kernel
theorem dL_law_1920 : decode cL_law 1920 = .ok (.getfield 13, 3) := by decide +kernel
theorem dL_law_1927 : decode cL_law 1927 = .ok (.ifCond .eq 5, 3) := by decide +kernel
theorem dL_law_1941 : decode cL_law 1941 = .ok (.iaload, 1) := by decide +kernel
theorem dL_law_1943 : decode cL_law 1943 = .ok (.invokestatic 220, 3) := by decide +kernel
theorem dL_law_1954 : decode cL_law 1954 = .ok (.iaload, 1) := by decide +kernel
theorem dL_law_1955 : decode cL_law 1955 = .ok (.invokevirtual 222, 3) := by decide +kernel
theorem dL_law_1961 : decode cL_law 1961 = .ok (.invokevirtual 132, 3) := by decide +kernel
theorem dL_law_1966 : decode cL_law 1966 = .ok (.if_icmp .eq 5, 3) := by decide +kernel
theorem dL_law_1973 : decode cL_law 1973 = .ok (.ifCond .ne 17, 3) := by decide +kernel
theorem dL_law_1977 : decode cL_law 1977 = .ok (.getfield 106, 3) := by decide +kernel
theorem dL_law_1982 : decode cL_law 1982 = .ok (.invokevirtual 223, 3) := by decide +kernel
theorem dL_law_1985 : decode cL_law 1985 = .ok (.ifCond .ne 5, 3) := by decide +kernel
theorem dL_law_1999 : decode cL_law 1999 = .ok (.iaload, 1) := by decide +kernel
theorem dL_law_2005 : decode cL_law 2005 = .ok (.iaload, 1) := by decide +kernel
theorem dL_law_2007 : decode cL_law 2007 = .ok (.invokestatic 229, 3) := by decide +kernel
theorem dL_law_2018 : decode cL_law 2018 = .ok (.iaload, 1) := by decide +kernel
theorem dL_law_2024 : decode cL_law 2024 = .ok (.iaload, 1) := by decide +kernel
theorem dL_law_2025 : decode cL_law 2025 = .ok (.invokevirtual 231, 3) := by decide +kernel
theorem dL_law_2031 : decode cL_law 2031 = .ok (.invokevirtual 132, 3) := by decide +kernel
theorem dL_law_2036 : decode cL_law 2036 = .ok (.if_icmp .eq 5, 3) := by decide +kernel
theorem dL_law_2043 : decode cL_law 2043 = .ok (.ifCond .ne 16, 3) := by decide +kernel
theorem dL_law_2047 : decode cL_law 2047 = .ok (.getfield 13, 3) := by decide +kernel
theorem dL_law_2054 : decode cL_law 2054 = .ok (.ifCond .eq 5, 3) := by decide +kernel
theorem dL_law_2068 : decode cL_law 2068 = .ok (.iaload, 1) := by decide +kernel
theorem dL_law_2070 : decode cL_law 2070 = .ok (.invokestatic 232, 3) := by decide +kernel
theorem dL_law_2081 : decode cL_law 2081 = .ok (.iaload, 1) := by decide +kernel
theorem dL_law_2082 : decode cL_law 2082 = .ok (.invokevirtual 234, 3) := by decide +kernel
theorem dL_law_2088 : decode cL_law 2088 = .ok (.invokevirtual 132, 3) := by decide +kernel
theorem dL_law_2093 : decode cL_law 2093 = .ok (.if_icmp .eq 5, 3) := by decide +kernel
theorem dL_law_2100 : decode cL_law 2100 = .ok (.ifCond .ne 16, 3) := by decide +kernel
theorem dL_law_2104 : decode cL_law 2104 = .ok (.getfield 13, 3) := by decide +kernel
theorem dL_law_2111 : decode cL_law 2111 = .ok (.ifCond .eq 5, 3) := by decide +kernel
theorem dL_law_2125 : decode cL_law 2125 = .ok (.iaload, 1) := by decide +kernel
theorem dL_law_2131 : decode cL_law 2131 = .ok (.iaload, 1) := by decide +kernel
theorem dL_law_2133 : decode cL_law 2133 = .ok (.invokestatic 235, 3) := by decide +kernel
theorem dL_law_2144 : decode cL_law 2144 = .ok (.iaload, 1) := by decide +kernel
theorem dL_law_2150 : decode cL_law 2150 = .ok (.iaload, 1) := by decide +kernel
theorem dL_law_2151 : decode cL_law 2151 = .ok (.invokevirtual 237, 3) := by decide +kernel
theorem dL_law_2157 : decode cL_law 2157 = .ok (.invokevirtual 132, 3) := by decide +kernel
theorem dL_law_2162 : decode cL_law 2162 = .ok (.if_icmp .eq 5, 3) := by decide +kernel
theorem dL_law_2169 : decode cL_law 2169 = .ok (.ifCond .ne 16, 3) := by decide +kernel
theorem dL_law_2173 : decode cL_law 2173 = .ok (.getfield 13, 3) := by decide +kernel
theorem dL_law_2180 : decode cL_law 2180 = .ok (.ifCond .eq 5, 3) := by decide +kernel
theorem dL_law_2189 : decode cL_law 2189 = .ok (.invokevirtual 238, 3) := by decide +kernel
theorem dL_law_2195 : decode cL_law 2195 = .ok (.invokevirtual 242, 3) := by decide +kernel
theorem dL_law_2204 : decode cL_law 2204 = .ok (.dcmp .l, 1) := by decide +kernel
theorem dL_law_2205 : decode cL_law 2205 = .ok (.ifCond .eq 21, 3) := by decide +kernel
theorem dL_law_2212 : decode cL_law 2212 = .ok (.dcmp .l, 1) := by decide +kernel
theorem dL_law_2213 : decode cL_law 2213 = .ok (.ifCond .eq 11, 3) := by decide +kernel
theorem dL_law_2220 : decode cL_law 2220 = .ok (.dcmp .l, 1) := by decide +kernel
theorem dL_law_2221 : decode cL_law 2221 = .ok (.ifCond .ne 5, 3) := by decide +kernel
theorem dL_law_2230 : decode cL_law 2230 = .ok (.invokevirtual 243, 3) := by decide +kernel
theorem dL_law_2234 : decode cL_law 2234 = .ok (.invokevirtual 247, 3) := by decide +kernel
theorem dL_law_2237 : decode cL_law 2237 = .ok (.if_icmp .eq 19, 3) := by decide +kernel
theorem dL_law_2243 : decode cL_law 2243 = .ok (.invokevirtual 248, 3) := by decide +kernel
theorem dL_law_2247 : decode cL_law 2247 = .ok (.invokevirtual 252, 3) := by decide +kernel
theorem dL_law_2251 : decode cL_law 2251 = .ok (.ifCond .eq 5, 3) := by decide +kernel
theorem dL_law_2263 : decode cL_law 2263 = .ok (.ireturn, 1) := by decide +kernel
