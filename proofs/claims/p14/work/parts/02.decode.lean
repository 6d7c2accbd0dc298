theorem dX0_init_0 : decode cX0_init 0 = .ok (.aload_n 0, 1) := by decide +kernel
theorem dX0_init_1 : decode cX0_init 1 = .ok (.invokespecial 3, 3) := by decide +kernel
theorem dX0_init_4 : decode cX0_init 4 = .ok (.aload_n 0, 1) := by decide +kernel
theorem dX0_init_5 : decode cX0_init 5 = .ok (.iconst 4, 1) := by decide +kernel
theorem dX0_init_6 : decode cX0_init 6 = .ok (.anewarray 9, 3) := by decide +kernel
theorem dX0_init_9 : decode cX0_init 9 = .ok (.putfield 11, 3) := by decide +kernel
theorem dX0_init_12 : decode cX0_init 12 = .ok (.aload_n 0, 1) := by decide +kernel
theorem dX0_init_13 : decode cX0_init 13 = .ok (.iconst 0, 1) := by decide +kernel
theorem dX0_init_14 : decode cX0_init 14 = .ok (.putfield 17, 3) := by decide +kernel
theorem dX0_init_17 : decode cX0_init 17 = .ok (.aload_n 0, 1) := by decide +kernel
theorem dX0_init_18 : decode cX0_init 18 = .ok (.iconst 0, 1) := by decide +kernel
theorem dX0_init_19 : decode cX0_init 19 = .ok (.putfield 21, 3) := by decide +kernel
theorem dX0_init_22 : decode cX0_init 22 = .ok (.aload_n 0, 1) := by decide +kernel
theorem dX0_init_23 : decode cX0_init 23 = .ok (.iconst 0, 1) := by decide +kernel
theorem dX0_init_24 : decode cX0_init 24 = .ok (.putfield 24, 3) := by decide +kernel
theorem dX0_init_27 : decode cX0_init 27 = .ok (.aload_n 0, 1) := by decide +kernel
theorem dX0_init_28 : decode cX0_init 28 = .ok (.aload_n 1, 1) := by decide +kernel
theorem dX0_init_29 : decode cX0_init 29 = .ok (.putfield 27, 3) := by decide +kernel
theorem dX0_init_32 : decode cX0_init 32 = .ok (.iconst 0, 1) := by decide +kernel
theorem dX0_init_33 : decode cX0_init 33 = .ok (.istore_n 2, 1) := by decide +kernel
theorem dX0_init_34 : decode cX0_init 34 = .ok (.iload_n 2, 1) := by decide +kernel
theorem dX0_init_35 : decode cX0_init 35 = .ok (.iconst 4, 1) := by decide +kernel
theorem dX0_init_36 : decode cX0_init 36 = .ok (.if_icmp .ge 23, 3) := by decide +kernel
theorem dX0_init_39 : decode cX0_init 39 = .ok (.aload_n 0, 1) := by decide +kernel
theorem dX0_init_40 : decode cX0_init 40 = .ok (.getfield 11, 3) := by decide +kernel
theorem dX0_init_43 : decode cX0_init 43 = .ok (.iload_n 2, 1) := by decide +kernel
theorem dX0_init_44 : decode cX0_init 44 = .ok (.new 9, 3) := by decide +kernel
theorem dX0_init_47 : decode cX0_init 47 = .ok (.dup, 1) := by decide +kernel
theorem dX0_init_48 : decode cX0_init 48 = .ok (.iload_n 2, 1) := by decide +kernel
theorem dX0_init_49 : decode cX0_init 49 = .ok (.invokespecial 31, 3) := by decide +kernel
theorem dX0_init_52 : decode cX0_init 52 = .ok (.aastore, 1) := by decide +kernel
theorem dX0_init_53 : decode cX0_init 53 = .ok (.iinc 2 1, 3) := by decide +kernel
theorem dX0_init_56 : decode cX0_init 56 = .ok (.goto (-22), 3) := by decide +kernel
theorem dX0_init_59 : decode cX0_init 59 = .ok (.return_, 1) := by decide +kernel
theorem dX0_wordThrough_0 : decode cX0_wordThrough 0 = .ok (.aload_n 0, 1) := by decide +kernel
theorem dX0_wordThrough_1 : decode cX0_wordThrough 1 = .ok (.iload_n 1, 1) := by decide +kernel
theorem dX0_wordThrough_2 : decode cX0_wordThrough 2 = .ok (.invokevirtual 34, 3) := by decide +kernel
theorem dX0_wordThrough_5 : decode cX0_wordThrough 5 = .ok (.astore_n 2, 1) := by decide +kernel
theorem dX0_wordThrough_6 : decode cX0_wordThrough 6 = .ok (.aload_n 2, 1) := by decide +kernel
theorem dX0_wordThrough_7 : decode cX0_wordThrough 7 = .ok (.ifnull 23, 3) := by decide +kernel
theorem dX0_wordThrough_10 : decode cX0_wordThrough 10 = .ok (.aload_n 0, 1) := by decide +kernel
theorem dX0_wordThrough_11 : decode cX0_wordThrough 11 = .ok (.dup, 1) := by decide +kernel
theorem dX0_wordThrough_12 : decode cX0_wordThrough 12 = .ok (.getfield 17, 3) := by decide +kernel
theorem dX0_wordThrough_15 : decode cX0_wordThrough 15 = .ok (.iconst 1, 1) := by decide +kernel
theorem dX0_wordThrough_16 : decode cX0_wordThrough 16 = .ok (.iadd, 1) := by decide +kernel
theorem dX0_wordThrough_17 : decode cX0_wordThrough 17 = .ok (.putfield 17, 3) := by decide +kernel
theorem dX0_wordThrough_20 : decode cX0_wordThrough 20 = .ok (.aload_n 0, 1) := by decide +kernel
theorem dX0_wordThrough_21 : decode cX0_wordThrough 21 = .ok (.aload_n 2, 1) := by decide +kernel
theorem dX0_wordThrough_22 : decode cX0_wordThrough 22 = .ok (.invokevirtual 38, 3) := by decide +kernel
theorem dX0_wordThrough_25 : decode cX0_wordThrough 25 = .ok (.aload_n 2, 1) := by decide +kernel
theorem dX0_wordThrough_26 : decode cX0_wordThrough 26 = .ok (.getfield 42, 3) := by decide +kernel
theorem dX0_wordThrough_29 : decode cX0_wordThrough 29 = .ok (.lreturn, 1) := by decide +kernel
theorem dX0_wordThrough_30 : decode cX0_wordThrough 30 = .ok (.aload_n 0, 1) := by decide +kernel
theorem dX0_wordThrough_31 : decode cX0_wordThrough 31 = .ok (.dup, 1) := by decide +kernel
theorem dX0_wordThrough_32 : decode cX0_wordThrough 32 = .ok (.getfield 21, 3) := by decide +kernel
theorem dX0_wordThrough_35 : decode cX0_wordThrough 35 = .ok (.iconst 1, 1) := by decide +kernel
theorem dX0_wordThrough_36 : decode cX0_wordThrough 36 = .ok (.iadd, 1) := by decide +kernel
theorem dX0_wordThrough_37 : decode cX0_wordThrough 37 = .ok (.putfield 21, 3) := by decide +kernel
theorem dX0_wordThrough_40 : decode cX0_wordThrough 40 = .ok (.aload_n 0, 1) := by decide +kernel
theorem dX0_wordThrough_41 : decode cX0_wordThrough 41 = .ok (.getfield 27, 3) := by decide +kernel
theorem dX0_wordThrough_44 : decode cX0_wordThrough 44 = .ok (.iload_n 1, 1) := by decide +kernel
theorem dX0_wordThrough_45 : decode cX0_wordThrough 45 = .ok (.invokevirtual 46, 3) := by decide +kernel
theorem dX0_wordThrough_48 : decode cX0_wordThrough 48 = .ok (.lstore_n 3, 1) := by decide +kernel
theorem dX0_wordThrough_49 : decode cX0_wordThrough 49 = .ok (.lload_n 3, 1) := by decide +kernel
theorem dX0_wordThrough_50 : decode cX0_wordThrough 50 = .ok (.ldc2_w 52, 3) := by decide +kernel
theorem dX0_wordThrough_53 : decode cX0_wordThrough 53 = .ok (.lcmp, 1) := by decide +kernel
theorem dX0_wordThrough_54 : decode cX0_wordThrough 54 = .ok (.ifCond .eq 13, 3) := by decide +kernel
theorem dX0_wordThrough_57 : decode cX0_wordThrough 57 = .ok (.aload_n 0, 1) := by decide +kernel
theorem dX0_wordThrough_58 : decode cX0_wordThrough 58 = .ok (.aload_n 0, 1) := by decide +kernel
theorem dX0_wordThrough_59 : decode cX0_wordThrough 59 = .ok (.invokevirtual 54, 3) := by decide +kernel
theorem dX0_wordThrough_62 : decode cX0_wordThrough 62 = .ok (.iload_n 1, 1) := by decide +kernel
theorem dX0_wordThrough_63 : decode cX0_wordThrough 63 = .ok (.lload_n 3, 1) := by decide +kernel
theorem dX0_wordThrough_64 : decode cX0_wordThrough 64 = .ok (.invokevirtual 58, 3) := by decide +kernel
theorem dX0_wordThrough_67 : decode cX0_wordThrough 67 = .ok (.lload_n 3, 1) := by decide +kernel
theorem dX0_wordThrough_68 : decode cX0_wordThrough 68 = .ok (.lreturn, 1) := by decide +kernel
theorem dX0_keepDirty_0 : decode cX0_keepDirty 0 = .ok (.aload_n 0, 1) := by decide +kernel
theorem dX0_keepDirty_1 : decode cX0_keepDirty 1 = .ok (.iload_n 1, 1) := by decide +kernel
theorem dX0_keepDirty_2 : decode cX0_keepDirty 2 = .ok (.invokevirtual 34, 3) := by decide +kernel
theorem dX0_keepDirty_5 : decode cX0_keepDirty 5 = .ok (.astore 4, 2) := by decide +kernel
theorem dX0_keepDirty_7 : decode cX0_keepDirty 7 = .ok (.aload 4, 2) := by decide +kernel
theorem dX0_keepDirty_9 : decode cX0_keepDirty 9 = .ok (.ifnull 16, 3) := by decide +kernel
theorem dX0_keepDirty_12 : decode cX0_keepDirty 12 = .ok (.aload_n 0, 1) := by decide +kernel
theorem dX0_keepDirty_13 : decode cX0_keepDirty 13 = .ok (.dup, 1) := by decide +kernel
theorem dX0_keepDirty_14 : decode cX0_keepDirty 14 = .ok (.getfield 17, 3) := by decide +kernel
theorem dX0_keepDirty_17 : decode cX0_keepDirty 17 = .ok (.iconst 1, 1) := by decide +kernel
theorem dX0_keepDirty_18 : decode cX0_keepDirty 18 = .ok (.iadd, 1) := by decide +kernel
theorem dX0_keepDirty_19 : decode cX0_keepDirty 19 = .ok (.putfield 17, 3) := by decide +kernel
theorem dX0_keepDirty_22 : decode cX0_keepDirty 22 = .ok (.goto 19, 3) := by decide +kernel
theorem dX0_keepDirty_25 : decode cX0_keepDirty 25 = .ok (.aload_n 0, 1) := by decide +kernel
theorem dX0_keepDirty_26 : decode cX0_keepDirty 26 = .ok (.dup, 1) := by decide +kernel
theorem dX0_keepDirty_27 : decode cX0_keepDirty 27 = .ok (.getfield 21, 3) := by decide +kernel
theorem dX0_keepDirty_30 : decode cX0_keepDirty 30 = .ok (.iconst 1, 1) := by decide +kernel
theorem dX0_keepDirty_31 : decode cX0_keepDirty 31 = .ok (.iadd, 1) := by decide +kernel
theorem dX0_keepDirty_32 : decode cX0_keepDirty 32 = .ok (.putfield 21, 3) := by decide +kernel
theorem dX0_keepDirty_35 : decode cX0_keepDirty 35 = .ok (.aload_n 0, 1) := by decide +kernel
theorem dX0_keepDirty_36 : decode cX0_keepDirty 36 = .ok (.invokevirtual 54, 3) := by decide +kernel
theorem dX0_keepDirty_39 : decode cX0_keepDirty 39 = .ok (.astore 4, 2) := by decide +kernel
theorem dX0_keepDirty_41 : decode cX0_keepDirty 41 = .ok (.aload_n 0, 1) := by decide +kernel
theorem dX0_keepDirty_42 : decode cX0_keepDirty 42 = .ok (.aload 4, 2) := by decide +kernel
theorem dX0_keepDirty_44 : decode cX0_keepDirty 44 = .ok (.iload_n 1, 1) := by decide +kernel
theorem dX0_keepDirty_45 : decode cX0_keepDirty 45 = .ok (.lload_n 2, 1) := by decide +kernel
theorem dX0_keepDirty_46 : decode cX0_keepDirty 46 = .ok (.invokevirtual 58, 3) := by decide +kernel
theorem dX0_keepDirty_49 : decode cX0_keepDirty 49 = .ok (.aload 4, 2) := by decide +kernel
theorem dX0_keepDirty_51 : decode cX0_keepDirty 51 = .ok (.iconst 1, 1) := by decide +kernel
theorem dX0_keepDirty_52 : decode cX0_keepDirty 52 = .ok (.putfield 62, 3) := by decide +kernel
theorem dX0_keepDirty_55 : decode cX0_keepDirty 55 = .ok (.aload 4, 2) := by decide +kernel
theorem dX0_keepDirty_57 : decode cX0_keepDirty 57 = .ok (.getfield 66, 3) := by decide +kernel
theorem dX0_keepDirty_60 : decode cX0_keepDirty 60 = .ok (.ireturn, 1) := by decide +kernel
theorem dX0_writeBackAll_0 : decode cX0_writeBackAll 0 = .ok (.aload_n 0, 1) := by decide +kernel
theorem dX0_writeBackAll_1 : decode cX0_writeBackAll 1 = .ok (.invokevirtual 69, 3) := by decide +kernel
theorem dX0_writeBackAll_4 : decode cX0_writeBackAll 4 = .ok (.istore_n 1, 1) := by decide +kernel
theorem dX0_writeBackAll_5 : decode cX0_writeBackAll 5 = .ok (.iconst 0, 1) := by decide +kernel
theorem dX0_writeBackAll_6 : decode cX0_writeBackAll 6 = .ok (.istore_n 2, 1) := by decide +kernel
theorem dX0_writeBackAll_7 : decode cX0_writeBackAll 7 = .ok (.iload_n 2, 1) := by decide +kernel
theorem dX0_writeBackAll_8 : decode cX0_writeBackAll 8 = .ok (.iconst 4, 1) := by decide +kernel
theorem dX0_writeBackAll_9 : decode cX0_writeBackAll 9 = .ok (.if_icmp .ge 19, 3) := by decide +kernel
theorem dX0_writeBackAll_12 : decode cX0_writeBackAll 12 = .ok (.aload_n 0, 1) := by decide +kernel
theorem dX0_writeBackAll_13 : decode cX0_writeBackAll 13 = .ok (.aload_n 0, 1) := by decide +kernel
theorem dX0_writeBackAll_14 : decode cX0_writeBackAll 14 = .ok (.getfield 11, 3) := by decide +kernel
theorem dX0_writeBackAll_17 : decode cX0_writeBackAll 17 = .ok (.iload_n 2, 1) := by decide +kernel
theorem dX0_writeBackAll_18 : decode cX0_writeBackAll 18 = .ok (.aaload, 1) := by decide +kernel
theorem dX0_writeBackAll_19 : decode cX0_writeBackAll 19 = .ok (.invokevirtual 73, 3) := by decide +kernel
theorem dX0_writeBackAll_22 : decode cX0_writeBackAll 22 = .ok (.iinc 2 1, 3) := by decide +kernel
theorem dX0_writeBackAll_25 : decode cX0_writeBackAll 25 = .ok (.goto (-18), 3) := by decide +kernel
theorem dX0_writeBackAll_28 : decode cX0_writeBackAll 28 = .ok (.iload_n 1, 1) := by decide +kernel
theorem dX0_writeBackAll_29 : decode cX0_writeBackAll 29 = .ok (.ireturn, 1) := by decide +kernel
theorem dX0_dirtyFrames_0 : decode cX0_dirtyFrames 0 = .ok (.iconst 0, 1) := by decide +kernel
theorem dX0_dirtyFrames_1 : decode cX0_dirtyFrames 1 = .ok (.istore_n 1, 1) := by decide +kernel
theorem dX0_dirtyFrames_2 : decode cX0_dirtyFrames 2 = .ok (.iconst 0, 1) := by decide +kernel
theorem dX0_dirtyFrames_3 : decode cX0_dirtyFrames 3 = .ok (.istore_n 2, 1) := by decide +kernel
theorem dX0_dirtyFrames_4 : decode cX0_dirtyFrames 4 = .ok (.iload_n 2, 1) := by decide +kernel
theorem dX0_dirtyFrames_5 : decode cX0_dirtyFrames 5 = .ok (.iconst 4, 1) := by decide +kernel
theorem dX0_dirtyFrames_6 : decode cX0_dirtyFrames 6 = .ok (.if_icmp .ge 24, 3) := by decide +kernel
theorem dX0_dirtyFrames_9 : decode cX0_dirtyFrames 9 = .ok (.aload_n 0, 1) := by decide +kernel
theorem dX0_dirtyFrames_10 : decode cX0_dirtyFrames 10 = .ok (.getfield 11, 3) := by decide +kernel
theorem dX0_dirtyFrames_13 : decode cX0_dirtyFrames 13 = .ok (.iload_n 2, 1) := by decide +kernel
theorem dX0_dirtyFrames_14 : decode cX0_dirtyFrames 14 = .ok (.aaload, 1) := by decide +kernel
theorem dX0_dirtyFrames_15 : decode cX0_dirtyFrames 15 = .ok (.getfield 62, 3) := by decide +kernel
theorem dX0_dirtyFrames_18 : decode cX0_dirtyFrames 18 = .ok (.ifCond .eq 6, 3) := by decide +kernel
theorem dX0_dirtyFrames_21 : decode cX0_dirtyFrames 21 = .ok (.iinc 1 1, 3) := by decide +kernel
theorem dX0_dirtyFrames_24 : decode cX0_dirtyFrames 24 = .ok (.iinc 2 1, 3) := by decide +kernel
theorem dX0_dirtyFrames_27 : decode cX0_dirtyFrames 27 = .ok (.goto (-23), 3) := by decide +kernel
theorem dX0_dirtyFrames_30 : decode cX0_dirtyFrames 30 = .ok (.iload_n 1, 1) := by decide +kernel
theorem dX0_dirtyFrames_31 : decode cX0_dirtyFrames 31 = .ok (.ireturn, 1) := by decide +kernel
theorem dX0_areFramesSound_0 : decode cX0_areFramesSound 0 = .ok (.iconst 0, 1) := by decide +kernel
theorem dX0_areFramesSound_1 : decode cX0_areFramesSound 1 = .ok (.istore_n 1, 1) := by decide +kernel
theorem dX0_areFramesSound_2 : decode cX0_areFramesSound 2 = .ok (.iload_n 1, 1) := by decide +kernel
theorem dX0_areFramesSound_3 : decode cX0_areFramesSound 3 = .ok (.iconst 4, 1) := by decide +kernel
theorem dX0_areFramesSound_4 : decode cX0_areFramesSound 4 = .ok (.if_icmp .ge 94, 3) := by decide +kernel
theorem dX0_areFramesSound_7 : decode cX0_areFramesSound 7 = .ok (.iload_n 1, 1) := by decide +kernel
theorem dX0_areFramesSound_8 : decode cX0_areFramesSound 8 = .ok (.iconst 1, 1) := by decide +kernel
theorem dX0_areFramesSound_9 : decode cX0_areFramesSound 9 = .ok (.iadd, 1) := by decide +kernel
theorem dX0_areFramesSound_10 : decode cX0_areFramesSound 10 = .ok (.istore_n 2, 1) := by decide +kernel
theorem dX0_areFramesSound_11 : decode cX0_areFramesSound 11 = .ok (.iload_n 2, 1) := by decide +kernel
theorem dX0_areFramesSound_12 : decode cX0_areFramesSound 12 = .ok (.iconst 4, 1) := by decide +kernel
theorem dX0_areFramesSound_13 : decode cX0_areFramesSound 13 = .ok (.if_icmp .ge 79, 3) := by decide +kernel
theorem dX0_areFramesSound_16 : decode cX0_areFramesSound 16 = .ok (.aload_n 0, 1) := by decide +kernel
theorem dX0_areFramesSound_17 : decode cX0_areFramesSound 17 = .ok (.getfield 11, 3) := by decide +kernel
theorem dX0_areFramesSound_20 : decode cX0_areFramesSound 20 = .ok (.iload_n 1, 1) := by decide +kernel
theorem dX0_areFramesSound_21 : decode cX0_areFramesSound 21 = .ok (.aaload, 1) := by decide +kernel
theorem dX0_areFramesSound_22 : decode cX0_areFramesSound 22 = .ok (.astore_n 3, 1) := by decide +kernel
theorem dX0_areFramesSound_23 : decode cX0_areFramesSound 23 = .ok (.aload_n 0, 1) := by decide +kernel
theorem dX0_areFramesSound_24 : decode cX0_areFramesSound 24 = .ok (.getfield 11, 3) := by decide +kernel
theorem dX0_areFramesSound_27 : decode cX0_areFramesSound 27 = .ok (.iload_n 2, 1) := by decide +kernel
theorem dX0_areFramesSound_28 : decode cX0_areFramesSound 28 = .ok (.aaload, 1) := by decide +kernel
theorem dX0_areFramesSound_29 : decode cX0_areFramesSound 29 = .ok (.astore 4, 2) := by decide +kernel
theorem dX0_areFramesSound_31 : decode cX0_areFramesSound 31 = .ok (.aload_n 3, 1) := by decide +kernel
theorem dX0_areFramesSound_32 : decode cX0_areFramesSound 32 = .ok (.getfield 76, 3) := by decide +kernel
theorem dX0_areFramesSound_35 : decode cX0_areFramesSound 35 = .ok (.aload 4, 2) := by decide +kernel
theorem dX0_areFramesSound_37 : decode cX0_areFramesSound 37 = .ok (.getfield 76, 3) := by decide +kernel
theorem dX0_areFramesSound_40 : decode cX0_areFramesSound 40 = .ok (.if_icmp .eq 15, 3) := by decide +kernel
theorem dX0_areFramesSound_43 : decode cX0_areFramesSound 43 = .ok (.aload_n 3, 1) := by decide +kernel
theorem dX0_areFramesSound_44 : decode cX0_areFramesSound 44 = .ok (.getfield 79, 3) := by decide +kernel
theorem dX0_areFramesSound_47 : decode cX0_areFramesSound 47 = .ok (.aload 4, 2) := by decide +kernel
theorem dX0_areFramesSound_49 : decode cX0_areFramesSound 49 = .ok (.getfield 79, 3) := by decide +kernel
theorem dX0_areFramesSound_52 : decode cX0_areFramesSound 52 = .ok (.if_icmp .ne 7, 3) := by decide +kernel
theorem dX0_areFramesSound_55 : decode cX0_areFramesSound 55 = .ok (.iconst 1, 1) := by decide +kernel
theorem dX0_areFramesSound_56 : decode cX0_areFramesSound 56 = .ok (.goto 4, 3) := by decide +kernel
theorem dX0_areFramesSound_59 : decode cX0_areFramesSound 59 = .ok (.iconst 0, 1) := by decide +kernel
theorem dX0_areFramesSound_60 : decode cX0_areFramesSound 60 = .ok (.istore 5, 2) := by decide +kernel
theorem dX0_areFramesSound_62 : decode cX0_areFramesSound 62 = .ok (.aload_n 3, 1) := by decide +kernel
theorem dX0_areFramesSound_63 : decode cX0_areFramesSound 63 = .ok (.getfield 76, 3) := by decide +kernel
theorem dX0_areFramesSound_66 : decode cX0_areFramesSound 66 = .ok (.iconst (-1), 1) := by decide +kernel
theorem dX0_areFramesSound_67 : decode cX0_areFramesSound 67 = .ok (.if_icmp .eq 19, 3) := by decide +kernel
theorem dX0_areFramesSound_70 : decode cX0_areFramesSound 70 = .ok (.aload 4, 2) := by decide +kernel
theorem dX0_areFramesSound_72 : decode cX0_areFramesSound 72 = .ok (.getfield 76, 3) := by decide +kernel
theorem dX0_areFramesSound_75 : decode cX0_areFramesSound 75 = .ok (.iconst (-1), 1) := by decide +kernel
theorem dX0_areFramesSound_76 : decode cX0_areFramesSound 76 = .ok (.if_icmp .eq 10, 3) := by decide +kernel
theorem dX0_areFramesSound_79 : decode cX0_areFramesSound 79 = .ok (.iload 5, 2) := by decide +kernel
theorem dX0_areFramesSound_81 : decode cX0_areFramesSound 81 = .ok (.ifCond .eq 5, 3) := by decide +kernel
theorem dX0_areFramesSound_84 : decode cX0_areFramesSound 84 = .ok (.iconst 0, 1) := by decide +kernel
theorem dX0_areFramesSound_85 : decode cX0_areFramesSound 85 = .ok (.ireturn, 1) := by decide +kernel
theorem dX0_areFramesSound_86 : decode cX0_areFramesSound 86 = .ok (.iinc 2 1, 3) := by decide +kernel
theorem dX0_areFramesSound_89 : decode cX0_areFramesSound 89 = .ok (.goto (-78), 3) := by decide +kernel
theorem dX0_areFramesSound_92 : decode cX0_areFramesSound 92 = .ok (.iinc 1 1, 3) := by decide +kernel
theorem dX0_areFramesSound_95 : decode cX0_areFramesSound 95 = .ok (.goto (-93), 3) := by decide +kernel
theorem dX0_areFramesSound_98 : decode cX0_areFramesSound 98 = .ok (.iconst 1, 1) := by decide +kernel
theorem dX0_areFramesSound_99 : decode cX0_areFramesSound 99 = .ok (.ireturn, 1) := by decide +kernel
theorem dX0_frameOf_0 : decode cX0_frameOf 0 = .ok (.iconst 0, 1) := by decide +kernel
theorem dX0_frameOf_1 : decode cX0_frameOf 1 = .ok (.istore_n 2, 1) := by decide +kernel
theorem dX0_frameOf_2 : decode cX0_frameOf 2 = .ok (.iload_n 2, 1) := by decide +kernel
theorem dX0_frameOf_3 : decode cX0_frameOf 3 = .ok (.iconst 4, 1) := by decide +kernel
theorem dX0_frameOf_4 : decode cX0_frameOf 4 = .ok (.if_icmp .ge 29, 3) := by decide +kernel
theorem dX0_frameOf_7 : decode cX0_frameOf 7 = .ok (.aload_n 0, 1) := by decide +kernel
theorem dX0_frameOf_8 : decode cX0_frameOf 8 = .ok (.getfield 11, 3) := by decide +kernel
theorem dX0_frameOf_11 : decode cX0_frameOf 11 = .ok (.iload_n 2, 1) := by decide +kernel
theorem dX0_frameOf_12 : decode cX0_frameOf 12 = .ok (.aaload, 1) := by decide +kernel
theorem dX0_frameOf_13 : decode cX0_frameOf 13 = .ok (.getfield 76, 3) := by decide +kernel
theorem dX0_frameOf_16 : decode cX0_frameOf 16 = .ok (.iload_n 1, 1) := by decide +kernel
theorem dX0_frameOf_17 : decode cX0_frameOf 17 = .ok (.if_icmp .ne 10, 3) := by decide +kernel
theorem dX0_frameOf_20 : decode cX0_frameOf 20 = .ok (.aload_n 0, 1) := by decide +kernel
theorem dX0_frameOf_21 : decode cX0_frameOf 21 = .ok (.getfield 11, 3) := by decide +kernel
theorem dX0_frameOf_24 : decode cX0_frameOf 24 = .ok (.iload_n 2, 1) := by decide +kernel
theorem dX0_frameOf_25 : decode cX0_frameOf 25 = .ok (.aaload, 1) := by decide +kernel
theorem dX0_frameOf_26 : decode cX0_frameOf 26 = .ok (.areturn, 1) := by decide +kernel
theorem dX0_frameOf_27 : decode cX0_frameOf 27 = .ok (.iinc 2 1, 3) := by decide +kernel
theorem dX0_frameOf_30 : decode cX0_frameOf 30 = .ok (.goto (-28), 3) := by decide +kernel
theorem dX0_frameOf_33 : decode cX0_frameOf 33 = .ok (.aconst_null, 1) := by decide +kernel
theorem dX0_frameOf_34 : decode cX0_frameOf 34 = .ok (.areturn, 1) := by decide +kernel
theorem dX0_frameToFill_0 : decode cX0_frameToFill 0 = .ok (.aload_n 0, 1) := by decide +kernel
theorem dX0_frameToFill_1 : decode cX0_frameToFill 1 = .ok (.getfield 11, 3) := by decide +kernel
theorem dX0_frameToFill_4 : decode cX0_frameToFill 4 = .ok (.iconst 0, 1) := by decide +kernel
theorem dX0_frameToFill_5 : decode cX0_frameToFill 5 = .ok (.aaload, 1) := by decide +kernel
theorem dX0_frameToFill_6 : decode cX0_frameToFill 6 = .ok (.astore_n 1, 1) := by decide +kernel
theorem dX0_frameToFill_7 : decode cX0_frameToFill 7 = .ok (.iconst 1, 1) := by decide +kernel
theorem dX0_frameToFill_8 : decode cX0_frameToFill 8 = .ok (.istore_n 2, 1) := by decide +kernel
theorem dX0_frameToFill_9 : decode cX0_frameToFill 9 = .ok (.iload_n 2, 1) := by decide +kernel
theorem dX0_frameToFill_10 : decode cX0_frameToFill 10 = .ok (.iconst 4, 1) := by decide +kernel
theorem dX0_frameToFill_11 : decode cX0_frameToFill 11 = .ok (.if_icmp .ge 32, 3) := by decide +kernel
theorem dX0_frameToFill_14 : decode cX0_frameToFill 14 = .ok (.aload_n 0, 1) := by decide +kernel
theorem dX0_frameToFill_15 : decode cX0_frameToFill 15 = .ok (.getfield 11, 3) := by decide +kernel
theorem dX0_frameToFill_18 : decode cX0_frameToFill 18 = .ok (.iload_n 2, 1) := by decide +kernel
theorem dX0_frameToFill_19 : decode cX0_frameToFill 19 = .ok (.aaload, 1) := by decide +kernel
theorem dX0_frameToFill_20 : decode cX0_frameToFill 20 = .ok (.getfield 79, 3) := by decide +kernel
theorem dX0_frameToFill_23 : decode cX0_frameToFill 23 = .ok (.aload_n 1, 1) := by decide +kernel
theorem dX0_frameToFill_24 : decode cX0_frameToFill 24 = .ok (.getfield 79, 3) := by decide +kernel
theorem dX0_frameToFill_27 : decode cX0_frameToFill 27 = .ok (.if_icmp .ge 10, 3) := by decide +kernel
theorem dX0_frameToFill_30 : decode cX0_frameToFill 30 = .ok (.aload_n 0, 1) := by decide +kernel
theorem dX0_frameToFill_31 : decode cX0_frameToFill 31 = .ok (.getfield 11, 3) := by decide +kernel
theorem dX0_frameToFill_34 : decode cX0_frameToFill 34 = .ok (.iload_n 2, 1) := by decide +kernel
theorem dX0_frameToFill_35 : decode cX0_frameToFill 35 = .ok (.aaload, 1) := by decide +kernel
theorem dX0_frameToFill_36 : decode cX0_frameToFill 36 = .ok (.astore_n 1, 1) := by decide +kernel
theorem dX0_frameToFill_37 : decode cX0_frameToFill 37 = .ok (.iinc 2 1, 3) := by decide +kernel
theorem dX0_frameToFill_40 : decode cX0_frameToFill 40 = .ok (.goto (-31), 3) := by decide +kernel
theorem dX0_frameToFill_43 : decode cX0_frameToFill 43 = .ok (.aload_n 0, 1) := by decide +kernel
theorem dX0_frameToFill_44 : decode cX0_frameToFill 44 = .ok (.aload_n 1, 1) := by decide +kernel
theorem dX0_frameToFill_45 : decode cX0_frameToFill 45 = .ok (.invokevirtual 73, 3) := by decide +kernel
theorem dX0_frameToFill_48 : decode cX0_frameToFill 48 = .ok (.aload_n 1, 1) := by decide +kernel
theorem dX0_frameToFill_49 : decode cX0_frameToFill 49 = .ok (.areturn, 1) := by decide +kernel
theorem dX0_writeBack_0 : decode cX0_writeBack 0 = .ok (.aload_n 1, 1) := by decide +kernel
theorem dX0_writeBack_1 : decode cX0_writeBack 1 = .ok (.getfield 62, 3) := by decide +kernel
theorem dX0_writeBack_4 : decode cX0_writeBack 4 = .ok (.ifCond .eq 23, 3) := by decide +kernel
theorem dX0_writeBack_7 : decode cX0_writeBack 7 = .ok (.aload_n 0, 1) := by decide +kernel
theorem dX0_writeBack_8 : decode cX0_writeBack 8 = .ok (.getfield 27, 3) := by decide +kernel
theorem dX0_writeBack_11 : decode cX0_writeBack 11 = .ok (.aload_n 1, 1) := by decide +kernel
theorem dX0_writeBack_12 : decode cX0_writeBack 12 = .ok (.getfield 76, 3) := by decide +kernel
theorem dX0_writeBack_15 : decode cX0_writeBack 15 = .ok (.aload_n 1, 1) := by decide +kernel
theorem dX0_writeBack_16 : decode cX0_writeBack 16 = .ok (.getfield 42, 3) := by decide +kernel
theorem dX0_writeBack_19 : decode cX0_writeBack 19 = .ok (.invokevirtual 82, 3) := by decide +kernel
theorem dX0_writeBack_22 : decode cX0_writeBack 22 = .ok (.aload_n 1, 1) := by decide +kernel
theorem dX0_writeBack_23 : decode cX0_writeBack 23 = .ok (.iconst 0, 1) := by decide +kernel
theorem dX0_writeBack_24 : decode cX0_writeBack 24 = .ok (.putfield 62, 3) := by decide +kernel
theorem dX0_writeBack_27 : decode cX0_writeBack 27 = .ok (.return_, 1) := by decide +kernel
theorem dX0_fill_0 : decode cX0_fill 0 = .ok (.aload_n 1, 1) := by decide +kernel
theorem dX0_fill_1 : decode cX0_fill 1 = .ok (.iload_n 2, 1) := by decide +kernel
theorem dX0_fill_2 : decode cX0_fill 2 = .ok (.putfield 76, 3) := by decide +kernel
theorem dX0_fill_5 : decode cX0_fill 5 = .ok (.aload_n 1, 1) := by decide +kernel
theorem dX0_fill_6 : decode cX0_fill 6 = .ok (.lload_n 3, 1) := by decide +kernel
theorem dX0_fill_7 : decode cX0_fill 7 = .ok (.putfield 42, 3) := by decide +kernel
theorem dX0_fill_10 : decode cX0_fill 10 = .ok (.aload_n 0, 1) := by decide +kernel
theorem dX0_fill_11 : decode cX0_fill 11 = .ok (.aload_n 1, 1) := by decide +kernel
theorem dX0_fill_12 : decode cX0_fill 12 = .ok (.invokevirtual 38, 3) := by decide +kernel
theorem dX0_fill_15 : decode cX0_fill 15 = .ok (.return_, 1) := by decide +kernel
theorem dX0_use_0 : decode cX0_use 0 = .ok (.aload_n 0, 1) := by decide +kernel
theorem dX0_use_1 : decode cX0_use 1 = .ok (.dup, 1) := by decide +kernel
theorem dX0_use_2 : decode cX0_use 2 = .ok (.getfield 24, 3) := by decide +kernel
theorem dX0_use_5 : decode cX0_use 5 = .ok (.iconst 1, 1) := by decide +kernel
theorem dX0_use_6 : decode cX0_use 6 = .ok (.iadd, 1) := by decide +kernel
theorem dX0_use_7 : decode cX0_use 7 = .ok (.putfield 24, 3) := by decide +kernel
theorem dX0_use_10 : decode cX0_use 10 = .ok (.aload_n 1, 1) := by decide +kernel
theorem dX0_use_11 : decode cX0_use 11 = .ok (.aload_n 0, 1) := by decide +kernel
theorem dX0_use_12 : decode cX0_use 12 = .ok (.getfield 24, 3) := by decide +kernel
theorem dX0_use_15 : decode cX0_use 15 = .ok (.putfield 79, 3) := by decide +kernel
theorem dX0_use_18 : decode cX0_use 18 = .ok (.return_, 1) := by decide +kernel
theorem dX1_init_0 : decode cX1_init 0 = .ok (.aload_n 0, 1) := by decide +kernel
theorem dX1_init_1 : decode cX1_init 1 = .ok (.invokespecial 3, 3) := by decide +kernel
theorem dX1_init_4 : decode cX1_init 4 = .ok (.aload_n 0, 1) := by decide +kernel
theorem dX1_init_5 : decode cX1_init 5 = .ok (.iconst (-1), 1) := by decide +kernel
theorem dX1_init_6 : decode cX1_init 6 = .ok (.putfield 9, 3) := by decide +kernel
theorem dX1_init_9 : decode cX1_init 9 = .ok (.aload_n 0, 1) := by decide +kernel
theorem dX1_init_10 : decode cX1_init 10 = .ok (.iconst 0, 1) := by decide +kernel
theorem dX1_init_11 : decode cX1_init 11 = .ok (.putfield 15, 3) := by decide +kernel
theorem dX1_init_14 : decode cX1_init 14 = .ok (.aload_n 0, 1) := by decide +kernel
theorem dX1_init_15 : decode cX1_init 15 = .ok (.iconst 0, 1) := by decide +kernel
theorem dX1_init_16 : decode cX1_init 16 = .ok (.putfield 18, 3) := by decide +kernel
theorem dX1_init_19 : decode cX1_init 19 = .ok (.aload_n 0, 1) := by decide +kernel
theorem dX1_init_20 : decode cX1_init 20 = .ok (.iconst 0, 1) := by decide +kernel
theorem dX1_init_21 : decode cX1_init 21 = .ok (.putfield 22, 3) := by decide +kernel
theorem dX1_init_24 : decode cX1_init 24 = .ok (.aload_n 0, 1) := by decide +kernel
theorem dX1_init_25 : decode cX1_init 25 = .ok (.lconst 0, 1) := by decide +kernel
theorem dX1_init_26 : decode cX1_init 26 = .ok (.putfield 25, 3) := by decide +kernel
theorem dX1_init_29 : decode cX1_init 29 = .ok (.aload_n 0, 1) := by decide +kernel
theorem dX1_init_30 : decode cX1_init 30 = .ok (.lconst 0, 1) := by decide +kernel
theorem dX1_init_31 : decode cX1_init 31 = .ok (.putfield 29, 3) := by decide +kernel
theorem dX1_init_34 : decode cX1_init 34 = .ok (.aload_n 0, 1) := by decide +kernel
theorem dX1_init_35 : decode cX1_init 35 = .ok (.lconst 0, 1) := by decide +kernel
theorem dX1_init_36 : decode cX1_init 36 = .ok (.putfield 32, 3) := by decide +kernel
theorem dX1_init_39 : decode cX1_init 39 = .ok (.aload_n 0, 1) := by decide +kernel
theorem dX1_init_40 : decode cX1_init 40 = .ok (.iload_n 1, 1) := by decide +kernel
theorem dX1_init_41 : decode cX1_init 41 = .ok (.putfield 35, 3) := by decide +kernel
theorem dX1_init_44 : decode cX1_init 44 = .ok (.aload_n 0, 1) := by decide +kernel
theorem dX1_init_45 : decode cX1_init 45 = .ok (.iload_n 2, 1) := by decide +kernel
theorem dX1_init_46 : decode cX1_init 46 = .ok (.putfield 38, 3) := by decide +kernel
theorem dX1_init_49 : decode cX1_init 49 = .ok (.return_, 1) := by decide +kernel
theorem dX1_madSymbol_0 : decode cX1_madSymbol 0 = .ok (.iload_n 0, 1) := by decide +kernel
theorem dX1_madSymbol_1 : decode cX1_madSymbol 1 = .ok (.iload_n 1, 1) := by decide +kernel
theorem dX1_madSymbol_2 : decode cX1_madSymbol 2 = .ok (.iadd, 1) := by decide +kernel
theorem dX1_madSymbol_3 : decode cX1_madSymbol 3 = .ok (.bipush 15, 2) := by decide +kernel
theorem dX1_madSymbol_5 : decode cX1_madSymbol 5 = .ok (.iand, 1) := by decide +kernel
theorem dX1_madSymbol_6 : decode cX1_madSymbol 6 = .ok (.ireturn, 1) := by decide +kernel
theorem dX1_storedAt_0 : decode cX1_storedAt 0 = .ok (.aload_n 0, 1) := by decide +kernel
theorem dX1_storedAt_1 : decode cX1_storedAt 1 = .ok (.getfield 25, 3) := by decide +kernel
theorem dX1_storedAt_4 : decode cX1_storedAt 4 = .ok (.iload_n 1, 1) := by decide +kernel
theorem dX1_storedAt_5 : decode cX1_storedAt 5 = .ok (.invokestatic 41, 3) := by decide +kernel
theorem dX1_storedAt_8 : decode cX1_storedAt 8 = .ok (.ireturn, 1) := by decide +kernel
theorem dX1_putAt_0 : decode cX1_putAt 0 = .ok (.aload_n 0, 1) := by decide +kernel
theorem dX1_putAt_1 : decode cX1_putAt 1 = .ok (.aload_n 0, 1) := by decide +kernel
theorem dX1_putAt_2 : decode cX1_putAt 2 = .ok (.getfield 25, 3) := by decide +kernel
theorem dX1_putAt_5 : decode cX1_putAt 5 = .ok (.iload_n 1, 1) := by decide +kernel
theorem dX1_putAt_6 : decode cX1_putAt 6 = .ok (.iload_n 2, 1) := by decide +kernel
theorem dX1_putAt_7 : decode cX1_putAt 7 = .ok (.invokestatic 45, 3) := by decide +kernel
theorem dX1_putAt_10 : decode cX1_putAt 10 = .ok (.putfield 25, 3) := by decide +kernel
theorem dX1_putAt_13 : decode cX1_putAt 13 = .ok (.return_, 1) := by decide +kernel
theorem dX1_readAt_0 : decode cX1_readAt 0 = .ok (.aload_n 0, 1) := by decide +kernel
theorem dX1_readAt_1 : decode cX1_readAt 1 = .ok (.getfield 9, 3) := by decide +kernel
theorem dX1_readAt_4 : decode cX1_readAt 4 = .ok (.iconst (-1), 1) := by decide +kernel
theorem dX1_readAt_5 : decode cX1_readAt 5 = .ok (.if_icmp .eq 12, 3) := by decide +kernel
theorem dX1_readAt_8 : decode cX1_readAt 8 = .ok (.aload_n 0, 1) := by decide +kernel
theorem dX1_readAt_9 : decode cX1_readAt 9 = .ok (.getfield 9, 3) := by decide +kernel
theorem dX1_readAt_12 : decode cX1_readAt 12 = .ok (.iload_n 1, 1) := by decide +kernel
theorem dX1_readAt_13 : decode cX1_readAt 13 = .ok (.invokestatic 49, 3) := by decide +kernel
theorem dX1_readAt_16 : decode cX1_readAt 16 = .ok (.ireturn, 1) := by decide +kernel
theorem dX1_readAt_17 : decode cX1_readAt 17 = .ok (.aload_n 0, 1) := by decide +kernel
theorem dX1_readAt_18 : decode cX1_readAt 18 = .ok (.getfield 29, 3) := by decide +kernel
theorem dX1_readAt_21 : decode cX1_readAt 21 = .ok (.iload_n 1, 1) := by decide +kernel
theorem dX1_readAt_22 : decode cX1_readAt 22 = .ok (.invokestatic 41, 3) := by decide +kernel
theorem dX1_readAt_25 : decode cX1_readAt 25 = .ok (.istore_n 2, 1) := by decide +kernel
theorem dX1_readAt_26 : decode cX1_readAt 26 = .ok (.aload_n 0, 1) := by decide +kernel
theorem dX1_readAt_27 : decode cX1_readAt 27 = .ok (.getfield 25, 3) := by decide +kernel
theorem dX1_readAt_30 : decode cX1_readAt 30 = .ok (.iload_n 1, 1) := by decide +kernel
theorem dX1_readAt_31 : decode cX1_readAt 31 = .ok (.invokestatic 41, 3) := by decide +kernel
theorem dX1_readAt_34 : decode cX1_readAt 34 = .ok (.iload_n 2, 1) := by decide +kernel
theorem dX1_readAt_35 : decode cX1_readAt 35 = .ok (.iconst (-1), 1) := by decide +kernel
theorem dX1_readAt_36 : decode cX1_readAt 36 = .ok (.ixor, 1) := by decide +kernel
theorem dX1_readAt_37 : decode cX1_readAt 37 = .ok (.iand, 1) := by decide +kernel
theorem dX1_readAt_38 : decode cX1_readAt 38 = .ok (.aload_n 0, 1) := by decide +kernel
theorem dX1_readAt_39 : decode cX1_readAt 39 = .ok (.getfield 32, 3) := by decide +kernel
theorem dX1_readAt_42 : decode cX1_readAt 42 = .ok (.iload_n 1, 1) := by decide +kernel
theorem dX1_readAt_43 : decode cX1_readAt 43 = .ok (.invokestatic 41, 3) := by decide +kernel
theorem dX1_readAt_46 : decode cX1_readAt 46 = .ok (.iload_n 2, 1) := by decide +kernel
theorem dX1_readAt_47 : decode cX1_readAt 47 = .ok (.iand, 1) := by decide +kernel
theorem dX1_readAt_48 : decode cX1_readAt 48 = .ok (.ior, 1) := by decide +kernel
theorem dX1_readAt_49 : decode cX1_readAt 49 = .ok (.ireturn, 1) := by decide +kernel
theorem dX1_stickCell_0 : decode cX1_stickCell 0 = .ok (.aload_n 0, 1) := by decide +kernel
theorem dX1_stickCell_1 : decode cX1_stickCell 1 = .ok (.aload_n 0, 1) := by decide +kernel
theorem dX1_stickCell_2 : decode cX1_stickCell 2 = .ok (.getfield 29, 3) := by decide +kernel
theorem dX1_stickCell_5 : decode cX1_stickCell 5 = .ok (.iload_n 1, 1) := by decide +kernel
theorem dX1_stickCell_6 : decode cX1_stickCell 6 = .ok (.iload_n 2, 1) := by decide +kernel
theorem dX1_stickCell_7 : decode cX1_stickCell 7 = .ok (.invokestatic 45, 3) := by decide +kernel
theorem dX1_stickCell_10 : decode cX1_stickCell 10 = .ok (.putfield 29, 3) := by decide +kernel
theorem dX1_stickCell_13 : decode cX1_stickCell 13 = .ok (.aload_n 0, 1) := by decide +kernel
theorem dX1_stickCell_14 : decode cX1_stickCell 14 = .ok (.aload_n 0, 1) := by decide +kernel
theorem dX1_stickCell_15 : decode cX1_stickCell 15 = .ok (.getfield 32, 3) := by decide +kernel
theorem dX1_stickCell_18 : decode cX1_stickCell 18 = .ok (.iload_n 1, 1) := by decide +kernel
theorem dX1_stickCell_19 : decode cX1_stickCell 19 = .ok (.iload_n 3, 1) := by decide +kernel
theorem dX1_stickCell_20 : decode cX1_stickCell 20 = .ok (.invokestatic 45, 3) := by decide +kernel
theorem dX1_stickCell_23 : decode cX1_stickCell 23 = .ok (.putfield 32, 3) := by decide +kernel
theorem dX1_stickCell_26 : decode cX1_stickCell 26 = .ok (.return_, 1) := by decide +kernel
theorem dX1_stuckCells_0 : decode cX1_stuckCells 0 = .ok (.iconst 0, 1) := by decide +kernel
theorem dX1_stuckCells_1 : decode cX1_stuckCells 1 = .ok (.istore_n 1, 1) := by decide +kernel
theorem dX1_stuckCells_2 : decode cX1_stuckCells 2 = .ok (.iconst 0, 1) := by decide +kernel
theorem dX1_stuckCells_3 : decode cX1_stuckCells 3 = .ok (.istore_n 2, 1) := by decide +kernel
theorem dX1_stuckCells_4 : decode cX1_stuckCells 4 = .ok (.iload_n 2, 1) := by decide +kernel
theorem dX1_stuckCells_5 : decode cX1_stuckCells 5 = .ok (.bipush 16, 2) := by decide +kernel
theorem dX1_stuckCells_7 : decode cX1_stuckCells 7 = .ok (.if_icmp .ge 23, 3) := by decide +kernel
theorem dX1_stuckCells_10 : decode cX1_stuckCells 10 = .ok (.aload_n 0, 1) := by decide +kernel
theorem dX1_stuckCells_11 : decode cX1_stuckCells 11 = .ok (.getfield 29, 3) := by decide +kernel
theorem dX1_stuckCells_14 : decode cX1_stuckCells 14 = .ok (.iload_n 2, 1) := by decide +kernel
theorem dX1_stuckCells_15 : decode cX1_stuckCells 15 = .ok (.invokestatic 41, 3) := by decide +kernel
theorem dX1_stuckCells_18 : decode cX1_stuckCells 18 = .ok (.ifCond .eq 6, 3) := by decide +kernel
theorem dX1_stuckCells_21 : decode cX1_stuckCells 21 = .ok (.iinc 1 1, 3) := by decide +kernel
theorem dX1_stuckCells_24 : decode cX1_stuckCells 24 = .ok (.iinc 2 1, 3) := by decide +kernel
theorem dX1_stuckCells_27 : decode cX1_stuckCells 27 = .ok (.goto (-23), 3) := by decide +kernel
theorem dX1_stuckCells_30 : decode cX1_stuckCells 30 = .ok (.iload_n 1, 1) := by decide +kernel
theorem dX1_stuckCells_31 : decode cX1_stuckCells 31 = .ok (.ireturn, 1) := by decide +kernel
theorem dX2_timesPower_0 : decode cX2_timesPower 0 = .ok (.iload_n 0, 1) := by decide +kernel
theorem dX2_timesPower_1 : decode cX2_timesPower 1 = .ok (.iconst 1, 1) := by decide +kernel
theorem dX2_timesPower_2 : decode cX2_timesPower 2 = .ok (.if_icmp .lt 13, 3) := by decide +kernel
theorem dX2_timesPower_5 : decode cX2_timesPower 5 = .ok (.iload_n 0, 1) := by decide +kernel
theorem dX2_timesPower_6 : decode cX2_timesPower 6 = .ok (.bipush 15, 2) := by decide +kernel
theorem dX2_timesPower_8 : decode cX2_timesPower 8 = .ok (.if_icmp .gt 7, 3) := by decide +kernel
theorem dX2_timesPower_11 : decode cX2_timesPower 11 = .ok (.iload_n 1, 1) := by decide +kernel
theorem dX2_timesPower_12 : decode cX2_timesPower 12 = .ok (.ifCond .ge 5, 3) := by decide +kernel
theorem dX2_timesPower_15 : decode cX2_timesPower 15 = .ok (.iconst 0, 1) := by decide +kernel
theorem dX2_timesPower_16 : decode cX2_timesPower 16 = .ok (.ireturn, 1) := by decide +kernel
theorem dX2_timesPower_17 : decode cX2_timesPower 17 = .ok (.getstatic 9, 3) := by decide +kernel
theorem dX2_timesPower_20 : decode cX2_timesPower 20 = .ok (.getstatic 15, 3) := by decide +kernel
theorem dX2_timesPower_23 : decode cX2_timesPower 23 = .ok (.iload_n 0, 1) := by decide +kernel
theorem dX2_timesPower_24 : decode cX2_timesPower 24 = .ok (.iaload, 1) := by decide +kernel
theorem dX2_timesPower_25 : decode cX2_timesPower 25 = .ok (.iload_n 1, 1) := by decide +kernel
theorem dX2_timesPower_26 : decode cX2_timesPower 26 = .ok (.bipush 15, 2) := by decide +kernel
theorem dX2_timesPower_28 : decode cX2_timesPower 28 = .ok (.irem, 1) := by decide +kernel
theorem dX2_timesPower_29 : decode cX2_timesPower 29 = .ok (.iadd, 1) := by decide +kernel
theorem dX2_timesPower_30 : decode cX2_timesPower 30 = .ok (.bipush 15, 2) := by decide +kernel
theorem dX2_timesPower_32 : decode cX2_timesPower 32 = .ok (.irem, 1) := by decide +kernel
theorem dX2_timesPower_33 : decode cX2_timesPower 33 = .ok (.iaload, 1) := by decide +kernel
theorem dX2_timesPower_34 : decode cX2_timesPower 34 = .ok (.ireturn, 1) := by decide +kernel
theorem dX2_product_0 : decode cX2_product 0 = .ok (.iload_n 1, 1) := by decide +kernel
theorem dX2_product_1 : decode cX2_product 1 = .ok (.iconst 1, 1) := by decide +kernel
theorem dX2_product_2 : decode cX2_product 2 = .ok (.if_icmp .lt 9, 3) := by decide +kernel
theorem dX2_product_5 : decode cX2_product 5 = .ok (.iload_n 1, 1) := by decide +kernel
theorem dX2_product_6 : decode cX2_product 6 = .ok (.bipush 15, 2) := by decide +kernel
theorem dX2_product_8 : decode cX2_product 8 = .ok (.if_icmp .le 5, 3) := by decide +kernel
theorem dX2_product_11 : decode cX2_product 11 = .ok (.iconst 0, 1) := by decide +kernel
theorem dX2_product_12 : decode cX2_product 12 = .ok (.ireturn, 1) := by decide +kernel
theorem dX2_product_13 : decode cX2_product 13 = .ok (.iload_n 0, 1) := by decide +kernel
theorem dX2_product_14 : decode cX2_product 14 = .ok (.getstatic 15, 3) := by decide +kernel
theorem dX2_product_17 : decode cX2_product 17 = .ok (.iload_n 1, 1) := by decide +kernel
theorem dX2_product_18 : decode cX2_product 18 = .ok (.iaload, 1) := by decide +kernel
theorem dX2_product_19 : decode cX2_product 19 = .ok (.invokestatic 18, 3) := by decide +kernel
theorem dX2_product_22 : decode cX2_product 22 = .ok (.ireturn, 1) := by decide +kernel
theorem dX2_quotient_0 : decode cX2_quotient 0 = .ok (.iload_n 1, 1) := by decide +kernel
theorem dX2_quotient_1 : decode cX2_quotient 1 = .ok (.iconst 1, 1) := by decide +kernel
theorem dX2_quotient_2 : decode cX2_quotient 2 = .ok (.if_icmp .lt 9, 3) := by decide +kernel
theorem dX2_quotient_5 : decode cX2_quotient 5 = .ok (.iload_n 1, 1) := by decide +kernel
theorem dX2_quotient_6 : decode cX2_quotient 6 = .ok (.bipush 15, 2) := by decide +kernel
theorem dX2_quotient_8 : decode cX2_quotient 8 = .ok (.if_icmp .le 5, 3) := by decide +kernel
theorem dX2_quotient_11 : decode cX2_quotient 11 = .ok (.iconst 0, 1) := by decide +kernel
theorem dX2_quotient_12 : decode cX2_quotient 12 = .ok (.ireturn, 1) := by decide +kernel
theorem dX2_quotient_13 : decode cX2_quotient 13 = .ok (.iload_n 0, 1) := by decide +kernel
theorem dX2_quotient_14 : decode cX2_quotient 14 = .ok (.bipush 15, 2) := by decide +kernel
theorem dX2_quotient_16 : decode cX2_quotient 16 = .ok (.getstatic 15, 3) := by decide +kernel
theorem dX2_quotient_19 : decode cX2_quotient 19 = .ok (.iload_n 1, 1) := by decide +kernel
theorem dX2_quotient_20 : decode cX2_quotient 20 = .ok (.iaload, 1) := by decide +kernel
theorem dX2_quotient_21 : decode cX2_quotient 21 = .ok (.isub, 1) := by decide +kernel
theorem dX2_quotient_22 : decode cX2_quotient 22 = .ok (.invokestatic 18, 3) := by decide +kernel
theorem dX2_quotient_25 : decode cX2_quotient 25 = .ok (.ireturn, 1) := by decide +kernel
theorem dX2_sumOf_0 : decode cX2_sumOf 0 = .ok (.iconst 0, 1) := by decide +kernel
theorem dX2_sumOf_1 : decode cX2_sumOf 1 = .ok (.istore_n 3, 1) := by decide +kernel
theorem dX2_sumOf_2 : decode cX2_sumOf 2 = .ok (.iconst 0, 1) := by decide +kernel
theorem dX2_sumOf_3 : decode cX2_sumOf 3 = .ok (.istore 4, 2) := by decide +kernel
theorem dX2_sumOf_5 : decode cX2_sumOf 5 = .ok (.iload 4, 2) := by decide +kernel
theorem dX2_sumOf_7 : decode cX2_sumOf 7 = .ok (.bipush 15, 2) := by decide +kernel
theorem dX2_sumOf_9 : decode cX2_sumOf 9 = .ok (.if_icmp .ge 25, 3) := by decide +kernel
theorem dX2_sumOf_12 : decode cX2_sumOf 12 = .ok (.iload_n 3, 1) := by decide +kernel
theorem dX2_sumOf_13 : decode cX2_sumOf 13 = .ok (.lload_n 0, 1) := by decide +kernel
theorem dX2_sumOf_14 : decode cX2_sumOf 14 = .ok (.iload 4, 2) := by decide +kernel
theorem dX2_sumOf_16 : decode cX2_sumOf 16 = .ok (.invokestatic 22, 3) := by decide +kernel
theorem dX2_sumOf_19 : decode cX2_sumOf 19 = .ok (.iload 4, 2) := by decide +kernel
theorem dX2_sumOf_21 : decode cX2_sumOf 21 = .ok (.iload_n 2, 1) := by decide +kernel
theorem dX2_sumOf_22 : decode cX2_sumOf 22 = .ok (.imul, 1) := by decide +kernel
theorem dX2_sumOf_23 : decode cX2_sumOf 23 = .ok (.invokestatic 18, 3) := by decide +kernel
theorem dX2_sumOf_26 : decode cX2_sumOf 26 = .ok (.ixor, 1) := by decide +kernel
theorem dX2_sumOf_27 : decode cX2_sumOf 27 = .ok (.istore_n 3, 1) := by decide +kernel
theorem dX2_sumOf_28 : decode cX2_sumOf 28 = .ok (.iinc 4 1, 3) := by decide +kernel
theorem dX2_sumOf_31 : decode cX2_sumOf 31 = .ok (.goto (-26), 3) := by decide +kernel
theorem dX2_sumOf_34 : decode cX2_sumOf 34 = .ok (.iload_n 3, 1) := by decide +kernel
theorem dX2_sumOf_35 : decode cX2_sumOf 35 = .ok (.ireturn, 1) := by decide +kernel
theorem dX2_placesIn_0 : decode cX2_placesIn 0 = .ok (.iconst 0, 1) := by decide +kernel
theorem dX2_placesIn_1 : decode cX2_placesIn 1 = .ok (.istore_n 2, 1) := by decide +kernel
theorem dX2_placesIn_2 : decode cX2_placesIn 2 = .ok (.iconst 0, 1) := by decide +kernel
theorem dX2_placesIn_3 : decode cX2_placesIn 3 = .ok (.istore_n 3, 1) := by decide +kernel
theorem dX2_placesIn_4 : decode cX2_placesIn 4 = .ok (.iload_n 3, 1) := by decide +kernel
theorem dX2_placesIn_5 : decode cX2_placesIn 5 = .ok (.bipush 15, 2) := by decide +kernel
theorem dX2_placesIn_7 : decode cX2_placesIn 7 = .ok (.if_icmp .ge 23, 3) := by decide +kernel
theorem dX2_placesIn_10 : decode cX2_placesIn 10 = .ok (.lload_n 0, 1) := by decide +kernel
theorem dX2_placesIn_11 : decode cX2_placesIn 11 = .ok (.iload_n 3, 1) := by decide +kernel
theorem dX2_placesIn_12 : decode cX2_placesIn 12 = .ok (.invokestatic 22, 3) := by decide +kernel
theorem dX2_placesIn_15 : decode cX2_placesIn 15 = .ok (.ifCond .eq 9, 3) := by decide +kernel
theorem dX2_placesIn_18 : decode cX2_placesIn 18 = .ok (.iload_n 2, 1) := by decide +kernel
theorem dX2_placesIn_19 : decode cX2_placesIn 19 = .ok (.iconst 1, 1) := by decide +kernel
theorem dX2_placesIn_20 : decode cX2_placesIn 20 = .ok (.iload_n 3, 1) := by decide +kernel
theorem dX2_placesIn_21 : decode cX2_placesIn 21 = .ok (.ishl, 1) := by decide +kernel
theorem dX2_placesIn_22 : decode cX2_placesIn 22 = .ok (.ior, 1) := by decide +kernel
theorem dX2_placesIn_23 : decode cX2_placesIn 23 = .ok (.istore_n 2, 1) := by decide +kernel
theorem dX2_placesIn_24 : decode cX2_placesIn 24 = .ok (.iinc 3 1, 3) := by decide +kernel
theorem dX2_placesIn_27 : decode cX2_placesIn 27 = .ok (.goto (-23), 3) := by decide +kernel
theorem dX2_placesIn_30 : decode cX2_placesIn 30 = .ok (.iload_n 2, 1) := by decide +kernel
theorem dX2_placesIn_31 : decode cX2_placesIn 31 = .ok (.ireturn, 1) := by decide +kernel
theorem dX2_dataIn_0 : decode cX2_dataIn 0 = .ok (.lload_n 0, 1) := by decide +kernel
theorem dX2_dataIn_1 : decode cX2_dataIn 1 = .ok (.bipush 16, 2) := by decide +kernel
theorem dX2_dataIn_3 : decode cX2_dataIn 3 = .ok (.lushr, 1) := by decide +kernel
theorem dX2_dataIn_4 : decode cX2_dataIn 4 = .ok (.lreturn, 1) := by decide +kernel
theorem dX2_wordOf_0 : decode cX2_wordOf 0 = .ok (.lload_n 0, 1) := by decide +kernel
theorem dX2_wordOf_1 : decode cX2_wordOf 1 = .ok (.bipush 16, 2) := by decide +kernel
theorem dX2_wordOf_3 : decode cX2_wordOf 3 = .ok (.lshl, 1) := by decide +kernel
theorem dX2_wordOf_4 : decode cX2_wordOf 4 = .ok (.bipush 15, 2) := by decide +kernel
theorem dX2_wordOf_6 : decode cX2_wordOf 6 = .ok (.invokestatic 26, 3) := by decide +kernel
theorem dX2_wordOf_9 : decode cX2_wordOf 9 = .ok (.lreturn, 1) := by decide +kernel
theorem dX2_mendedWord_0 : decode cX2_mendedWord 0 = .ok (.iload_n 2, 1) := by decide +kernel
theorem dX2_mendedWord_1 : decode cX2_mendedWord 1 = .ok (.invokestatic 30, 3) := by decide +kernel
theorem dX2_mendedWord_4 : decode cX2_mendedWord 4 = .ok (.iconst 4, 1) := by decide +kernel
theorem dX2_mendedWord_5 : decode cX2_mendedWord 5 = .ok (.if_icmp .le 7, 3) := by decide +kernel
theorem dX2_mendedWord_8 : decode cX2_mendedWord 8 = .ok (.ldc2_w 36, 3) := by decide +kernel
theorem dX2_mendedWord_11 : decode cX2_mendedWord 11 = .ok (.lreturn, 1) := by decide +kernel
theorem dX2_mendedWord_12 : decode cX2_mendedWord 12 = .ok (.lconst 0, 1) := by decide +kernel
theorem dX2_mendedWord_13 : decode cX2_mendedWord 13 = .ok (.lstore_n 3, 1) := by decide +kernel
theorem dX2_mendedWord_14 : decode cX2_mendedWord 14 = .ok (.iconst 1, 1) := by decide +kernel
theorem dX2_mendedWord_15 : decode cX2_mendedWord 15 = .ok (.istore 5, 2) := by decide +kernel
theorem dX2_mendedWord_17 : decode cX2_mendedWord 17 = .ok (.iload 5, 2) := by decide +kernel
theorem dX2_mendedWord_19 : decode cX2_mendedWord 19 = .ok (.iconst 4, 1) := by decide +kernel
theorem dX2_mendedWord_20 : decode cX2_mendedWord 20 = .ok (.if_icmp .gt 24, 3) := by decide +kernel
theorem dX2_mendedWord_23 : decode cX2_mendedWord 23 = .ok (.lload_n 3, 1) := by decide +kernel
theorem dX2_mendedWord_24 : decode cX2_mendedWord 24 = .ok (.iload 5, 2) := by decide +kernel
theorem dX2_mendedWord_26 : decode cX2_mendedWord 26 = .ok (.iconst 1, 1) := by decide +kernel
theorem dX2_mendedWord_27 : decode cX2_mendedWord 27 = .ok (.isub, 1) := by decide +kernel
theorem dX2_mendedWord_28 : decode cX2_mendedWord 28 = .ok (.lload_n 0, 1) := by decide +kernel
theorem dX2_mendedWord_29 : decode cX2_mendedWord 29 = .ok (.iload 5, 2) := by decide +kernel
theorem dX2_mendedWord_31 : decode cX2_mendedWord 31 = .ok (.invokestatic 38, 3) := by decide +kernel
theorem dX2_mendedWord_34 : decode cX2_mendedWord 34 = .ok (.invokestatic 41, 3) := by decide +kernel
theorem dX2_mendedWord_37 : decode cX2_mendedWord 37 = .ok (.lstore_n 3, 1) := by decide +kernel
theorem dX2_mendedWord_38 : decode cX2_mendedWord 38 = .ok (.iinc 5 1, 3) := by decide +kernel
theorem dX2_mendedWord_41 : decode cX2_mendedWord 41 = .ok (.goto (-24), 3) := by decide +kernel
theorem dX2_mendedWord_44 : decode cX2_mendedWord 44 = .ok (.iload_n 2, 1) := by decide +kernel
theorem dX2_mendedWord_45 : decode cX2_mendedWord 45 = .ok (.lload_n 3, 1) := by decide +kernel
theorem dX2_mendedWord_46 : decode cX2_mendedWord 46 = .ok (.invokestatic 45, 3) := by decide +kernel
theorem dX2_mendedWord_49 : decode cX2_mendedWord 49 = .ok (.istore 5, 2) := by decide +kernel
theorem dX2_mendedWord_51 : decode cX2_mendedWord 51 = .ok (.iload 5, 2) := by decide +kernel
theorem dX2_mendedWord_53 : decode cX2_mendedWord 53 = .ok (.iconst (-1), 1) := by decide +kernel
theorem dX2_mendedWord_54 : decode cX2_mendedWord 54 = .ok (.if_icmp .ne 7, 3) := by decide +kernel
theorem dX2_mendedWord_57 : decode cX2_mendedWord 57 = .ok (.ldc2_w 36, 3) := by decide +kernel
theorem dX2_mendedWord_60 : decode cX2_mendedWord 60 = .ok (.lreturn, 1) := by decide +kernel
theorem dX2_mendedWord_61 : decode cX2_mendedWord 61 = .ok (.iload_n 2, 1) := by decide +kernel
theorem dX2_mendedWord_62 : decode cX2_mendedWord 62 = .ok (.iload 5, 2) := by decide +kernel
theorem dX2_mendedWord_64 : decode cX2_mendedWord 64 = .ok (.ior, 1) := by decide +kernel
theorem dX2_mendedWord_65 : decode cX2_mendedWord 65 = .ok (.istore 6, 2) := by decide +kernel
theorem dX2_mendedWord_67 : decode cX2_mendedWord 67 = .ok (.lload_n 0, 1) := by decide +kernel
theorem dX2_mendedWord_68 : decode cX2_mendedWord 68 = .ok (.lstore 7, 2) := by decide +kernel
theorem dX2_mendedWord_70 : decode cX2_mendedWord 70 = .ok (.iconst 0, 1) := by decide +kernel
theorem dX2_mendedWord_71 : decode cX2_mendedWord 71 = .ok (.istore 9, 2) := by decide +kernel
theorem dX2_mendedWord_73 : decode cX2_mendedWord 73 = .ok (.iload 9, 2) := by decide +kernel
theorem dX2_mendedWord_75 : decode cX2_mendedWord 75 = .ok (.bipush 15, 2) := by decide +kernel
theorem dX2_mendedWord_77 : decode cX2_mendedWord 77 = .ok (.if_icmp .ge 38, 3) := by decide +kernel
theorem dX2_mendedWord_80 : decode cX2_mendedWord 80 = .ok (.iload 6, 2) := by decide +kernel
theorem dX2_mendedWord_82 : decode cX2_mendedWord 82 = .ok (.iload 9, 2) := by decide +kernel
theorem dX2_mendedWord_84 : decode cX2_mendedWord 84 = .ok (.invokestatic 49, 3) := by decide +kernel
theorem dX2_mendedWord_87 : decode cX2_mendedWord 87 = .ok (.ifCond .eq 22, 3) := by decide +kernel
theorem dX2_mendedWord_90 : decode cX2_mendedWord 90 = .ok (.lload 7, 2) := by decide +kernel
theorem dX2_mendedWord_92 : decode cX2_mendedWord 92 = .ok (.lconst 0, 1) := by decide +kernel
theorem dX2_mendedWord_93 : decode cX2_mendedWord 93 = .ok (.iload 9, 2) := by decide +kernel
theorem dX2_mendedWord_95 : decode cX2_mendedWord 95 = .ok (.iload 9, 2) := by decide +kernel
theorem dX2_mendedWord_97 : decode cX2_mendedWord 97 = .ok (.iload 6, 2) := by decide +kernel
theorem dX2_mendedWord_99 : decode cX2_mendedWord 99 = .ok (.lload_n 3, 1) := by decide +kernel
theorem dX2_mendedWord_100 : decode cX2_mendedWord 100 = .ok (.invokestatic 53, 3) := by decide +kernel
theorem dX2_mendedWord_103 : decode cX2_mendedWord 103 = .ok (.invokestatic 41, 3) := by decide +kernel
theorem dX2_mendedWord_106 : decode cX2_mendedWord 106 = .ok (.lxor, 1) := by decide +kernel
theorem dX2_mendedWord_107 : decode cX2_mendedWord 107 = .ok (.lstore 7, 2) := by decide +kernel
theorem dX2_mendedWord_109 : decode cX2_mendedWord 109 = .ok (.iinc 9 1, 3) := by decide +kernel
theorem dX2_mendedWord_112 : decode cX2_mendedWord 112 = .ok (.goto (-39), 3) := by decide +kernel
theorem dX2_mendedWord_115 : decode cX2_mendedWord 115 = .ok (.lload 7, 2) := by decide +kernel
theorem dX2_mendedWord_117 : decode cX2_mendedWord 117 = .ok (.lreturn, 1) := by decide +kernel
theorem dX2_errorsBeside_0 : decode cX2_errorsBeside 0 = .ok (.lload_n 1, 1) := by decide +kernel
theorem dX2_errorsBeside_1 : decode cX2_errorsBeside 1 = .ok (.lstore_n 3, 1) := by decide +kernel
theorem dX2_errorsBeside_2 : decode cX2_errorsBeside 2 = .ok (.iconst 4, 1) := by decide +kernel
theorem dX2_errorsBeside_3 : decode cX2_errorsBeside 3 = .ok (.istore 5, 2) := by decide +kernel
theorem dX2_errorsBeside_5 : decode cX2_errorsBeside 5 = .ok (.iconst 0, 1) := by decide +kernel
theorem dX2_errorsBeside_6 : decode cX2_errorsBeside 6 = .ok (.istore 6, 2) := by decide +kernel
theorem dX2_errorsBeside_8 : decode cX2_errorsBeside 8 = .ok (.iload 6, 2) := by decide +kernel
theorem dX2_errorsBeside_10 : decode cX2_errorsBeside 10 = .ok (.bipush 15, 2) := by decide +kernel
theorem dX2_errorsBeside_12 : decode cX2_errorsBeside 12 = .ok (.if_icmp .ge 30, 3) := by decide +kernel
theorem dX2_errorsBeside_15 : decode cX2_errorsBeside 15 = .ok (.iload_n 0, 1) := by decide +kernel
theorem dX2_errorsBeside_16 : decode cX2_errorsBeside 16 = .ok (.iload 6, 2) := by decide +kernel
theorem dX2_errorsBeside_18 : decode cX2_errorsBeside 18 = .ok (.invokestatic 49, 3) := by decide +kernel
theorem dX2_errorsBeside_21 : decode cX2_errorsBeside 21 = .ok (.ifCond .eq 15, 3) := by decide +kernel
theorem dX2_errorsBeside_24 : decode cX2_errorsBeside 24 = .ok (.iload 6, 2) := by decide +kernel
theorem dX2_errorsBeside_26 : decode cX2_errorsBeside 26 = .ok (.lload_n 3, 1) := by decide +kernel
theorem dX2_errorsBeside_27 : decode cX2_errorsBeside 27 = .ok (.iload 5, 2) := by decide +kernel
theorem dX2_errorsBeside_29 : decode cX2_errorsBeside 29 = .ok (.invokestatic 57, 3) := by decide +kernel
theorem dX2_errorsBeside_32 : decode cX2_errorsBeside 32 = .ok (.lstore_n 3, 1) := by decide +kernel
theorem dX2_errorsBeside_33 : decode cX2_errorsBeside 33 = .ok (.iinc 5 (-1), 3) := by decide +kernel
theorem dX2_errorsBeside_36 : decode cX2_errorsBeside 36 = .ok (.iinc 6 1, 3) := by decide +kernel
theorem dX2_errorsBeside_39 : decode cX2_errorsBeside 39 = .ok (.goto (-31), 3) := by decide +kernel
theorem dX2_errorsBeside_42 : decode cX2_errorsBeside 42 = .ok (.lload_n 3, 1) := by decide +kernel
theorem dX2_errorsBeside_43 : decode cX2_errorsBeside 43 = .ok (.lconst 0, 1) := by decide +kernel
theorem dX2_errorsBeside_44 : decode cX2_errorsBeside 44 = .ok (.lcmp, 1) := by decide +kernel
theorem dX2_errorsBeside_45 : decode cX2_errorsBeside 45 = .ok (.ifCond .ne 5, 3) := by decide +kernel
theorem dX2_errorsBeside_48 : decode cX2_errorsBeside 48 = .ok (.iconst 0, 1) := by decide +kernel
theorem dX2_errorsBeside_49 : decode cX2_errorsBeside 49 = .ok (.ireturn, 1) := by decide +kernel
theorem dX2_errorsBeside_50 : decode cX2_errorsBeside 50 = .ok (.lload_n 3, 1) := by decide +kernel
theorem dX2_errorsBeside_51 : decode cX2_errorsBeside 51 = .ok (.iload 5, 2) := by decide +kernel
theorem dX2_errorsBeside_53 : decode cX2_errorsBeside 53 = .ok (.invokestatic 61, 3) := by decide +kernel
theorem dX2_errorsBeside_56 : decode cX2_errorsBeside 56 = .ok (.istore 6, 2) := by decide +kernel
theorem dX2_errorsBeside_58 : decode cX2_errorsBeside 58 = .ok (.iload 6, 2) := by decide +kernel
theorem dX2_errorsBeside_60 : decode cX2_errorsBeside 60 = .ok (.iconst (-1), 1) := by decide +kernel
theorem dX2_errorsBeside_61 : decode cX2_errorsBeside 61 = .ok (.if_icmp .eq 17, 3) := by decide +kernel
theorem dX2_errorsBeside_64 : decode cX2_errorsBeside 64 = .ok (.iload_n 0, 1) := by decide +kernel
theorem dX2_errorsBeside_65 : decode cX2_errorsBeside 65 = .ok (.iload 6, 2) := by decide +kernel
theorem dX2_errorsBeside_67 : decode cX2_errorsBeside 67 = .ok (.invokestatic 49, 3) := by decide +kernel
theorem dX2_errorsBeside_70 : decode cX2_errorsBeside 70 = .ok (.ifCond .ne 8, 3) := by decide +kernel
theorem dX2_errorsBeside_73 : decode cX2_errorsBeside 73 = .ok (.iconst 1, 1) := by decide +kernel
theorem dX2_errorsBeside_74 : decode cX2_errorsBeside 74 = .ok (.iload 6, 2) := by decide +kernel
theorem dX2_errorsBeside_76 : decode cX2_errorsBeside 76 = .ok (.ishl, 1) := by decide +kernel
theorem dX2_errorsBeside_77 : decode cX2_errorsBeside 77 = .ok (.ireturn, 1) := by decide +kernel
theorem dX2_errorsBeside_78 : decode cX2_errorsBeside 78 = .ok (.iload 5, 2) := by decide +kernel
theorem dX2_errorsBeside_80 : decode cX2_errorsBeside 80 = .ok (.iconst 4, 1) := by decide +kernel
theorem dX2_errorsBeside_81 : decode cX2_errorsBeside 81 = .ok (.if_icmp .ge 5, 3) := by decide +kernel
theorem dX2_errorsBeside_84 : decode cX2_errorsBeside 84 = .ok (.iconst (-1), 1) := by decide +kernel
theorem dX2_errorsBeside_85 : decode cX2_errorsBeside 85 = .ok (.ireturn, 1) := by decide +kernel
theorem dX2_errorsBeside_86 : decode cX2_errorsBeside 86 = .ok (.iconst 0, 1) := by decide +kernel
theorem dX2_errorsBeside_87 : decode cX2_errorsBeside 87 = .ok (.istore 7, 2) := by decide +kernel
theorem dX2_errorsBeside_89 : decode cX2_errorsBeside 89 = .ok (.iload 7, 2) := by decide +kernel
theorem dX2_errorsBeside_91 : decode cX2_errorsBeside 91 = .ok (.bipush 15, 2) := by decide +kernel
theorem dX2_errorsBeside_93 : decode cX2_errorsBeside 93 = .ok (.if_icmp .ge 49, 3) := by decide +kernel
theorem dX2_errorsBeside_96 : decode cX2_errorsBeside 96 = .ok (.iload 7, 2) := by decide +kernel
theorem dX2_errorsBeside_98 : decode cX2_errorsBeside 98 = .ok (.lload_n 3, 1) := by decide +kernel
theorem dX2_errorsBeside_99 : decode cX2_errorsBeside 99 = .ok (.iload 5, 2) := by decide +kernel
theorem dX2_errorsBeside_101 : decode cX2_errorsBeside 101 = .ok (.invokestatic 57, 3) := by decide +kernel
theorem dX2_errorsBeside_104 : decode cX2_errorsBeside 104 = .ok (.iload 5, 2) := by decide +kernel
theorem dX2_errorsBeside_106 : decode cX2_errorsBeside 106 = .ok (.iconst 1, 1) := by decide +kernel
theorem dX2_errorsBeside_107 : decode cX2_errorsBeside 107 = .ok (.isub, 1) := by decide +kernel
theorem dX2_errorsBeside_108 : decode cX2_errorsBeside 108 = .ok (.invokestatic 61, 3) := by decide +kernel
theorem dX2_errorsBeside_111 : decode cX2_errorsBeside 111 = .ok (.istore 8, 2) := by decide +kernel
theorem dX2_errorsBeside_113 : decode cX2_errorsBeside 113 = .ok (.iload 8, 2) := by decide +kernel
theorem dX2_errorsBeside_115 : decode cX2_errorsBeside 115 = .ok (.iconst (-1), 1) := by decide +kernel
theorem dX2_errorsBeside_116 : decode cX2_errorsBeside 116 = .ok (.if_icmp .eq 20, 3) := by decide +kernel
theorem dX2_errorsBeside_119 : decode cX2_errorsBeside 119 = .ok (.iload 8, 2) := by decide +kernel
theorem dX2_errorsBeside_121 : decode cX2_errorsBeside 121 = .ok (.iload 7, 2) := by decide +kernel
theorem dX2_errorsBeside_123 : decode cX2_errorsBeside 123 = .ok (.if_icmp .eq 13, 3) := by decide +kernel
theorem dX2_errorsBeside_126 : decode cX2_errorsBeside 126 = .ok (.iconst 1, 1) := by decide +kernel
theorem dX2_errorsBeside_127 : decode cX2_errorsBeside 127 = .ok (.iload 7, 2) := by decide +kernel
theorem dX2_errorsBeside_129 : decode cX2_errorsBeside 129 = .ok (.ishl, 1) := by decide +kernel
theorem dX2_errorsBeside_130 : decode cX2_errorsBeside 130 = .ok (.iconst 1, 1) := by decide +kernel
theorem dX2_errorsBeside_131 : decode cX2_errorsBeside 131 = .ok (.iload 8, 2) := by decide +kernel
theorem dX2_errorsBeside_133 : decode cX2_errorsBeside 133 = .ok (.ishl, 1) := by decide +kernel
theorem dX2_errorsBeside_134 : decode cX2_errorsBeside 134 = .ok (.ior, 1) := by decide +kernel
theorem dX2_errorsBeside_135 : decode cX2_errorsBeside 135 = .ok (.ireturn, 1) := by decide +kernel
theorem dX2_errorsBeside_136 : decode cX2_errorsBeside 136 = .ok (.iinc 7 1, 3) := by decide +kernel
theorem dX2_errorsBeside_139 : decode cX2_errorsBeside 139 = .ok (.goto (-50), 3) := by decide +kernel
theorem dX2_errorsBeside_142 : decode cX2_errorsBeside 142 = .ok (.iconst (-1), 1) := by decide +kernel
theorem dX2_errorsBeside_143 : decode cX2_errorsBeside 143 = .ok (.ireturn, 1) := by decide +kernel
theorem dX2_blindTo_0 : decode cX2_blindTo 0 = .ok (.lconst 0, 1) := by decide +kernel
theorem dX2_blindTo_1 : decode cX2_blindTo 1 = .ok (.lstore 4, 2) := by decide +kernel
theorem dX2_blindTo_3 : decode cX2_blindTo 3 = .ok (.iconst 0, 1) := by decide +kernel
theorem dX2_blindTo_4 : decode cX2_blindTo 4 = .ok (.istore 6, 2) := by decide +kernel
theorem dX2_blindTo_6 : decode cX2_blindTo 6 = .ok (.iload 6, 2) := by decide +kernel
theorem dX2_blindTo_8 : decode cX2_blindTo 8 = .ok (.iconst 1, 1) := by decide +kernel
theorem dX2_blindTo_9 : decode cX2_blindTo 9 = .ok (.iadd, 1) := by decide +kernel
theorem dX2_blindTo_10 : decode cX2_blindTo 10 = .ok (.iload_n 3, 1) := by decide +kernel
theorem dX2_blindTo_11 : decode cX2_blindTo 11 = .ok (.if_icmp .ge 37, 3) := by decide +kernel
theorem dX2_blindTo_14 : decode cX2_blindTo 14 = .ok (.lload 4, 2) := by decide +kernel
theorem dX2_blindTo_16 : decode cX2_blindTo 16 = .ok (.iload 6, 2) := by decide +kernel
theorem dX2_blindTo_18 : decode cX2_blindTo 18 = .ok (.lload_n 1, 1) := by decide +kernel
theorem dX2_blindTo_19 : decode cX2_blindTo 19 = .ok (.iload 6, 2) := by decide +kernel
theorem dX2_blindTo_21 : decode cX2_blindTo 21 = .ok (.invokestatic 22, 3) := by decide +kernel
theorem dX2_blindTo_24 : decode cX2_blindTo 24 = .ok (.iload_n 0, 1) := by decide +kernel
theorem dX2_blindTo_25 : decode cX2_blindTo 25 = .ok (.invokestatic 18, 3) := by decide +kernel
theorem dX2_blindTo_28 : decode cX2_blindTo 28 = .ok (.lload_n 1, 1) := by decide +kernel
theorem dX2_blindTo_29 : decode cX2_blindTo 29 = .ok (.iload 6, 2) := by decide +kernel
theorem dX2_blindTo_31 : decode cX2_blindTo 31 = .ok (.iconst 1, 1) := by decide +kernel
theorem dX2_blindTo_32 : decode cX2_blindTo 32 = .ok (.iadd, 1) := by decide +kernel
theorem dX2_blindTo_33 : decode cX2_blindTo 33 = .ok (.invokestatic 22, 3) := by decide +kernel
theorem dX2_blindTo_36 : decode cX2_blindTo 36 = .ok (.ixor, 1) := by decide +kernel
theorem dX2_blindTo_37 : decode cX2_blindTo 37 = .ok (.invokestatic 41, 3) := by decide +kernel
theorem dX2_blindTo_40 : decode cX2_blindTo 40 = .ok (.lstore 4, 2) := by decide +kernel
theorem dX2_blindTo_42 : decode cX2_blindTo 42 = .ok (.iinc 6 1, 3) := by decide +kernel
theorem dX2_blindTo_45 : decode cX2_blindTo 45 = .ok (.goto (-39), 3) := by decide +kernel
theorem dX2_blindTo_48 : decode cX2_blindTo 48 = .ok (.lload 4, 2) := by decide +kernel
theorem dX2_blindTo_50 : decode cX2_blindTo 50 = .ok (.lreturn, 1) := by decide +kernel
theorem dX2_onlyError_0 : decode cX2_onlyError 0 = .ok (.lload_n 0, 1) := by decide +kernel
theorem dX2_onlyError_1 : decode cX2_onlyError 1 = .ok (.iconst 0, 1) := by decide +kernel
theorem dX2_onlyError_2 : decode cX2_onlyError 2 = .ok (.invokestatic 22, 3) := by decide +kernel
theorem dX2_onlyError_5 : decode cX2_onlyError 5 = .ok (.istore_n 3, 1) := by decide +kernel
theorem dX2_onlyError_6 : decode cX2_onlyError 6 = .ok (.lload_n 0, 1) := by decide +kernel
theorem dX2_onlyError_7 : decode cX2_onlyError 7 = .ok (.iconst 1, 1) := by decide +kernel
theorem dX2_onlyError_8 : decode cX2_onlyError 8 = .ok (.invokestatic 22, 3) := by decide +kernel
theorem dX2_onlyError_11 : decode cX2_onlyError 11 = .ok (.istore 4, 2) := by decide +kernel
theorem dX2_onlyError_13 : decode cX2_onlyError 13 = .ok (.iload_n 2, 1) := by decide +kernel
theorem dX2_onlyError_14 : decode cX2_onlyError 14 = .ok (.iconst 2, 1) := by decide +kernel
theorem dX2_onlyError_15 : decode cX2_onlyError 15 = .ok (.if_icmp .lt 12, 3) := by decide +kernel
theorem dX2_onlyError_18 : decode cX2_onlyError 18 = .ok (.iload_n 3, 1) := by decide +kernel
theorem dX2_onlyError_19 : decode cX2_onlyError 19 = .ok (.ifCond .eq 8, 3) := by decide +kernel
theorem dX2_onlyError_22 : decode cX2_onlyError 22 = .ok (.iload 4, 2) := by decide +kernel
theorem dX2_onlyError_24 : decode cX2_onlyError 24 = .ok (.ifCond .ne 5, 3) := by decide +kernel
theorem dX2_onlyError_27 : decode cX2_onlyError 27 = .ok (.iconst (-1), 1) := by decide +kernel
theorem dX2_onlyError_28 : decode cX2_onlyError 28 = .ok (.ireturn, 1) := by decide +kernel
theorem dX2_onlyError_29 : decode cX2_onlyError 29 = .ok (.getstatic 15, 3) := by decide +kernel
theorem dX2_onlyError_32 : decode cX2_onlyError 32 = .ok (.iload 4, 2) := by decide +kernel
theorem dX2_onlyError_34 : decode cX2_onlyError 34 = .ok (.iaload, 1) := by decide +kernel
theorem dX2_onlyError_35 : decode cX2_onlyError 35 = .ok (.getstatic 15, 3) := by decide +kernel
theorem dX2_onlyError_38 : decode cX2_onlyError 38 = .ok (.iload_n 3, 1) := by decide +kernel
theorem dX2_onlyError_39 : decode cX2_onlyError 39 = .ok (.iaload, 1) := by decide +kernel
theorem dX2_onlyError_40 : decode cX2_onlyError 40 = .ok (.isub, 1) := by decide +kernel
theorem dX2_onlyError_41 : decode cX2_onlyError 41 = .ok (.bipush 15, 2) := by decide +kernel
theorem dX2_onlyError_43 : decode cX2_onlyError 43 = .ok (.iadd, 1) := by decide +kernel
theorem dX2_onlyError_44 : decode cX2_onlyError 44 = .ok (.bipush 15, 2) := by decide +kernel
theorem dX2_onlyError_46 : decode cX2_onlyError 46 = .ok (.irem, 1) := by decide +kernel
theorem dX2_onlyError_47 : decode cX2_onlyError 47 = .ok (.istore 5, 2) := by decide +kernel
theorem dX2_onlyError_49 : decode cX2_onlyError 49 = .ok (.iconst 1, 1) := by decide +kernel
theorem dX2_onlyError_50 : decode cX2_onlyError 50 = .ok (.istore 6, 2) := by decide +kernel
theorem dX2_onlyError_52 : decode cX2_onlyError 52 = .ok (.iload 6, 2) := by decide +kernel
theorem dX2_onlyError_54 : decode cX2_onlyError 54 = .ok (.iload_n 2, 1) := by decide +kernel
theorem dX2_onlyError_55 : decode cX2_onlyError 55 = .ok (.if_icmp .ge 33, 3) := by decide +kernel
theorem dX2_onlyError_58 : decode cX2_onlyError 58 = .ok (.lload_n 0, 1) := by decide +kernel
theorem dX2_onlyError_59 : decode cX2_onlyError 59 = .ok (.iload 6, 2) := by decide +kernel
theorem dX2_onlyError_61 : decode cX2_onlyError 61 = .ok (.iconst 1, 1) := by decide +kernel
theorem dX2_onlyError_62 : decode cX2_onlyError 62 = .ok (.isub, 1) := by decide +kernel
theorem dX2_onlyError_63 : decode cX2_onlyError 63 = .ok (.invokestatic 22, 3) := by decide +kernel
theorem dX2_onlyError_66 : decode cX2_onlyError 66 = .ok (.iload 5, 2) := by decide +kernel
theorem dX2_onlyError_68 : decode cX2_onlyError 68 = .ok (.invokestatic 18, 3) := by decide +kernel
theorem dX2_onlyError_71 : decode cX2_onlyError 71 = .ok (.lload_n 0, 1) := by decide +kernel
theorem dX2_onlyError_72 : decode cX2_onlyError 72 = .ok (.iload 6, 2) := by decide +kernel
theorem dX2_onlyError_74 : decode cX2_onlyError 74 = .ok (.invokestatic 22, 3) := by decide +kernel
theorem dX2_onlyError_77 : decode cX2_onlyError 77 = .ok (.if_icmp .eq 5, 3) := by decide +kernel
theorem dX2_onlyError_80 : decode cX2_onlyError 80 = .ok (.iconst (-1), 1) := by decide +kernel
theorem dX2_onlyError_81 : decode cX2_onlyError 81 = .ok (.ireturn, 1) := by decide +kernel
theorem dX2_onlyError_82 : decode cX2_onlyError 82 = .ok (.iinc 6 1, 3) := by decide +kernel
theorem dX2_onlyError_85 : decode cX2_onlyError 85 = .ok (.goto (-33), 3) := by decide +kernel
theorem dX2_onlyError_88 : decode cX2_onlyError 88 = .ok (.iload 5, 2) := by decide +kernel
theorem dX2_onlyError_90 : decode cX2_onlyError 90 = .ok (.ireturn, 1) := by decide +kernel
theorem dX2_errorAt_0 : decode cX2_errorAt 0 = .ok (.lload_n 2, 1) := by decide +kernel
theorem dX2_errorAt_1 : decode cX2_errorAt 1 = .ok (.lstore 4, 2) := by decide +kernel
theorem dX2_errorAt_3 : decode cX2_errorAt 3 = .ok (.iconst 4, 1) := by decide +kernel
theorem dX2_errorAt_4 : decode cX2_errorAt 4 = .ok (.istore 6, 2) := by decide +kernel
theorem dX2_errorAt_6 : decode cX2_errorAt 6 = .ok (.iconst 1, 1) := by decide +kernel
theorem dX2_errorAt_7 : decode cX2_errorAt 7 = .ok (.iload_n 0, 1) := by decide +kernel
theorem dX2_errorAt_8 : decode cX2_errorAt 8 = .ok (.invokestatic 18, 3) := by decide +kernel
theorem dX2_errorAt_11 : decode cX2_errorAt 11 = .ok (.istore 7, 2) := by decide +kernel
theorem dX2_errorAt_13 : decode cX2_errorAt 13 = .ok (.iload 7, 2) := by decide +kernel
theorem dX2_errorAt_15 : decode cX2_errorAt 15 = .ok (.istore 8, 2) := by decide +kernel
theorem dX2_errorAt_17 : decode cX2_errorAt 17 = .ok (.iconst 0, 1) := by decide +kernel
theorem dX2_errorAt_18 : decode cX2_errorAt 18 = .ok (.istore 9, 2) := by decide +kernel
theorem dX2_errorAt_20 : decode cX2_errorAt 20 = .ok (.iload 9, 2) := by decide +kernel
theorem dX2_errorAt_22 : decode cX2_errorAt 22 = .ok (.bipush 15, 2) := by decide +kernel
theorem dX2_errorAt_24 : decode cX2_errorAt 24 = .ok (.if_icmp .ge 54, 3) := by decide +kernel
theorem dX2_errorAt_27 : decode cX2_errorAt 27 = .ok (.iload 9, 2) := by decide +kernel
theorem dX2_errorAt_29 : decode cX2_errorAt 29 = .ok (.iload_n 0, 1) := by decide +kernel
theorem dX2_errorAt_30 : decode cX2_errorAt 30 = .ok (.if_icmp .eq 42, 3) := by decide +kernel
theorem dX2_errorAt_33 : decode cX2_errorAt 33 = .ok (.iload_n 1, 1) := by decide +kernel
theorem dX2_errorAt_34 : decode cX2_errorAt 34 = .ok (.iload 9, 2) := by decide +kernel
theorem dX2_errorAt_36 : decode cX2_errorAt 36 = .ok (.invokestatic 49, 3) := by decide +kernel
theorem dX2_errorAt_39 : decode cX2_errorAt 39 = .ok (.ifCond .eq 33, 3) := by decide +kernel
theorem dX2_errorAt_42 : decode cX2_errorAt 42 = .ok (.iload 9, 2) := by decide +kernel
theorem dX2_errorAt_44 : decode cX2_errorAt 44 = .ok (.lload 4, 2) := by decide +kernel
theorem dX2_errorAt_46 : decode cX2_errorAt 46 = .ok (.iload 6, 2) := by decide +kernel
theorem dX2_errorAt_48 : decode cX2_errorAt 48 = .ok (.invokestatic 57, 3) := by decide +kernel
theorem dX2_errorAt_51 : decode cX2_errorAt 51 = .ok (.lstore 4, 2) := by decide +kernel
theorem dX2_errorAt_53 : decode cX2_errorAt 53 = .ok (.iinc 6 (-1), 3) := by decide +kernel
theorem dX2_errorAt_56 : decode cX2_errorAt 56 = .ok (.iload 8, 2) := by decide +kernel
theorem dX2_errorAt_58 : decode cX2_errorAt 58 = .ok (.iload 7, 2) := by decide +kernel
theorem dX2_errorAt_60 : decode cX2_errorAt 60 = .ok (.iconst 1, 1) := by decide +kernel
theorem dX2_errorAt_61 : decode cX2_errorAt 61 = .ok (.iload 9, 2) := by decide +kernel
theorem dX2_errorAt_63 : decode cX2_errorAt 63 = .ok (.invokestatic 18, 3) := by decide +kernel
theorem dX2_errorAt_66 : decode cX2_errorAt 66 = .ok (.ixor, 1) := by decide +kernel
theorem dX2_errorAt_67 : decode cX2_errorAt 67 = .ok (.invokestatic 64, 3) := by decide +kernel
theorem dX2_errorAt_70 : decode cX2_errorAt 70 = .ok (.istore 8, 2) := by decide +kernel
theorem dX2_errorAt_72 : decode cX2_errorAt 72 = .ok (.iinc 9 1, 3) := by decide +kernel
theorem dX2_errorAt_75 : decode cX2_errorAt 75 = .ok (.goto (-55), 3) := by decide +kernel
theorem dX2_errorAt_78 : decode cX2_errorAt 78 = .ok (.lload 4, 2) := by decide +kernel
theorem dX2_errorAt_80 : decode cX2_errorAt 80 = .ok (.iconst 0, 1) := by decide +kernel
theorem dX2_errorAt_81 : decode cX2_errorAt 81 = .ok (.invokestatic 22, 3) := by decide +kernel
theorem dX2_errorAt_84 : decode cX2_errorAt 84 = .ok (.iload 8, 2) := by decide +kernel
theorem dX2_errorAt_86 : decode cX2_errorAt 86 = .ok (.invokestatic 67, 3) := by decide +kernel
theorem dX2_errorAt_89 : decode cX2_errorAt 89 = .ok (.ireturn, 1) := by decide +kernel
theorem dX3_init_0 : decode cX3_init 0 = .ok (.aload_n 0, 1) := by decide +kernel
theorem dX3_init_1 : decode cX3_init 1 = .ok (.invokespecial 3, 3) := by decide +kernel
theorem dX3_init_4 : decode cX3_init 4 = .ok (.aload_n 0, 1) := by decide +kernel
theorem dX3_init_5 : decode cX3_init 5 = .ok (.iconst (-1), 1) := by decide +kernel
theorem dX3_init_6 : decode cX3_init 6 = .ok (.putfield 9, 3) := by decide +kernel
theorem dX3_init_9 : decode cX3_init 9 = .ok (.aload_n 0, 1) := by decide +kernel
theorem dX3_init_10 : decode cX3_init 10 = .ok (.ldc2_w 15, 3) := by decide +kernel
theorem dX3_init_13 : decode cX3_init 13 = .ok (.putfield 17, 3) := by decide +kernel
theorem dX3_init_16 : decode cX3_init 16 = .ok (.aload_n 0, 1) := by decide +kernel
theorem dX3_init_17 : decode cX3_init 17 = .ok (.iconst 0, 1) := by decide +kernel
theorem dX3_init_18 : decode cX3_init 18 = .ok (.putfield 21, 3) := by decide +kernel
theorem dX3_init_21 : decode cX3_init 21 = .ok (.aload_n 0, 1) := by decide +kernel
theorem dX3_init_22 : decode cX3_init 22 = .ok (.iconst 0, 1) := by decide +kernel
theorem dX3_init_23 : decode cX3_init 23 = .ok (.putfield 25, 3) := by decide +kernel
theorem dX3_init_26 : decode cX3_init 26 = .ok (.aload_n 0, 1) := by decide +kernel
theorem dX3_init_27 : decode cX3_init 27 = .ok (.iload_n 1, 1) := by decide +kernel
theorem dX3_init_28 : decode cX3_init 28 = .ok (.putfield 28, 3) := by decide +kernel
theorem dX3_init_31 : decode cX3_init 31 = .ok (.return_, 1) := by decide +kernel
theorem dX4_init_0 : decode cX4_init 0 = .ok (.aload_n 0, 1) := by decide +kernel
theorem dX4_init_1 : decode cX4_init 1 = .ok (.invokespecial 3, 3) := by decide +kernel
theorem dX4_init_4 : decode cX4_init 4 = .ok (.aload_n 0, 1) := by decide +kernel
theorem dX4_init_5 : decode cX4_init 5 = .ok (.bipush 18, 2) := by decide +kernel
theorem dX4_init_7 : decode cX4_init 7 = .ok (.anewarray 9, 3) := by decide +kernel
theorem dX4_init_10 : decode cX4_init 10 = .ok (.putfield 11, 3) := by decide +kernel
theorem dX4_init_13 : decode cX4_init 13 = .ok (.aload_n 0, 1) := by decide +kernel
theorem dX4_init_14 : decode cX4_init 14 = .ok (.bipush 15, 2) := by decide +kernel
theorem dX4_init_16 : decode cX4_init 16 = .ok (.anewarray 9, 3) := by decide +kernel
theorem dX4_init_19 : decode cX4_init 19 = .ok (.putfield 17, 3) := by decide +kernel
theorem dX4_init_22 : decode cX4_init 22 = .ok (.aload_n 0, 1) := by decide +kernel
theorem dX4_init_23 : decode cX4_init 23 = .ok (.iconst 4, 1) := by decide +kernel
theorem dX4_init_24 : decode cX4_init 24 = .ok (.putfield 20, 3) := by decide +kernel
theorem dX4_init_27 : decode cX4_init 27 = .ok (.aload_n 0, 1) := by decide +kernel
theorem dX4_init_28 : decode cX4_init 28 = .ok (.iconst 0, 1) := by decide +kernel
theorem dX4_init_29 : decode cX4_init 29 = .ok (.putfield 24, 3) := by decide +kernel
theorem dX4_init_32 : decode cX4_init 32 = .ok (.aload_n 0, 1) := by decide +kernel
theorem dX4_init_33 : decode cX4_init 33 = .ok (.iconst 0, 1) := by decide +kernel
theorem dX4_init_34 : decode cX4_init 34 = .ok (.putfield 27, 3) := by decide +kernel
theorem dX4_init_37 : decode cX4_init 37 = .ok (.aload_n 0, 1) := by decide +kernel
theorem dX4_init_38 : decode cX4_init 38 = .ok (.iconst 0, 1) := by decide +kernel
theorem dX4_init_39 : decode cX4_init 39 = .ok (.putfield 30, 3) := by decide +kernel
theorem dX4_init_42 : decode cX4_init 42 = .ok (.aload_n 0, 1) := by decide +kernel
theorem dX4_init_43 : decode cX4_init 43 = .ok (.iconst 0, 1) := by decide +kernel
theorem dX4_init_44 : decode cX4_init 44 = .ok (.putfield 33, 3) := by decide +kernel
theorem dX4_init_47 : decode cX4_init 47 = .ok (.aload_n 0, 1) := by decide +kernel
theorem dX4_init_48 : decode cX4_init 48 = .ok (.bipush 15, 2) := by decide +kernel
theorem dX4_init_50 : decode cX4_init 50 = .ok (.putfield 36, 3) := by decide +kernel
theorem dX4_init_53 : decode cX4_init 53 = .ok (.iconst 0, 1) := by decide +kernel
theorem dX4_init_54 : decode cX4_init 54 = .ok (.istore_n 1, 1) := by decide +kernel
theorem dX4_init_55 : decode cX4_init 55 = .ok (.iload_n 1, 1) := by decide +kernel
theorem dX4_init_56 : decode cX4_init 56 = .ok (.bipush 18, 2) := by decide +kernel
theorem dX4_init_58 : decode cX4_init 58 = .ok (.if_icmp .ge 34, 3) := by decide +kernel
theorem dX4_init_61 : decode cX4_init 61 = .ok (.aload_n 0, 1) := by decide +kernel
theorem dX4_init_62 : decode cX4_init 62 = .ok (.getfield 11, 3) := by decide +kernel
theorem dX4_init_65 : decode cX4_init 65 = .ok (.iload_n 1, 1) := by decide +kernel
theorem dX4_init_66 : decode cX4_init 66 = .ok (.new 9, 3) := by decide +kernel
theorem dX4_init_69 : decode cX4_init 69 = .ok (.dup, 1) := by decide +kernel
theorem dX4_init_70 : decode cX4_init 70 = .ok (.iload_n 1, 1) := by decide +kernel
theorem dX4_init_71 : decode cX4_init 71 = .ok (.iload_n 1, 1) := by decide +kernel
theorem dX4_init_72 : decode cX4_init 72 = .ok (.bipush 15, 2) := by decide +kernel
theorem dX4_init_74 : decode cX4_init 74 = .ok (.if_icmp .ge 7, 3) := by decide +kernel
theorem dX4_init_77 : decode cX4_init 77 = .ok (.iload_n 1, 1) := by decide +kernel
theorem dX4_init_78 : decode cX4_init 78 = .ok (.goto 4, 3) := by decide +kernel
theorem dX4_init_81 : decode cX4_init 81 = .ok (.iconst (-1), 1) := by decide +kernel
theorem dX4_init_82 : decode cX4_init 82 = .ok (.invokespecial 39, 3) := by decide +kernel
theorem dX4_init_85 : decode cX4_init 85 = .ok (.aastore, 1) := by decide +kernel
theorem dX4_init_86 : decode cX4_init 86 = .ok (.iinc 1 1, 3) := by decide +kernel
theorem dX4_init_89 : decode cX4_init 89 = .ok (.goto (-34), 3) := by decide +kernel
theorem dX4_init_92 : decode cX4_init 92 = .ok (.iconst 0, 1) := by decide +kernel
theorem dX4_init_93 : decode cX4_init 93 = .ok (.istore_n 1, 1) := by decide +kernel
theorem dX4_init_94 : decode cX4_init 94 = .ok (.iload_n 1, 1) := by decide +kernel
theorem dX4_init_95 : decode cX4_init 95 = .ok (.bipush 15, 2) := by decide +kernel
theorem dX4_init_97 : decode cX4_init 97 = .ok (.if_icmp .ge 21, 3) := by decide +kernel
theorem dX4_init_100 : decode cX4_init 100 = .ok (.aload_n 0, 1) := by decide +kernel
theorem dX4_init_101 : decode cX4_init 101 = .ok (.getfield 17, 3) := by decide +kernel
theorem dX4_init_104 : decode cX4_init 104 = .ok (.iload_n 1, 1) := by decide +kernel
theorem dX4_init_105 : decode cX4_init 105 = .ok (.aload_n 0, 1) := by decide +kernel
theorem dX4_init_106 : decode cX4_init 106 = .ok (.getfield 11, 3) := by decide +kernel
theorem dX4_init_109 : decode cX4_init 109 = .ok (.iload_n 1, 1) := by decide +kernel
theorem dX4_init_110 : decode cX4_init 110 = .ok (.aaload, 1) := by decide +kernel
theorem dX4_init_111 : decode cX4_init 111 = .ok (.aastore, 1) := by decide +kernel
theorem dX4_init_112 : decode cX4_init 112 = .ok (.iinc 1 1, 3) := by decide +kernel
theorem dX4_init_115 : decode cX4_init 115 = .ok (.goto (-21), 3) := by decide +kernel
theorem dX4_init_118 : decode cX4_init 118 = .ok (.return_, 1) := by decide +kernel
theorem dX4_readWord_0 : decode cX4_readWord 0 = .ok (.lconst 0, 1) := by decide +kernel
theorem dX4_readWord_1 : decode cX4_readWord 1 = .ok (.lstore_n 2, 1) := by decide +kernel
theorem dX4_readWord_2 : decode cX4_readWord 2 = .ok (.iconst 0, 1) := by decide +kernel
theorem dX4_readWord_3 : decode cX4_readWord 3 = .ok (.istore 4, 2) := by decide +kernel
theorem dX4_readWord_5 : decode cX4_readWord 5 = .ok (.iload 4, 2) := by decide +kernel
theorem dX4_readWord_7 : decode cX4_readWord 7 = .ok (.bipush 15, 2) := by decide +kernel
theorem dX4_readWord_9 : decode cX4_readWord 9 = .ok (.if_icmp .ge 27, 3) := by decide +kernel
theorem dX4_readWord_12 : decode cX4_readWord 12 = .ok (.lload_n 2, 1) := by decide +kernel
theorem dX4_readWord_13 : decode cX4_readWord 13 = .ok (.iload 4, 2) := by decide +kernel
theorem dX4_readWord_15 : decode cX4_readWord 15 = .ok (.aload_n 0, 1) := by decide +kernel
theorem dX4_readWord_16 : decode cX4_readWord 16 = .ok (.getfield 17, 3) := by decide +kernel
theorem dX4_readWord_19 : decode cX4_readWord 19 = .ok (.iload 4, 2) := by decide +kernel
theorem dX4_readWord_21 : decode cX4_readWord 21 = .ok (.aaload, 1) := by decide +kernel
theorem dX4_readWord_22 : decode cX4_readWord 22 = .ok (.iload_n 1, 1) := by decide +kernel
theorem dX4_readWord_23 : decode cX4_readWord 23 = .ok (.invokevirtual 42, 3) := by decide +kernel
theorem dX4_readWord_26 : decode cX4_readWord 26 = .ok (.invokestatic 46, 3) := by decide +kernel
theorem dX4_readWord_29 : decode cX4_readWord 29 = .ok (.lstore_n 2, 1) := by decide +kernel
theorem dX4_readWord_30 : decode cX4_readWord 30 = .ok (.iinc 4 1, 3) := by decide +kernel
theorem dX4_readWord_33 : decode cX4_readWord 33 = .ok (.goto (-28), 3) := by decide +kernel
theorem dX4_readWord_36 : decode cX4_readWord 36 = .ok (.lload_n 2, 1) := by decide +kernel
theorem dX4_readWord_37 : decode cX4_readWord 37 = .ok (.lreturn, 1) := by decide +kernel
theorem dX4_writeWord_0 : decode cX4_writeWord 0 = .ok (.iconst 0, 1) := by decide +kernel
theorem dX4_writeWord_1 : decode cX4_writeWord 1 = .ok (.istore 4, 2) := by decide +kernel
theorem dX4_writeWord_3 : decode cX4_writeWord 3 = .ok (.iload 4, 2) := by decide +kernel
theorem dX4_writeWord_5 : decode cX4_writeWord 5 = .ok (.bipush 15, 2) := by decide +kernel
theorem dX4_writeWord_7 : decode cX4_writeWord 7 = .ok (.if_icmp .ge 26, 3) := by decide +kernel
theorem dX4_writeWord_10 : decode cX4_writeWord 10 = .ok (.aload_n 0, 1) := by decide +kernel
theorem dX4_writeWord_11 : decode cX4_writeWord 11 = .ok (.getfield 17, 3) := by decide +kernel
theorem dX4_writeWord_14 : decode cX4_writeWord 14 = .ok (.iload 4, 2) := by decide +kernel
theorem dX4_writeWord_16 : decode cX4_writeWord 16 = .ok (.aaload, 1) := by decide +kernel
theorem dX4_writeWord_17 : decode cX4_writeWord 17 = .ok (.iload_n 1, 1) := by decide +kernel
theorem dX4_writeWord_18 : decode cX4_writeWord 18 = .ok (.lload_n 2, 1) := by decide +kernel
theorem dX4_writeWord_19 : decode cX4_writeWord 19 = .ok (.iload 4, 2) := by decide +kernel
theorem dX4_writeWord_21 : decode cX4_writeWord 21 = .ok (.invokestatic 50, 3) := by decide +kernel
theorem dX4_writeWord_24 : decode cX4_writeWord 24 = .ok (.invokevirtual 54, 3) := by decide +kernel
theorem dX4_writeWord_27 : decode cX4_writeWord 27 = .ok (.iinc 4 1, 3) := by decide +kernel
theorem dX4_writeWord_30 : decode cX4_writeWord 30 = .ok (.goto (-27), 3) := by decide +kernel
theorem dX4_writeWord_33 : decode cX4_writeWord 33 = .ok (.return_, 1) := by decide +kernel
theorem dX4_erasedPlaces_0 : decode cX4_erasedPlaces 0 = .ok (.iconst 0, 1) := by decide +kernel
theorem dX4_erasedPlaces_1 : decode cX4_erasedPlaces 1 = .ok (.istore_n 1, 1) := by decide +kernel
theorem dX4_erasedPlaces_2 : decode cX4_erasedPlaces 2 = .ok (.iconst 0, 1) := by decide +kernel
theorem dX4_erasedPlaces_3 : decode cX4_erasedPlaces 3 = .ok (.istore_n 2, 1) := by decide +kernel
theorem dX4_erasedPlaces_4 : decode cX4_erasedPlaces 4 = .ok (.iload_n 2, 1) := by decide +kernel
theorem dX4_erasedPlaces_5 : decode cX4_erasedPlaces 5 = .ok (.bipush 15, 2) := by decide +kernel
theorem dX4_erasedPlaces_7 : decode cX4_erasedPlaces 7 = .ok (.if_icmp .ge 27, 3) := by decide +kernel
theorem dX4_erasedPlaces_10 : decode cX4_erasedPlaces 10 = .ok (.aload_n 0, 1) := by decide +kernel
theorem dX4_erasedPlaces_11 : decode cX4_erasedPlaces 11 = .ok (.getfield 17, 3) := by decide +kernel
theorem dX4_erasedPlaces_14 : decode cX4_erasedPlaces 14 = .ok (.iload_n 2, 1) := by decide +kernel
theorem dX4_erasedPlaces_15 : decode cX4_erasedPlaces 15 = .ok (.aaload, 1) := by decide +kernel
theorem dX4_erasedPlaces_16 : decode cX4_erasedPlaces 16 = .ok (.getfield 57, 3) := by decide +kernel
theorem dX4_erasedPlaces_19 : decode cX4_erasedPlaces 19 = .ok (.ifCond .eq 9, 3) := by decide +kernel
theorem dX4_erasedPlaces_22 : decode cX4_erasedPlaces 22 = .ok (.iload_n 1, 1) := by decide +kernel
theorem dX4_erasedPlaces_23 : decode cX4_erasedPlaces 23 = .ok (.iconst 1, 1) := by decide +kernel
theorem dX4_erasedPlaces_24 : decode cX4_erasedPlaces 24 = .ok (.iload_n 2, 1) := by decide +kernel
theorem dX4_erasedPlaces_25 : decode cX4_erasedPlaces 25 = .ok (.ishl, 1) := by decide +kernel
theorem dX4_erasedPlaces_26 : decode cX4_erasedPlaces 26 = .ok (.ior, 1) := by decide +kernel
theorem dX4_erasedPlaces_27 : decode cX4_erasedPlaces 27 = .ok (.istore_n 1, 1) := by decide +kernel
theorem dX4_erasedPlaces_28 : decode cX4_erasedPlaces 28 = .ok (.iinc 2 1, 3) := by decide +kernel
theorem dX4_erasedPlaces_31 : decode cX4_erasedPlaces 31 = .ok (.goto (-27), 3) := by decide +kernel
theorem dX4_erasedPlaces_34 : decode cX4_erasedPlaces 34 = .ok (.iload_n 1, 1) := by decide +kernel
theorem dX4_erasedPlaces_35 : decode cX4_erasedPlaces 35 = .ok (.ireturn, 1) := by decide +kernel
theorem dX4_wordMendedTo_0 : decode cX4_wordMendedTo 0 = .ok (.aload_n 0, 1) := by decide +kernel
theorem dX4_wordMendedTo_1 : decode cX4_wordMendedTo 1 = .ok (.iload_n 1, 1) := by decide +kernel
theorem dX4_wordMendedTo_2 : decode cX4_wordMendedTo 2 = .ok (.invokevirtual 61, 3) := by decide +kernel
theorem dX4_wordMendedTo_5 : decode cX4_wordMendedTo 5 = .ok (.aload_n 0, 1) := by decide +kernel
theorem dX4_wordMendedTo_6 : decode cX4_wordMendedTo 6 = .ok (.invokevirtual 65, 3) := by decide +kernel
theorem dX4_wordMendedTo_9 : decode cX4_wordMendedTo 9 = .ok (.invokestatic 69, 3) := by decide +kernel
theorem dX4_wordMendedTo_12 : decode cX4_wordMendedTo 12 = .ok (.lreturn, 1) := by decide +kernel
theorem dX4_badLines_0 : decode cX4_badLines 0 = .ok (.aload_n 0, 1) := by decide +kernel
theorem dX4_badLines_1 : decode cX4_badLines 1 = .ok (.invokevirtual 65, 3) := by decide +kernel
theorem dX4_badLines_4 : decode cX4_badLines 4 = .ok (.istore_n 1, 1) := by decide +kernel
theorem dX4_badLines_5 : decode cX4_badLines 5 = .ok (.iconst 0, 1) := by decide +kernel
theorem dX4_badLines_6 : decode cX4_badLines 6 = .ok (.istore_n 2, 1) := by decide +kernel
theorem dX4_badLines_7 : decode cX4_badLines 7 = .ok (.iconst 0, 1) := by decide +kernel
theorem dX4_badLines_8 : decode cX4_badLines 8 = .ok (.istore_n 3, 1) := by decide +kernel
theorem dX4_badLines_9 : decode cX4_badLines 9 = .ok (.iload_n 3, 1) := by decide +kernel
theorem dX4_badLines_10 : decode cX4_badLines 10 = .ok (.bipush 16, 2) := by decide +kernel
theorem dX4_badLines_12 : decode cX4_badLines 12 = .ok (.if_icmp .ge 28, 3) := by decide +kernel
theorem dX4_badLines_15 : decode cX4_badLines 15 = .ok (.aload_n 0, 1) := by decide +kernel
theorem dX4_badLines_16 : decode cX4_badLines 16 = .ok (.iload_n 3, 1) := by decide +kernel
theorem dX4_badLines_17 : decode cX4_badLines 17 = .ok (.invokevirtual 61, 3) := by decide +kernel
theorem dX4_badLines_20 : decode cX4_badLines 20 = .ok (.iload_n 1, 1) := by decide +kernel
theorem dX4_badLines_21 : decode cX4_badLines 21 = .ok (.invokestatic 69, 3) := by decide +kernel
theorem dX4_badLines_24 : decode cX4_badLines 24 = .ok (.ldc2_w 75, 3) := by decide +kernel
theorem dX4_badLines_27 : decode cX4_badLines 27 = .ok (.lcmp, 1) := by decide +kernel
theorem dX4_badLines_28 : decode cX4_badLines 28 = .ok (.ifCond .ne 6, 3) := by decide +kernel
theorem dX4_badLines_31 : decode cX4_badLines 31 = .ok (.iinc 2 1, 3) := by decide +kernel
theorem dX4_badLines_34 : decode cX4_badLines 34 = .ok (.iinc 3 1, 3) := by decide +kernel
theorem dX4_badLines_37 : decode cX4_badLines 37 = .ok (.goto (-28), 3) := by decide +kernel
theorem dX4_badLines_40 : decode cX4_badLines 40 = .ok (.iload_n 2, 1) := by decide +kernel
theorem dX4_badLines_41 : decode cX4_badLines 41 = .ok (.ireturn, 1) := by decide +kernel
theorem dX4_fetchLine_0 : decode cX4_fetchLine 0 = .ok (.aload_n 0, 1) := by decide +kernel
theorem dX4_fetchLine_1 : decode cX4_fetchLine 1 = .ok (.iload_n 1, 1) := by decide +kernel
theorem dX4_fetchLine_2 : decode cX4_fetchLine 2 = .ok (.invokevirtual 61, 3) := by decide +kernel
theorem dX4_fetchLine_5 : decode cX4_fetchLine 5 = .ok (.lstore_n 2, 1) := by decide +kernel
theorem dX4_fetchLine_6 : decode cX4_fetchLine 6 = .ok (.lload_n 2, 1) := by decide +kernel
theorem dX4_fetchLine_7 : decode cX4_fetchLine 7 = .ok (.aload_n 0, 1) := by decide +kernel
theorem dX4_fetchLine_8 : decode cX4_fetchLine 8 = .ok (.invokevirtual 65, 3) := by decide +kernel
theorem dX4_fetchLine_11 : decode cX4_fetchLine 11 = .ok (.invokestatic 69, 3) := by decide +kernel
theorem dX4_fetchLine_14 : decode cX4_fetchLine 14 = .ok (.lstore 4, 2) := by decide +kernel
theorem dX4_fetchLine_16 : decode cX4_fetchLine 16 = .ok (.aload_n 0, 1) := by decide +kernel
theorem dX4_fetchLine_17 : decode cX4_fetchLine 17 = .ok (.dup, 1) := by decide +kernel
theorem dX4_fetchLine_18 : decode cX4_fetchLine 18 = .ok (.getfield 27, 3) := by decide +kernel
theorem dX4_fetchLine_21 : decode cX4_fetchLine 21 = .ok (.iconst 1, 1) := by decide +kernel
theorem dX4_fetchLine_22 : decode cX4_fetchLine 22 = .ok (.iadd, 1) := by decide +kernel
theorem dX4_fetchLine_23 : decode cX4_fetchLine 23 = .ok (.putfield 27, 3) := by decide +kernel
theorem dX4_fetchLine_26 : decode cX4_fetchLine 26 = .ok (.lload 4, 2) := by decide +kernel
theorem dX4_fetchLine_28 : decode cX4_fetchLine 28 = .ok (.ldc2_w 75, 3) := by decide +kernel
theorem dX4_fetchLine_31 : decode cX4_fetchLine 31 = .ok (.lcmp, 1) := by decide +kernel
theorem dX4_fetchLine_32 : decode cX4_fetchLine 32 = .ok (.ifCond .ne 16, 3) := by decide +kernel
theorem dX4_fetchLine_35 : decode cX4_fetchLine 35 = .ok (.aload_n 0, 1) := by decide +kernel
theorem dX4_fetchLine_36 : decode cX4_fetchLine 36 = .ok (.dup, 1) := by decide +kernel
theorem dX4_fetchLine_37 : decode cX4_fetchLine 37 = .ok (.getfield 30, 3) := by decide +kernel
theorem dX4_fetchLine_40 : decode cX4_fetchLine 40 = .ok (.iconst 1, 1) := by decide +kernel
theorem dX4_fetchLine_41 : decode cX4_fetchLine 41 = .ok (.iadd, 1) := by decide +kernel
theorem dX4_fetchLine_42 : decode cX4_fetchLine 42 = .ok (.putfield 30, 3) := by decide +kernel
theorem dX4_fetchLine_45 : decode cX4_fetchLine 45 = .ok (.goto 28, 3) := by decide +kernel
theorem dX4_fetchLine_48 : decode cX4_fetchLine 48 = .ok (.lload 4, 2) := by decide +kernel
theorem dX4_fetchLine_50 : decode cX4_fetchLine 50 = .ok (.lload_n 2, 1) := by decide +kernel
theorem dX4_fetchLine_51 : decode cX4_fetchLine 51 = .ok (.lcmp, 1) := by decide +kernel
theorem dX4_fetchLine_52 : decode cX4_fetchLine 52 = .ok (.ifCond .eq 21, 3) := by decide +kernel
theorem dX4_fetchLine_55 : decode cX4_fetchLine 55 = .ok (.aload_n 0, 1) := by decide +kernel
theorem dX4_fetchLine_56 : decode cX4_fetchLine 56 = .ok (.lload_n 2, 1) := by decide +kernel
theorem dX4_fetchLine_57 : decode cX4_fetchLine 57 = .ok (.lload 4, 2) := by decide +kernel
theorem dX4_fetchLine_59 : decode cX4_fetchLine 59 = .ok (.lxor, 1) := by decide +kernel
theorem dX4_fetchLine_60 : decode cX4_fetchLine 60 = .ok (.invokestatic 77, 3) := by decide +kernel
theorem dX4_fetchLine_63 : decode cX4_fetchLine 63 = .ok (.invokevirtual 81, 3) := by decide +kernel
theorem dX4_fetchLine_66 : decode cX4_fetchLine 66 = .ok (.aload_n 0, 1) := by decide +kernel
theorem dX4_fetchLine_67 : decode cX4_fetchLine 67 = .ok (.iload_n 1, 1) := by decide +kernel
theorem dX4_fetchLine_68 : decode cX4_fetchLine 68 = .ok (.lload 4, 2) := by decide +kernel
theorem dX4_fetchLine_70 : decode cX4_fetchLine 70 = .ok (.invokevirtual 85, 3) := by decide +kernel
theorem dX4_fetchLine_73 : decode cX4_fetchLine 73 = .ok (.aload_n 0, 1) := by decide +kernel
theorem dX4_fetchLine_74 : decode cX4_fetchLine 74 = .ok (.invokevirtual 89, 3) := by decide +kernel
theorem dX4_fetchLine_77 : decode cX4_fetchLine 77 = .ok (.lload 4, 2) := by decide +kernel
theorem dX4_fetchLine_79 : decode cX4_fetchLine 79 = .ok (.lreturn, 1) := by decide +kernel
theorem dX4_countMended_0 : decode cX4_countMended 0 = .ok (.aload_n 0, 1) := by decide +kernel
theorem dX4_countMended_1 : decode cX4_countMended 1 = .ok (.dup, 1) := by decide +kernel
theorem dX4_countMended_2 : decode cX4_countMended 2 = .ok (.getfield 33, 3) := by decide +kernel
theorem dX4_countMended_5 : decode cX4_countMended 5 = .ok (.iload_n 1, 1) := by decide +kernel
theorem dX4_countMended_6 : decode cX4_countMended 6 = .ok (.invokestatic 92, 3) := by decide +kernel
theorem dX4_countMended_9 : decode cX4_countMended 9 = .ok (.iadd, 1) := by decide +kernel
theorem dX4_countMended_10 : decode cX4_countMended 10 = .ok (.putfield 33, 3) := by decide +kernel
theorem dX4_countMended_13 : decode cX4_countMended 13 = .ok (.iconst 0, 1) := by decide +kernel
theorem dX4_countMended_14 : decode cX4_countMended 14 = .ok (.istore_n 2, 1) := by decide +kernel
theorem dX4_countMended_15 : decode cX4_countMended 15 = .ok (.iload_n 2, 1) := by decide +kernel
theorem dX4_countMended_16 : decode cX4_countMended 16 = .ok (.bipush 15, 2) := by decide +kernel
theorem dX4_countMended_18 : decode cX4_countMended 18 = .ok (.if_icmp .ge 44, 3) := by decide +kernel
theorem dX4_countMended_21 : decode cX4_countMended 21 = .ok (.iload_n 1, 1) := by decide +kernel
theorem dX4_countMended_22 : decode cX4_countMended 22 = .ok (.iload_n 2, 1) := by decide +kernel
theorem dX4_countMended_23 : decode cX4_countMended 23 = .ok (.invokestatic 97, 3) := by decide +kernel
theorem dX4_countMended_26 : decode cX4_countMended 26 = .ok (.ifCond .eq 30, 3) := by decide +kernel
theorem dX4_countMended_29 : decode cX4_countMended 29 = .ok (.aload_n 0, 1) := by decide +kernel
theorem dX4_countMended_30 : decode cX4_countMended 30 = .ok (.getfield 17, 3) := by decide +kernel
theorem dX4_countMended_33 : decode cX4_countMended 33 = .ok (.iload_n 2, 1) := by decide +kernel
theorem dX4_countMended_34 : decode cX4_countMended 34 = .ok (.aaload, 1) := by decide +kernel
theorem dX4_countMended_35 : decode cX4_countMended 35 = .ok (.getfield 57, 3) := by decide +kernel
theorem dX4_countMended_38 : decode cX4_countMended 38 = .ok (.ifCond .ne 18, 3) := by decide +kernel
theorem dX4_countMended_41 : decode cX4_countMended 41 = .ok (.aload_n 0, 1) := by decide +kernel
theorem dX4_countMended_42 : decode cX4_countMended 42 = .ok (.getfield 17, 3) := by decide +kernel
theorem dX4_countMended_45 : decode cX4_countMended 45 = .ok (.iload_n 2, 1) := by decide +kernel
theorem dX4_countMended_46 : decode cX4_countMended 46 = .ok (.aaload, 1) := by decide +kernel
theorem dX4_countMended_47 : decode cX4_countMended 47 = .ok (.dup, 1) := by decide +kernel
theorem dX4_countMended_48 : decode cX4_countMended 48 = .ok (.getfield 101, 3) := by decide +kernel
theorem dX4_countMended_51 : decode cX4_countMended 51 = .ok (.iconst 1, 1) := by decide +kernel
theorem dX4_countMended_52 : decode cX4_countMended 52 = .ok (.iadd, 1) := by decide +kernel
theorem dX4_countMended_53 : decode cX4_countMended 53 = .ok (.putfield 101, 3) := by decide +kernel
theorem dX4_countMended_56 : decode cX4_countMended 56 = .ok (.iinc 2 1, 3) := by decide +kernel
theorem dX4_countMended_59 : decode cX4_countMended 59 = .ok (.goto (-44), 3) := by decide +kernel
theorem dX4_countMended_62 : decode cX4_countMended 62 = .ok (.return_, 1) := by decide +kernel
theorem dX4_eraseBlamed_0 : decode cX4_eraseBlamed 0 = .ok (.aload_n 0, 1) := by decide +kernel
theorem dX4_eraseBlamed_1 : decode cX4_eraseBlamed 1 = .ok (.invokevirtual 65, 3) := by decide +kernel
theorem dX4_eraseBlamed_4 : decode cX4_eraseBlamed 4 = .ok (.invokestatic 92, 3) := by decide +kernel
theorem dX4_eraseBlamed_7 : decode cX4_eraseBlamed 7 = .ok (.istore_n 1, 1) := by decide +kernel
theorem dX4_eraseBlamed_8 : decode cX4_eraseBlamed 8 = .ok (.iconst 0, 1) := by decide +kernel
theorem dX4_eraseBlamed_9 : decode cX4_eraseBlamed 9 = .ok (.istore_n 2, 1) := by decide +kernel
theorem dX4_eraseBlamed_10 : decode cX4_eraseBlamed 10 = .ok (.iload_n 2, 1) := by decide +kernel
theorem dX4_eraseBlamed_11 : decode cX4_eraseBlamed 11 = .ok (.bipush 15, 2) := by decide +kernel
theorem dX4_eraseBlamed_13 : decode cX4_eraseBlamed 13 = .ok (.if_icmp .ge 47, 3) := by decide +kernel
theorem dX4_eraseBlamed_16 : decode cX4_eraseBlamed 16 = .ok (.iload_n 1, 1) := by decide +kernel
theorem dX4_eraseBlamed_17 : decode cX4_eraseBlamed 17 = .ok (.iconst 4, 1) := by decide +kernel
theorem dX4_eraseBlamed_18 : decode cX4_eraseBlamed 18 = .ok (.if_icmp .ge 42, 3) := by decide +kernel
theorem dX4_eraseBlamed_21 : decode cX4_eraseBlamed 21 = .ok (.aload_n 0, 1) := by decide +kernel
theorem dX4_eraseBlamed_22 : decode cX4_eraseBlamed 22 = .ok (.getfield 17, 3) := by decide +kernel
theorem dX4_eraseBlamed_25 : decode cX4_eraseBlamed 25 = .ok (.iload_n 2, 1) := by decide +kernel
theorem dX4_eraseBlamed_26 : decode cX4_eraseBlamed 26 = .ok (.aaload, 1) := by decide +kernel
theorem dX4_eraseBlamed_27 : decode cX4_eraseBlamed 27 = .ok (.astore_n 3, 1) := by decide +kernel
theorem dX4_eraseBlamed_28 : decode cX4_eraseBlamed 28 = .ok (.aload_n 3, 1) := by decide +kernel
theorem dX4_eraseBlamed_29 : decode cX4_eraseBlamed 29 = .ok (.getfield 101, 3) := by decide +kernel
theorem dX4_eraseBlamed_32 : decode cX4_eraseBlamed 32 = .ok (.aload_n 0, 1) := by decide +kernel
theorem dX4_eraseBlamed_33 : decode cX4_eraseBlamed 33 = .ok (.getfield 20, 3) := by decide +kernel
theorem dX4_eraseBlamed_36 : decode cX4_eraseBlamed 36 = .ok (.if_icmp .lt 18, 3) := by decide +kernel
theorem dX4_eraseBlamed_39 : decode cX4_eraseBlamed 39 = .ok (.aload_n 3, 1) := by decide +kernel
theorem dX4_eraseBlamed_40 : decode cX4_eraseBlamed 40 = .ok (.getfield 57, 3) := by decide +kernel
theorem dX4_eraseBlamed_43 : decode cX4_eraseBlamed 43 = .ok (.ifCond .ne 11, 3) := by decide +kernel
theorem dX4_eraseBlamed_46 : decode cX4_eraseBlamed 46 = .ok (.aload_n 3, 1) := by decide +kernel
theorem dX4_eraseBlamed_47 : decode cX4_eraseBlamed 47 = .ok (.iconst 1, 1) := by decide +kernel
theorem dX4_eraseBlamed_48 : decode cX4_eraseBlamed 48 = .ok (.putfield 57, 3) := by decide +kernel
theorem dX4_eraseBlamed_51 : decode cX4_eraseBlamed 51 = .ok (.iinc 1 1, 3) := by decide +kernel
theorem dX4_eraseBlamed_54 : decode cX4_eraseBlamed 54 = .ok (.iinc 2 1, 3) := by decide +kernel
theorem dX4_eraseBlamed_57 : decode cX4_eraseBlamed 57 = .ok (.goto (-47), 3) := by decide +kernel
theorem dX4_eraseBlamed_60 : decode cX4_eraseBlamed 60 = .ok (.return_, 1) := by decide +kernel
theorem dX4_stepPatrol_0 : decode cX4_stepPatrol 0 = .ok (.aload_n 0, 1) := by decide +kernel
theorem dX4_stepPatrol_1 : decode cX4_stepPatrol 1 = .ok (.getfield 24, 3) := by decide +kernel
theorem dX4_stepPatrol_4 : decode cX4_stepPatrol 4 = .ok (.istore_n 1, 1) := by decide +kernel
theorem dX4_stepPatrol_5 : decode cX4_stepPatrol 5 = .ok (.aload_n 0, 1) := by decide +kernel
theorem dX4_stepPatrol_6 : decode cX4_stepPatrol 6 = .ok (.iload_n 1, 1) := by decide +kernel
theorem dX4_stepPatrol_7 : decode cX4_stepPatrol 7 = .ok (.iconst 1, 1) := by decide +kernel
theorem dX4_stepPatrol_8 : decode cX4_stepPatrol 8 = .ok (.iadd, 1) := by decide +kernel
theorem dX4_stepPatrol_9 : decode cX4_stepPatrol 9 = .ok (.bipush 16, 2) := by decide +kernel
theorem dX4_stepPatrol_11 : decode cX4_stepPatrol 11 = .ok (.irem, 1) := by decide +kernel
theorem dX4_stepPatrol_12 : decode cX4_stepPatrol 12 = .ok (.putfield 24, 3) := by decide +kernel
theorem dX4_stepPatrol_15 : decode cX4_stepPatrol 15 = .ok (.aload_n 0, 1) := by decide +kernel
theorem dX4_stepPatrol_16 : decode cX4_stepPatrol 16 = .ok (.iload_n 1, 1) := by decide +kernel
theorem dX4_stepPatrol_17 : decode cX4_stepPatrol 17 = .ok (.invokevirtual 104, 3) := by decide +kernel
theorem dX4_stepPatrol_20 : decode cX4_stepPatrol 20 = .ok (.lreturn, 1) := by decide +kernel
theorem dX4_sparesLeft_0 : decode cX4_sparesLeft 0 = .ok (.bipush 18, 2) := by decide +kernel
theorem dX4_sparesLeft_2 : decode cX4_sparesLeft 2 = .ok (.aload_n 0, 1) := by decide +kernel
theorem dX4_sparesLeft_3 : decode cX4_sparesLeft 3 = .ok (.getfield 36, 3) := by decide +kernel
theorem dX4_sparesLeft_6 : decode cX4_sparesLeft 6 = .ok (.isub, 1) := by decide +kernel
theorem dX4_sparesLeft_7 : decode cX4_sparesLeft 7 = .ok (.ireturn, 1) := by decide +kernel
theorem dX4_chipsOut_0 : decode cX4_chipsOut 0 = .ok (.iconst 0, 1) := by decide +kernel
theorem dX4_chipsOut_1 : decode cX4_chipsOut 1 = .ok (.istore_n 1, 1) := by decide +kernel
theorem dX4_chipsOut_2 : decode cX4_chipsOut 2 = .ok (.iconst 0, 1) := by decide +kernel
theorem dX4_chipsOut_3 : decode cX4_chipsOut 3 = .ok (.istore_n 2, 1) := by decide +kernel
theorem dX4_chipsOut_4 : decode cX4_chipsOut 4 = .ok (.iload_n 2, 1) := by decide +kernel
theorem dX4_chipsOut_5 : decode cX4_chipsOut 5 = .ok (.bipush 18, 2) := by decide +kernel
theorem dX4_chipsOut_7 : decode cX4_chipsOut 7 = .ok (.if_icmp .ge 24, 3) := by decide +kernel
theorem dX4_chipsOut_10 : decode cX4_chipsOut 10 = .ok (.aload_n 0, 1) := by decide +kernel
theorem dX4_chipsOut_11 : decode cX4_chipsOut 11 = .ok (.getfield 11, 3) := by decide +kernel
theorem dX4_chipsOut_14 : decode cX4_chipsOut 14 = .ok (.iload_n 2, 1) := by decide +kernel
theorem dX4_chipsOut_15 : decode cX4_chipsOut 15 = .ok (.aaload, 1) := by decide +kernel
theorem dX4_chipsOut_16 : decode cX4_chipsOut 16 = .ok (.getfield 107, 3) := by decide +kernel
theorem dX4_chipsOut_19 : decode cX4_chipsOut 19 = .ok (.ifCond .eq 6, 3) := by decide +kernel
theorem dX4_chipsOut_22 : decode cX4_chipsOut 22 = .ok (.iinc 1 1, 3) := by decide +kernel
theorem dX4_chipsOut_25 : decode cX4_chipsOut 25 = .ok (.iinc 2 1, 3) := by decide +kernel
theorem dX4_chipsOut_28 : decode cX4_chipsOut 28 = .ok (.goto (-24), 3) := by decide +kernel
theorem dX4_chipsOut_31 : decode cX4_chipsOut 31 = .ok (.iload_n 1, 1) := by decide +kernel
theorem dX4_chipsOut_32 : decode cX4_chipsOut 32 = .ok (.ireturn, 1) := by decide +kernel
theorem dX4_replaceAt_0 : decode cX4_replaceAt 0 = .ok (.aload_n 0, 1) := by decide +kernel
theorem dX4_replaceAt_1 : decode cX4_replaceAt 1 = .ok (.getfield 36, 3) := by decide +kernel
theorem dX4_replaceAt_4 : decode cX4_replaceAt 4 = .ok (.bipush 18, 2) := by decide +kernel
theorem dX4_replaceAt_6 : decode cX4_replaceAt 6 = .ok (.if_icmp .lt 4, 3) := by decide +kernel
theorem dX4_replaceAt_9 : decode cX4_replaceAt 9 = .ok (.return_, 1) := by decide +kernel
theorem dX4_replaceAt_10 : decode cX4_replaceAt 10 = .ok (.aload_n 0, 1) := by decide +kernel
theorem dX4_replaceAt_11 : decode cX4_replaceAt 11 = .ok (.getfield 11, 3) := by decide +kernel
theorem dX4_replaceAt_14 : decode cX4_replaceAt 14 = .ok (.aload_n 0, 1) := by decide +kernel
theorem dX4_replaceAt_15 : decode cX4_replaceAt 15 = .ok (.getfield 36, 3) := by decide +kernel
theorem dX4_replaceAt_18 : decode cX4_replaceAt 18 = .ok (.aaload, 1) := by decide +kernel
theorem dX4_replaceAt_19 : decode cX4_replaceAt 19 = .ok (.astore_n 2, 1) := by decide +kernel
theorem dX4_replaceAt_20 : decode cX4_replaceAt 20 = .ok (.aload_n 0, 1) := by decide +kernel
theorem dX4_replaceAt_21 : decode cX4_replaceAt 21 = .ok (.dup, 1) := by decide +kernel
theorem dX4_replaceAt_22 : decode cX4_replaceAt 22 = .ok (.getfield 36, 3) := by decide +kernel
theorem dX4_replaceAt_25 : decode cX4_replaceAt 25 = .ok (.iconst 1, 1) := by decide +kernel
theorem dX4_replaceAt_26 : decode cX4_replaceAt 26 = .ok (.iadd, 1) := by decide +kernel
theorem dX4_replaceAt_27 : decode cX4_replaceAt 27 = .ok (.putfield 36, 3) := by decide +kernel
theorem dX4_replaceAt_30 : decode cX4_replaceAt 30 = .ok (.aload_n 0, 1) := by decide +kernel
theorem dX4_replaceAt_31 : decode cX4_replaceAt 31 = .ok (.iload_n 1, 1) := by decide +kernel
theorem dX4_replaceAt_32 : decode cX4_replaceAt 32 = .ok (.aload_n 2, 1) := by decide +kernel
theorem dX4_replaceAt_33 : decode cX4_replaceAt 33 = .ok (.invokevirtual 110, 3) := by decide +kernel
theorem dX4_replaceAt_36 : decode cX4_replaceAt 36 = .ok (.aload_n 0, 1) := by decide +kernel
theorem dX4_replaceAt_37 : decode cX4_replaceAt 37 = .ok (.getfield 17, 3) := by decide +kernel
theorem dX4_replaceAt_40 : decode cX4_replaceAt 40 = .ok (.iload_n 1, 1) := by decide +kernel
theorem dX4_replaceAt_41 : decode cX4_replaceAt 41 = .ok (.aaload, 1) := by decide +kernel
theorem dX4_replaceAt_42 : decode cX4_replaceAt 42 = .ok (.astore_n 3, 1) := by decide +kernel
theorem dX4_replaceAt_43 : decode cX4_replaceAt 43 = .ok (.aload_n 3, 1) := by decide +kernel
theorem dX4_replaceAt_44 : decode cX4_replaceAt 44 = .ok (.iconst (-1), 1) := by decide +kernel
theorem dX4_replaceAt_45 : decode cX4_replaceAt 45 = .ok (.putfield 114, 3) := by decide +kernel
theorem dX4_replaceAt_48 : decode cX4_replaceAt 48 = .ok (.aload_n 3, 1) := by decide +kernel
theorem dX4_replaceAt_49 : decode cX4_replaceAt 49 = .ok (.iconst 1, 1) := by decide +kernel
theorem dX4_replaceAt_50 : decode cX4_replaceAt 50 = .ok (.putfield 107, 3) := by decide +kernel
theorem dX4_replaceAt_53 : decode cX4_replaceAt 53 = .ok (.aload_n 2, 1) := by decide +kernel
theorem dX4_replaceAt_54 : decode cX4_replaceAt 54 = .ok (.iload_n 1, 1) := by decide +kernel
theorem dX4_replaceAt_55 : decode cX4_replaceAt 55 = .ok (.putfield 114, 3) := by decide +kernel
theorem dX4_replaceAt_58 : decode cX4_replaceAt 58 = .ok (.aload_n 0, 1) := by decide +kernel
theorem dX4_replaceAt_59 : decode cX4_replaceAt 59 = .ok (.getfield 17, 3) := by decide +kernel
theorem dX4_replaceAt_62 : decode cX4_replaceAt 62 = .ok (.iload_n 1, 1) := by decide +kernel
theorem dX4_replaceAt_63 : decode cX4_replaceAt 63 = .ok (.aload_n 2, 1) := by decide +kernel
theorem dX4_replaceAt_64 : decode cX4_replaceAt 64 = .ok (.aastore, 1) := by decide +kernel
theorem dX4_replaceAt_65 : decode cX4_replaceAt 65 = .ok (.return_, 1) := by decide +kernel
theorem dX4_fillFor_0 : decode cX4_fillFor 0 = .ok (.aload_n 0, 1) := by decide +kernel
theorem dX4_fillFor_1 : decode cX4_fillFor 1 = .ok (.invokevirtual 65, 3) := by decide +kernel
theorem dX4_fillFor_4 : decode cX4_fillFor 4 = .ok (.istore_n 3, 1) := by decide +kernel
theorem dX4_fillFor_5 : decode cX4_fillFor 5 = .ok (.iload_n 3, 1) := by decide +kernel
theorem dX4_fillFor_6 : decode cX4_fillFor 6 = .ok (.iconst 1, 1) := by decide +kernel
theorem dX4_fillFor_7 : decode cX4_fillFor 7 = .ok (.iload_n 1, 1) := by decide +kernel
theorem dX4_fillFor_8 : decode cX4_fillFor 8 = .ok (.ishl, 1) := by decide +kernel
theorem dX4_fillFor_9 : decode cX4_fillFor 9 = .ok (.ior, 1) := by decide +kernel
theorem dX4_fillFor_10 : decode cX4_fillFor 10 = .ok (.invokestatic 92, 3) := by decide +kernel
theorem dX4_fillFor_13 : decode cX4_fillFor 13 = .ok (.iconst 4, 1) := by decide +kernel
theorem dX4_fillFor_14 : decode cX4_fillFor 14 = .ok (.if_icmp .gt 9, 3) := by decide +kernel
theorem dX4_fillFor_17 : decode cX4_fillFor 17 = .ok (.iload_n 3, 1) := by decide +kernel
theorem dX4_fillFor_18 : decode cX4_fillFor 18 = .ok (.iconst 1, 1) := by decide +kernel
theorem dX4_fillFor_19 : decode cX4_fillFor 19 = .ok (.iload_n 1, 1) := by decide +kernel
theorem dX4_fillFor_20 : decode cX4_fillFor 20 = .ok (.ishl, 1) := by decide +kernel
theorem dX4_fillFor_21 : decode cX4_fillFor 21 = .ok (.ior, 1) := by decide +kernel
theorem dX4_fillFor_22 : decode cX4_fillFor 22 = .ok (.istore_n 3, 1) := by decide +kernel
theorem dX4_fillFor_23 : decode cX4_fillFor 23 = .ok (.iconst 0, 1) := by decide +kernel
theorem dX4_fillFor_24 : decode cX4_fillFor 24 = .ok (.istore 4, 2) := by decide +kernel
theorem dX4_fillFor_26 : decode cX4_fillFor 26 = .ok (.iload 4, 2) := by decide +kernel
theorem dX4_fillFor_28 : decode cX4_fillFor 28 = .ok (.bipush 16, 2) := by decide +kernel
theorem dX4_fillFor_30 : decode cX4_fillFor 30 = .ok (.if_icmp .ge 51, 3) := by decide +kernel
theorem dX4_fillFor_33 : decode cX4_fillFor 33 = .ok (.aload_n 0, 1) := by decide +kernel
theorem dX4_fillFor_34 : decode cX4_fillFor 34 = .ok (.iload 4, 2) := by decide +kernel
theorem dX4_fillFor_36 : decode cX4_fillFor 36 = .ok (.invokevirtual 61, 3) := by decide +kernel
theorem dX4_fillFor_39 : decode cX4_fillFor 39 = .ok (.lstore 5, 2) := by decide +kernel
theorem dX4_fillFor_41 : decode cX4_fillFor 41 = .ok (.lload 5, 2) := by decide +kernel
theorem dX4_fillFor_43 : decode cX4_fillFor 43 = .ok (.iload_n 3, 1) := by decide +kernel
theorem dX4_fillFor_44 : decode cX4_fillFor 44 = .ok (.invokestatic 69, 3) := by decide +kernel
theorem dX4_fillFor_47 : decode cX4_fillFor 47 = .ok (.lstore 7, 2) := by decide +kernel
theorem dX4_fillFor_49 : decode cX4_fillFor 49 = .ok (.aload_n 2, 1) := by decide +kernel
theorem dX4_fillFor_50 : decode cX4_fillFor 50 = .ok (.iload 4, 2) := by decide +kernel
theorem dX4_fillFor_52 : decode cX4_fillFor 52 = .ok (.lload 7, 2) := by decide +kernel
theorem dX4_fillFor_54 : decode cX4_fillFor 54 = .ok (.ldc2_w 75, 3) := by decide +kernel
theorem dX4_fillFor_57 : decode cX4_fillFor 57 = .ok (.lcmp, 1) := by decide +kernel
theorem dX4_fillFor_58 : decode cX4_fillFor 58 = .ok (.ifCond .ne 8, 3) := by decide +kernel
theorem dX4_fillFor_61 : decode cX4_fillFor 61 = .ok (.lload 5, 2) := by decide +kernel
theorem dX4_fillFor_63 : decode cX4_fillFor 63 = .ok (.goto 5, 3) := by decide +kernel
theorem dX4_fillFor_66 : decode cX4_fillFor 66 = .ok (.lload 7, 2) := by decide +kernel
theorem dX4_fillFor_68 : decode cX4_fillFor 68 = .ok (.iload_n 1, 1) := by decide +kernel
theorem dX4_fillFor_69 : decode cX4_fillFor 69 = .ok (.invokestatic 50, 3) := by decide +kernel
theorem dX4_fillFor_72 : decode cX4_fillFor 72 = .ok (.invokevirtual 54, 3) := by decide +kernel
theorem dX4_fillFor_75 : decode cX4_fillFor 75 = .ok (.iinc 4 1, 3) := by decide +kernel
theorem dX4_fillFor_78 : decode cX4_fillFor 78 = .ok (.goto (-52), 3) := by decide +kernel
theorem dX4_fillFor_81 : decode cX4_fillFor 81 = .ok (.return_, 1) := by decide +kernel
theorem dX4_areSeatsSound_0 : decode cX4_areSeatsSound 0 = .ok (.iconst 0, 1) := by decide +kernel
theorem dX4_areSeatsSound_1 : decode cX4_areSeatsSound 1 = .ok (.istore_n 1, 1) := by decide +kernel
theorem dX4_areSeatsSound_2 : decode cX4_areSeatsSound 2 = .ok (.iconst 0, 1) := by decide +kernel
theorem dX4_areSeatsSound_3 : decode cX4_areSeatsSound 3 = .ok (.istore_n 2, 1) := by decide +kernel
theorem dX4_areSeatsSound_4 : decode cX4_areSeatsSound 4 = .ok (.iload_n 2, 1) := by decide +kernel
theorem dX4_areSeatsSound_5 : decode cX4_areSeatsSound 5 = .ok (.bipush 15, 2) := by decide +kernel
theorem dX4_areSeatsSound_7 : decode cX4_areSeatsSound 7 = .ok (.if_icmp .ge 45, 3) := by decide +kernel
theorem dX4_areSeatsSound_10 : decode cX4_areSeatsSound 10 = .ok (.aload_n 0, 1) := by decide +kernel
theorem dX4_areSeatsSound_11 : decode cX4_areSeatsSound 11 = .ok (.getfield 17, 3) := by decide +kernel
theorem dX4_areSeatsSound_14 : decode cX4_areSeatsSound 14 = .ok (.iload_n 2, 1) := by decide +kernel
theorem dX4_areSeatsSound_15 : decode cX4_areSeatsSound 15 = .ok (.aaload, 1) := by decide +kernel
theorem dX4_areSeatsSound_16 : decode cX4_areSeatsSound 16 = .ok (.astore_n 3, 1) := by decide +kernel
theorem dX4_areSeatsSound_17 : decode cX4_areSeatsSound 17 = .ok (.aload_n 3, 1) := by decide +kernel
theorem dX4_areSeatsSound_18 : decode cX4_areSeatsSound 18 = .ok (.getfield 107, 3) := by decide +kernel
theorem dX4_areSeatsSound_21 : decode cX4_areSeatsSound 21 = .ok (.ifCond .ne 14, 3) := by decide +kernel
theorem dX4_areSeatsSound_24 : decode cX4_areSeatsSound 24 = .ok (.iload_n 1, 1) := by decide +kernel
theorem dX4_areSeatsSound_25 : decode cX4_areSeatsSound 25 = .ok (.aload_n 3, 1) := by decide +kernel
theorem dX4_areSeatsSound_26 : decode cX4_areSeatsSound 26 = .ok (.getfield 117, 3) := by decide +kernel
theorem dX4_areSeatsSound_29 : decode cX4_areSeatsSound 29 = .ok (.invokestatic 97, 3) := by decide +kernel
theorem dX4_areSeatsSound_32 : decode cX4_areSeatsSound 32 = .ok (.ifCond .eq 5, 3) := by decide +kernel
theorem dX4_areSeatsSound_35 : decode cX4_areSeatsSound 35 = .ok (.iconst 0, 1) := by decide +kernel
theorem dX4_areSeatsSound_36 : decode cX4_areSeatsSound 36 = .ok (.ireturn, 1) := by decide +kernel
theorem dX4_areSeatsSound_37 : decode cX4_areSeatsSound 37 = .ok (.iload_n 1, 1) := by decide +kernel
theorem dX4_areSeatsSound_38 : decode cX4_areSeatsSound 38 = .ok (.iconst 1, 1) := by decide +kernel
theorem dX4_areSeatsSound_39 : decode cX4_areSeatsSound 39 = .ok (.aload_n 3, 1) := by decide +kernel
theorem dX4_areSeatsSound_40 : decode cX4_areSeatsSound 40 = .ok (.getfield 117, 3) := by decide +kernel
theorem dX4_areSeatsSound_43 : decode cX4_areSeatsSound 43 = .ok (.ishl, 1) := by decide +kernel
theorem dX4_areSeatsSound_44 : decode cX4_areSeatsSound 44 = .ok (.ior, 1) := by decide +kernel
theorem dX4_areSeatsSound_45 : decode cX4_areSeatsSound 45 = .ok (.istore_n 1, 1) := by decide +kernel
theorem dX4_areSeatsSound_46 : decode cX4_areSeatsSound 46 = .ok (.iinc 2 1, 3) := by decide +kernel
theorem dX4_areSeatsSound_49 : decode cX4_areSeatsSound 49 = .ok (.goto (-45), 3) := by decide +kernel
theorem dX4_areSeatsSound_52 : decode cX4_areSeatsSound 52 = .ok (.iconst 1, 1) := by decide +kernel
theorem dX4_areSeatsSound_53 : decode cX4_areSeatsSound 53 = .ok (.ireturn, 1) := by decide +kernel
theorem dX5_init_0 : decode cX5_init 0 = .ok (.aload_n 0, 1) := by decide +kernel
theorem dX5_init_1 : decode cX5_init 1 = .ok (.invokespecial 3, 3) := by decide +kernel
theorem dX5_init_4 : decode cX5_init 4 = .ok (.aload_n 0, 1) := by decide +kernel
theorem dX5_init_5 : decode cX5_init 5 = .ok (.new 9, 3) := by decide +kernel
theorem dX5_init_8 : decode cX5_init 8 = .ok (.dup, 1) := by decide +kernel
theorem dX5_init_9 : decode cX5_init 9 = .ok (.invokespecial 11, 3) := by decide +kernel
theorem dX5_init_12 : decode cX5_init 12 = .ok (.putfield 12, 3) := by decide +kernel
theorem dX5_init_15 : decode cX5_init 15 = .ok (.aload_n 0, 1) := by decide +kernel
theorem dX5_init_16 : decode cX5_init 16 = .ok (.new 16, 3) := by decide +kernel
theorem dX5_init_19 : decode cX5_init 19 = .ok (.dup, 1) := by decide +kernel
theorem dX5_init_20 : decode cX5_init 20 = .ok (.aload_n 0, 1) := by decide +kernel
theorem dX5_init_21 : decode cX5_init 21 = .ok (.getfield 12, 3) := by decide +kernel
theorem dX5_init_24 : decode cX5_init 24 = .ok (.invokespecial 18, 3) := by decide +kernel
theorem dX5_init_27 : decode cX5_init 27 = .ok (.putfield 21, 3) := by decide +kernel
theorem dX5_init_30 : decode cX5_init 30 = .ok (.aload_n 0, 1) := by decide +kernel
theorem dX5_init_31 : decode cX5_init 31 = .ok (.iconst 0, 1) := by decide +kernel
theorem dX5_init_32 : decode cX5_init 32 = .ok (.putfield 25, 3) := by decide +kernel
theorem dX5_init_35 : decode cX5_init 35 = .ok (.return_, 1) := by decide +kernel
theorem dX5_write_0 : decode cX5_write 0 = .ok (.iload_n 1, 1) := by decide +kernel
theorem dX5_write_1 : decode cX5_write 1 = .ok (.invokestatic 29, 3) := by decide +kernel
theorem dX5_write_4 : decode cX5_write 4 = .ok (.lload_n 2, 1) := by decide +kernel
theorem dX5_write_5 : decode cX5_write 5 = .ok (.invokestatic 33, 3) := by decide +kernel
theorem dX5_write_8 : decode cX5_write 8 = .ok (.aload_n 0, 1) := by decide +kernel
theorem dX5_write_9 : decode cX5_write 9 = .ok (.getfield 12, 3) := by decide +kernel
theorem dX5_write_12 : decode cX5_write 12 = .ok (.iload_n 1, 1) := by decide +kernel
theorem dX5_write_13 : decode cX5_write 13 = .ok (.invokevirtual 37, 3) := by decide +kernel
theorem dX5_write_16 : decode cX5_write 16 = .ok (.lstore 4, 2) := by decide +kernel
theorem dX5_write_18 : decode cX5_write 18 = .ok (.aload_n 0, 1) := by decide +kernel
theorem dX5_write_19 : decode cX5_write 19 = .ok (.getfield 12, 3) := by decide +kernel
theorem dX5_write_22 : decode cX5_write 22 = .ok (.iload_n 1, 1) := by decide +kernel
theorem dX5_write_23 : decode cX5_write 23 = .ok (.lload_n 2, 1) := by decide +kernel
theorem dX5_write_24 : decode cX5_write 24 = .ok (.invokestatic 41, 3) := by decide +kernel
theorem dX5_write_27 : decode cX5_write 27 = .ok (.invokevirtual 47, 3) := by decide +kernel
theorem dX5_write_30 : decode cX5_write 30 = .ok (.lload 4, 2) := by decide +kernel
theorem dX5_write_32 : decode cX5_write 32 = .ok (.aload_n 0, 1) := by decide +kernel
theorem dX5_write_33 : decode cX5_write 33 = .ok (.getfield 12, 3) := by decide +kernel
theorem dX5_write_36 : decode cX5_write 36 = .ok (.iload_n 1, 1) := by decide +kernel
theorem dX5_write_37 : decode cX5_write 37 = .ok (.invokevirtual 37, 3) := by decide +kernel
theorem dX5_write_40 : decode cX5_write 40 = .ok (.lxor, 1) := by decide +kernel
theorem dX5_write_41 : decode cX5_write 41 = .ok (.invokestatic 51, 3) := by decide +kernel
theorem dX5_write_44 : decode cX5_write 44 = .ok (.invokestatic 55, 3) := by decide +kernel
theorem dX5_write_47 : decode cX5_write 47 = .ok (.ireturn, 1) := by decide +kernel
theorem dX5_stick_0 : decode cX5_stick 0 = .ok (.iload_n 1, 1) := by decide +kernel
theorem dX5_stick_1 : decode cX5_stick 1 = .ok (.invokestatic 61, 3) := by decide +kernel
theorem dX5_stick_4 : decode cX5_stick 4 = .ok (.iload_n 2, 1) := by decide +kernel
theorem dX5_stick_5 : decode cX5_stick 5 = .ok (.invokestatic 29, 3) := by decide +kernel
theorem dX5_stick_8 : decode cX5_stick 8 = .ok (.iload_n 3, 1) := by decide +kernel
theorem dX5_stick_9 : decode cX5_stick 9 = .ok (.invokestatic 64, 3) := by decide +kernel
theorem dX5_stick_12 : decode cX5_stick 12 = .ok (.iload 4, 2) := by decide +kernel
theorem dX5_stick_14 : decode cX5_stick 14 = .ok (.invokestatic 64, 3) := by decide +kernel
theorem dX5_stick_17 : decode cX5_stick 17 = .ok (.aload_n 0, 1) := by decide +kernel
theorem dX5_stick_18 : decode cX5_stick 18 = .ok (.getfield 12, 3) := by decide +kernel
theorem dX5_stick_21 : decode cX5_stick 21 = .ok (.getfield 67, 3) := by decide +kernel
theorem dX5_stick_24 : decode cX5_stick 24 = .ok (.iload_n 1, 1) := by decide +kernel
theorem dX5_stick_25 : decode cX5_stick 25 = .ok (.aaload, 1) := by decide +kernel
theorem dX5_stick_26 : decode cX5_stick 26 = .ok (.iload_n 2, 1) := by decide +kernel
theorem dX5_stick_27 : decode cX5_stick 27 = .ok (.iload_n 3, 1) := by decide +kernel
theorem dX5_stick_28 : decode cX5_stick 28 = .ok (.iload 4, 2) := by decide +kernel
theorem dX5_stick_30 : decode cX5_stick 30 = .ok (.invokevirtual 71, 3) := by decide +kernel
theorem dX5_stick_33 : decode cX5_stick 33 = .ok (.aload_n 0, 1) := by decide +kernel
theorem dX5_stick_34 : decode cX5_stick 34 = .ok (.getfield 12, 3) := by decide +kernel
theorem dX5_stick_37 : decode cX5_stick 37 = .ok (.getfield 67, 3) := by decide +kernel
theorem dX5_stick_40 : decode cX5_stick 40 = .ok (.iload_n 1, 1) := by decide +kernel
theorem dX5_stick_41 : decode cX5_stick 41 = .ok (.aaload, 1) := by decide +kernel
theorem dX5_stick_42 : decode cX5_stick 42 = .ok (.invokevirtual 77, 3) := by decide +kernel
theorem dX5_stick_45 : decode cX5_stick 45 = .ok (.ireturn, 1) := by decide +kernel
theorem dX5_mad_0 : decode cX5_mad 0 = .ok (.iload_n 1, 1) := by decide +kernel
theorem dX5_mad_1 : decode cX5_mad 1 = .ok (.invokestatic 61, 3) := by decide +kernel
theorem dX5_mad_4 : decode cX5_mad 4 = .ok (.iload_n 2, 1) := by decide +kernel
theorem dX5_mad_5 : decode cX5_mad 5 = .ok (.iconst (-1), 1) := by decide +kernel
theorem dX5_mad_6 : decode cX5_mad 6 = .ok (.if_icmp .eq 7, 3) := by decide +kernel
theorem dX5_mad_9 : decode cX5_mad 9 = .ok (.iload_n 2, 1) := by decide +kernel
theorem dX5_mad_10 : decode cX5_mad 10 = .ok (.invokestatic 64, 3) := by decide +kernel
theorem dX5_mad_13 : decode cX5_mad 13 = .ok (.aload_n 0, 1) := by decide +kernel
theorem dX5_mad_14 : decode cX5_mad 14 = .ok (.getfield 12, 3) := by decide +kernel
theorem dX5_mad_17 : decode cX5_mad 17 = .ok (.getfield 67, 3) := by decide +kernel
theorem dX5_mad_20 : decode cX5_mad 20 = .ok (.iload_n 1, 1) := by decide +kernel
theorem dX5_mad_21 : decode cX5_mad 21 = .ok (.aaload, 1) := by decide +kernel
theorem dX5_mad_22 : decode cX5_mad 22 = .ok (.getfield 81, 3) := by decide +kernel
theorem dX5_mad_25 : decode cX5_mad 25 = .ok (.istore_n 3, 1) := by decide +kernel
theorem dX5_mad_26 : decode cX5_mad 26 = .ok (.aload_n 0, 1) := by decide +kernel
theorem dX5_mad_27 : decode cX5_mad 27 = .ok (.getfield 12, 3) := by decide +kernel
theorem dX5_mad_30 : decode cX5_mad 30 = .ok (.getfield 67, 3) := by decide +kernel
theorem dX5_mad_33 : decode cX5_mad 33 = .ok (.iload_n 1, 1) := by decide +kernel
theorem dX5_mad_34 : decode cX5_mad 34 = .ok (.aaload, 1) := by decide +kernel
theorem dX5_mad_35 : decode cX5_mad 35 = .ok (.iload_n 2, 1) := by decide +kernel
theorem dX5_mad_36 : decode cX5_mad 36 = .ok (.putfield 81, 3) := by decide +kernel
theorem dX5_mad_39 : decode cX5_mad 39 = .ok (.iload_n 3, 1) := by decide +kernel
theorem dX5_mad_40 : decode cX5_mad 40 = .ok (.ireturn, 1) := by decide +kernel
theorem dX5_ray_0 : decode cX5_ray 0 = .ok (.iload_n 1, 1) := by decide +kernel
theorem dX5_ray_1 : decode cX5_ray 1 = .ok (.invokestatic 61, 3) := by decide +kernel
theorem dX5_ray_4 : decode cX5_ray 4 = .ok (.iload_n 2, 1) := by decide +kernel
theorem dX5_ray_5 : decode cX5_ray 5 = .ok (.invokestatic 29, 3) := by decide +kernel
theorem dX5_ray_8 : decode cX5_ray 8 = .ok (.iload_n 3, 1) := by decide +kernel
theorem dX5_ray_9 : decode cX5_ray 9 = .ok (.invokestatic 84, 3) := by decide +kernel
theorem dX5_ray_12 : decode cX5_ray 12 = .ok (.aload_n 0, 1) := by decide +kernel
theorem dX5_ray_13 : decode cX5_ray 13 = .ok (.getfield 12, 3) := by decide +kernel
theorem dX5_ray_16 : decode cX5_ray 16 = .ok (.getfield 67, 3) := by decide +kernel
theorem dX5_ray_19 : decode cX5_ray 19 = .ok (.iload_n 1, 1) := by decide +kernel
theorem dX5_ray_20 : decode cX5_ray 20 = .ok (.aaload, 1) := by decide +kernel
theorem dX5_ray_21 : decode cX5_ray 21 = .ok (.astore 4, 2) := by decide +kernel
theorem dX5_ray_23 : decode cX5_ray 23 = .ok (.aload 4, 2) := by decide +kernel
theorem dX5_ray_25 : decode cX5_ray 25 = .ok (.iload_n 2, 1) := by decide +kernel
theorem dX5_ray_26 : decode cX5_ray 26 = .ok (.aload 4, 2) := by decide +kernel
theorem dX5_ray_28 : decode cX5_ray 28 = .ok (.iload_n 2, 1) := by decide +kernel
theorem dX5_ray_29 : decode cX5_ray 29 = .ok (.invokevirtual 87, 3) := by decide +kernel
theorem dX5_ray_32 : decode cX5_ray 32 = .ok (.iload_n 3, 1) := by decide +kernel
theorem dX5_ray_33 : decode cX5_ray 33 = .ok (.ixor, 1) := by decide +kernel
theorem dX5_ray_34 : decode cX5_ray 34 = .ok (.invokevirtual 90, 3) := by decide +kernel
theorem dX5_ray_37 : decode cX5_ray 37 = .ok (.aload 4, 2) := by decide +kernel
theorem dX5_ray_39 : decode cX5_ray 39 = .ok (.iload_n 2, 1) := by decide +kernel
theorem dX5_ray_40 : decode cX5_ray 40 = .ok (.invokevirtual 87, 3) := by decide +kernel
theorem dX5_ray_43 : decode cX5_ray 43 = .ok (.ireturn, 1) := by decide +kernel
theorem dX5_erase_0 : decode cX5_erase 0 = .ok (.iload_n 1, 1) := by decide +kernel
theorem dX5_erase_1 : decode cX5_erase 1 = .ok (.invokestatic 94, 3) := by decide +kernel
theorem dX5_erase_4 : decode cX5_erase 4 = .ok (.aload_n 0, 1) := by decide +kernel
theorem dX5_erase_5 : decode cX5_erase 5 = .ok (.getfield 12, 3) := by decide +kernel
theorem dX5_erase_8 : decode cX5_erase 8 = .ok (.invokevirtual 97, 3) := by decide +kernel
theorem dX5_erase_11 : decode cX5_erase 11 = .ok (.iconst 1, 1) := by decide +kernel
theorem dX5_erase_12 : decode cX5_erase 12 = .ok (.iload_n 1, 1) := by decide +kernel
theorem dX5_erase_13 : decode cX5_erase 13 = .ok (.ishl, 1) := by decide +kernel
theorem dX5_erase_14 : decode cX5_erase 14 = .ok (.iconst (-1), 1) := by decide +kernel
theorem dX5_erase_15 : decode cX5_erase 15 = .ok (.ixor, 1) := by decide +kernel
theorem dX5_erase_16 : decode cX5_erase 16 = .ok (.iand, 1) := by decide +kernel
theorem dX5_erase_17 : decode cX5_erase 17 = .ok (.istore_n 3, 1) := by decide +kernel
theorem dX5_erase_18 : decode cX5_erase 18 = .ok (.iload_n 2, 1) := by decide +kernel
theorem dX5_erase_19 : decode cX5_erase 19 = .ok (.ifCond .eq 21, 3) := by decide +kernel
theorem dX5_erase_22 : decode cX5_erase 22 = .ok (.iload_n 3, 1) := by decide +kernel
theorem dX5_erase_23 : decode cX5_erase 23 = .ok (.invokestatic 55, 3) := by decide +kernel
theorem dX5_erase_26 : decode cX5_erase 26 = .ok (.iconst 4, 1) := by decide +kernel
theorem dX5_erase_27 : decode cX5_erase 27 = .ok (.if_icmp .lt 13, 3) := by decide +kernel
theorem dX5_erase_30 : decode cX5_erase 30 = .ok (.new 100, 3) := by decide +kernel
theorem dX5_erase_33 : decode cX5_erase 33 = .ok (.dup, 1) := by decide +kernel
theorem dX5_erase_34 : decode cX5_erase 34 = .ok (.ldc 102, 2) := by decide +kernel
theorem dX5_erase_36 : decode cX5_erase 36 = .ok (.invokespecial 104, 3) := by decide +kernel
theorem dX5_erase_39 : decode cX5_erase 39 = .ok (.athrow, 1) := by decide +kernel
theorem dX5_erase_40 : decode cX5_erase 40 = .ok (.aload_n 0, 1) := by decide +kernel
theorem dX5_erase_41 : decode cX5_erase 41 = .ok (.getfield 12, 3) := by decide +kernel
theorem dX5_erase_44 : decode cX5_erase 44 = .ok (.getfield 107, 3) := by decide +kernel
theorem dX5_erase_47 : decode cX5_erase 47 = .ok (.iload_n 1, 1) := by decide +kernel
theorem dX5_erase_48 : decode cX5_erase 48 = .ok (.aaload, 1) := by decide +kernel
theorem dX5_erase_49 : decode cX5_erase 49 = .ok (.iload_n 2, 1) := by decide +kernel
theorem dX5_erase_50 : decode cX5_erase 50 = .ok (.putfield 110, 3) := by decide +kernel
theorem dX5_erase_53 : decode cX5_erase 53 = .ok (.aload_n 0, 1) := by decide +kernel
theorem dX5_erase_54 : decode cX5_erase 54 = .ok (.getfield 12, 3) := by decide +kernel
theorem dX5_erase_57 : decode cX5_erase 57 = .ok (.invokevirtual 97, 3) := by decide +kernel
theorem dX5_erase_60 : decode cX5_erase 60 = .ok (.invokestatic 55, 3) := by decide +kernel
theorem dX5_erase_63 : decode cX5_erase 63 = .ok (.ireturn, 1) := by decide +kernel
theorem dX5_replace_0 : decode cX5_replace 0 = .ok (.iload_n 1, 1) := by decide +kernel
theorem dX5_replace_1 : decode cX5_replace 1 = .ok (.invokestatic 94, 3) := by decide +kernel
theorem dX5_replace_4 : decode cX5_replace 4 = .ok (.aload_n 0, 1) := by decide +kernel
theorem dX5_replace_5 : decode cX5_replace 5 = .ok (.getfield 12, 3) := by decide +kernel
theorem dX5_replace_8 : decode cX5_replace 8 = .ok (.invokevirtual 114, 3) := by decide +kernel
theorem dX5_replace_11 : decode cX5_replace 11 = .ok (.ifCond .ne 13, 3) := by decide +kernel
theorem dX5_replace_14 : decode cX5_replace 14 = .ok (.new 100, 3) := by decide +kernel
theorem dX5_replace_17 : decode cX5_replace 17 = .ok (.dup, 1) := by decide +kernel
theorem dX5_replace_18 : decode cX5_replace 18 = .ok (.ldc 117, 2) := by decide +kernel
theorem dX5_replace_20 : decode cX5_replace 20 = .ok (.invokespecial 104, 3) := by decide +kernel
theorem dX5_replace_23 : decode cX5_replace 23 = .ok (.athrow, 1) := by decide +kernel
theorem dX5_replace_24 : decode cX5_replace 24 = .ok (.aload_n 0, 1) := by decide +kernel
theorem dX5_replace_25 : decode cX5_replace 25 = .ok (.getfield 12, 3) := by decide +kernel
theorem dX5_replace_28 : decode cX5_replace 28 = .ok (.iload_n 1, 1) := by decide +kernel
theorem dX5_replace_29 : decode cX5_replace 29 = .ok (.invokevirtual 119, 3) := by decide +kernel
theorem dX5_replace_32 : decode cX5_replace 32 = .ok (.aload_n 0, 1) := by decide +kernel
theorem dX5_replace_33 : decode cX5_replace 33 = .ok (.getfield 12, 3) := by decide +kernel
theorem dX5_replace_36 : decode cX5_replace 36 = .ok (.getfield 107, 3) := by decide +kernel
theorem dX5_replace_39 : decode cX5_replace 39 = .ok (.iload_n 1, 1) := by decide +kernel
theorem dX5_replace_40 : decode cX5_replace 40 = .ok (.aaload, 1) := by decide +kernel
theorem dX5_replace_41 : decode cX5_replace 41 = .ok (.getfield 122, 3) := by decide +kernel
theorem dX5_replace_44 : decode cX5_replace 44 = .ok (.ireturn, 1) := by decide +kernel
theorem dX5_limit_0 : decode cX5_limit 0 = .ok (.iload_n 1, 1) := by decide +kernel
theorem dX5_limit_1 : decode cX5_limit 1 = .ok (.iconst 1, 1) := by decide +kernel
theorem dX5_limit_2 : decode cX5_limit 2 = .ok (.if_icmp .lt 9, 3) := by decide +kernel
theorem dX5_limit_5 : decode cX5_limit 5 = .ok (.iload_n 1, 1) := by decide +kernel
theorem dX5_limit_6 : decode cX5_limit 6 = .ok (.bipush 99, 2) := by decide +kernel
theorem dX5_limit_8 : decode cX5_limit 8 = .ok (.if_icmp .le 13, 3) := by decide +kernel
theorem dX5_limit_11 : decode cX5_limit 11 = .ok (.new 125, 3) := by decide +kernel
theorem dX5_limit_14 : decode cX5_limit 14 = .ok (.dup, 1) := by decide +kernel
theorem dX5_limit_15 : decode cX5_limit 15 = .ok (.ldc 127, 2) := by decide +kernel
theorem dX5_limit_17 : decode cX5_limit 17 = .ok (.invokespecial 129, 3) := by decide +kernel
theorem dX5_limit_20 : decode cX5_limit 20 = .ok (.athrow, 1) := by decide +kernel
theorem dX5_limit_21 : decode cX5_limit 21 = .ok (.aload_n 0, 1) := by decide +kernel
theorem dX5_limit_22 : decode cX5_limit 22 = .ok (.getfield 12, 3) := by decide +kernel
theorem dX5_limit_25 : decode cX5_limit 25 = .ok (.getfield 130, 3) := by decide +kernel
theorem dX5_limit_28 : decode cX5_limit 28 = .ok (.istore_n 2, 1) := by decide +kernel
theorem dX5_limit_29 : decode cX5_limit 29 = .ok (.aload_n 0, 1) := by decide +kernel
theorem dX5_limit_30 : decode cX5_limit 30 = .ok (.getfield 12, 3) := by decide +kernel
theorem dX5_limit_33 : decode cX5_limit 33 = .ok (.iload_n 1, 1) := by decide +kernel
theorem dX5_limit_34 : decode cX5_limit 34 = .ok (.putfield 130, 3) := by decide +kernel
theorem dX5_limit_37 : decode cX5_limit 37 = .ok (.iload_n 2, 1) := by decide +kernel
theorem dX5_limit_38 : decode cX5_limit 38 = .ok (.ireturn, 1) := by decide +kernel
theorem dX5_fetch_0 : decode cX5_fetch 0 = .ok (.iload_n 1, 1) := by decide +kernel
theorem dX5_fetch_1 : decode cX5_fetch 1 = .ok (.invokestatic 29, 3) := by decide +kernel
theorem dX5_fetch_4 : decode cX5_fetch 4 = .ok (.aload_n 0, 1) := by decide +kernel
theorem dX5_fetch_5 : decode cX5_fetch 5 = .ok (.getfield 12, 3) := by decide +kernel
theorem dX5_fetch_8 : decode cX5_fetch 8 = .ok (.iload_n 1, 1) := by decide +kernel
theorem dX5_fetch_9 : decode cX5_fetch 9 = .ok (.invokevirtual 37, 3) := by decide +kernel
theorem dX5_fetch_12 : decode cX5_fetch 12 = .ok (.lstore_n 2, 1) := by decide +kernel
theorem dX5_fetch_13 : decode cX5_fetch 13 = .ok (.lload_n 2, 1) := by decide +kernel
theorem dX5_fetch_14 : decode cX5_fetch 14 = .ok (.aload_n 0, 1) := by decide +kernel
theorem dX5_fetch_15 : decode cX5_fetch 15 = .ok (.getfield 12, 3) := by decide +kernel
theorem dX5_fetch_18 : decode cX5_fetch 18 = .ok (.iload_n 1, 1) := by decide +kernel
theorem dX5_fetch_19 : decode cX5_fetch 19 = .ok (.invokevirtual 133, 3) := by decide +kernel
theorem dX5_fetch_22 : decode cX5_fetch 22 = .ok (.invokestatic 136, 3) := by decide +kernel
theorem dX5_fetch_25 : decode cX5_fetch 25 = .ok (.ireturn, 1) := by decide +kernel
theorem dX5_patrol_0 : decode cX5_patrol 0 = .ok (.iload_n 1, 1) := by decide +kernel
theorem dX5_patrol_1 : decode cX5_patrol 1 = .ok (.iconst 1, 1) := by decide +kernel
theorem dX5_patrol_2 : decode cX5_patrol 2 = .ok (.if_icmp .lt 9, 3) := by decide +kernel
theorem dX5_patrol_5 : decode cX5_patrol 5 = .ok (.iload_n 1, 1) := by decide +kernel
theorem dX5_patrol_6 : decode cX5_patrol 6 = .ok (.bipush 40, 2) := by decide +kernel
theorem dX5_patrol_8 : decode cX5_patrol 8 = .ok (.if_icmp .le 13, 3) := by decide +kernel
theorem dX5_patrol_11 : decode cX5_patrol 11 = .ok (.new 125, 3) := by decide +kernel
theorem dX5_patrol_14 : decode cX5_patrol 14 = .ok (.dup, 1) := by decide +kernel
theorem dX5_patrol_15 : decode cX5_patrol 15 = .ok (.ldc 140, 2) := by decide +kernel
theorem dX5_patrol_17 : decode cX5_patrol 17 = .ok (.invokespecial 129, 3) := by decide +kernel
theorem dX5_patrol_20 : decode cX5_patrol 20 = .ok (.athrow, 1) := by decide +kernel
theorem dX5_patrol_21 : decode cX5_patrol 21 = .ok (.iconst 0, 1) := by decide +kernel
theorem dX5_patrol_22 : decode cX5_patrol 22 = .ok (.istore_n 2, 1) := by decide +kernel
theorem dX5_patrol_23 : decode cX5_patrol 23 = .ok (.iconst 0, 1) := by decide +kernel
theorem dX5_patrol_24 : decode cX5_patrol 24 = .ok (.istore_n 3, 1) := by decide +kernel
theorem dX5_patrol_25 : decode cX5_patrol 25 = .ok (.iload_n 3, 1) := by decide +kernel
theorem dX5_patrol_26 : decode cX5_patrol 26 = .ok (.iload_n 1, 1) := by decide +kernel
theorem dX5_patrol_27 : decode cX5_patrol 27 = .ok (.if_icmp .ge 26, 3) := by decide +kernel
theorem dX5_patrol_30 : decode cX5_patrol 30 = .ok (.aload_n 0, 1) := by decide +kernel
theorem dX5_patrol_31 : decode cX5_patrol 31 = .ok (.getfield 12, 3) := by decide +kernel
theorem dX5_patrol_34 : decode cX5_patrol 34 = .ok (.invokevirtual 142, 3) := by decide +kernel
theorem dX5_patrol_37 : decode cX5_patrol 37 = .ok (.ldc2_w 146, 3) := by decide +kernel
theorem dX5_patrol_40 : decode cX5_patrol 40 = .ok (.lcmp, 1) := by decide +kernel
theorem dX5_patrol_41 : decode cX5_patrol 41 = .ok (.ifCond .ne 6, 3) := by decide +kernel
theorem dX5_patrol_44 : decode cX5_patrol 44 = .ok (.iinc 2 1, 3) := by decide +kernel
theorem dX5_patrol_47 : decode cX5_patrol 47 = .ok (.iinc 3 1, 3) := by decide +kernel
theorem dX5_patrol_50 : decode cX5_patrol 50 = .ok (.goto (-25), 3) := by decide +kernel
theorem dX5_patrol_53 : decode cX5_patrol 53 = .ok (.iload_n 2, 1) := by decide +kernel
theorem dX5_patrol_54 : decode cX5_patrol 54 = .ok (.ireturn, 1) := by decide +kernel
theorem dX5_load_0 : decode cX5_load 0 = .ok (.iload_n 1, 1) := by decide +kernel
theorem dX5_load_1 : decode cX5_load 1 = .ok (.invokestatic 29, 3) := by decide +kernel
theorem dX5_load_4 : decode cX5_load 4 = .ok (.aload_n 0, 1) := by decide +kernel
theorem dX5_load_5 : decode cX5_load 5 = .ok (.getfield 21, 3) := by decide +kernel
theorem dX5_load_8 : decode cX5_load 8 = .ok (.iload_n 1, 1) := by decide +kernel
theorem dX5_load_9 : decode cX5_load 9 = .ok (.invokevirtual 148, 3) := by decide +kernel
theorem dX5_load_12 : decode cX5_load 12 = .ok (.invokestatic 151, 3) := by decide +kernel
theorem dX5_load_15 : decode cX5_load 15 = .ok (.lreturn, 1) := by decide +kernel
theorem dX5_store_0 : decode cX5_store 0 = .ok (.iload_n 1, 1) := by decide +kernel
theorem dX5_store_1 : decode cX5_store 1 = .ok (.invokestatic 29, 3) := by decide +kernel
theorem dX5_store_4 : decode cX5_store 4 = .ok (.lload_n 2, 1) := by decide +kernel
theorem dX5_store_5 : decode cX5_store 5 = .ok (.invokestatic 33, 3) := by decide +kernel
theorem dX5_store_8 : decode cX5_store 8 = .ok (.aload_n 0, 1) := by decide +kernel
theorem dX5_store_9 : decode cX5_store 9 = .ok (.getfield 21, 3) := by decide +kernel
theorem dX5_store_12 : decode cX5_store 12 = .ok (.iload_n 1, 1) := by decide +kernel
theorem dX5_store_13 : decode cX5_store 13 = .ok (.lload_n 2, 1) := by decide +kernel
theorem dX5_store_14 : decode cX5_store 14 = .ok (.invokestatic 41, 3) := by decide +kernel
theorem dX5_store_17 : decode cX5_store 17 = .ok (.invokevirtual 154, 3) := by decide +kernel
theorem dX5_store_20 : decode cX5_store 20 = .ok (.ireturn, 1) := by decide +kernel
theorem dX5_flush_0 : decode cX5_flush 0 = .ok (.aload_n 0, 1) := by decide +kernel
theorem dX5_flush_1 : decode cX5_flush 1 = .ok (.getfield 21, 3) := by decide +kernel
theorem dX5_flush_4 : decode cX5_flush 4 = .ok (.invokevirtual 158, 3) := by decide +kernel
theorem dX5_flush_7 : decode cX5_flush 7 = .ok (.ireturn, 1) := by decide +kernel
theorem dX5_call_0 : decode cX5_call 0 = .ok (.aload_n 0, 1) := by decide +kernel
theorem dX5_call_1 : decode cX5_call 1 = .ok (.dup, 1) := by decide +kernel
theorem dX5_call_2 : decode cX5_call 2 = .ok (.getfield 25, 3) := by decide +kernel
theorem dX5_call_5 : decode cX5_call 5 = .ok (.iconst 1, 1) := by decide +kernel
theorem dX5_call_6 : decode cX5_call 6 = .ok (.iadd, 1) := by decide +kernel
theorem dX5_call_7 : decode cX5_call 7 = .ok (.putfield 25, 3) := by decide +kernel
theorem dX5_call_10 : decode cX5_call 10 = .ok (.aload_n 0, 1) := by decide +kernel
theorem dX5_call_11 : decode cX5_call 11 = .ok (.getfield 25, 3) := by decide +kernel
theorem dX5_call_14 : decode cX5_call 14 = .ok (.ireturn, 1) := by decide +kernel
theorem dX5_times_0 : decode cX5_times 0 = .ok (.iload_n 1, 1) := by decide +kernel
theorem dX5_times_1 : decode cX5_times 1 = .ok (.invokestatic 64, 3) := by decide +kernel
theorem dX5_times_4 : decode cX5_times 4 = .ok (.iload_n 2, 1) := by decide +kernel
theorem dX5_times_5 : decode cX5_times 5 = .ok (.invokestatic 64, 3) := by decide +kernel
theorem dX5_times_8 : decode cX5_times 8 = .ok (.iload_n 1, 1) := by decide +kernel
theorem dX5_times_9 : decode cX5_times 9 = .ok (.iload_n 2, 1) := by decide +kernel
theorem dX5_times_10 : decode cX5_times 10 = .ok (.invokestatic 161, 3) := by decide +kernel
theorem dX5_times_13 : decode cX5_times 13 = .ok (.ireturn, 1) := by decide +kernel
theorem dX5_power_0 : decode cX5_power 0 = .ok (.iload_n 1, 1) := by decide +kernel
theorem dX5_power_1 : decode cX5_power 1 = .ok (.ifCond .lt 10, 3) := by decide +kernel
theorem dX5_power_4 : decode cX5_power 4 = .ok (.iload_n 1, 1) := by decide +kernel
theorem dX5_power_5 : decode cX5_power 5 = .ok (.sipush 999, 3) := by decide +kernel
theorem dX5_power_8 : decode cX5_power 8 = .ok (.if_icmp .le 13, 3) := by decide +kernel
theorem dX5_power_11 : decode cX5_power 11 = .ok (.new 125, 3) := by decide +kernel
theorem dX5_power_14 : decode cX5_power 14 = .ok (.dup, 1) := by decide +kernel
theorem dX5_power_15 : decode cX5_power 15 = .ok (.ldc 165, 2) := by decide +kernel
theorem dX5_power_17 : decode cX5_power 17 = .ok (.invokespecial 129, 3) := by decide +kernel
theorem dX5_power_20 : decode cX5_power 20 = .ok (.athrow, 1) := by decide +kernel
theorem dX5_power_21 : decode cX5_power 21 = .ok (.iconst 1, 1) := by decide +kernel
theorem dX5_power_22 : decode cX5_power 22 = .ok (.iload_n 1, 1) := by decide +kernel
theorem dX5_power_23 : decode cX5_power 23 = .ok (.invokestatic 167, 3) := by decide +kernel
theorem dX5_power_26 : decode cX5_power 26 = .ok (.ireturn, 1) := by decide +kernel
theorem dX5_symbol_0 : decode cX5_symbol 0 = .ok (.iload_n 3, 1) := by decide +kernel
theorem dX5_symbol_1 : decode cX5_symbol 1 = .ok (.invokestatic 94, 3) := by decide +kernel
theorem dX5_symbol_4 : decode cX5_symbol 4 = .ok (.lload_n 1, 1) := by decide +kernel
theorem dX5_symbol_5 : decode cX5_symbol 5 = .ok (.invokestatic 33, 3) := by decide +kernel
theorem dX5_symbol_8 : decode cX5_symbol 8 = .ok (.lload_n 1, 1) := by decide +kernel
theorem dX5_symbol_9 : decode cX5_symbol 9 = .ok (.invokestatic 41, 3) := by decide +kernel
theorem dX5_symbol_12 : decode cX5_symbol 12 = .ok (.iload_n 3, 1) := by decide +kernel
theorem dX5_symbol_13 : decode cX5_symbol 13 = .ok (.invokestatic 170, 3) := by decide +kernel
theorem dX5_symbol_16 : decode cX5_symbol 16 = .ok (.ireturn, 1) := by decide +kernel
theorem dX5_fooled_0 : decode cX5_fooled 0 = .ok (.iload_n 1, 1) := by decide +kernel
theorem dX5_fooled_1 : decode cX5_fooled 1 = .ok (.invokestatic 94, 3) := by decide +kernel
theorem dX5_fooled_4 : decode cX5_fooled 4 = .ok (.iload_n 2, 1) := by decide +kernel
theorem dX5_fooled_5 : decode cX5_fooled 5 = .ok (.invokestatic 94, 3) := by decide +kernel
theorem dX5_fooled_8 : decode cX5_fooled 8 = .ok (.iload_n 3, 1) := by decide +kernel
theorem dX5_fooled_9 : decode cX5_fooled 9 = .ok (.invokestatic 94, 3) := by decide +kernel
theorem dX5_fooled_12 : decode cX5_fooled 12 = .ok (.iload_n 1, 1) := by decide +kernel
theorem dX5_fooled_13 : decode cX5_fooled 13 = .ok (.iload_n 2, 1) := by decide +kernel
theorem dX5_fooled_14 : decode cX5_fooled 14 = .ok (.if_icmp .eq 13, 3) := by decide +kernel
theorem dX5_fooled_17 : decode cX5_fooled 17 = .ok (.iload_n 1, 1) := by decide +kernel
theorem dX5_fooled_18 : decode cX5_fooled 18 = .ok (.iload_n 3, 1) := by decide +kernel
theorem dX5_fooled_19 : decode cX5_fooled 19 = .ok (.if_icmp .eq 8, 3) := by decide +kernel
theorem dX5_fooled_22 : decode cX5_fooled 22 = .ok (.iload_n 2, 1) := by decide +kernel
theorem dX5_fooled_23 : decode cX5_fooled 23 = .ok (.iload_n 3, 1) := by decide +kernel
theorem dX5_fooled_24 : decode cX5_fooled 24 = .ok (.if_icmp .ne 13, 3) := by decide +kernel
theorem dX5_fooled_27 : decode cX5_fooled 27 = .ok (.new 125, 3) := by decide +kernel
theorem dX5_fooled_30 : decode cX5_fooled 30 = .ok (.dup, 1) := by decide +kernel
theorem dX5_fooled_31 : decode cX5_fooled 31 = .ok (.ldc 174, 2) := by decide +kernel
theorem dX5_fooled_33 : decode cX5_fooled 33 = .ok (.invokespecial 129, 3) := by decide +kernel
theorem dX5_fooled_36 : decode cX5_fooled 36 = .ok (.athrow, 1) := by decide +kernel
theorem dX5_fooled_37 : decode cX5_fooled 37 = .ok (.iload 4, 2) := by decide +kernel
theorem dX5_fooled_39 : decode cX5_fooled 39 = .ok (.invokestatic 84, 3) := by decide +kernel
theorem dX5_fooled_42 : decode cX5_fooled 42 = .ok (.iload 5, 2) := by decide +kernel
theorem dX5_fooled_44 : decode cX5_fooled 44 = .ok (.invokestatic 84, 3) := by decide +kernel
theorem dX5_fooled_47 : decode cX5_fooled 47 = .ok (.lconst 0, 1) := by decide +kernel
theorem dX5_fooled_48 : decode cX5_fooled 48 = .ok (.iload_n 1, 1) := by decide +kernel
theorem dX5_fooled_49 : decode cX5_fooled 49 = .ok (.iload 4, 2) := by decide +kernel
theorem dX5_fooled_51 : decode cX5_fooled 51 = .ok (.invokestatic 176, 3) := by decide +kernel
theorem dX5_fooled_54 : decode cX5_fooled 54 = .ok (.iload_n 2, 1) := by decide +kernel
theorem dX5_fooled_55 : decode cX5_fooled 55 = .ok (.iload 5, 2) := by decide +kernel
theorem dX5_fooled_57 : decode cX5_fooled 57 = .ok (.invokestatic 176, 3) := by decide +kernel
theorem dX5_fooled_60 : decode cX5_fooled 60 = .ok (.lstore 6, 2) := by decide +kernel
theorem dX5_fooled_62 : decode cX5_fooled 62 = .ok (.iconst 0, 1) := by decide +kernel
theorem dX5_fooled_63 : decode cX5_fooled 63 = .ok (.istore 8, 2) := by decide +kernel
theorem dX5_fooled_65 : decode cX5_fooled 65 = .ok (.iconst 1, 1) := by decide +kernel
theorem dX5_fooled_66 : decode cX5_fooled 66 = .ok (.istore 9, 2) := by decide +kernel
theorem dX5_fooled_68 : decode cX5_fooled 68 = .ok (.iload 9, 2) := by decide +kernel
theorem dX5_fooled_70 : decode cX5_fooled 70 = .ok (.bipush 15, 2) := by decide +kernel
theorem dX5_fooled_72 : decode cX5_fooled 72 = .ok (.if_icmp .gt 31, 3) := by decide +kernel
theorem dX5_fooled_75 : decode cX5_fooled 75 = .ok (.lload 6, 2) := by decide +kernel
theorem dX5_fooled_77 : decode cX5_fooled 77 = .ok (.iload_n 3, 1) := by decide +kernel
theorem dX5_fooled_78 : decode cX5_fooled 78 = .ok (.iload 9, 2) := by decide +kernel
theorem dX5_fooled_80 : decode cX5_fooled 80 = .ok (.invokestatic 176, 3) := by decide +kernel
theorem dX5_fooled_83 : decode cX5_fooled 83 = .ok (.iconst 0, 1) := by decide +kernel
theorem dX5_fooled_84 : decode cX5_fooled 84 = .ok (.invokestatic 180, 3) := by decide +kernel
theorem dX5_fooled_87 : decode cX5_fooled 87 = .ok (.ldc2_w 146, 3) := by decide +kernel
theorem dX5_fooled_90 : decode cX5_fooled 90 = .ok (.lcmp, 1) := by decide +kernel
theorem dX5_fooled_91 : decode cX5_fooled 91 = .ok (.ifCond .eq 6, 3) := by decide +kernel
theorem dX5_fooled_94 : decode cX5_fooled 94 = .ok (.iinc 8 1, 3) := by decide +kernel
theorem dX5_fooled_97 : decode cX5_fooled 97 = .ok (.iinc 9 1, 3) := by decide +kernel
theorem dX5_fooled_100 : decode cX5_fooled 100 = .ok (.goto (-32), 3) := by decide +kernel
theorem dX5_fooled_103 : decode cX5_fooled 103 = .ok (.iload 8, 2) := by decide +kernel
theorem dX5_fooled_105 : decode cX5_fooled 105 = .ok (.ireturn, 1) := by decide +kernel
theorem dX5_seen_0 : decode cX5_seen 0 = .ok (.iload_n 1, 1) := by decide +kernel
theorem dX5_seen_1 : decode cX5_seen 1 = .ok (.invokestatic 29, 3) := by decide +kernel
theorem dX5_seen_4 : decode cX5_seen 4 = .ok (.iload_n 2, 1) := by decide +kernel
theorem dX5_seen_5 : decode cX5_seen 5 = .ok (.invokestatic 94, 3) := by decide +kernel
theorem dX5_seen_8 : decode cX5_seen 8 = .ok (.aload_n 0, 1) := by decide +kernel
theorem dX5_seen_9 : decode cX5_seen 9 = .ok (.getfield 12, 3) := by decide +kernel
theorem dX5_seen_12 : decode cX5_seen 12 = .ok (.getfield 107, 3) := by decide +kernel
theorem dX5_seen_15 : decode cX5_seen 15 = .ok (.iload_n 2, 1) := by decide +kernel
theorem dX5_seen_16 : decode cX5_seen 16 = .ok (.aaload, 1) := by decide +kernel
theorem dX5_seen_17 : decode cX5_seen 17 = .ok (.iload_n 1, 1) := by decide +kernel
theorem dX5_seen_18 : decode cX5_seen 18 = .ok (.invokevirtual 184, 3) := by decide +kernel
theorem dX5_seen_21 : decode cX5_seen 21 = .ok (.ireturn, 1) := by decide +kernel
theorem dX5_sum_0 : decode cX5_sum 0 = .ok (.iload_n 1, 1) := by decide +kernel
theorem dX5_sum_1 : decode cX5_sum 1 = .ok (.invokestatic 29, 3) := by decide +kernel
theorem dX5_sum_4 : decode cX5_sum 4 = .ok (.iload_n 2, 1) := by decide +kernel
theorem dX5_sum_5 : decode cX5_sum 5 = .ok (.iconst 1, 1) := by decide +kernel
theorem dX5_sum_6 : decode cX5_sum 6 = .ok (.if_icmp .lt 8, 3) := by decide +kernel
theorem dX5_sum_9 : decode cX5_sum 9 = .ok (.iload_n 2, 1) := by decide +kernel
theorem dX5_sum_10 : decode cX5_sum 10 = .ok (.iconst 4, 1) := by decide +kernel
theorem dX5_sum_11 : decode cX5_sum 11 = .ok (.if_icmp .le 13, 3) := by decide +kernel
theorem dX5_sum_14 : decode cX5_sum 14 = .ok (.new 125, 3) := by decide +kernel
theorem dX5_sum_17 : decode cX5_sum 17 = .ok (.dup, 1) := by decide +kernel
theorem dX5_sum_18 : decode cX5_sum 18 = .ok (.ldc 187, 2) := by decide +kernel
theorem dX5_sum_20 : decode cX5_sum 20 = .ok (.invokespecial 129, 3) := by decide +kernel
theorem dX5_sum_23 : decode cX5_sum 23 = .ok (.athrow, 1) := by decide +kernel
theorem dX5_sum_24 : decode cX5_sum 24 = .ok (.aload_n 0, 1) := by decide +kernel
theorem dX5_sum_25 : decode cX5_sum 25 = .ok (.getfield 12, 3) := by decide +kernel
theorem dX5_sum_28 : decode cX5_sum 28 = .ok (.iload_n 1, 1) := by decide +kernel
theorem dX5_sum_29 : decode cX5_sum 29 = .ok (.invokevirtual 37, 3) := by decide +kernel
theorem dX5_sum_32 : decode cX5_sum 32 = .ok (.iload_n 2, 1) := by decide +kernel
theorem dX5_sum_33 : decode cX5_sum 33 = .ok (.invokestatic 189, 3) := by decide +kernel
theorem dX5_sum_36 : decode cX5_sum 36 = .ok (.ireturn, 1) := by decide +kernel
theorem dX5_mended_0 : decode cX5_mended 0 = .ok (.iload_n 1, 1) := by decide +kernel
theorem dX5_mended_1 : decode cX5_mended 1 = .ok (.invokestatic 29, 3) := by decide +kernel
theorem dX5_mended_4 : decode cX5_mended 4 = .ok (.aload_n 0, 1) := by decide +kernel
theorem dX5_mended_5 : decode cX5_mended 5 = .ok (.getfield 12, 3) := by decide +kernel
theorem dX5_mended_8 : decode cX5_mended 8 = .ok (.iload_n 1, 1) := by decide +kernel
theorem dX5_mended_9 : decode cX5_mended 9 = .ok (.invokevirtual 192, 3) := by decide +kernel
theorem dX5_mended_12 : decode cX5_mended 12 = .ok (.lstore_n 2, 1) := by decide +kernel
theorem dX5_mended_13 : decode cX5_mended 13 = .ok (.lload_n 2, 1) := by decide +kernel
theorem dX5_mended_14 : decode cX5_mended 14 = .ok (.ldc2_w 146, 3) := by decide +kernel
theorem dX5_mended_17 : decode cX5_mended 17 = .ok (.lcmp, 1) := by decide +kernel
theorem dX5_mended_18 : decode cX5_mended 18 = .ok (.ifCond .ne 7, 3) := by decide +kernel
theorem dX5_mended_21 : decode cX5_mended 21 = .ok (.iconst (-1), 1) := by decide +kernel
theorem dX5_mended_22 : decode cX5_mended 22 = .ok (.goto 16, 3) := by decide +kernel
theorem dX5_mended_25 : decode cX5_mended 25 = .ok (.aload_n 0, 1) := by decide +kernel
theorem dX5_mended_26 : decode cX5_mended 26 = .ok (.getfield 12, 3) := by decide +kernel
theorem dX5_mended_29 : decode cX5_mended 29 = .ok (.iload_n 1, 1) := by decide +kernel
theorem dX5_mended_30 : decode cX5_mended 30 = .ok (.invokevirtual 37, 3) := by decide +kernel
theorem dX5_mended_33 : decode cX5_mended 33 = .ok (.lload_n 2, 1) := by decide +kernel
theorem dX5_mended_34 : decode cX5_mended 34 = .ok (.lxor, 1) := by decide +kernel
theorem dX5_mended_35 : decode cX5_mended 35 = .ok (.invokestatic 51, 3) := by decide +kernel
theorem dX5_mended_38 : decode cX5_mended 38 = .ok (.ireturn, 1) := by decide +kernel
theorem dX5_data_0 : decode cX5_data 0 = .ok (.iload_n 1, 1) := by decide +kernel
theorem dX5_data_1 : decode cX5_data 1 = .ok (.invokestatic 29, 3) := by decide +kernel
theorem dX5_data_4 : decode cX5_data 4 = .ok (.aload_n 0, 1) := by decide +kernel
theorem dX5_data_5 : decode cX5_data 5 = .ok (.getfield 12, 3) := by decide +kernel
theorem dX5_data_8 : decode cX5_data 8 = .ok (.iload_n 1, 1) := by decide +kernel
theorem dX5_data_9 : decode cX5_data 9 = .ok (.invokevirtual 192, 3) := by decide +kernel
theorem dX5_data_12 : decode cX5_data 12 = .ok (.invokestatic 151, 3) := by decide +kernel
theorem dX5_data_15 : decode cX5_data 15 = .ok (.lreturn, 1) := by decide +kernel
theorem dX5_ofChip_0 : decode cX5_ofChip 0 = .ok (.iload_n 1, 1) := by decide +kernel
theorem dX5_ofChip_1 : decode cX5_ofChip 1 = .ok (.invokestatic 61, 3) := by decide +kernel
theorem dX5_ofChip_4 : decode cX5_ofChip 4 = .ok (.aload_n 0, 1) := by decide +kernel
theorem dX5_ofChip_5 : decode cX5_ofChip 5 = .ok (.getfield 12, 3) := by decide +kernel
theorem dX5_ofChip_8 : decode cX5_ofChip 8 = .ok (.getfield 67, 3) := by decide +kernel
theorem dX5_ofChip_11 : decode cX5_ofChip 11 = .ok (.iload_n 1, 1) := by decide +kernel
theorem dX5_ofChip_12 : decode cX5_ofChip 12 = .ok (.aaload, 1) := by decide +kernel
theorem dX5_ofChip_13 : decode cX5_ofChip 13 = .ok (.astore_n 3, 1) := by decide +kernel
theorem dX5_ofChip_14 : decode cX5_ofChip 14 = .ok (.iload_n 2, 1) := by decide +kernel
theorem dX5_ofChip_15 : decode cX5_ofChip 15 = .ok (.tableswitch 83 0 5 #[37, 42, 47, 52, 65, 78], 37) := by decide +kernel
theorem dX5_ofChip_52 : decode cX5_ofChip 52 = .ok (.aload_n 3, 1) := by decide +kernel
theorem dX5_ofChip_53 : decode cX5_ofChip 53 = .ok (.getfield 195, 3) := by decide +kernel
theorem dX5_ofChip_56 : decode cX5_ofChip 56 = .ok (.ireturn, 1) := by decide +kernel
theorem dX5_ofChip_57 : decode cX5_ofChip 57 = .ok (.aload_n 3, 1) := by decide +kernel
theorem dX5_ofChip_58 : decode cX5_ofChip 58 = .ok (.getfield 81, 3) := by decide +kernel
theorem dX5_ofChip_61 : decode cX5_ofChip 61 = .ok (.ireturn, 1) := by decide +kernel
theorem dX5_ofChip_62 : decode cX5_ofChip 62 = .ok (.aload_n 3, 1) := by decide +kernel
theorem dX5_ofChip_63 : decode cX5_ofChip 63 = .ok (.getfield 198, 3) := by decide +kernel
theorem dX5_ofChip_66 : decode cX5_ofChip 66 = .ok (.ireturn, 1) := by decide +kernel
theorem dX5_ofChip_67 : decode cX5_ofChip 67 = .ok (.aload_n 3, 1) := by decide +kernel
theorem dX5_ofChip_68 : decode cX5_ofChip 68 = .ok (.getfield 110, 3) := by decide +kernel
theorem dX5_ofChip_71 : decode cX5_ofChip 71 = .ok (.ifCond .eq 7, 3) := by decide +kernel
theorem dX5_ofChip_74 : decode cX5_ofChip 74 = .ok (.iconst 1, 1) := by decide +kernel
theorem dX5_ofChip_75 : decode cX5_ofChip 75 = .ok (.goto 4, 3) := by decide +kernel
theorem dX5_ofChip_78 : decode cX5_ofChip 78 = .ok (.iconst 0, 1) := by decide +kernel
theorem dX5_ofChip_79 : decode cX5_ofChip 79 = .ok (.ireturn, 1) := by decide +kernel
theorem dX5_ofChip_80 : decode cX5_ofChip 80 = .ok (.aload_n 3, 1) := by decide +kernel
theorem dX5_ofChip_81 : decode cX5_ofChip 81 = .ok (.getfield 201, 3) := by decide +kernel
theorem dX5_ofChip_84 : decode cX5_ofChip 84 = .ok (.ifCond .eq 7, 3) := by decide +kernel
theorem dX5_ofChip_87 : decode cX5_ofChip 87 = .ok (.iconst 1, 1) := by decide +kernel
theorem dX5_ofChip_88 : decode cX5_ofChip 88 = .ok (.goto 4, 3) := by decide +kernel
theorem dX5_ofChip_91 : decode cX5_ofChip 91 = .ok (.iconst 0, 1) := by decide +kernel
theorem dX5_ofChip_92 : decode cX5_ofChip 92 = .ok (.ireturn, 1) := by decide +kernel
theorem dX5_ofChip_93 : decode cX5_ofChip 93 = .ok (.aload_n 3, 1) := by decide +kernel
theorem dX5_ofChip_94 : decode cX5_ofChip 94 = .ok (.invokevirtual 77, 3) := by decide +kernel
theorem dX5_ofChip_97 : decode cX5_ofChip 97 = .ok (.ireturn, 1) := by decide +kernel
theorem dX5_ofChip_98 : decode cX5_ofChip 98 = .ok (.new 125, 3) := by decide +kernel
theorem dX5_ofChip_101 : decode cX5_ofChip 101 = .ok (.dup, 1) := by decide +kernel
theorem dX5_ofChip_102 : decode cX5_ofChip 102 = .ok (.ldc 204, 2) := by decide +kernel
theorem dX5_ofChip_104 : decode cX5_ofChip 104 = .ok (.invokespecial 129, 3) := by decide +kernel
theorem dX5_ofChip_107 : decode cX5_ofChip 107 = .ok (.athrow, 1) := by decide +kernel
theorem dX5_stored_0 : decode cX5_stored 0 = .ok (.iload_n 1, 1) := by decide +kernel
theorem dX5_stored_1 : decode cX5_stored 1 = .ok (.invokestatic 61, 3) := by decide +kernel
theorem dX5_stored_4 : decode cX5_stored 4 = .ok (.iload_n 2, 1) := by decide +kernel
theorem dX5_stored_5 : decode cX5_stored 5 = .ok (.invokestatic 29, 3) := by decide +kernel
theorem dX5_stored_8 : decode cX5_stored 8 = .ok (.aload_n 0, 1) := by decide +kernel
theorem dX5_stored_9 : decode cX5_stored 9 = .ok (.getfield 12, 3) := by decide +kernel
theorem dX5_stored_12 : decode cX5_stored 12 = .ok (.getfield 67, 3) := by decide +kernel
theorem dX5_stored_15 : decode cX5_stored 15 = .ok (.iload_n 1, 1) := by decide +kernel
theorem dX5_stored_16 : decode cX5_stored 16 = .ok (.aaload, 1) := by decide +kernel
theorem dX5_stored_17 : decode cX5_stored 17 = .ok (.iload_n 2, 1) := by decide +kernel
theorem dX5_stored_18 : decode cX5_stored 18 = .ok (.invokevirtual 87, 3) := by decide +kernel
theorem dX5_stored_21 : decode cX5_stored 21 = .ok (.ireturn, 1) := by decide +kernel
theorem dX5_ofFrame_0 : decode cX5_ofFrame 0 = .ok (.iload_n 1, 1) := by decide +kernel
theorem dX5_ofFrame_1 : decode cX5_ofFrame 1 = .ok (.invokestatic 206, 3) := by decide +kernel
theorem dX5_ofFrame_4 : decode cX5_ofFrame 4 = .ok (.aload_n 0, 1) := by decide +kernel
theorem dX5_ofFrame_5 : decode cX5_ofFrame 5 = .ok (.getfield 21, 3) := by decide +kernel
theorem dX5_ofFrame_8 : decode cX5_ofFrame 8 = .ok (.getfield 209, 3) := by decide +kernel
theorem dX5_ofFrame_11 : decode cX5_ofFrame 11 = .ok (.iload_n 1, 1) := by decide +kernel
theorem dX5_ofFrame_12 : decode cX5_ofFrame 12 = .ok (.aaload, 1) := by decide +kernel
theorem dX5_ofFrame_13 : decode cX5_ofFrame 13 = .ok (.astore_n 3, 1) := by decide +kernel
theorem dX5_ofFrame_14 : decode cX5_ofFrame 14 = .ok (.iload_n 2, 1) := by decide +kernel
theorem dX5_ofFrame_15 : decode cX5_ofFrame 15 = .ok (.tableswitch 48 0 2 #[25, 30, 43], 25) := by decide +kernel
theorem dX5_ofFrame_40 : decode cX5_ofFrame 40 = .ok (.aload_n 3, 1) := by decide +kernel
theorem dX5_ofFrame_41 : decode cX5_ofFrame 41 = .ok (.getfield 213, 3) := by decide +kernel
theorem dX5_ofFrame_44 : decode cX5_ofFrame 44 = .ok (.ireturn, 1) := by decide +kernel
theorem dX5_ofFrame_45 : decode cX5_ofFrame 45 = .ok (.aload_n 3, 1) := by decide +kernel
theorem dX5_ofFrame_46 : decode cX5_ofFrame 46 = .ok (.getfield 218, 3) := by decide +kernel
theorem dX5_ofFrame_49 : decode cX5_ofFrame 49 = .ok (.ifCond .eq 7, 3) := by decide +kernel
theorem dX5_ofFrame_52 : decode cX5_ofFrame 52 = .ok (.iconst 1, 1) := by decide +kernel
theorem dX5_ofFrame_53 : decode cX5_ofFrame 53 = .ok (.goto 4, 3) := by decide +kernel
theorem dX5_ofFrame_56 : decode cX5_ofFrame 56 = .ok (.iconst 0, 1) := by decide +kernel
theorem dX5_ofFrame_57 : decode cX5_ofFrame 57 = .ok (.ireturn, 1) := by decide +kernel
theorem dX5_ofFrame_58 : decode cX5_ofFrame 58 = .ok (.aload_n 3, 1) := by decide +kernel
theorem dX5_ofFrame_59 : decode cX5_ofFrame 59 = .ok (.getfield 221, 3) := by decide +kernel
theorem dX5_ofFrame_62 : decode cX5_ofFrame 62 = .ok (.ireturn, 1) := by decide +kernel
theorem dX5_ofFrame_63 : decode cX5_ofFrame 63 = .ok (.new 125, 3) := by decide +kernel
theorem dX5_ofFrame_66 : decode cX5_ofFrame 66 = .ok (.dup, 1) := by decide +kernel
theorem dX5_ofFrame_67 : decode cX5_ofFrame 67 = .ok (.ldc 224, 2) := by decide +kernel
theorem dX5_ofFrame_69 : decode cX5_ofFrame 69 = .ok (.invokespecial 129, 3) := by decide +kernel
theorem dX5_ofFrame_72 : decode cX5_ofFrame 72 = .ok (.athrow, 1) := by decide +kernel
theorem dX5_held_0 : decode cX5_held 0 = .ok (.iload_n 1, 1) := by decide +kernel
theorem dX5_held_1 : decode cX5_held 1 = .ok (.invokestatic 206, 3) := by decide +kernel
theorem dX5_held_4 : decode cX5_held 4 = .ok (.aload_n 0, 1) := by decide +kernel
theorem dX5_held_5 : decode cX5_held 5 = .ok (.getfield 21, 3) := by decide +kernel
theorem dX5_held_8 : decode cX5_held 8 = .ok (.getfield 209, 3) := by decide +kernel
theorem dX5_held_11 : decode cX5_held 11 = .ok (.iload_n 1, 1) := by decide +kernel
theorem dX5_held_12 : decode cX5_held 12 = .ok (.aaload, 1) := by decide +kernel
theorem dX5_held_13 : decode cX5_held 13 = .ok (.getfield 226, 3) := by decide +kernel
theorem dX5_held_16 : decode cX5_held 16 = .ok (.invokestatic 151, 3) := by decide +kernel
theorem dX5_held_19 : decode cX5_held 19 = .ok (.lreturn, 1) := by decide +kernel
theorem dX5_bank_0 : decode cX5_bank 0 = .ok (.iload_n 1, 1) := by decide +kernel
theorem dX5_bank_1 : decode cX5_bank 1 = .ok (.tableswitch 171 0 12 #[67, 75, 83, 91, 99, 110, 118, 126, 134, 142, 150, 158, 166], 67) := by decide +kernel
theorem dX5_bank_68 : decode cX5_bank 68 = .ok (.aload_n 0, 1) := by decide +kernel
theorem dX5_bank_69 : decode cX5_bank 69 = .ok (.getfield 12, 3) := by decide +kernel
theorem dX5_bank_72 : decode cX5_bank 72 = .ok (.getfield 230, 3) := by decide +kernel
theorem dX5_bank_75 : decode cX5_bank 75 = .ok (.ireturn, 1) := by decide +kernel
theorem dX5_bank_76 : decode cX5_bank 76 = .ok (.aload_n 0, 1) := by decide +kernel
theorem dX5_bank_77 : decode cX5_bank 77 = .ok (.getfield 12, 3) := by decide +kernel
theorem dX5_bank_80 : decode cX5_bank 80 = .ok (.getfield 233, 3) := by decide +kernel
theorem dX5_bank_83 : decode cX5_bank 83 = .ok (.ireturn, 1) := by decide +kernel
theorem dX5_bank_84 : decode cX5_bank 84 = .ok (.aload_n 0, 1) := by decide +kernel
theorem dX5_bank_85 : decode cX5_bank 85 = .ok (.getfield 12, 3) := by decide +kernel
theorem dX5_bank_88 : decode cX5_bank 88 = .ok (.getfield 236, 3) := by decide +kernel
theorem dX5_bank_91 : decode cX5_bank 91 = .ok (.ireturn, 1) := by decide +kernel
theorem dX5_bank_92 : decode cX5_bank 92 = .ok (.aload_n 0, 1) := by decide +kernel
theorem dX5_bank_93 : decode cX5_bank 93 = .ok (.getfield 12, 3) := by decide +kernel
theorem dX5_bank_96 : decode cX5_bank 96 = .ok (.invokevirtual 114, 3) := by decide +kernel
theorem dX5_bank_99 : decode cX5_bank 99 = .ok (.ireturn, 1) := by decide +kernel
theorem dX5_bank_100 : decode cX5_bank 100 = .ok (.aload_n 0, 1) := by decide +kernel
theorem dX5_bank_101 : decode cX5_bank 101 = .ok (.getfield 12, 3) := by decide +kernel
theorem dX5_bank_104 : decode cX5_bank 104 = .ok (.invokevirtual 97, 3) := by decide +kernel
theorem dX5_bank_107 : decode cX5_bank 107 = .ok (.invokestatic 55, 3) := by decide +kernel
theorem dX5_bank_110 : decode cX5_bank 110 = .ok (.ireturn, 1) := by decide +kernel
theorem dX5_bank_111 : decode cX5_bank 111 = .ok (.aload_n 0, 1) := by decide +kernel
theorem dX5_bank_112 : decode cX5_bank 112 = .ok (.getfield 12, 3) := by decide +kernel
theorem dX5_bank_115 : decode cX5_bank 115 = .ok (.invokevirtual 239, 3) := by decide +kernel
theorem dX5_bank_118 : decode cX5_bank 118 = .ok (.ireturn, 1) := by decide +kernel
theorem dX5_bank_119 : decode cX5_bank 119 = .ok (.aload_n 0, 1) := by decide +kernel
theorem dX5_bank_120 : decode cX5_bank 120 = .ok (.getfield 12, 3) := by decide +kernel
theorem dX5_bank_123 : decode cX5_bank 123 = .ok (.getfield 242, 3) := by decide +kernel
theorem dX5_bank_126 : decode cX5_bank 126 = .ok (.ireturn, 1) := by decide +kernel
theorem dX5_bank_127 : decode cX5_bank 127 = .ok (.aload_n 0, 1) := by decide +kernel
theorem dX5_bank_128 : decode cX5_bank 128 = .ok (.getfield 21, 3) := by decide +kernel
theorem dX5_bank_131 : decode cX5_bank 131 = .ok (.getfield 245, 3) := by decide +kernel
theorem dX5_bank_134 : decode cX5_bank 134 = .ok (.ireturn, 1) := by decide +kernel
theorem dX5_bank_135 : decode cX5_bank 135 = .ok (.aload_n 0, 1) := by decide +kernel
theorem dX5_bank_136 : decode cX5_bank 136 = .ok (.getfield 21, 3) := by decide +kernel
theorem dX5_bank_139 : decode cX5_bank 139 = .ok (.getfield 248, 3) := by decide +kernel
theorem dX5_bank_142 : decode cX5_bank 142 = .ok (.ireturn, 1) := by decide +kernel
theorem dX5_bank_143 : decode cX5_bank 143 = .ok (.aload_n 0, 1) := by decide +kernel
theorem dX5_bank_144 : decode cX5_bank 144 = .ok (.getfield 21, 3) := by decide +kernel
theorem dX5_bank_147 : decode cX5_bank 147 = .ok (.invokevirtual 251, 3) := by decide +kernel
theorem dX5_bank_150 : decode cX5_bank 150 = .ok (.ireturn, 1) := by decide +kernel
theorem dX5_bank_151 : decode cX5_bank 151 = .ok (.aload_n 0, 1) := by decide +kernel
theorem dX5_bank_152 : decode cX5_bank 152 = .ok (.getfield 12, 3) := by decide +kernel
theorem dX5_bank_155 : decode cX5_bank 155 = .ok (.invokevirtual 254, 3) := by decide +kernel
theorem dX5_bank_158 : decode cX5_bank 158 = .ok (.ireturn, 1) := by decide +kernel
theorem dX5_bank_159 : decode cX5_bank 159 = .ok (.aload_n 0, 1) := by decide +kernel
theorem dX5_bank_160 : decode cX5_bank 160 = .ok (.getfield 12, 3) := by decide +kernel
theorem dX5_bank_163 : decode cX5_bank 163 = .ok (.getfield 130, 3) := by decide +kernel
theorem dX5_bank_166 : decode cX5_bank 166 = .ok (.ireturn, 1) := by decide +kernel
theorem dX5_bank_167 : decode cX5_bank 167 = .ok (.aload_n 0, 1) := by decide +kernel
theorem dX5_bank_168 : decode cX5_bank 168 = .ok (.getfield 25, 3) := by decide +kernel
theorem dX5_bank_171 : decode cX5_bank 171 = .ok (.ireturn, 1) := by decide +kernel
theorem dX5_bank_172 : decode cX5_bank 172 = .ok (.new 125, 3) := by decide +kernel
theorem dX5_bank_175 : decode cX5_bank 175 = .ok (.dup, 1) := by decide +kernel
theorem dX5_bank_176 : decode cX5_bank 176 = .ok (.ldc_w 257, 3) := by decide +kernel
theorem dX5_bank_179 : decode cX5_bank 179 = .ok (.invokespecial 129, 3) := by decide +kernel
theorem dX5_bank_182 : decode cX5_bank 182 = .ok (.athrow, 1) := by decide +kernel
theorem dX5_row_0 : decode cX5_row 0 = .ok (.iload_n 1, 1) := by decide +kernel
theorem dX5_row_1 : decode cX5_row 1 = .ok (.invokestatic 29, 3) := by decide +kernel
theorem dX5_row_4 : decode cX5_row 4 = .ok (.new 259, 3) := by decide +kernel
theorem dX5_row_7 : decode cX5_row 7 = .ok (.dup, 1) := by decide +kernel
theorem dX5_row_8 : decode cX5_row 8 = .ok (.invokespecial 261, 3) := by decide +kernel
theorem dX5_row_11 : decode cX5_row 11 = .ok (.astore_n 2, 1) := by decide +kernel
theorem dX5_row_12 : decode cX5_row 12 = .ok (.iconst 0, 1) := by decide +kernel
theorem dX5_row_13 : decode cX5_row 13 = .ok (.istore_n 3, 1) := by decide +kernel
theorem dX5_row_14 : decode cX5_row 14 = .ok (.iload_n 3, 1) := by decide +kernel
theorem dX5_row_15 : decode cX5_row 15 = .ok (.bipush 15, 2) := by decide +kernel
theorem dX5_row_17 : decode cX5_row 17 = .ok (.if_icmp .ge 47, 3) := by decide +kernel
theorem dX5_row_20 : decode cX5_row 20 = .ok (.aload_n 0, 1) := by decide +kernel
theorem dX5_row_21 : decode cX5_row 21 = .ok (.getfield 12, 3) := by decide +kernel
theorem dX5_row_24 : decode cX5_row 24 = .ok (.getfield 107, 3) := by decide +kernel
theorem dX5_row_27 : decode cX5_row 27 = .ok (.iload_n 3, 1) := by decide +kernel
theorem dX5_row_28 : decode cX5_row 28 = .ok (.aaload, 1) := by decide +kernel
theorem dX5_row_29 : decode cX5_row 29 = .ok (.astore 4, 2) := by decide +kernel
theorem dX5_row_31 : decode cX5_row 31 = .ok (.aload_n 2, 1) := by decide +kernel
theorem dX5_row_32 : decode cX5_row 32 = .ok (.aload 4, 2) := by decide +kernel
theorem dX5_row_34 : decode cX5_row 34 = .ok (.getfield 110, 3) := by decide +kernel
theorem dX5_row_37 : decode cX5_row 37 = .ok (.ifCond .eq 8, 3) := by decide +kernel
theorem dX5_row_40 : decode cX5_row 40 = .ok (.bipush 63, 2) := by decide +kernel
theorem dX5_row_42 : decode cX5_row 42 = .ok (.goto 12, 3) := by decide +kernel
theorem dX5_row_45 : decode cX5_row 45 = .ok (.aload 4, 2) := by decide +kernel
theorem dX5_row_47 : decode cX5_row 47 = .ok (.iload_n 1, 1) := by decide +kernel
theorem dX5_row_48 : decode cX5_row 48 = .ok (.invokevirtual 184, 3) := by decide +kernel
theorem dX5_row_51 : decode cX5_row 51 = .ok (.invokestatic 262, 3) := by decide +kernel
theorem dX5_row_54 : decode cX5_row 54 = .ok (.invokevirtual 266, 3) := by decide +kernel
theorem dX5_row_57 : decode cX5_row 57 = .ok (.pop, 1) := by decide +kernel
theorem dX5_row_58 : decode cX5_row 58 = .ok (.iinc 3 1, 3) := by decide +kernel
theorem dX5_row_61 : decode cX5_row 61 = .ok (.goto (-47), 3) := by decide +kernel
theorem dX5_row_64 : decode cX5_row 64 = .ok (.aload_n 2, 1) := by decide +kernel
theorem dX5_row_65 : decode cX5_row 65 = .ok (.invokevirtual 270, 3) := by decide +kernel
theorem dX5_row_68 : decode cX5_row 68 = .ok (.areturn, 1) := by decide +kernel
theorem dX5_wouldMend_0 : decode cX5_wouldMend 0 = .ok (.iload_n 1, 1) := by decide +kernel
theorem dX5_wouldMend_1 : decode cX5_wouldMend 1 = .ok (.invokestatic 29, 3) := by decide +kernel
theorem dX5_wouldMend_4 : decode cX5_wouldMend 4 = .ok (.iload_n 2, 1) := by decide +kernel
theorem dX5_wouldMend_5 : decode cX5_wouldMend 5 = .ok (.ifCond .lt 10, 3) := by decide +kernel
theorem dX5_wouldMend_8 : decode cX5_wouldMend 8 = .ok (.iload_n 2, 1) := by decide +kernel
theorem dX5_wouldMend_9 : decode cX5_wouldMend 9 = .ok (.sipush 32767, 3) := by decide +kernel
theorem dX5_wouldMend_12 : decode cX5_wouldMend 12 = .ok (.if_icmp .le 14, 3) := by decide +kernel
theorem dX5_wouldMend_15 : decode cX5_wouldMend 15 = .ok (.new 125, 3) := by decide +kernel
theorem dX5_wouldMend_18 : decode cX5_wouldMend 18 = .ok (.dup, 1) := by decide +kernel
theorem dX5_wouldMend_19 : decode cX5_wouldMend 19 = .ok (.ldc_w 274, 3) := by decide +kernel
theorem dX5_wouldMend_22 : decode cX5_wouldMend 22 = .ok (.invokespecial 129, 3) := by decide +kernel
theorem dX5_wouldMend_25 : decode cX5_wouldMend 25 = .ok (.athrow, 1) := by decide +kernel
theorem dX5_wouldMend_26 : decode cX5_wouldMend 26 = .ok (.aload_n 0, 1) := by decide +kernel
theorem dX5_wouldMend_27 : decode cX5_wouldMend 27 = .ok (.getfield 12, 3) := by decide +kernel
theorem dX5_wouldMend_30 : decode cX5_wouldMend 30 = .ok (.iload_n 1, 1) := by decide +kernel
theorem dX5_wouldMend_31 : decode cX5_wouldMend 31 = .ok (.invokevirtual 37, 3) := by decide +kernel
theorem dX5_wouldMend_34 : decode cX5_wouldMend 34 = .ok (.lstore_n 3, 1) := by decide +kernel
theorem dX5_wouldMend_35 : decode cX5_wouldMend 35 = .ok (.lload_n 3, 1) := by decide +kernel
theorem dX5_wouldMend_36 : decode cX5_wouldMend 36 = .ok (.lload_n 3, 1) := by decide +kernel
theorem dX5_wouldMend_37 : decode cX5_wouldMend 37 = .ok (.aload_n 0, 1) := by decide +kernel
theorem dX5_wouldMend_38 : decode cX5_wouldMend 38 = .ok (.getfield 12, 3) := by decide +kernel
theorem dX5_wouldMend_41 : decode cX5_wouldMend 41 = .ok (.invokevirtual 97, 3) := by decide +kernel
theorem dX5_wouldMend_44 : decode cX5_wouldMend 44 = .ok (.iload_n 2, 1) := by decide +kernel
theorem dX5_wouldMend_45 : decode cX5_wouldMend 45 = .ok (.ior, 1) := by decide +kernel
theorem dX5_wouldMend_46 : decode cX5_wouldMend 46 = .ok (.invokestatic 180, 3) := by decide +kernel
theorem dX5_wouldMend_49 : decode cX5_wouldMend 49 = .ok (.invokestatic 136, 3) := by decide +kernel
theorem dX5_wouldMend_52 : decode cX5_wouldMend 52 = .ok (.ireturn, 1) := by decide +kernel
theorem dX5_spare_0 : decode cX5_spare 0 = .ok (.iload_n 1, 1) := by decide +kernel
theorem dX5_spare_1 : decode cX5_spare 1 = .ok (.invokestatic 29, 3) := by decide +kernel
theorem dX5_spare_4 : decode cX5_spare 4 = .ok (.aload_n 0, 1) := by decide +kernel
theorem dX5_spare_5 : decode cX5_spare 5 = .ok (.getfield 12, 3) := by decide +kernel
theorem dX5_spare_8 : decode cX5_spare 8 = .ok (.iload_n 1, 1) := by decide +kernel
theorem dX5_spare_9 : decode cX5_spare 9 = .ok (.invokevirtual 192, 3) := by decide +kernel
theorem dX5_spare_12 : decode cX5_spare 12 = .ok (.lstore_n 2, 1) := by decide +kernel
theorem dX5_spare_13 : decode cX5_spare 13 = .ok (.lload_n 2, 1) := by decide +kernel
theorem dX5_spare_14 : decode cX5_spare 14 = .ok (.ldc2_w 146, 3) := by decide +kernel
theorem dX5_spare_17 : decode cX5_spare 17 = .ok (.lcmp, 1) := by decide +kernel
theorem dX5_spare_18 : decode cX5_spare 18 = .ok (.ifCond .ne 5, 3) := by decide +kernel
theorem dX5_spare_21 : decode cX5_spare 21 = .ok (.iconst (-1), 1) := by decide +kernel
theorem dX5_spare_22 : decode cX5_spare 22 = .ok (.ireturn, 1) := by decide +kernel
theorem dX5_spare_23 : decode cX5_spare 23 = .ok (.aload_n 0, 1) := by decide +kernel
theorem dX5_spare_24 : decode cX5_spare 24 = .ok (.getfield 12, 3) := by decide +kernel
theorem dX5_spare_27 : decode cX5_spare 27 = .ok (.iload_n 1, 1) := by decide +kernel
theorem dX5_spare_28 : decode cX5_spare 28 = .ok (.invokevirtual 37, 3) := by decide +kernel
theorem dX5_spare_31 : decode cX5_spare 31 = .ok (.lload_n 2, 1) := by decide +kernel
theorem dX5_spare_32 : decode cX5_spare 32 = .ok (.lxor, 1) := by decide +kernel
theorem dX5_spare_33 : decode cX5_spare 33 = .ok (.invokestatic 51, 3) := by decide +kernel
theorem dX5_spare_36 : decode cX5_spare 36 = .ok (.istore 4, 2) := by decide +kernel
theorem dX5_spare_38 : decode cX5_spare 38 = .ok (.aload_n 0, 1) := by decide +kernel
theorem dX5_spare_39 : decode cX5_spare 39 = .ok (.getfield 12, 3) := by decide +kernel
theorem dX5_spare_42 : decode cX5_spare 42 = .ok (.invokevirtual 97, 3) := by decide +kernel
theorem dX5_spare_45 : decode cX5_spare 45 = .ok (.istore 5, 2) := by decide +kernel
theorem dX5_spare_47 : decode cX5_spare 47 = .ok (.iconst 4, 1) := by decide +kernel
theorem dX5_spare_48 : decode cX5_spare 48 = .ok (.iload 5, 2) := by decide +kernel
theorem dX5_spare_50 : decode cX5_spare 50 = .ok (.invokestatic 55, 3) := by decide +kernel
theorem dX5_spare_53 : decode cX5_spare 53 = .ok (.isub, 1) := by decide +kernel
theorem dX5_spare_54 : decode cX5_spare 54 = .ok (.iconst 2, 1) := by decide +kernel
theorem dX5_spare_55 : decode cX5_spare 55 = .ok (.iload 4, 2) := by decide +kernel
theorem dX5_spare_57 : decode cX5_spare 57 = .ok (.iload 5, 2) := by decide +kernel
theorem dX5_spare_59 : decode cX5_spare 59 = .ok (.iconst (-1), 1) := by decide +kernel
theorem dX5_spare_60 : decode cX5_spare 60 = .ok (.ixor, 1) := by decide +kernel
theorem dX5_spare_61 : decode cX5_spare 61 = .ok (.iand, 1) := by decide +kernel
theorem dX5_spare_62 : decode cX5_spare 62 = .ok (.invokestatic 55, 3) := by decide +kernel
theorem dX5_spare_65 : decode cX5_spare 65 = .ok (.imul, 1) := by decide +kernel
theorem dX5_spare_66 : decode cX5_spare 66 = .ok (.isub, 1) := by decide +kernel
theorem dX5_spare_67 : decode cX5_spare 67 = .ok (.ireturn, 1) := by decide +kernel
theorem dX5_wouldLose_0 : decode cX5_wouldLose 0 = .ok (.iload_n 1, 1) := by decide +kernel
theorem dX5_wouldLose_1 : decode cX5_wouldLose 1 = .ok (.invokestatic 94, 3) := by decide +kernel
theorem dX5_wouldLose_4 : decode cX5_wouldLose 4 = .ok (.iload_n 2, 1) := by decide +kernel
theorem dX5_wouldLose_5 : decode cX5_wouldLose 5 = .ok (.invokestatic 64, 3) := by decide +kernel
theorem dX5_wouldLose_8 : decode cX5_wouldLose 8 = .ok (.aload_n 0, 1) := by decide +kernel
theorem dX5_wouldLose_9 : decode cX5_wouldLose 9 = .ok (.getfield 12, 3) := by decide +kernel
theorem dX5_wouldLose_12 : decode cX5_wouldLose 12 = .ok (.invokevirtual 97, 3) := by decide +kernel
theorem dX5_wouldLose_15 : decode cX5_wouldLose 15 = .ok (.istore_n 3, 1) := by decide +kernel
theorem dX5_wouldLose_16 : decode cX5_wouldLose 16 = .ok (.iconst 0, 1) := by decide +kernel
theorem dX5_wouldLose_17 : decode cX5_wouldLose 17 = .ok (.istore 4, 2) := by decide +kernel
theorem dX5_wouldLose_19 : decode cX5_wouldLose 19 = .ok (.iconst 0, 1) := by decide +kernel
theorem dX5_wouldLose_20 : decode cX5_wouldLose 20 = .ok (.istore 5, 2) := by decide +kernel
theorem dX5_wouldLose_22 : decode cX5_wouldLose 22 = .ok (.iload 5, 2) := by decide +kernel
theorem dX5_wouldLose_24 : decode cX5_wouldLose 24 = .ok (.bipush 16, 2) := by decide +kernel
theorem dX5_wouldLose_26 : decode cX5_wouldLose 26 = .ok (.if_icmp .ge 46, 3) := by decide +kernel
theorem dX5_wouldLose_29 : decode cX5_wouldLose 29 = .ok (.aload_n 0, 1) := by decide +kernel
theorem dX5_wouldLose_30 : decode cX5_wouldLose 30 = .ok (.getfield 12, 3) := by decide +kernel
theorem dX5_wouldLose_33 : decode cX5_wouldLose 33 = .ok (.iload 5, 2) := by decide +kernel
theorem dX5_wouldLose_35 : decode cX5_wouldLose 35 = .ok (.invokevirtual 37, 3) := by decide +kernel
theorem dX5_wouldLose_38 : decode cX5_wouldLose 38 = .ok (.iload_n 1, 1) := by decide +kernel
theorem dX5_wouldLose_39 : decode cX5_wouldLose 39 = .ok (.iload_n 2, 1) := by decide +kernel
theorem dX5_wouldLose_40 : decode cX5_wouldLose 40 = .ok (.iload 5, 2) := by decide +kernel
theorem dX5_wouldLose_42 : decode cX5_wouldLose 42 = .ok (.invokestatic 276, 3) := by decide +kernel
theorem dX5_wouldLose_45 : decode cX5_wouldLose 45 = .ok (.invokestatic 176, 3) := by decide +kernel
theorem dX5_wouldLose_48 : decode cX5_wouldLose 48 = .ok (.lstore 6, 2) := by decide +kernel
theorem dX5_wouldLose_50 : decode cX5_wouldLose 50 = .ok (.lload 6, 2) := by decide +kernel
theorem dX5_wouldLose_52 : decode cX5_wouldLose 52 = .ok (.iload_n 3, 1) := by decide +kernel
theorem dX5_wouldLose_53 : decode cX5_wouldLose 53 = .ok (.invokestatic 180, 3) := by decide +kernel
theorem dX5_wouldLose_56 : decode cX5_wouldLose 56 = .ok (.ldc2_w 146, 3) := by decide +kernel
theorem dX5_wouldLose_59 : decode cX5_wouldLose 59 = .ok (.lcmp, 1) := by decide +kernel
theorem dX5_wouldLose_60 : decode cX5_wouldLose 60 = .ok (.ifCond .ne 6, 3) := by decide +kernel
theorem dX5_wouldLose_63 : decode cX5_wouldLose 63 = .ok (.iinc 4 1, 3) := by decide +kernel
theorem dX5_wouldLose_66 : decode cX5_wouldLose 66 = .ok (.iinc 5 1, 3) := by decide +kernel
theorem dX5_wouldLose_69 : decode cX5_wouldLose 69 = .ok (.goto (-47), 3) := by decide +kernel
theorem dX5_wouldLose_72 : decode cX5_wouldLose 72 = .ok (.iload 4, 2) := by decide +kernel
theorem dX5_wouldLose_74 : decode cX5_wouldLose 74 = .ok (.ireturn, 1) := by decide +kernel
theorem dX5_health_0 : decode cX5_health 0 = .ok (.bipush 16, 2) := by decide +kernel
theorem dX5_health_2 : decode cX5_health 2 = .ok (.aload_n 0, 1) := by decide +kernel
theorem dX5_health_3 : decode cX5_health 3 = .ok (.getfield 12, 3) := by decide +kernel
theorem dX5_health_6 : decode cX5_health 6 = .ok (.invokevirtual 254, 3) := by decide +kernel
theorem dX5_health_9 : decode cX5_health 9 = .ok (.isub, 1) := by decide +kernel
theorem dX5_health_10 : decode cX5_health 10 = .ok (.i2d, 1) := by decide +kernel
theorem dX5_health_11 : decode cX5_health 11 = .ok (.ldc2_w 279, 3) := by decide +kernel
theorem dX5_health_14 : decode cX5_health 14 = .ok (.ddiv, 1) := by decide +kernel
theorem dX5_health_15 : decode cX5_health 15 = .ok (.dreturn, 1) := by decide +kernel
theorem dX5_isSound_0 : decode cX5_isSound 0 = .ok (.aload_n 0, 1) := by decide +kernel
theorem dX5_isSound_1 : decode cX5_isSound 1 = .ok (.getfield 12, 3) := by decide +kernel
theorem dX5_isSound_4 : decode cX5_isSound 4 = .ok (.invokevirtual 281, 3) := by decide +kernel
theorem dX5_isSound_7 : decode cX5_isSound 7 = .ok (.ifCond .eq 48, 3) := by decide +kernel
theorem dX5_isSound_10 : decode cX5_isSound 10 = .ok (.aload_n 0, 1) := by decide +kernel
theorem dX5_isSound_11 : decode cX5_isSound 11 = .ok (.getfield 12, 3) := by decide +kernel
theorem dX5_isSound_14 : decode cX5_isSound 14 = .ok (.invokevirtual 97, 3) := by decide +kernel
theorem dX5_isSound_17 : decode cX5_isSound 17 = .ok (.invokestatic 55, 3) := by decide +kernel
theorem dX5_isSound_20 : decode cX5_isSound 20 = .ok (.iconst 4, 1) := by decide +kernel
theorem dX5_isSound_21 : decode cX5_isSound 21 = .ok (.if_icmp .gt 34, 3) := by decide +kernel
theorem dX5_isSound_24 : decode cX5_isSound 24 = .ok (.aload_n 0, 1) := by decide +kernel
theorem dX5_isSound_25 : decode cX5_isSound 25 = .ok (.getfield 21, 3) := by decide +kernel
theorem dX5_isSound_28 : decode cX5_isSound 28 = .ok (.invokevirtual 285, 3) := by decide +kernel
theorem dX5_isSound_31 : decode cX5_isSound 31 = .ok (.ifCond .eq 24, 3) := by decide +kernel
theorem dX5_isSound_34 : decode cX5_isSound 34 = .ok (.aload_n 0, 1) := by decide +kernel
theorem dX5_isSound_35 : decode cX5_isSound 35 = .ok (.getfield 12, 3) := by decide +kernel
theorem dX5_isSound_38 : decode cX5_isSound 38 = .ok (.getfield 233, 3) := by decide +kernel
theorem dX5_isSound_41 : decode cX5_isSound 41 = .ok (.aload_n 0, 1) := by decide +kernel
theorem dX5_isSound_42 : decode cX5_isSound 42 = .ok (.getfield 12, 3) := by decide +kernel
theorem dX5_isSound_45 : decode cX5_isSound 45 = .ok (.getfield 230, 3) := by decide +kernel
theorem dX5_isSound_48 : decode cX5_isSound 48 = .ok (.if_icmp .gt 7, 3) := by decide +kernel
theorem dX5_isSound_51 : decode cX5_isSound 51 = .ok (.iconst 1, 1) := by decide +kernel
theorem dX5_isSound_52 : decode cX5_isSound 52 = .ok (.goto 4, 3) := by decide +kernel
theorem dX5_isSound_55 : decode cX5_isSound 55 = .ok (.iconst 0, 1) := by decide +kernel
theorem dX5_isSound_56 : decode cX5_isSound 56 = .ok (.ireturn, 1) := by decide +kernel
theorem dX5_digest_0 : decode cX5_digest 0 = .ok (.ldc2_w 288, 3) := by decide +kernel
theorem dX5_digest_3 : decode cX5_digest 3 = .ok (.lstore_n 1, 1) := by decide +kernel
theorem dX5_digest_4 : decode cX5_digest 4 = .ok (.iconst 0, 1) := by decide +kernel
theorem dX5_digest_5 : decode cX5_digest 5 = .ok (.istore_n 3, 1) := by decide +kernel
theorem dX5_digest_6 : decode cX5_digest 6 = .ok (.iload_n 3, 1) := by decide +kernel
theorem dX5_digest_7 : decode cX5_digest 7 = .ok (.bipush 13, 2) := by decide +kernel
theorem dX5_digest_9 : decode cX5_digest 9 = .ok (.if_icmp .ge 22, 3) := by decide +kernel
theorem dX5_digest_12 : decode cX5_digest 12 = .ok (.lload_n 1, 1) := by decide +kernel
theorem dX5_digest_13 : decode cX5_digest 13 = .ok (.ldc2_w 290, 3) := by decide +kernel
theorem dX5_digest_16 : decode cX5_digest 16 = .ok (.lmul, 1) := by decide +kernel
theorem dX5_digest_17 : decode cX5_digest 17 = .ok (.aload_n 0, 1) := by decide +kernel
theorem dX5_digest_18 : decode cX5_digest 18 = .ok (.iload_n 3, 1) := by decide +kernel
theorem dX5_digest_19 : decode cX5_digest 19 = .ok (.invokevirtual 292, 3) := by decide +kernel
theorem dX5_digest_22 : decode cX5_digest 22 = .ok (.i2l, 1) := by decide +kernel
theorem dX5_digest_23 : decode cX5_digest 23 = .ok (.ladd, 1) := by decide +kernel
theorem dX5_digest_24 : decode cX5_digest 24 = .ok (.lstore_n 1, 1) := by decide +kernel
theorem dX5_digest_25 : decode cX5_digest 25 = .ok (.iinc 3 1, 3) := by decide +kernel
theorem dX5_digest_28 : decode cX5_digest 28 = .ok (.goto (-22), 3) := by decide +kernel
theorem dX5_digest_31 : decode cX5_digest 31 = .ok (.iconst 0, 1) := by decide +kernel
theorem dX5_digest_32 : decode cX5_digest 32 = .ok (.istore_n 3, 1) := by decide +kernel
theorem dX5_digest_33 : decode cX5_digest 33 = .ok (.iload_n 3, 1) := by decide +kernel
theorem dX5_digest_34 : decode cX5_digest 34 = .ok (.bipush 18, 2) := by decide +kernel
theorem dX5_digest_36 : decode cX5_digest 36 = .ok (.if_icmp .ge 40, 3) := by decide +kernel
theorem dX5_digest_39 : decode cX5_digest 39 = .ok (.iconst 0, 1) := by decide +kernel
theorem dX5_digest_40 : decode cX5_digest 40 = .ok (.istore 4, 2) := by decide +kernel
theorem dX5_digest_42 : decode cX5_digest 42 = .ok (.iload 4, 2) := by decide +kernel
theorem dX5_digest_44 : decode cX5_digest 44 = .ok (.bipush 6, 2) := by decide +kernel
theorem dX5_digest_46 : decode cX5_digest 46 = .ok (.if_icmp .ge 24, 3) := by decide +kernel
theorem dX5_digest_49 : decode cX5_digest 49 = .ok (.lload_n 1, 1) := by decide +kernel
theorem dX5_digest_50 : decode cX5_digest 50 = .ok (.ldc2_w 290, 3) := by decide +kernel
theorem dX5_digest_53 : decode cX5_digest 53 = .ok (.lmul, 1) := by decide +kernel
theorem dX5_digest_54 : decode cX5_digest 54 = .ok (.aload_n 0, 1) := by decide +kernel
theorem dX5_digest_55 : decode cX5_digest 55 = .ok (.iload_n 3, 1) := by decide +kernel
theorem dX5_digest_56 : decode cX5_digest 56 = .ok (.iload 4, 2) := by decide +kernel
theorem dX5_digest_58 : decode cX5_digest 58 = .ok (.invokevirtual 295, 3) := by decide +kernel
theorem dX5_digest_61 : decode cX5_digest 61 = .ok (.i2l, 1) := by decide +kernel
theorem dX5_digest_62 : decode cX5_digest 62 = .ok (.ladd, 1) := by decide +kernel
theorem dX5_digest_63 : decode cX5_digest 63 = .ok (.lstore_n 1, 1) := by decide +kernel
theorem dX5_digest_64 : decode cX5_digest 64 = .ok (.iinc 4 1, 3) := by decide +kernel
theorem dX5_digest_67 : decode cX5_digest 67 = .ok (.goto (-25), 3) := by decide +kernel
theorem dX5_digest_70 : decode cX5_digest 70 = .ok (.iinc 3 1, 3) := by decide +kernel
theorem dX5_digest_73 : decode cX5_digest 73 = .ok (.goto (-40), 3) := by decide +kernel
theorem dX5_digest_76 : decode cX5_digest 76 = .ok (.iconst 0, 1) := by decide +kernel
theorem dX5_digest_77 : decode cX5_digest 77 = .ok (.istore_n 3, 1) := by decide +kernel
theorem dX5_digest_78 : decode cX5_digest 78 = .ok (.iload_n 3, 1) := by decide +kernel
theorem dX5_digest_79 : decode cX5_digest 79 = .ok (.bipush 16, 2) := by decide +kernel
theorem dX5_digest_81 : decode cX5_digest 81 = .ok (.if_icmp .ge 47, 3) := by decide +kernel
theorem dX5_digest_84 : decode cX5_digest 84 = .ok (.lload_n 1, 1) := by decide +kernel
theorem dX5_digest_85 : decode cX5_digest 85 = .ok (.ldc2_w 290, 3) := by decide +kernel
theorem dX5_digest_88 : decode cX5_digest 88 = .ok (.lmul, 1) := by decide +kernel
theorem dX5_digest_89 : decode cX5_digest 89 = .ok (.aload_n 0, 1) := by decide +kernel
theorem dX5_digest_90 : decode cX5_digest 90 = .ok (.iload_n 3, 1) := by decide +kernel
theorem dX5_digest_91 : decode cX5_digest 91 = .ok (.invokevirtual 298, 3) := by decide +kernel
theorem dX5_digest_94 : decode cX5_digest 94 = .ok (.i2l, 1) := by decide +kernel
theorem dX5_digest_95 : decode cX5_digest 95 = .ok (.ladd, 1) := by decide +kernel
theorem dX5_digest_96 : decode cX5_digest 96 = .ok (.lstore_n 1, 1) := by decide +kernel
theorem dX5_digest_97 : decode cX5_digest 97 = .ok (.lload_n 1, 1) := by decide +kernel
theorem dX5_digest_98 : decode cX5_digest 98 = .ok (.ldc2_w 290, 3) := by decide +kernel
theorem dX5_digest_101 : decode cX5_digest 101 = .ok (.lmul, 1) := by decide +kernel
theorem dX5_digest_102 : decode cX5_digest 102 = .ok (.aload_n 0, 1) := by decide +kernel
theorem dX5_digest_103 : decode cX5_digest 103 = .ok (.iload_n 3, 1) := by decide +kernel
theorem dX5_digest_104 : decode cX5_digest 104 = .ok (.invokevirtual 301, 3) := by decide +kernel
theorem dX5_digest_107 : decode cX5_digest 107 = .ok (.ladd, 1) := by decide +kernel
theorem dX5_digest_108 : decode cX5_digest 108 = .ok (.lstore_n 1, 1) := by decide +kernel
theorem dX5_digest_109 : decode cX5_digest 109 = .ok (.lload_n 1, 1) := by decide +kernel
theorem dX5_digest_110 : decode cX5_digest 110 = .ok (.ldc2_w 290, 3) := by decide +kernel
theorem dX5_digest_113 : decode cX5_digest 113 = .ok (.lmul, 1) := by decide +kernel
theorem dX5_digest_114 : decode cX5_digest 114 = .ok (.aload_n 0, 1) := by decide +kernel
theorem dX5_digest_115 : decode cX5_digest 115 = .ok (.iload_n 3, 1) := by decide +kernel
theorem dX5_digest_116 : decode cX5_digest 116 = .ok (.invokevirtual 304, 3) := by decide +kernel
theorem dX5_digest_119 : decode cX5_digest 119 = .ok (.i2l, 1) := by decide +kernel
theorem dX5_digest_120 : decode cX5_digest 120 = .ok (.ladd, 1) := by decide +kernel
theorem dX5_digest_121 : decode cX5_digest 121 = .ok (.lstore_n 1, 1) := by decide +kernel
theorem dX5_digest_122 : decode cX5_digest 122 = .ok (.iinc 3 1, 3) := by decide +kernel
theorem dX5_digest_125 : decode cX5_digest 125 = .ok (.goto (-47), 3) := by decide +kernel
theorem dX5_digest_128 : decode cX5_digest 128 = .ok (.iconst 0, 1) := by decide +kernel
theorem dX5_digest_129 : decode cX5_digest 129 = .ok (.istore_n 3, 1) := by decide +kernel
theorem dX5_digest_130 : decode cX5_digest 130 = .ok (.iload_n 3, 1) := by decide +kernel
theorem dX5_digest_131 : decode cX5_digest 131 = .ok (.bipush 18, 2) := by decide +kernel
theorem dX5_digest_133 : decode cX5_digest 133 = .ok (.if_icmp .ge 40, 3) := by decide +kernel
theorem dX5_digest_136 : decode cX5_digest 136 = .ok (.iconst 0, 1) := by decide +kernel
theorem dX5_digest_137 : decode cX5_digest 137 = .ok (.istore 4, 2) := by decide +kernel
theorem dX5_digest_139 : decode cX5_digest 139 = .ok (.iload 4, 2) := by decide +kernel
theorem dX5_digest_141 : decode cX5_digest 141 = .ok (.bipush 16, 2) := by decide +kernel
theorem dX5_digest_143 : decode cX5_digest 143 = .ok (.if_icmp .ge 24, 3) := by decide +kernel
theorem dX5_digest_146 : decode cX5_digest 146 = .ok (.lload_n 1, 1) := by decide +kernel
theorem dX5_digest_147 : decode cX5_digest 147 = .ok (.ldc2_w 290, 3) := by decide +kernel
theorem dX5_digest_150 : decode cX5_digest 150 = .ok (.lmul, 1) := by decide +kernel
theorem dX5_digest_151 : decode cX5_digest 151 = .ok (.aload_n 0, 1) := by decide +kernel
theorem dX5_digest_152 : decode cX5_digest 152 = .ok (.iload_n 3, 1) := by decide +kernel
theorem dX5_digest_153 : decode cX5_digest 153 = .ok (.iload 4, 2) := by decide +kernel
theorem dX5_digest_155 : decode cX5_digest 155 = .ok (.invokevirtual 307, 3) := by decide +kernel
theorem dX5_digest_158 : decode cX5_digest 158 = .ok (.i2l, 1) := by decide +kernel
theorem dX5_digest_159 : decode cX5_digest 159 = .ok (.ladd, 1) := by decide +kernel
theorem dX5_digest_160 : decode cX5_digest 160 = .ok (.lstore_n 1, 1) := by decide +kernel
theorem dX5_digest_161 : decode cX5_digest 161 = .ok (.iinc 4 1, 3) := by decide +kernel
theorem dX5_digest_164 : decode cX5_digest 164 = .ok (.goto (-25), 3) := by decide +kernel
theorem dX5_digest_167 : decode cX5_digest 167 = .ok (.iinc 3 1, 3) := by decide +kernel
theorem dX5_digest_170 : decode cX5_digest 170 = .ok (.goto (-40), 3) := by decide +kernel
theorem dX5_digest_173 : decode cX5_digest 173 = .ok (.iconst 0, 1) := by decide +kernel
theorem dX5_digest_174 : decode cX5_digest 174 = .ok (.istore_n 3, 1) := by decide +kernel
theorem dX5_digest_175 : decode cX5_digest 175 = .ok (.iload_n 3, 1) := by decide +kernel
theorem dX5_digest_176 : decode cX5_digest 176 = .ok (.iconst 4, 1) := by decide +kernel
theorem dX5_digest_177 : decode cX5_digest 177 = .ok (.if_icmp .ge 51, 3) := by decide +kernel
theorem dX5_digest_180 : decode cX5_digest 180 = .ok (.iconst 0, 1) := by decide +kernel
theorem dX5_digest_181 : decode cX5_digest 181 = .ok (.istore 4, 2) := by decide +kernel
theorem dX5_digest_183 : decode cX5_digest 183 = .ok (.iload 4, 2) := by decide +kernel
theorem dX5_digest_185 : decode cX5_digest 185 = .ok (.iconst 3, 1) := by decide +kernel
theorem dX5_digest_186 : decode cX5_digest 186 = .ok (.if_icmp .ge 24, 3) := by decide +kernel
theorem dX5_digest_189 : decode cX5_digest 189 = .ok (.lload_n 1, 1) := by decide +kernel
theorem dX5_digest_190 : decode cX5_digest 190 = .ok (.ldc2_w 290, 3) := by decide +kernel
theorem dX5_digest_193 : decode cX5_digest 193 = .ok (.lmul, 1) := by decide +kernel
theorem dX5_digest_194 : decode cX5_digest 194 = .ok (.aload_n 0, 1) := by decide +kernel
theorem dX5_digest_195 : decode cX5_digest 195 = .ok (.iload_n 3, 1) := by decide +kernel
theorem dX5_digest_196 : decode cX5_digest 196 = .ok (.iload 4, 2) := by decide +kernel
theorem dX5_digest_198 : decode cX5_digest 198 = .ok (.invokevirtual 310, 3) := by decide +kernel
theorem dX5_digest_201 : decode cX5_digest 201 = .ok (.i2l, 1) := by decide +kernel
theorem dX5_digest_202 : decode cX5_digest 202 = .ok (.ladd, 1) := by decide +kernel
theorem dX5_digest_203 : decode cX5_digest 203 = .ok (.lstore_n 1, 1) := by decide +kernel
theorem dX5_digest_204 : decode cX5_digest 204 = .ok (.iinc 4 1, 3) := by decide +kernel
theorem dX5_digest_207 : decode cX5_digest 207 = .ok (.goto (-24), 3) := by decide +kernel
theorem dX5_digest_210 : decode cX5_digest 210 = .ok (.lload_n 1, 1) := by decide +kernel
theorem dX5_digest_211 : decode cX5_digest 211 = .ok (.ldc2_w 290, 3) := by decide +kernel
theorem dX5_digest_214 : decode cX5_digest 214 = .ok (.lmul, 1) := by decide +kernel
theorem dX5_digest_215 : decode cX5_digest 215 = .ok (.aload_n 0, 1) := by decide +kernel
theorem dX5_digest_216 : decode cX5_digest 216 = .ok (.iload_n 3, 1) := by decide +kernel
theorem dX5_digest_217 : decode cX5_digest 217 = .ok (.invokevirtual 313, 3) := by decide +kernel
theorem dX5_digest_220 : decode cX5_digest 220 = .ok (.ladd, 1) := by decide +kernel
theorem dX5_digest_221 : decode cX5_digest 221 = .ok (.lstore_n 1, 1) := by decide +kernel
theorem dX5_digest_222 : decode cX5_digest 222 = .ok (.iinc 3 1, 3) := by decide +kernel
theorem dX5_digest_225 : decode cX5_digest 225 = .ok (.goto (-50), 3) := by decide +kernel
theorem dX5_digest_228 : decode cX5_digest 228 = .ok (.lload_n 1, 1) := by decide +kernel
theorem dX5_digest_229 : decode cX5_digest 229 = .ok (.ldc2_w 290, 3) := by decide +kernel
theorem dX5_digest_232 : decode cX5_digest 232 = .ok (.lmul, 1) := by decide +kernel
theorem dX5_digest_233 : decode cX5_digest 233 = .ok (.ldc2_w 316, 3) := by decide +kernel
theorem dX5_digest_236 : decode cX5_digest 236 = .ok (.aload_n 0, 1) := by decide +kernel
theorem dX5_digest_237 : decode cX5_digest 237 = .ok (.invokevirtual 318, 3) := by decide +kernel
theorem dX5_digest_240 : decode cX5_digest 240 = .ok (.dmul, 1) := by decide +kernel
theorem dX5_digest_241 : decode cX5_digest 241 = .ok (.d2l, 1) := by decide +kernel
theorem dX5_digest_242 : decode cX5_digest 242 = .ok (.ladd, 1) := by decide +kernel
theorem dX5_digest_243 : decode cX5_digest 243 = .ok (.lstore_n 1, 1) := by decide +kernel
theorem dX5_digest_244 : decode cX5_digest 244 = .ok (.lload_n 1, 1) := by decide +kernel
theorem dX5_digest_245 : decode cX5_digest 245 = .ok (.ldc2_w 290, 3) := by decide +kernel
theorem dX5_digest_248 : decode cX5_digest 248 = .ok (.lmul, 1) := by decide +kernel
theorem dX5_digest_249 : decode cX5_digest 249 = .ok (.aload_n 0, 1) := by decide +kernel
theorem dX5_digest_250 : decode cX5_digest 250 = .ok (.invokevirtual 322, 3) := by decide +kernel
theorem dX5_digest_253 : decode cX5_digest 253 = .ok (.ifCond .eq 7, 3) := by decide +kernel
theorem dX5_digest_256 : decode cX5_digest 256 = .ok (.iconst 1, 1) := by decide +kernel
theorem dX5_digest_257 : decode cX5_digest 257 = .ok (.goto 4, 3) := by decide +kernel
theorem dX5_digest_260 : decode cX5_digest 260 = .ok (.iconst 0, 1) := by decide +kernel
theorem dX5_digest_261 : decode cX5_digest 261 = .ok (.i2l, 1) := by decide +kernel
theorem dX5_digest_262 : decode cX5_digest 262 = .ok (.ladd, 1) := by decide +kernel
theorem dX5_digest_263 : decode cX5_digest 263 = .ok (.lreturn, 1) := by decide +kernel
theorem dX5_checkLine_0 : decode cX5_checkLine 0 = .ok (.iload_n 0, 1) := by decide +kernel
theorem dX5_checkLine_1 : decode cX5_checkLine 1 = .ok (.ifCond .lt 9, 3) := by decide +kernel
theorem dX5_checkLine_4 : decode cX5_checkLine 4 = .ok (.iload_n 0, 1) := by decide +kernel
theorem dX5_checkLine_5 : decode cX5_checkLine 5 = .ok (.bipush 16, 2) := by decide +kernel
theorem dX5_checkLine_7 : decode cX5_checkLine 7 = .ok (.if_icmp .lt 14, 3) := by decide +kernel
theorem dX5_checkLine_10 : decode cX5_checkLine 10 = .ok (.new 325, 3) := by decide +kernel
theorem dX5_checkLine_13 : decode cX5_checkLine 13 = .ok (.dup, 1) := by decide +kernel
theorem dX5_checkLine_14 : decode cX5_checkLine 14 = .ok (.ldc_w 327, 3) := by decide +kernel
theorem dX5_checkLine_17 : decode cX5_checkLine 17 = .ok (.invokespecial 329, 3) := by decide +kernel
theorem dX5_checkLine_20 : decode cX5_checkLine 20 = .ok (.athrow, 1) := by decide +kernel
theorem dX5_checkLine_21 : decode cX5_checkLine 21 = .ok (.return_, 1) := by decide +kernel
theorem dX5_checkPlace_0 : decode cX5_checkPlace 0 = .ok (.iload_n 0, 1) := by decide +kernel
theorem dX5_checkPlace_1 : decode cX5_checkPlace 1 = .ok (.ifCond .lt 9, 3) := by decide +kernel
theorem dX5_checkPlace_4 : decode cX5_checkPlace 4 = .ok (.iload_n 0, 1) := by decide +kernel
theorem dX5_checkPlace_5 : decode cX5_checkPlace 5 = .ok (.bipush 15, 2) := by decide +kernel
theorem dX5_checkPlace_7 : decode cX5_checkPlace 7 = .ok (.if_icmp .lt 14, 3) := by decide +kernel
theorem dX5_checkPlace_10 : decode cX5_checkPlace 10 = .ok (.new 325, 3) := by decide +kernel
theorem dX5_checkPlace_13 : decode cX5_checkPlace 13 = .ok (.dup, 1) := by decide +kernel
theorem dX5_checkPlace_14 : decode cX5_checkPlace 14 = .ok (.ldc_w 330, 3) := by decide +kernel
theorem dX5_checkPlace_17 : decode cX5_checkPlace 17 = .ok (.invokespecial 329, 3) := by decide +kernel
theorem dX5_checkPlace_20 : decode cX5_checkPlace 20 = .ok (.athrow, 1) := by decide +kernel
theorem dX5_checkPlace_21 : decode cX5_checkPlace 21 = .ok (.return_, 1) := by decide +kernel
theorem dX5_checkChip_0 : decode cX5_checkChip 0 = .ok (.iload_n 0, 1) := by decide +kernel
theorem dX5_checkChip_1 : decode cX5_checkChip 1 = .ok (.ifCond .lt 9, 3) := by decide +kernel
theorem dX5_checkChip_4 : decode cX5_checkChip 4 = .ok (.iload_n 0, 1) := by decide +kernel
theorem dX5_checkChip_5 : decode cX5_checkChip 5 = .ok (.bipush 18, 2) := by decide +kernel
theorem dX5_checkChip_7 : decode cX5_checkChip 7 = .ok (.if_icmp .lt 14, 3) := by decide +kernel
theorem dX5_checkChip_10 : decode cX5_checkChip 10 = .ok (.new 325, 3) := by decide +kernel
theorem dX5_checkChip_13 : decode cX5_checkChip 13 = .ok (.dup, 1) := by decide +kernel
theorem dX5_checkChip_14 : decode cX5_checkChip 14 = .ok (.ldc_w 332, 3) := by decide +kernel
theorem dX5_checkChip_17 : decode cX5_checkChip 17 = .ok (.invokespecial 329, 3) := by decide +kernel
theorem dX5_checkChip_20 : decode cX5_checkChip 20 = .ok (.athrow, 1) := by decide +kernel
theorem dX5_checkChip_21 : decode cX5_checkChip 21 = .ok (.return_, 1) := by decide +kernel
theorem dX5_checkFrame_0 : decode cX5_checkFrame 0 = .ok (.iload_n 0, 1) := by decide +kernel
theorem dX5_checkFrame_1 : decode cX5_checkFrame 1 = .ok (.ifCond .lt 8, 3) := by decide +kernel
theorem dX5_checkFrame_4 : decode cX5_checkFrame 4 = .ok (.iload_n 0, 1) := by decide +kernel
theorem dX5_checkFrame_5 : decode cX5_checkFrame 5 = .ok (.iconst 4, 1) := by decide +kernel
theorem dX5_checkFrame_6 : decode cX5_checkFrame 6 = .ok (.if_icmp .lt 14, 3) := by decide +kernel
theorem dX5_checkFrame_9 : decode cX5_checkFrame 9 = .ok (.new 325, 3) := by decide +kernel
theorem dX5_checkFrame_12 : decode cX5_checkFrame 12 = .ok (.dup, 1) := by decide +kernel
theorem dX5_checkFrame_13 : decode cX5_checkFrame 13 = .ok (.ldc_w 334, 3) := by decide +kernel
theorem dX5_checkFrame_16 : decode cX5_checkFrame 16 = .ok (.invokespecial 329, 3) := by decide +kernel
theorem dX5_checkFrame_19 : decode cX5_checkFrame 19 = .ok (.athrow, 1) := by decide +kernel
theorem dX5_checkFrame_20 : decode cX5_checkFrame 20 = .ok (.return_, 1) := by decide +kernel
theorem dX5_checkElement_0 : decode cX5_checkElement 0 = .ok (.iload_n 0, 1) := by decide +kernel
theorem dX5_checkElement_1 : decode cX5_checkElement 1 = .ok (.ifCond .lt 9, 3) := by decide +kernel
theorem dX5_checkElement_4 : decode cX5_checkElement 4 = .ok (.iload_n 0, 1) := by decide +kernel
theorem dX5_checkElement_5 : decode cX5_checkElement 5 = .ok (.bipush 15, 2) := by decide +kernel
theorem dX5_checkElement_7 : decode cX5_checkElement 7 = .ok (.if_icmp .le 14, 3) := by decide +kernel
theorem dX5_checkElement_10 : decode cX5_checkElement 10 = .ok (.new 125, 3) := by decide +kernel
theorem dX5_checkElement_13 : decode cX5_checkElement 13 = .ok (.dup, 1) := by decide +kernel
theorem dX5_checkElement_14 : decode cX5_checkElement 14 = .ok (.ldc_w 336, 3) := by decide +kernel
theorem dX5_checkElement_17 : decode cX5_checkElement 17 = .ok (.invokespecial 129, 3) := by decide +kernel
theorem dX5_checkElement_20 : decode cX5_checkElement 20 = .ok (.athrow, 1) := by decide +kernel
theorem dX5_checkElement_21 : decode cX5_checkElement 21 = .ok (.return_, 1) := by decide +kernel
theorem dX5_checkElementNotZero_0 : decode cX5_checkElementNotZero 0 = .ok (.iload_n 0, 1) := by decide +kernel
theorem dX5_checkElementNotZero_1 : decode cX5_checkElementNotZero 1 = .ok (.iconst 1, 1) := by decide +kernel
theorem dX5_checkElementNotZero_2 : decode cX5_checkElementNotZero 2 = .ok (.if_icmp .lt 9, 3) := by decide +kernel
theorem dX5_checkElementNotZero_5 : decode cX5_checkElementNotZero 5 = .ok (.iload_n 0, 1) := by decide +kernel
theorem dX5_checkElementNotZero_6 : decode cX5_checkElementNotZero 6 = .ok (.bipush 15, 2) := by decide +kernel
theorem dX5_checkElementNotZero_8 : decode cX5_checkElementNotZero 8 = .ok (.if_icmp .le 14, 3) := by decide +kernel
theorem dX5_checkElementNotZero_11 : decode cX5_checkElementNotZero 11 = .ok (.new 125, 3) := by decide +kernel
theorem dX5_checkElementNotZero_14 : decode cX5_checkElementNotZero 14 = .ok (.dup, 1) := by decide +kernel
theorem dX5_checkElementNotZero_15 : decode cX5_checkElementNotZero 15 = .ok (.ldc_w 338, 3) := by decide +kernel
theorem dX5_checkElementNotZero_18 : decode cX5_checkElementNotZero 18 = .ok (.invokespecial 129, 3) := by decide +kernel
theorem dX5_checkElementNotZero_21 : decode cX5_checkElementNotZero 21 = .ok (.athrow, 1) := by decide +kernel
theorem dX5_checkElementNotZero_22 : decode cX5_checkElementNotZero 22 = .ok (.return_, 1) := by decide +kernel
theorem dX5_checkData_0 : decode cX5_checkData 0 = .ok (.lload_n 0, 1) := by decide +kernel
theorem dX5_checkData_1 : decode cX5_checkData 1 = .ok (.lconst 0, 1) := by decide +kernel
theorem dX5_checkData_2 : decode cX5_checkData 2 = .ok (.lcmp, 1) := by decide +kernel
theorem dX5_checkData_3 : decode cX5_checkData 3 = .ok (.ifCond .lt 11, 3) := by decide +kernel
theorem dX5_checkData_6 : decode cX5_checkData 6 = .ok (.lload_n 0, 1) := by decide +kernel
theorem dX5_checkData_7 : decode cX5_checkData 7 = .ok (.ldc2_w 340, 3) := by decide +kernel
theorem dX5_checkData_10 : decode cX5_checkData 10 = .ok (.lcmp, 1) := by decide +kernel
theorem dX5_checkData_11 : decode cX5_checkData 11 = .ok (.ifCond .le 14, 3) := by decide +kernel
theorem dX5_checkData_14 : decode cX5_checkData 14 = .ok (.new 125, 3) := by decide +kernel
theorem dX5_checkData_17 : decode cX5_checkData 17 = .ok (.dup, 1) := by decide +kernel
theorem dX5_checkData_18 : decode cX5_checkData 18 = .ok (.ldc_w 342, 3) := by decide +kernel
theorem dX5_checkData_21 : decode cX5_checkData 21 = .ok (.invokespecial 129, 3) := by decide +kernel
theorem dX5_checkData_24 : decode cX5_checkData 24 = .ok (.athrow, 1) := by decide +kernel
theorem dX5_checkData_25 : decode cX5_checkData 25 = .ok (.return_, 1) := by decide +kernel
theorem dX5_wrongIn_0 : decode cX5_wrongIn 0 = .ok (.lload_n 2, 1) := by decide +kernel
theorem dX5_wrongIn_1 : decode cX5_wrongIn 1 = .ok (.ldc2_w 146, 3) := by decide +kernel
theorem dX5_wrongIn_4 : decode cX5_wrongIn 4 = .ok (.lcmp, 1) := by decide +kernel
theorem dX5_wrongIn_5 : decode cX5_wrongIn 5 = .ok (.ifCond .ne 7, 3) := by decide +kernel
theorem dX5_wrongIn_8 : decode cX5_wrongIn 8 = .ok (.iconst (-1), 1) := by decide +kernel
theorem dX5_wrongIn_9 : decode cX5_wrongIn 9 = .ok (.goto 12, 3) := by decide +kernel
theorem dX5_wrongIn_12 : decode cX5_wrongIn 12 = .ok (.lload_n 0, 1) := by decide +kernel
theorem dX5_wrongIn_13 : decode cX5_wrongIn 13 = .ok (.lload_n 2, 1) := by decide +kernel
theorem dX5_wrongIn_14 : decode cX5_wrongIn 14 = .ok (.lxor, 1) := by decide +kernel
theorem dX5_wrongIn_15 : decode cX5_wrongIn 15 = .ok (.invokestatic 51, 3) := by decide +kernel
theorem dX5_wrongIn_18 : decode cX5_wrongIn 18 = .ok (.invokestatic 55, 3) := by decide +kernel
theorem dX5_wrongIn_21 : decode cX5_wrongIn 21 = .ok (.ireturn, 1) := by decide +kernel
theorem dX5_dataOrNone_0 : decode cX5_dataOrNone 0 = .ok (.lload_n 0, 1) := by decide +kernel
theorem dX5_dataOrNone_1 : decode cX5_dataOrNone 1 = .ok (.ldc2_w 146, 3) := by decide +kernel
theorem dX5_dataOrNone_4 : decode cX5_dataOrNone 4 = .ok (.lcmp, 1) := by decide +kernel
theorem dX5_dataOrNone_5 : decode cX5_dataOrNone 5 = .ok (.ifCond .ne 9, 3) := by decide +kernel
theorem dX5_dataOrNone_8 : decode cX5_dataOrNone 8 = .ok (.ldc2_w 146, 3) := by decide +kernel
theorem dX5_dataOrNone_11 : decode cX5_dataOrNone 11 = .ok (.goto 7, 3) := by decide +kernel
theorem dX5_dataOrNone_14 : decode cX5_dataOrNone 14 = .ok (.lload_n 0, 1) := by decide +kernel
theorem dX5_dataOrNone_15 : decode cX5_dataOrNone 15 = .ok (.invokestatic 344, 3) := by decide +kernel
theorem dX5_dataOrNone_18 : decode cX5_dataOrNone 18 = .ok (.lreturn, 1) := by decide +kernel
theorem dX5_signOf_0 : decode cX5_signOf 0 = .ok (.iload_n 0, 1) := by decide +kernel
theorem dX5_signOf_1 : decode cX5_signOf 1 = .ok (.bipush 10, 2) := by decide +kernel
theorem dX5_signOf_3 : decode cX5_signOf 3 = .ok (.if_icmp .ge 10, 3) := by decide +kernel
theorem dX5_signOf_6 : decode cX5_signOf 6 = .ok (.bipush 48, 2) := by decide +kernel
theorem dX5_signOf_8 : decode cX5_signOf 8 = .ok (.iload_n 0, 1) := by decide +kernel
theorem dX5_signOf_9 : decode cX5_signOf 9 = .ok (.iadd, 1) := by decide +kernel
theorem dX5_signOf_10 : decode cX5_signOf 10 = .ok (.goto 10, 3) := by decide +kernel
theorem dX5_signOf_13 : decode cX5_signOf 13 = .ok (.bipush 97, 2) := by decide +kernel
theorem dX5_signOf_15 : decode cX5_signOf 15 = .ok (.iload_n 0, 1) := by decide +kernel
theorem dX5_signOf_16 : decode cX5_signOf 16 = .ok (.iadd, 1) := by decide +kernel
theorem dX5_signOf_17 : decode cX5_signOf 17 = .ok (.bipush 10, 2) := by decide +kernel
theorem dX5_signOf_19 : decode cX5_signOf 19 = .ok (.isub, 1) := by decide +kernel
theorem dX5_signOf_20 : decode cX5_signOf 20 = .ok (.i2c, 1) := by decide +kernel
theorem dX5_signOf_21 : decode cX5_signOf 21 = .ok (.ireturn, 1) := by decide +kernel
theorem dX5_numberAt_0 : decode cX5_numberAt 0 = .ok (.lload_n 0, 1) := by decide +kernel
theorem dX5_numberAt_1 : decode cX5_numberAt 1 = .ok (.iconst 4, 1) := by decide +kernel
theorem dX5_numberAt_2 : decode cX5_numberAt 2 = .ok (.iload_n 2, 1) := by decide +kernel
theorem dX5_numberAt_3 : decode cX5_numberAt 3 = .ok (.imul, 1) := by decide +kernel
theorem dX5_numberAt_4 : decode cX5_numberAt 4 = .ok (.lushr, 1) := by decide +kernel
theorem dX5_numberAt_5 : decode cX5_numberAt 5 = .ok (.l2i, 1) := by decide +kernel
theorem dX5_numberAt_6 : decode cX5_numberAt 6 = .ok (.bipush 15, 2) := by decide +kernel
theorem dX5_numberAt_8 : decode cX5_numberAt 8 = .ok (.iand, 1) := by decide +kernel
theorem dX5_numberAt_9 : decode cX5_numberAt 9 = .ok (.ireturn, 1) := by decide +kernel
theorem dX5_withNumber_0 : decode cX5_withNumber 0 = .ok (.iconst 4, 1) := by decide +kernel
theorem dX5_withNumber_1 : decode cX5_withNumber 1 = .ok (.iload_n 2, 1) := by decide +kernel
theorem dX5_withNumber_2 : decode cX5_withNumber 2 = .ok (.imul, 1) := by decide +kernel
theorem dX5_withNumber_3 : decode cX5_withNumber 3 = .ok (.istore 4, 2) := by decide +kernel
theorem dX5_withNumber_5 : decode cX5_withNumber 5 = .ok (.lload_n 0, 1) := by decide +kernel
theorem dX5_withNumber_6 : decode cX5_withNumber 6 = .ok (.ldc2_w 347, 3) := by decide +kernel
theorem dX5_withNumber_9 : decode cX5_withNumber 9 = .ok (.iload 4, 2) := by decide +kernel
theorem dX5_withNumber_11 : decode cX5_withNumber 11 = .ok (.lshl, 1) := by decide +kernel
theorem dX5_withNumber_12 : decode cX5_withNumber 12 = .ok (.ldc2_w 146, 3) := by decide +kernel
theorem dX5_withNumber_15 : decode cX5_withNumber 15 = .ok (.lxor, 1) := by decide +kernel
theorem dX5_withNumber_16 : decode cX5_withNumber 16 = .ok (.land, 1) := by decide +kernel
theorem dX5_withNumber_17 : decode cX5_withNumber 17 = .ok (.iload_n 3, 1) := by decide +kernel
theorem dX5_withNumber_18 : decode cX5_withNumber 18 = .ok (.bipush 15, 2) := by decide +kernel
theorem dX5_withNumber_20 : decode cX5_withNumber 20 = .ok (.iand, 1) := by decide +kernel
theorem dX5_withNumber_21 : decode cX5_withNumber 21 = .ok (.i2l, 1) := by decide +kernel
theorem dX5_withNumber_22 : decode cX5_withNumber 22 = .ok (.iload 4, 2) := by decide +kernel
theorem dX5_withNumber_24 : decode cX5_withNumber 24 = .ok (.lshl, 1) := by decide +kernel
theorem dX5_withNumber_25 : decode cX5_withNumber 25 = .ok (.lor, 1) := by decide +kernel
theorem dX5_withNumber_26 : decode cX5_withNumber 26 = .ok (.lreturn, 1) := by decide +kernel
theorem dX5_isIn_0 : decode cX5_isIn 0 = .ok (.iload_n 0, 1) := by decide +kernel
theorem dX5_isIn_1 : decode cX5_isIn 1 = .ok (.iload_n 1, 1) := by decide +kernel
theorem dX5_isIn_2 : decode cX5_isIn 2 = .ok (.ishr, 1) := by decide +kernel
theorem dX5_isIn_3 : decode cX5_isIn 3 = .ok (.iconst 1, 1) := by decide +kernel
theorem dX5_isIn_4 : decode cX5_isIn 4 = .ok (.iand, 1) := by decide +kernel
theorem dX5_isIn_5 : decode cX5_isIn 5 = .ok (.ifCond .eq 7, 3) := by decide +kernel
theorem dX5_isIn_8 : decode cX5_isIn 8 = .ok (.iconst 1, 1) := by decide +kernel
theorem dX5_isIn_9 : decode cX5_isIn 9 = .ok (.goto 4, 3) := by decide +kernel
theorem dX5_isIn_12 : decode cX5_isIn 12 = .ok (.iconst 0, 1) := by decide +kernel
theorem dX5_isIn_13 : decode cX5_isIn 13 = .ok (.ireturn, 1) := by decide +kernel
theorem dX6_init_0 : decode cX6_init 0 = .ok (.aload_n 0, 1) := by decide +kernel
theorem dX6_init_1 : decode cX6_init 1 = .ok (.invokespecial 1, 3) := by decide +kernel
theorem dX6_init_4 : decode cX6_init 4 = .ok (.return_, 1) := by decide +kernel
theorem dX7_init_0 : decode cX7_init 0 = .ok (.aload_n 0, 1) := by decide +kernel
theorem dX7_init_1 : decode cX7_init 1 = .ok (.invokespecial 3, 3) := by decide +kernel
theorem dX7_init_4 : decode cX7_init 4 = .ok (.aload_n 0, 1) := by decide +kernel
theorem dX7_init_5 : decode cX7_init 5 = .ok (.iconst (-1), 1) := by decide +kernel
theorem dX7_init_6 : decode cX7_init 6 = .ok (.putfield 9, 3) := by decide +kernel
theorem dX7_init_9 : decode cX7_init 9 = .ok (.return_, 1) := by decide +kernel
theorem dX8_init_0 : decode cX8_init 0 = .ok (.aload_n 0, 1) := by decide +kernel
theorem dX8_init_1 : decode cX8_init 1 = .ok (.invokespecial 3, 3) := by decide +kernel
theorem dX8_init_4 : decode cX8_init 4 = .ok (.aload_n 0, 1) := by decide +kernel
theorem dX8_init_5 : decode cX8_init 5 = .ok (.iconst (-1), 1) := by decide +kernel
theorem dX8_init_6 : decode cX8_init 6 = .ok (.putfield 9, 3) := by decide +kernel
theorem dX8_init_9 : decode cX8_init 9 = .ok (.return_, 1) := by decide +kernel
theorem dX9_init_0 : decode cX9_init 0 = .ok (.aload_n 0, 1) := by decide +kernel
theorem dX9_init_1 : decode cX9_init 1 = .ok (.invokespecial 1, 3) := by decide +kernel
theorem dX9_init_4 : decode cX9_init 4 = .ok (.aload_n 0, 1) := by decide +kernel
theorem dX9_init_5 : decode cX9_init 5 = .ok (.sipush 256, 3) := by decide +kernel
theorem dX9_init_8 : decode cX9_init 8 = .ok (.newarray .int, 2) := by decide +kernel
theorem dX9_init_10 : decode cX9_init 10 = .ok (.putfield 7, 3) := by decide +kernel
theorem dX9_init_13 : decode cX9_init 13 = .ok (.aload_n 0, 1) := by decide +kernel
theorem dX9_init_14 : decode cX9_init 14 = .ok (.bipush 15, 2) := by decide +kernel
theorem dX9_init_16 : decode cX9_init 16 = .ok (.newarray .int, 2) := by decide +kernel
theorem dX9_init_18 : decode cX9_init 18 = .ok (.putfield 13, 3) := by decide +kernel
theorem dX9_init_21 : decode cX9_init 21 = .ok (.aload_n 0, 1) := by decide +kernel
theorem dX9_init_22 : decode cX9_init 22 = .ok (.sipush 288, 3) := by decide +kernel
theorem dX9_init_25 : decode cX9_init 25 = .ok (.newarray .int, 2) := by decide +kernel
theorem dX9_init_27 : decode cX9_init 27 = .ok (.putfield 16, 3) := by decide +kernel
theorem dX9_init_30 : decode cX9_init 30 = .ok (.aload_n 0, 1) := by decide +kernel
theorem dX9_init_31 : decode cX9_init 31 = .ok (.sipush 288, 3) := by decide +kernel
theorem dX9_init_34 : decode cX9_init 34 = .ok (.newarray .int, 2) := by decide +kernel
theorem dX9_init_36 : decode cX9_init 36 = .ok (.putfield 19, 3) := by decide +kernel
theorem dX9_init_39 : decode cX9_init 39 = .ok (.aload_n 0, 1) := by decide +kernel
theorem dX9_init_40 : decode cX9_init 40 = .ok (.sipush 288, 3) := by decide +kernel
theorem dX9_init_43 : decode cX9_init 43 = .ok (.newarray .int, 2) := by decide +kernel
theorem dX9_init_45 : decode cX9_init 45 = .ok (.putfield 22, 3) := by decide +kernel
theorem dX9_init_48 : decode cX9_init 48 = .ok (.aload_n 0, 1) := by decide +kernel
theorem dX9_init_49 : decode cX9_init 49 = .ok (.bipush 18, 2) := by decide +kernel
theorem dX9_init_51 : decode cX9_init 51 = .ok (.anewarray 25, 3) := by decide +kernel
theorem dX9_init_54 : decode cX9_init 54 = .ok (.putfield 27, 3) := by decide +kernel
theorem dX9_init_57 : decode cX9_init 57 = .ok (.aload_n 0, 1) := by decide +kernel
theorem dX9_init_58 : decode cX9_init 58 = .ok (.bipush 15, 2) := by decide +kernel
theorem dX9_init_60 : decode cX9_init 60 = .ok (.newarray .int, 2) := by decide +kernel
theorem dX9_init_62 : decode cX9_init 62 = .ok (.putfield 31, 3) := by decide +kernel
theorem dX9_init_65 : decode cX9_init 65 = .ok (.aload_n 0, 1) := by decide +kernel
theorem dX9_init_66 : decode cX9_init 66 = .ok (.new 34, 3) := by decide +kernel
theorem dX9_init_69 : decode cX9_init 69 = .ok (.dup, 1) := by decide +kernel
theorem dX9_init_70 : decode cX9_init 70 = .ok (.invokespecial 36, 3) := by decide +kernel
theorem dX9_init_73 : decode cX9_init 73 = .ok (.putfield 37, 3) := by decide +kernel
theorem dX9_init_76 : decode cX9_init 76 = .ok (.aload_n 0, 1) := by decide +kernel
theorem dX9_init_77 : decode cX9_init 77 = .ok (.iconst 4, 1) := by decide +kernel
theorem dX9_init_78 : decode cX9_init 78 = .ok (.putfield 41, 3) := by decide +kernel
theorem dX9_init_81 : decode cX9_init 81 = .ok (.aload_n 0, 1) := by decide +kernel
theorem dX9_init_82 : decode cX9_init 82 = .ok (.bipush 15, 2) := by decide +kernel
theorem dX9_init_84 : decode cX9_init 84 = .ok (.newarray .int, 2) := by decide +kernel
theorem dX9_init_86 : decode cX9_init 86 = .ok (.putfield 45, 3) := by decide +kernel
theorem dX9_init_89 : decode cX9_init 89 = .ok (.aload_n 0, 1) := by decide +kernel
theorem dX9_init_90 : decode cX9_init 90 = .ok (.bipush 20, 2) := by decide +kernel
theorem dX9_init_92 : decode cX9_init 92 = .ok (.newarray .int, 2) := by decide +kernel
theorem dX9_init_94 : decode cX9_init 94 = .ok (.putfield 48, 3) := by decide +kernel
theorem dX9_init_97 : decode cX9_init 97 = .ok (.aload_n 0, 1) := by decide +kernel
theorem dX9_init_98 : decode cX9_init 98 = .ok (.iconst 4, 1) := by decide +kernel
theorem dX9_init_99 : decode cX9_init 99 = .ok (.newarray .int, 2) := by decide +kernel
theorem dX9_init_101 : decode cX9_init 101 = .ok (.putfield 51, 3) := by decide +kernel
theorem dX9_init_104 : decode cX9_init 104 = .ok (.iconst 0, 1) := by decide +kernel
theorem dX9_init_105 : decode cX9_init 105 = .ok (.istore_n 1, 1) := by decide +kernel
theorem dX9_init_106 : decode cX9_init 106 = .ok (.iload_n 1, 1) := by decide +kernel
theorem dX9_init_107 : decode cX9_init 107 = .ok (.bipush 16, 2) := by decide +kernel
theorem dX9_init_109 : decode cX9_init 109 = .ok (.if_icmp .ge 39, 3) := by decide +kernel
theorem dX9_init_112 : decode cX9_init 112 = .ok (.iconst 0, 1) := by decide +kernel
theorem dX9_init_113 : decode cX9_init 113 = .ok (.istore_n 2, 1) := by decide +kernel
theorem dX9_init_114 : decode cX9_init 114 = .ok (.iload_n 2, 1) := by decide +kernel
theorem dX9_init_115 : decode cX9_init 115 = .ok (.bipush 16, 2) := by decide +kernel
theorem dX9_init_117 : decode cX9_init 117 = .ok (.if_icmp .ge 25, 3) := by decide +kernel
theorem dX9_init_120 : decode cX9_init 120 = .ok (.aload_n 0, 1) := by decide +kernel
theorem dX9_init_121 : decode cX9_init 121 = .ok (.getfield 7, 3) := by decide +kernel
theorem dX9_init_124 : decode cX9_init 124 = .ok (.bipush 16, 2) := by decide +kernel
theorem dX9_init_126 : decode cX9_init 126 = .ok (.iload_n 1, 1) := by decide +kernel
theorem dX9_init_127 : decode cX9_init 127 = .ok (.imul, 1) := by decide +kernel
theorem dX9_init_128 : decode cX9_init 128 = .ok (.iload_n 2, 1) := by decide +kernel
theorem dX9_init_129 : decode cX9_init 129 = .ok (.iadd, 1) := by decide +kernel
theorem dX9_init_130 : decode cX9_init 130 = .ok (.iload_n 1, 1) := by decide +kernel
theorem dX9_init_131 : decode cX9_init 131 = .ok (.iload_n 2, 1) := by decide +kernel
theorem dX9_init_132 : decode cX9_init 132 = .ok (.invokestatic 54, 3) := by decide +kernel
theorem dX9_init_135 : decode cX9_init 135 = .ok (.iastore, 1) := by decide +kernel
theorem dX9_init_136 : decode cX9_init 136 = .ok (.iinc 2 1, 3) := by decide +kernel
theorem dX9_init_139 : decode cX9_init 139 = .ok (.goto (-25), 3) := by decide +kernel
theorem dX9_init_142 : decode cX9_init 142 = .ok (.iinc 1 1, 3) := by decide +kernel
theorem dX9_init_145 : decode cX9_init 145 = .ok (.goto (-39), 3) := by decide +kernel
theorem dX9_init_148 : decode cX9_init 148 = .ok (.aload_n 0, 1) := by decide +kernel
theorem dX9_init_149 : decode cX9_init 149 = .ok (.getfield 13, 3) := by decide +kernel
theorem dX9_init_152 : decode cX9_init 152 = .ok (.iconst 0, 1) := by decide +kernel
theorem dX9_init_153 : decode cX9_init 153 = .ok (.iconst 1, 1) := by decide +kernel
theorem dX9_init_154 : decode cX9_init 154 = .ok (.iastore, 1) := by decide +kernel
theorem dX9_init_155 : decode cX9_init 155 = .ok (.iconst 1, 1) := by decide +kernel
theorem dX9_init_156 : decode cX9_init 156 = .ok (.istore_n 1, 1) := by decide +kernel
theorem dX9_init_157 : decode cX9_init 157 = .ok (.iload_n 1, 1) := by decide +kernel
theorem dX9_init_158 : decode cX9_init 158 = .ok (.bipush 15, 2) := by decide +kernel
theorem dX9_init_160 : decode cX9_init 160 = .ok (.if_icmp .ge 27, 3) := by decide +kernel
theorem dX9_init_163 : decode cX9_init 163 = .ok (.aload_n 0, 1) := by decide +kernel
theorem dX9_init_164 : decode cX9_init 164 = .ok (.getfield 13, 3) := by decide +kernel
theorem dX9_init_167 : decode cX9_init 167 = .ok (.iload_n 1, 1) := by decide +kernel
theorem dX9_init_168 : decode cX9_init 168 = .ok (.aload_n 0, 1) := by decide +kernel
theorem dX9_init_169 : decode cX9_init 169 = .ok (.getfield 13, 3) := by decide +kernel
theorem dX9_init_172 : decode cX9_init 172 = .ok (.iload_n 1, 1) := by decide +kernel
theorem dX9_init_173 : decode cX9_init 173 = .ok (.iconst 1, 1) := by decide +kernel
theorem dX9_init_174 : decode cX9_init 174 = .ok (.isub, 1) := by decide +kernel
theorem dX9_init_175 : decode cX9_init 175 = .ok (.iaload, 1) := by decide +kernel
theorem dX9_init_176 : decode cX9_init 176 = .ok (.iconst 2, 1) := by decide +kernel
theorem dX9_init_177 : decode cX9_init 177 = .ok (.invokestatic 54, 3) := by decide +kernel
theorem dX9_init_180 : decode cX9_init 180 = .ok (.iastore, 1) := by decide +kernel
theorem dX9_init_181 : decode cX9_init 181 = .ok (.iinc 1 1, 3) := by decide +kernel
theorem dX9_init_184 : decode cX9_init 184 = .ok (.goto (-27), 3) := by decide +kernel
theorem dX9_init_187 : decode cX9_init 187 = .ok (.iconst 0, 1) := by decide +kernel
theorem dX9_init_188 : decode cX9_init 188 = .ok (.istore_n 1, 1) := by decide +kernel
theorem dX9_init_189 : decode cX9_init 189 = .ok (.iload_n 1, 1) := by decide +kernel
theorem dX9_init_190 : decode cX9_init 190 = .ok (.bipush 18, 2) := by decide +kernel
theorem dX9_init_192 : decode cX9_init 192 = .ok (.if_icmp .ge 42, 3) := by decide +kernel
theorem dX9_init_195 : decode cX9_init 195 = .ok (.aload_n 0, 1) := by decide +kernel
theorem dX9_init_196 : decode cX9_init 196 = .ok (.getfield 27, 3) := by decide +kernel
theorem dX9_init_199 : decode cX9_init 199 = .ok (.iload_n 1, 1) := by decide +kernel
theorem dX9_init_200 : decode cX9_init 200 = .ok (.new 25, 3) := by decide +kernel
theorem dX9_init_203 : decode cX9_init 203 = .ok (.dup, 1) := by decide +kernel
theorem dX9_init_204 : decode cX9_init 204 = .ok (.invokespecial 58, 3) := by decide +kernel
theorem dX9_init_207 : decode cX9_init 207 = .ok (.aastore, 1) := by decide +kernel
theorem dX9_init_208 : decode cX9_init 208 = .ok (.aload_n 0, 1) := by decide +kernel
theorem dX9_init_209 : decode cX9_init 209 = .ok (.getfield 27, 3) := by decide +kernel
theorem dX9_init_212 : decode cX9_init 212 = .ok (.iload_n 1, 1) := by decide +kernel
theorem dX9_init_213 : decode cX9_init 213 = .ok (.aaload, 1) := by decide +kernel
theorem dX9_init_214 : decode cX9_init 214 = .ok (.iload_n 1, 1) := by decide +kernel
theorem dX9_init_215 : decode cX9_init 215 = .ok (.bipush 15, 2) := by decide +kernel
theorem dX9_init_217 : decode cX9_init 217 = .ok (.if_icmp .ge 7, 3) := by decide +kernel
theorem dX9_init_220 : decode cX9_init 220 = .ok (.iload_n 1, 1) := by decide +kernel
theorem dX9_init_221 : decode cX9_init 221 = .ok (.goto 4, 3) := by decide +kernel
theorem dX9_init_224 : decode cX9_init 224 = .ok (.iconst (-1), 1) := by decide +kernel
theorem dX9_init_225 : decode cX9_init 225 = .ok (.putfield 59, 3) := by decide +kernel
theorem dX9_init_228 : decode cX9_init 228 = .ok (.iinc 1 1, 3) := by decide +kernel
theorem dX9_init_231 : decode cX9_init 231 = .ok (.goto (-42), 3) := by decide +kernel
theorem dX9_init_234 : decode cX9_init 234 = .ok (.iconst 0, 1) := by decide +kernel
theorem dX9_init_235 : decode cX9_init 235 = .ok (.istore_n 1, 1) := by decide +kernel
theorem dX9_init_236 : decode cX9_init 236 = .ok (.iload_n 1, 1) := by decide +kernel
theorem dX9_init_237 : decode cX9_init 237 = .ok (.bipush 15, 2) := by decide +kernel
theorem dX9_init_239 : decode cX9_init 239 = .ok (.if_icmp .ge 16, 3) := by decide +kernel
theorem dX9_init_242 : decode cX9_init 242 = .ok (.aload_n 0, 1) := by decide +kernel
theorem dX9_init_243 : decode cX9_init 243 = .ok (.getfield 31, 3) := by decide +kernel
theorem dX9_init_246 : decode cX9_init 246 = .ok (.iload_n 1, 1) := by decide +kernel
theorem dX9_init_247 : decode cX9_init 247 = .ok (.iload_n 1, 1) := by decide +kernel
theorem dX9_init_248 : decode cX9_init 248 = .ok (.iastore, 1) := by decide +kernel
theorem dX9_init_249 : decode cX9_init 249 = .ok (.iinc 1 1, 3) := by decide +kernel
theorem dX9_init_252 : decode cX9_init 252 = .ok (.goto (-16), 3) := by decide +kernel
theorem dX9_init_255 : decode cX9_init 255 = .ok (.iconst 0, 1) := by decide +kernel
theorem dX9_init_256 : decode cX9_init 256 = .ok (.istore_n 1, 1) := by decide +kernel
theorem dX9_init_257 : decode cX9_init 257 = .ok (.iload_n 1, 1) := by decide +kernel
theorem dX9_init_258 : decode cX9_init 258 = .ok (.iconst 4, 1) := by decide +kernel
theorem dX9_init_259 : decode cX9_init 259 = .ok (.if_icmp .ge 24, 3) := by decide +kernel
theorem dX9_init_262 : decode cX9_init 262 = .ok (.aload_n 0, 1) := by decide +kernel
theorem dX9_init_263 : decode cX9_init 263 = .ok (.getfield 37, 3) := by decide +kernel
theorem dX9_init_266 : decode cX9_init 266 = .ok (.new 62, 3) := by decide +kernel
theorem dX9_init_269 : decode cX9_init 269 = .ok (.dup, 1) := by decide +kernel
theorem dX9_init_270 : decode cX9_init 270 = .ok (.invokespecial 64, 3) := by decide +kernel
theorem dX9_init_273 : decode cX9_init 273 = .ok (.invokevirtual 65, 3) := by decide +kernel
theorem dX9_init_276 : decode cX9_init 276 = .ok (.pop, 1) := by decide +kernel
theorem dX9_init_277 : decode cX9_init 277 = .ok (.iinc 1 1, 3) := by decide +kernel
theorem dX9_init_280 : decode cX9_init 280 = .ok (.goto (-23), 3) := by decide +kernel
theorem dX9_init_283 : decode cX9_init 283 = .ok (.return_, 1) := by decide +kernel
theorem dX9_refuse_0 : decode cX9_refuse 0 = .ok (.aload_n 0, 1) := by decide +kernel
theorem dX9_refuse_1 : decode cX9_refuse 1 = .ok (.iload_n 1, 1) := by decide +kernel
theorem dX9_refuse_2 : decode cX9_refuse 2 = .ok (.putfield 69, 3) := by decide +kernel
theorem dX9_refuse_5 : decode cX9_refuse 5 = .ok (.iconst 0, 1) := by decide +kernel
theorem dX9_refuse_6 : decode cX9_refuse 6 = .ok (.ireturn, 1) := by decide +kernel
theorem dX9_is_0 : decode cX9_is 0 = .ok (.iload_n 0, 1) := by decide +kernel
theorem dX9_is_1 : decode cX9_is 1 = .ok (.iload_n 1, 1) := by decide +kernel
theorem dX9_is_2 : decode cX9_is 2 = .ok (.if_icmp .lt 12, 3) := by decide +kernel
theorem dX9_is_5 : decode cX9_is 5 = .ok (.iload_n 0, 1) := by decide +kernel
theorem dX9_is_6 : decode cX9_is 6 = .ok (.iload_n 2, 1) := by decide +kernel
theorem dX9_is_7 : decode cX9_is 7 = .ok (.if_icmp .gt 7, 3) := by decide +kernel
theorem dX9_is_10 : decode cX9_is 10 = .ok (.iconst 1, 1) := by decide +kernel
theorem dX9_is_11 : decode cX9_is 11 = .ok (.goto 4, 3) := by decide +kernel
theorem dX9_is_14 : decode cX9_is 14 = .ok (.iconst 0, 1) := by decide +kernel
theorem dX9_is_15 : decode cX9_is 15 = .ok (.ireturn, 1) := by decide +kernel
theorem dX9_isLine_0 : decode cX9_isLine 0 = .ok (.iload_n 0, 1) := by decide +kernel
theorem dX9_isLine_1 : decode cX9_isLine 1 = .ok (.iconst 0, 1) := by decide +kernel
theorem dX9_isLine_2 : decode cX9_isLine 2 = .ok (.bipush 15, 2) := by decide +kernel
theorem dX9_isLine_4 : decode cX9_isLine 4 = .ok (.invokestatic 72, 3) := by decide +kernel
theorem dX9_isLine_7 : decode cX9_isLine 7 = .ok (.ireturn, 1) := by decide +kernel
theorem dX9_isPlace_0 : decode cX9_isPlace 0 = .ok (.iload_n 0, 1) := by decide +kernel
theorem dX9_isPlace_1 : decode cX9_isPlace 1 = .ok (.iconst 0, 1) := by decide +kernel
theorem dX9_isPlace_2 : decode cX9_isPlace 2 = .ok (.bipush 14, 2) := by decide +kernel
theorem dX9_isPlace_4 : decode cX9_isPlace 4 = .ok (.invokestatic 72, 3) := by decide +kernel
theorem dX9_isPlace_7 : decode cX9_isPlace 7 = .ok (.ireturn, 1) := by decide +kernel
theorem dX9_isChip_0 : decode cX9_isChip 0 = .ok (.iload_n 0, 1) := by decide +kernel
theorem dX9_isChip_1 : decode cX9_isChip 1 = .ok (.iconst 0, 1) := by decide +kernel
theorem dX9_isChip_2 : decode cX9_isChip 2 = .ok (.bipush 17, 2) := by decide +kernel
theorem dX9_isChip_4 : decode cX9_isChip 4 = .ok (.invokestatic 72, 3) := by decide +kernel
theorem dX9_isChip_7 : decode cX9_isChip 7 = .ok (.ireturn, 1) := by decide +kernel
theorem dX9_isData_0 : decode cX9_isData 0 = .ok (.lload_n 0, 1) := by decide +kernel
theorem dX9_isData_1 : decode cX9_isData 1 = .ok (.lconst 0, 1) := by decide +kernel
theorem dX9_isData_2 : decode cX9_isData 2 = .ok (.lcmp, 1) := by decide +kernel
theorem dX9_isData_3 : decode cX9_isData 3 = .ok (.ifCond .lt 15, 3) := by decide +kernel
theorem dX9_isData_6 : decode cX9_isData 6 = .ok (.lload_n 0, 1) := by decide +kernel
theorem dX9_isData_7 : decode cX9_isData 7 = .ok (.ldc2_w 76, 3) := by decide +kernel
theorem dX9_isData_10 : decode cX9_isData 10 = .ok (.lcmp, 1) := by decide +kernel
theorem dX9_isData_11 : decode cX9_isData 11 = .ok (.ifCond .ge 7, 3) := by decide +kernel
theorem dX9_isData_14 : decode cX9_isData 14 = .ok (.iconst 1, 1) := by decide +kernel
theorem dX9_isData_15 : decode cX9_isData 15 = .ok (.goto 4, 3) := by decide +kernel
theorem dX9_isData_18 : decode cX9_isData 18 = .ok (.iconst 0, 1) := by decide +kernel
theorem dX9_isData_19 : decode cX9_isData 19 = .ok (.ireturn, 1) := by decide +kernel
theorem dX9_isIn_0 : decode cX9_isIn 0 = .ok (.iload_n 0, 1) := by decide +kernel
theorem dX9_isIn_1 : decode cX9_isIn 1 = .ok (.iload_n 1, 1) := by decide +kernel
theorem dX9_isIn_2 : decode cX9_isIn 2 = .ok (.ishr, 1) := by decide +kernel
theorem dX9_isIn_3 : decode cX9_isIn 3 = .ok (.iconst 1, 1) := by decide +kernel
theorem dX9_isIn_4 : decode cX9_isIn 4 = .ok (.iand, 1) := by decide +kernel
theorem dX9_isIn_5 : decode cX9_isIn 5 = .ok (.iconst 1, 1) := by decide +kernel
theorem dX9_isIn_6 : decode cX9_isIn 6 = .ok (.if_icmp .ne 7, 3) := by decide +kernel
theorem dX9_isIn_9 : decode cX9_isIn 9 = .ok (.iconst 1, 1) := by decide +kernel
theorem dX9_isIn_10 : decode cX9_isIn 10 = .ok (.goto 4, 3) := by decide +kernel
theorem dX9_isIn_13 : decode cX9_isIn 13 = .ok (.iconst 0, 1) := by decide +kernel
theorem dX9_isIn_14 : decode cX9_isIn 14 = .ok (.ireturn, 1) := by decide +kernel
theorem dX9_product_0 : decode cX9_product 0 = .ok (.iconst 0, 1) := by decide +kernel
theorem dX9_product_1 : decode cX9_product 1 = .ok (.istore_n 2, 1) := by decide +kernel
theorem dX9_product_2 : decode cX9_product 2 = .ok (.iload_n 0, 1) := by decide +kernel
theorem dX9_product_3 : decode cX9_product 3 = .ok (.istore_n 3, 1) := by decide +kernel
theorem dX9_product_4 : decode cX9_product 4 = .ok (.iload_n 1, 1) := by decide +kernel
theorem dX9_product_5 : decode cX9_product 5 = .ok (.istore 4, 2) := by decide +kernel
theorem dX9_product_7 : decode cX9_product 7 = .ok (.iload 4, 2) := by decide +kernel
theorem dX9_product_9 : decode cX9_product 9 = .ok (.ifCond .le 39, 3) := by decide +kernel
theorem dX9_product_12 : decode cX9_product 12 = .ok (.iload 4, 2) := by decide +kernel
theorem dX9_product_14 : decode cX9_product 14 = .ok (.iconst 2, 1) := by decide +kernel
theorem dX9_product_15 : decode cX9_product 15 = .ok (.irem, 1) := by decide +kernel
theorem dX9_product_16 : decode cX9_product 16 = .ok (.iconst 1, 1) := by decide +kernel
theorem dX9_product_17 : decode cX9_product 17 = .ok (.if_icmp .ne 7, 3) := by decide +kernel
theorem dX9_product_20 : decode cX9_product 20 = .ok (.iload_n 2, 1) := by decide +kernel
theorem dX9_product_21 : decode cX9_product 21 = .ok (.iload_n 3, 1) := by decide +kernel
theorem dX9_product_22 : decode cX9_product 22 = .ok (.ixor, 1) := by decide +kernel
theorem dX9_product_23 : decode cX9_product 23 = .ok (.istore_n 2, 1) := by decide +kernel
theorem dX9_product_24 : decode cX9_product 24 = .ok (.iload_n 3, 1) := by decide +kernel
theorem dX9_product_25 : decode cX9_product 25 = .ok (.iconst 2, 1) := by decide +kernel
theorem dX9_product_26 : decode cX9_product 26 = .ok (.imul, 1) := by decide +kernel
theorem dX9_product_27 : decode cX9_product 27 = .ok (.istore_n 3, 1) := by decide +kernel
theorem dX9_product_28 : decode cX9_product 28 = .ok (.iload_n 3, 1) := by decide +kernel
theorem dX9_product_29 : decode cX9_product 29 = .ok (.bipush 15, 2) := by decide +kernel
theorem dX9_product_31 : decode cX9_product 31 = .ok (.if_icmp .le 8, 3) := by decide +kernel
theorem dX9_product_34 : decode cX9_product 34 = .ok (.iload_n 3, 1) := by decide +kernel
theorem dX9_product_35 : decode cX9_product 35 = .ok (.bipush 19, 2) := by decide +kernel
theorem dX9_product_37 : decode cX9_product 37 = .ok (.ixor, 1) := by decide +kernel
theorem dX9_product_38 : decode cX9_product 38 = .ok (.istore_n 3, 1) := by decide +kernel
theorem dX9_product_39 : decode cX9_product 39 = .ok (.iload 4, 2) := by decide +kernel
theorem dX9_product_41 : decode cX9_product 41 = .ok (.iconst 2, 1) := by decide +kernel
theorem dX9_product_42 : decode cX9_product 42 = .ok (.idiv, 1) := by decide +kernel
theorem dX9_product_43 : decode cX9_product 43 = .ok (.istore 4, 2) := by decide +kernel
theorem dX9_product_45 : decode cX9_product 45 = .ok (.goto (-38), 3) := by decide +kernel
theorem dX9_product_48 : decode cX9_product 48 = .ok (.iload_n 2, 1) := by decide +kernel
theorem dX9_product_49 : decode cX9_product 49 = .ok (.ireturn, 1) := by decide +kernel
theorem dX9_by_0 : decode cX9_by 0 = .ok (.aload_n 0, 1) := by decide +kernel
theorem dX9_by_1 : decode cX9_by 1 = .ok (.getfield 7, 3) := by decide +kernel
theorem dX9_by_4 : decode cX9_by 4 = .ok (.bipush 16, 2) := by decide +kernel
theorem dX9_by_6 : decode cX9_by 6 = .ok (.iload_n 1, 1) := by decide +kernel
theorem dX9_by_7 : decode cX9_by 7 = .ok (.imul, 1) := by decide +kernel
theorem dX9_by_8 : decode cX9_by 8 = .ok (.iload_n 2, 1) := by decide +kernel
theorem dX9_by_9 : decode cX9_by 9 = .ok (.iadd, 1) := by decide +kernel
theorem dX9_by_10 : decode cX9_by 10 = .ok (.iaload, 1) := by decide +kernel
theorem dX9_by_11 : decode cX9_by 11 = .ok (.ireturn, 1) := by decide +kernel
theorem dX9_over_0 : decode cX9_over 0 = .ok (.iconst 0, 1) := by decide +kernel
theorem dX9_over_1 : decode cX9_over 1 = .ok (.istore_n 3, 1) := by decide +kernel
theorem dX9_over_2 : decode cX9_over 2 = .ok (.aload_n 0, 1) := by decide +kernel
theorem dX9_over_3 : decode cX9_over 3 = .ok (.iload_n 3, 1) := by decide +kernel
theorem dX9_over_4 : decode cX9_over 4 = .ok (.iload_n 2, 1) := by decide +kernel
theorem dX9_over_5 : decode cX9_over 5 = .ok (.invokevirtual 78, 3) := by decide +kernel
theorem dX9_over_8 : decode cX9_over 8 = .ok (.iload_n 1, 1) := by decide +kernel
theorem dX9_over_9 : decode cX9_over 9 = .ok (.if_icmp .eq 9, 3) := by decide +kernel
theorem dX9_over_12 : decode cX9_over 12 = .ok (.iinc 3 1, 3) := by decide +kernel
theorem dX9_over_15 : decode cX9_over 15 = .ok (.goto (-13), 3) := by decide +kernel
theorem dX9_over_18 : decode cX9_over 18 = .ok (.iload_n 3, 1) := by decide +kernel
theorem dX9_over_19 : decode cX9_over 19 = .ok (.ireturn, 1) := by decide +kernel
theorem dX9_powerOf_0 : decode cX9_powerOf 0 = .ok (.aload_n 0, 1) := by decide +kernel
theorem dX9_powerOf_1 : decode cX9_powerOf 1 = .ok (.getfield 13, 3) := by decide +kernel
theorem dX9_powerOf_4 : decode cX9_powerOf 4 = .ok (.iload_n 1, 1) := by decide +kernel
theorem dX9_powerOf_5 : decode cX9_powerOf 5 = .ok (.bipush 15, 2) := by decide +kernel
theorem dX9_powerOf_7 : decode cX9_powerOf 7 = .ok (.irem, 1) := by decide +kernel
theorem dX9_powerOf_8 : decode cX9_powerOf 8 = .ok (.iaload, 1) := by decide +kernel
theorem dX9_powerOf_9 : decode cX9_powerOf 9 = .ok (.ireturn, 1) := by decide +kernel
theorem dX9_sumOf_0 : decode cX9_sumOf 0 = .ok (.iconst 0, 1) := by decide +kernel
theorem dX9_sumOf_1 : decode cX9_sumOf 1 = .ok (.istore_n 3, 1) := by decide +kernel
theorem dX9_sumOf_2 : decode cX9_sumOf 2 = .ok (.iconst 0, 1) := by decide +kernel
theorem dX9_sumOf_3 : decode cX9_sumOf 3 = .ok (.istore 4, 2) := by decide +kernel
theorem dX9_sumOf_5 : decode cX9_sumOf 5 = .ok (.iload 4, 2) := by decide +kernel
theorem dX9_sumOf_7 : decode cX9_sumOf 7 = .ok (.bipush 15, 2) := by decide +kernel
theorem dX9_sumOf_9 : decode cX9_sumOf 9 = .ok (.if_icmp .ge 28, 3) := by decide +kernel
theorem dX9_sumOf_12 : decode cX9_sumOf 12 = .ok (.iload_n 3, 1) := by decide +kernel
theorem dX9_sumOf_13 : decode cX9_sumOf 13 = .ok (.aload_n 0, 1) := by decide +kernel
theorem dX9_sumOf_14 : decode cX9_sumOf 14 = .ok (.aload_n 1, 1) := by decide +kernel
theorem dX9_sumOf_15 : decode cX9_sumOf 15 = .ok (.iload 4, 2) := by decide +kernel
theorem dX9_sumOf_17 : decode cX9_sumOf 17 = .ok (.iaload, 1) := by decide +kernel
theorem dX9_sumOf_18 : decode cX9_sumOf 18 = .ok (.aload_n 0, 1) := by decide +kernel
theorem dX9_sumOf_19 : decode cX9_sumOf 19 = .ok (.iload 4, 2) := by decide +kernel
theorem dX9_sumOf_21 : decode cX9_sumOf 21 = .ok (.iload_n 2, 1) := by decide +kernel
theorem dX9_sumOf_22 : decode cX9_sumOf 22 = .ok (.imul, 1) := by decide +kernel
theorem dX9_sumOf_23 : decode cX9_sumOf 23 = .ok (.invokevirtual 81, 3) := by decide +kernel
theorem dX9_sumOf_26 : decode cX9_sumOf 26 = .ok (.invokevirtual 78, 3) := by decide +kernel
theorem dX9_sumOf_29 : decode cX9_sumOf 29 = .ok (.ixor, 1) := by decide +kernel
theorem dX9_sumOf_30 : decode cX9_sumOf 30 = .ok (.istore_n 3, 1) := by decide +kernel
theorem dX9_sumOf_31 : decode cX9_sumOf 31 = .ok (.iinc 4 1, 3) := by decide +kernel
theorem dX9_sumOf_34 : decode cX9_sumOf 34 = .ok (.goto (-29), 3) := by decide +kernel
theorem dX9_sumOf_37 : decode cX9_sumOf 37 = .ok (.iload_n 3, 1) := by decide +kernel
theorem dX9_sumOf_38 : decode cX9_sumOf 38 = .ok (.ireturn, 1) := by decide +kernel
theorem dX9_solve_0 : decode cX9_solve 0 = .ok (.iconst 0, 1) := by decide +kernel
theorem dX9_solve_1 : decode cX9_solve 1 = .ok (.istore_n 3, 1) := by decide +kernel
theorem dX9_solve_2 : decode cX9_solve 2 = .ok (.iconst 0, 1) := by decide +kernel
theorem dX9_solve_3 : decode cX9_solve 3 = .ok (.istore 4, 2) := by decide +kernel
theorem dX9_solve_5 : decode cX9_solve 5 = .ok (.iload 4, 2) := by decide +kernel
theorem dX9_solve_7 : decode cX9_solve 7 = .ok (.bipush 15, 2) := by decide +kernel
theorem dX9_solve_9 : decode cX9_solve 9 = .ok (.if_icmp .ge 29, 3) := by decide +kernel
theorem dX9_solve_12 : decode cX9_solve 12 = .ok (.iload_n 2, 1) := by decide +kernel
theorem dX9_solve_13 : decode cX9_solve 13 = .ok (.iload 4, 2) := by decide +kernel
theorem dX9_solve_15 : decode cX9_solve 15 = .ok (.invokestatic 85, 3) := by decide +kernel
theorem dX9_solve_18 : decode cX9_solve 18 = .ok (.ifCond .eq 14, 3) := by decide +kernel
theorem dX9_solve_21 : decode cX9_solve 21 = .ok (.aload_n 0, 1) := by decide +kernel
theorem dX9_solve_22 : decode cX9_solve 22 = .ok (.getfield 51, 3) := by decide +kernel
theorem dX9_solve_25 : decode cX9_solve 25 = .ok (.iload_n 3, 1) := by decide +kernel
theorem dX9_solve_26 : decode cX9_solve 26 = .ok (.iload 4, 2) := by decide +kernel
theorem dX9_solve_28 : decode cX9_solve 28 = .ok (.iastore, 1) := by decide +kernel
theorem dX9_solve_29 : decode cX9_solve 29 = .ok (.iinc 3 1, 3) := by decide +kernel
theorem dX9_solve_32 : decode cX9_solve 32 = .ok (.iinc 4 1, 3) := by decide +kernel
theorem dX9_solve_35 : decode cX9_solve 35 = .ok (.goto (-30), 3) := by decide +kernel
theorem dX9_solve_38 : decode cX9_solve 38 = .ok (.iconst 5, 1) := by decide +kernel
theorem dX9_solve_39 : decode cX9_solve 39 = .ok (.istore 4, 2) := by decide +kernel
theorem dX9_solve_41 : decode cX9_solve 41 = .ok (.iconst 0, 1) := by decide +kernel
theorem dX9_solve_42 : decode cX9_solve 42 = .ok (.istore 5, 2) := by decide +kernel
theorem dX9_solve_44 : decode cX9_solve 44 = .ok (.iload 5, 2) := by decide +kernel
theorem dX9_solve_46 : decode cX9_solve 46 = .ok (.iconst 4, 1) := by decide +kernel
theorem dX9_solve_47 : decode cX9_solve 47 = .ok (.if_icmp .ge 74, 3) := by decide +kernel
theorem dX9_solve_50 : decode cX9_solve 50 = .ok (.iconst 0, 1) := by decide +kernel
theorem dX9_solve_51 : decode cX9_solve 51 = .ok (.istore 6, 2) := by decide +kernel
theorem dX9_solve_53 : decode cX9_solve 53 = .ok (.iload 6, 2) := by decide +kernel
theorem dX9_solve_55 : decode cX9_solve 55 = .ok (.iload_n 3, 1) := by decide +kernel
theorem dX9_solve_56 : decode cX9_solve 56 = .ok (.if_icmp .ge 38, 3) := by decide +kernel
theorem dX9_solve_59 : decode cX9_solve 59 = .ok (.aload_n 0, 1) := by decide +kernel
theorem dX9_solve_60 : decode cX9_solve 60 = .ok (.getfield 48, 3) := by decide +kernel
theorem dX9_solve_63 : decode cX9_solve 63 = .ok (.iload 5, 2) := by decide +kernel
theorem dX9_solve_65 : decode cX9_solve 65 = .ok (.iload 4, 2) := by decide +kernel
theorem dX9_solve_67 : decode cX9_solve 67 = .ok (.imul, 1) := by decide +kernel
theorem dX9_solve_68 : decode cX9_solve 68 = .ok (.iload 6, 2) := by decide +kernel
theorem dX9_solve_70 : decode cX9_solve 70 = .ok (.iadd, 1) := by decide +kernel
theorem dX9_solve_71 : decode cX9_solve 71 = .ok (.aload_n 0, 1) := by decide +kernel
theorem dX9_solve_72 : decode cX9_solve 72 = .ok (.aload_n 0, 1) := by decide +kernel
theorem dX9_solve_73 : decode cX9_solve 73 = .ok (.getfield 51, 3) := by decide +kernel
theorem dX9_solve_76 : decode cX9_solve 76 = .ok (.iload 6, 2) := by decide +kernel
theorem dX9_solve_78 : decode cX9_solve 78 = .ok (.iaload, 1) := by decide +kernel
theorem dX9_solve_79 : decode cX9_solve 79 = .ok (.iload 5, 2) := by decide +kernel
theorem dX9_solve_81 : decode cX9_solve 81 = .ok (.iconst 1, 1) := by decide +kernel
theorem dX9_solve_82 : decode cX9_solve 82 = .ok (.iadd, 1) := by decide +kernel
theorem dX9_solve_83 : decode cX9_solve 83 = .ok (.imul, 1) := by decide +kernel
theorem dX9_solve_84 : decode cX9_solve 84 = .ok (.invokevirtual 81, 3) := by decide +kernel
theorem dX9_solve_87 : decode cX9_solve 87 = .ok (.iastore, 1) := by decide +kernel
theorem dX9_solve_88 : decode cX9_solve 88 = .ok (.iinc 6 1, 3) := by decide +kernel
theorem dX9_solve_91 : decode cX9_solve 91 = .ok (.goto (-38), 3) := by decide +kernel
theorem dX9_solve_94 : decode cX9_solve 94 = .ok (.aload_n 0, 1) := by decide +kernel
theorem dX9_solve_95 : decode cX9_solve 95 = .ok (.getfield 48, 3) := by decide +kernel
theorem dX9_solve_98 : decode cX9_solve 98 = .ok (.iload 5, 2) := by decide +kernel
theorem dX9_solve_100 : decode cX9_solve 100 = .ok (.iload 4, 2) := by decide +kernel
theorem dX9_solve_102 : decode cX9_solve 102 = .ok (.imul, 1) := by decide +kernel
theorem dX9_solve_103 : decode cX9_solve 103 = .ok (.iconst 4, 1) := by decide +kernel
theorem dX9_solve_104 : decode cX9_solve 104 = .ok (.iadd, 1) := by decide +kernel
theorem dX9_solve_105 : decode cX9_solve 105 = .ok (.aload_n 0, 1) := by decide +kernel
theorem dX9_solve_106 : decode cX9_solve 106 = .ok (.aload_n 1, 1) := by decide +kernel
theorem dX9_solve_107 : decode cX9_solve 107 = .ok (.iload 5, 2) := by decide +kernel
theorem dX9_solve_109 : decode cX9_solve 109 = .ok (.iconst 1, 1) := by decide +kernel
theorem dX9_solve_110 : decode cX9_solve 110 = .ok (.iadd, 1) := by decide +kernel
theorem dX9_solve_111 : decode cX9_solve 111 = .ok (.invokevirtual 89, 3) := by decide +kernel
theorem dX9_solve_114 : decode cX9_solve 114 = .ok (.iastore, 1) := by decide +kernel
theorem dX9_solve_115 : decode cX9_solve 115 = .ok (.iinc 5 1, 3) := by decide +kernel
theorem dX9_solve_118 : decode cX9_solve 118 = .ok (.goto (-74), 3) := by decide +kernel
theorem dX9_solve_121 : decode cX9_solve 121 = .ok (.iconst 0, 1) := by decide +kernel
theorem dX9_solve_122 : decode cX9_solve 122 = .ok (.istore 5, 2) := by decide +kernel
theorem dX9_solve_124 : decode cX9_solve 124 = .ok (.iload 5, 2) := by decide +kernel
theorem dX9_solve_126 : decode cX9_solve 126 = .ok (.iload_n 3, 1) := by decide +kernel
theorem dX9_solve_127 : decode cX9_solve 127 = .ok (.if_icmp .ge 266, 3) := by decide +kernel
theorem dX9_solve_130 : decode cX9_solve 130 = .ok (.iload 5, 2) := by decide +kernel
theorem dX9_solve_132 : decode cX9_solve 132 = .ok (.istore 6, 2) := by decide +kernel
theorem dX9_solve_134 : decode cX9_solve 134 = .ok (.aload_n 0, 1) := by decide +kernel
theorem dX9_solve_135 : decode cX9_solve 135 = .ok (.getfield 48, 3) := by decide +kernel
theorem dX9_solve_138 : decode cX9_solve 138 = .ok (.iload 6, 2) := by decide +kernel
theorem dX9_solve_140 : decode cX9_solve 140 = .ok (.iload 4, 2) := by decide +kernel
theorem dX9_solve_142 : decode cX9_solve 142 = .ok (.imul, 1) := by decide +kernel
theorem dX9_solve_143 : decode cX9_solve 143 = .ok (.iload 5, 2) := by decide +kernel
theorem dX9_solve_145 : decode cX9_solve 145 = .ok (.iadd, 1) := by decide +kernel
theorem dX9_solve_146 : decode cX9_solve 146 = .ok (.iaload, 1) := by decide +kernel
theorem dX9_solve_147 : decode cX9_solve 147 = .ok (.ifCond .ne 9, 3) := by decide +kernel
theorem dX9_solve_150 : decode cX9_solve 150 = .ok (.iinc 6 1, 3) := by decide +kernel
theorem dX9_solve_153 : decode cX9_solve 153 = .ok (.goto (-19), 3) := by decide +kernel
theorem dX9_solve_156 : decode cX9_solve 156 = .ok (.iconst 0, 1) := by decide +kernel
theorem dX9_solve_157 : decode cX9_solve 157 = .ok (.istore 7, 2) := by decide +kernel
theorem dX9_solve_159 : decode cX9_solve 159 = .ok (.iload 7, 2) := by decide +kernel
theorem dX9_solve_161 : decode cX9_solve 161 = .ok (.iload 4, 2) := by decide +kernel
theorem dX9_solve_163 : decode cX9_solve 163 = .ok (.if_icmp .ge 65, 3) := by decide +kernel
theorem dX9_solve_166 : decode cX9_solve 166 = .ok (.aload_n 0, 1) := by decide +kernel
theorem dX9_solve_167 : decode cX9_solve 167 = .ok (.getfield 48, 3) := by decide +kernel
theorem dX9_solve_170 : decode cX9_solve 170 = .ok (.iload 6, 2) := by decide +kernel
theorem dX9_solve_172 : decode cX9_solve 172 = .ok (.iload 4, 2) := by decide +kernel
theorem dX9_solve_174 : decode cX9_solve 174 = .ok (.imul, 1) := by decide +kernel
theorem dX9_solve_175 : decode cX9_solve 175 = .ok (.iload 7, 2) := by decide +kernel
theorem dX9_solve_177 : decode cX9_solve 177 = .ok (.iadd, 1) := by decide +kernel
theorem dX9_solve_178 : decode cX9_solve 178 = .ok (.iaload, 1) := by decide +kernel
theorem dX9_solve_179 : decode cX9_solve 179 = .ok (.istore 8, 2) := by decide +kernel
theorem dX9_solve_181 : decode cX9_solve 181 = .ok (.aload_n 0, 1) := by decide +kernel
theorem dX9_solve_182 : decode cX9_solve 182 = .ok (.getfield 48, 3) := by decide +kernel
theorem dX9_solve_185 : decode cX9_solve 185 = .ok (.iload 6, 2) := by decide +kernel
theorem dX9_solve_187 : decode cX9_solve 187 = .ok (.iload 4, 2) := by decide +kernel
theorem dX9_solve_189 : decode cX9_solve 189 = .ok (.imul, 1) := by decide +kernel
theorem dX9_solve_190 : decode cX9_solve 190 = .ok (.iload 7, 2) := by decide +kernel
theorem dX9_solve_192 : decode cX9_solve 192 = .ok (.iadd, 1) := by decide +kernel
theorem dX9_solve_193 : decode cX9_solve 193 = .ok (.aload_n 0, 1) := by decide +kernel
theorem dX9_solve_194 : decode cX9_solve 194 = .ok (.getfield 48, 3) := by decide +kernel
theorem dX9_solve_197 : decode cX9_solve 197 = .ok (.iload 5, 2) := by decide +kernel
theorem dX9_solve_199 : decode cX9_solve 199 = .ok (.iload 4, 2) := by decide +kernel
theorem dX9_solve_201 : decode cX9_solve 201 = .ok (.imul, 1) := by decide +kernel
theorem dX9_solve_202 : decode cX9_solve 202 = .ok (.iload 7, 2) := by decide +kernel
theorem dX9_solve_204 : decode cX9_solve 204 = .ok (.iadd, 1) := by decide +kernel
theorem dX9_solve_205 : decode cX9_solve 205 = .ok (.iaload, 1) := by decide +kernel
theorem dX9_solve_206 : decode cX9_solve 206 = .ok (.iastore, 1) := by decide +kernel
theorem dX9_solve_207 : decode cX9_solve 207 = .ok (.aload_n 0, 1) := by decide +kernel
theorem dX9_solve_208 : decode cX9_solve 208 = .ok (.getfield 48, 3) := by decide +kernel
theorem dX9_solve_211 : decode cX9_solve 211 = .ok (.iload 5, 2) := by decide +kernel
theorem dX9_solve_213 : decode cX9_solve 213 = .ok (.iload 4, 2) := by decide +kernel
theorem dX9_solve_215 : decode cX9_solve 215 = .ok (.imul, 1) := by decide +kernel
theorem dX9_solve_216 : decode cX9_solve 216 = .ok (.iload 7, 2) := by decide +kernel
theorem dX9_solve_218 : decode cX9_solve 218 = .ok (.iadd, 1) := by decide +kernel
theorem dX9_solve_219 : decode cX9_solve 219 = .ok (.iload 8, 2) := by decide +kernel
theorem dX9_solve_221 : decode cX9_solve 221 = .ok (.iastore, 1) := by decide +kernel
theorem dX9_solve_222 : decode cX9_solve 222 = .ok (.iinc 7 1, 3) := by decide +kernel
theorem dX9_solve_225 : decode cX9_solve 225 = .ok (.goto (-66), 3) := by decide +kernel
theorem dX9_solve_228 : decode cX9_solve 228 = .ok (.aload_n 0, 1) := by decide +kernel
theorem dX9_solve_229 : decode cX9_solve 229 = .ok (.getfield 48, 3) := by decide +kernel
theorem dX9_solve_232 : decode cX9_solve 232 = .ok (.iload 5, 2) := by decide +kernel
theorem dX9_solve_234 : decode cX9_solve 234 = .ok (.iload 4, 2) := by decide +kernel
theorem dX9_solve_236 : decode cX9_solve 236 = .ok (.imul, 1) := by decide +kernel
theorem dX9_solve_237 : decode cX9_solve 237 = .ok (.iload 5, 2) := by decide +kernel
theorem dX9_solve_239 : decode cX9_solve 239 = .ok (.iadd, 1) := by decide +kernel
theorem dX9_solve_240 : decode cX9_solve 240 = .ok (.iaload, 1) := by decide +kernel
theorem dX9_solve_241 : decode cX9_solve 241 = .ok (.istore 7, 2) := by decide +kernel
theorem dX9_solve_243 : decode cX9_solve 243 = .ok (.iconst 0, 1) := by decide +kernel
theorem dX9_solve_244 : decode cX9_solve 244 = .ok (.istore 8, 2) := by decide +kernel
theorem dX9_solve_246 : decode cX9_solve 246 = .ok (.iload 8, 2) := by decide +kernel
theorem dX9_solve_248 : decode cX9_solve 248 = .ok (.iload 4, 2) := by decide +kernel
theorem dX9_solve_250 : decode cX9_solve 250 = .ok (.if_icmp .ge 41, 3) := by decide +kernel
theorem dX9_solve_253 : decode cX9_solve 253 = .ok (.aload_n 0, 1) := by decide +kernel
theorem dX9_solve_254 : decode cX9_solve 254 = .ok (.getfield 48, 3) := by decide +kernel
theorem dX9_solve_257 : decode cX9_solve 257 = .ok (.iload 5, 2) := by decide +kernel
theorem dX9_solve_259 : decode cX9_solve 259 = .ok (.iload 4, 2) := by decide +kernel
theorem dX9_solve_261 : decode cX9_solve 261 = .ok (.imul, 1) := by decide +kernel
theorem dX9_solve_262 : decode cX9_solve 262 = .ok (.iload 8, 2) := by decide +kernel
theorem dX9_solve_264 : decode cX9_solve 264 = .ok (.iadd, 1) := by decide +kernel
theorem dX9_solve_265 : decode cX9_solve 265 = .ok (.aload_n 0, 1) := by decide +kernel
theorem dX9_solve_266 : decode cX9_solve 266 = .ok (.aload_n 0, 1) := by decide +kernel
theorem dX9_solve_267 : decode cX9_solve 267 = .ok (.getfield 48, 3) := by decide +kernel
theorem dX9_solve_270 : decode cX9_solve 270 = .ok (.iload 5, 2) := by decide +kernel
theorem dX9_solve_272 : decode cX9_solve 272 = .ok (.iload 4, 2) := by decide +kernel
theorem dX9_solve_274 : decode cX9_solve 274 = .ok (.imul, 1) := by decide +kernel
theorem dX9_solve_275 : decode cX9_solve 275 = .ok (.iload 8, 2) := by decide +kernel
theorem dX9_solve_277 : decode cX9_solve 277 = .ok (.iadd, 1) := by decide +kernel
theorem dX9_solve_278 : decode cX9_solve 278 = .ok (.iaload, 1) := by decide +kernel
theorem dX9_solve_279 : decode cX9_solve 279 = .ok (.iload 7, 2) := by decide +kernel
theorem dX9_solve_281 : decode cX9_solve 281 = .ok (.invokevirtual 93, 3) := by decide +kernel
theorem dX9_solve_284 : decode cX9_solve 284 = .ok (.iastore, 1) := by decide +kernel
theorem dX9_solve_285 : decode cX9_solve 285 = .ok (.iinc 8 1, 3) := by decide +kernel
theorem dX9_solve_288 : decode cX9_solve 288 = .ok (.goto (-42), 3) := by decide +kernel
theorem dX9_solve_291 : decode cX9_solve 291 = .ok (.iconst 0, 1) := by decide +kernel
theorem dX9_solve_292 : decode cX9_solve 292 = .ok (.istore 8, 2) := by decide +kernel
theorem dX9_solve_294 : decode cX9_solve 294 = .ok (.iload 8, 2) := by decide +kernel
theorem dX9_solve_296 : decode cX9_solve 296 = .ok (.iconst 4, 1) := by decide +kernel
theorem dX9_solve_297 : decode cX9_solve 297 = .ok (.if_icmp .ge 90, 3) := by decide +kernel
theorem dX9_solve_300 : decode cX9_solve 300 = .ok (.aload_n 0, 1) := by decide +kernel
theorem dX9_solve_301 : decode cX9_solve 301 = .ok (.getfield 48, 3) := by decide +kernel
theorem dX9_solve_304 : decode cX9_solve 304 = .ok (.iload 8, 2) := by decide +kernel
theorem dX9_solve_306 : decode cX9_solve 306 = .ok (.iload 4, 2) := by decide +kernel
theorem dX9_solve_308 : decode cX9_solve 308 = .ok (.imul, 1) := by decide +kernel
theorem dX9_solve_309 : decode cX9_solve 309 = .ok (.iload 5, 2) := by decide +kernel
theorem dX9_solve_311 : decode cX9_solve 311 = .ok (.iadd, 1) := by decide +kernel
theorem dX9_solve_312 : decode cX9_solve 312 = .ok (.iaload, 1) := by decide +kernel
theorem dX9_solve_313 : decode cX9_solve 313 = .ok (.istore 9, 2) := by decide +kernel
theorem dX9_solve_315 : decode cX9_solve 315 = .ok (.iload 8, 2) := by decide +kernel
theorem dX9_solve_317 : decode cX9_solve 317 = .ok (.iload 5, 2) := by decide +kernel
theorem dX9_solve_319 : decode cX9_solve 319 = .ok (.if_icmp .eq 62, 3) := by decide +kernel
theorem dX9_solve_322 : decode cX9_solve 322 = .ok (.iload 9, 2) := by decide +kernel
theorem dX9_solve_324 : decode cX9_solve 324 = .ok (.ifCond .ne 6, 3) := by decide +kernel
theorem dX9_solve_327 : decode cX9_solve 327 = .ok (.goto 54, 3) := by decide +kernel
theorem dX9_solve_330 : decode cX9_solve 330 = .ok (.iconst 0, 1) := by decide +kernel
theorem dX9_solve_331 : decode cX9_solve 331 = .ok (.istore 10, 2) := by decide +kernel
theorem dX9_solve_333 : decode cX9_solve 333 = .ok (.iload 10, 2) := by decide +kernel
theorem dX9_solve_335 : decode cX9_solve 335 = .ok (.iload 4, 2) := by decide +kernel
theorem dX9_solve_337 : decode cX9_solve 337 = .ok (.if_icmp .ge 44, 3) := by decide +kernel
theorem dX9_solve_340 : decode cX9_solve 340 = .ok (.aload_n 0, 1) := by decide +kernel
theorem dX9_solve_341 : decode cX9_solve 341 = .ok (.getfield 48, 3) := by decide +kernel
theorem dX9_solve_344 : decode cX9_solve 344 = .ok (.iload 8, 2) := by decide +kernel
theorem dX9_solve_346 : decode cX9_solve 346 = .ok (.iload 4, 2) := by decide +kernel
theorem dX9_solve_348 : decode cX9_solve 348 = .ok (.imul, 1) := by decide +kernel
theorem dX9_solve_349 : decode cX9_solve 349 = .ok (.iload 10, 2) := by decide +kernel
theorem dX9_solve_351 : decode cX9_solve 351 = .ok (.iadd, 1) := by decide +kernel
theorem dX9_solve_352 : decode cX9_solve 352 = .ok (.dup2, 1) := by decide +kernel
theorem dX9_solve_353 : decode cX9_solve 353 = .ok (.iaload, 1) := by decide +kernel
theorem dX9_solve_354 : decode cX9_solve 354 = .ok (.aload_n 0, 1) := by decide +kernel
theorem dX9_solve_355 : decode cX9_solve 355 = .ok (.iload 9, 2) := by decide +kernel
theorem dX9_solve_357 : decode cX9_solve 357 = .ok (.aload_n 0, 1) := by decide +kernel
theorem dX9_solve_358 : decode cX9_solve 358 = .ok (.getfield 48, 3) := by decide +kernel
theorem dX9_solve_361 : decode cX9_solve 361 = .ok (.iload 5, 2) := by decide +kernel
theorem dX9_solve_363 : decode cX9_solve 363 = .ok (.iload 4, 2) := by decide +kernel
theorem dX9_solve_365 : decode cX9_solve 365 = .ok (.imul, 1) := by decide +kernel
theorem dX9_solve_366 : decode cX9_solve 366 = .ok (.iload 10, 2) := by decide +kernel
theorem dX9_solve_368 : decode cX9_solve 368 = .ok (.iadd, 1) := by decide +kernel
theorem dX9_solve_369 : decode cX9_solve 369 = .ok (.iaload, 1) := by decide +kernel
theorem dX9_solve_370 : decode cX9_solve 370 = .ok (.invokevirtual 78, 3) := by decide +kernel
theorem dX9_solve_373 : decode cX9_solve 373 = .ok (.ixor, 1) := by decide +kernel
theorem dX9_solve_374 : decode cX9_solve 374 = .ok (.iastore, 1) := by decide +kernel
theorem dX9_solve_375 : decode cX9_solve 375 = .ok (.iinc 10 1, 3) := by decide +kernel
theorem dX9_solve_378 : decode cX9_solve 378 = .ok (.goto (-45), 3) := by decide +kernel
theorem dX9_solve_381 : decode cX9_solve 381 = .ok (.iinc 8 1, 3) := by decide +kernel
theorem dX9_solve_384 : decode cX9_solve 384 = .ok (.goto (-90), 3) := by decide +kernel
theorem dX9_solve_387 : decode cX9_solve 387 = .ok (.iinc 5 1, 3) := by decide +kernel
theorem dX9_solve_390 : decode cX9_solve 390 = .ok (.goto (-266), 3) := by decide +kernel
theorem dX9_solve_393 : decode cX9_solve 393 = .ok (.iload_n 3, 1) := by decide +kernel
theorem dX9_solve_394 : decode cX9_solve 394 = .ok (.istore 5, 2) := by decide +kernel
theorem dX9_solve_396 : decode cX9_solve 396 = .ok (.iload 5, 2) := by decide +kernel
theorem dX9_solve_398 : decode cX9_solve 398 = .ok (.iconst 4, 1) := by decide +kernel
theorem dX9_solve_399 : decode cX9_solve 399 = .ok (.if_icmp .ge 26, 3) := by decide +kernel
theorem dX9_solve_402 : decode cX9_solve 402 = .ok (.aload_n 0, 1) := by decide +kernel
theorem dX9_solve_403 : decode cX9_solve 403 = .ok (.getfield 48, 3) := by decide +kernel
theorem dX9_solve_406 : decode cX9_solve 406 = .ok (.iload 5, 2) := by decide +kernel
theorem dX9_solve_408 : decode cX9_solve 408 = .ok (.iload 4, 2) := by decide +kernel
theorem dX9_solve_410 : decode cX9_solve 410 = .ok (.imul, 1) := by decide +kernel
theorem dX9_solve_411 : decode cX9_solve 411 = .ok (.iconst 4, 1) := by decide +kernel
theorem dX9_solve_412 : decode cX9_solve 412 = .ok (.iadd, 1) := by decide +kernel
theorem dX9_solve_413 : decode cX9_solve 413 = .ok (.iaload, 1) := by decide +kernel
theorem dX9_solve_414 : decode cX9_solve 414 = .ok (.ifCond .eq 5, 3) := by decide +kernel
theorem dX9_solve_417 : decode cX9_solve 417 = .ok (.iconst 0, 1) := by decide +kernel
theorem dX9_solve_418 : decode cX9_solve 418 = .ok (.ireturn, 1) := by decide +kernel
theorem dX9_solve_419 : decode cX9_solve 419 = .ok (.iinc 5 1, 3) := by decide +kernel
theorem dX9_solve_422 : decode cX9_solve 422 = .ok (.goto (-26), 3) := by decide +kernel
theorem dX9_solve_425 : decode cX9_solve 425 = .ok (.aload_n 1, 1) := by decide +kernel
theorem dX9_solve_426 : decode cX9_solve 426 = .ok (.iconst 0, 1) := by decide +kernel
theorem dX9_solve_427 : decode cX9_solve 427 = .ok (.aload_n 0, 1) := by decide +kernel
theorem dX9_solve_428 : decode cX9_solve 428 = .ok (.getfield 45, 3) := by decide +kernel
theorem dX9_solve_431 : decode cX9_solve 431 = .ok (.iconst 0, 1) := by decide +kernel
theorem dX9_solve_432 : decode cX9_solve 432 = .ok (.bipush 15, 2) := by decide +kernel
theorem dX9_solve_434 : decode cX9_solve 434 = .ok (.invokestatic 96, 3) := by decide +kernel
theorem dX9_solve_437 : decode cX9_solve 437 = .ok (.iconst 0, 1) := by decide +kernel
theorem dX9_solve_438 : decode cX9_solve 438 = .ok (.istore 5, 2) := by decide +kernel
theorem dX9_solve_440 : decode cX9_solve 440 = .ok (.iload 5, 2) := by decide +kernel
theorem dX9_solve_442 : decode cX9_solve 442 = .ok (.iload_n 3, 1) := by decide +kernel
theorem dX9_solve_443 : decode cX9_solve 443 = .ok (.if_icmp .ge 40, 3) := by decide +kernel
theorem dX9_solve_446 : decode cX9_solve 446 = .ok (.aload_n 0, 1) := by decide +kernel
theorem dX9_solve_447 : decode cX9_solve 447 = .ok (.getfield 51, 3) := by decide +kernel
theorem dX9_solve_450 : decode cX9_solve 450 = .ok (.iload 5, 2) := by decide +kernel
theorem dX9_solve_452 : decode cX9_solve 452 = .ok (.iaload, 1) := by decide +kernel
theorem dX9_solve_453 : decode cX9_solve 453 = .ok (.istore 6, 2) := by decide +kernel
theorem dX9_solve_455 : decode cX9_solve 455 = .ok (.aload_n 0, 1) := by decide +kernel
theorem dX9_solve_456 : decode cX9_solve 456 = .ok (.getfield 45, 3) := by decide +kernel
theorem dX9_solve_459 : decode cX9_solve 459 = .ok (.iload 6, 2) := by decide +kernel
theorem dX9_solve_461 : decode cX9_solve 461 = .ok (.dup2, 1) := by decide +kernel
theorem dX9_solve_462 : decode cX9_solve 462 = .ok (.iaload, 1) := by decide +kernel
theorem dX9_solve_463 : decode cX9_solve 463 = .ok (.aload_n 0, 1) := by decide +kernel
theorem dX9_solve_464 : decode cX9_solve 464 = .ok (.getfield 48, 3) := by decide +kernel
theorem dX9_solve_467 : decode cX9_solve 467 = .ok (.iload 5, 2) := by decide +kernel
theorem dX9_solve_469 : decode cX9_solve 469 = .ok (.iload 4, 2) := by decide +kernel
theorem dX9_solve_471 : decode cX9_solve 471 = .ok (.imul, 1) := by decide +kernel
theorem dX9_solve_472 : decode cX9_solve 472 = .ok (.iconst 4, 1) := by decide +kernel
theorem dX9_solve_473 : decode cX9_solve 473 = .ok (.iadd, 1) := by decide +kernel
theorem dX9_solve_474 : decode cX9_solve 474 = .ok (.iaload, 1) := by decide +kernel
theorem dX9_solve_475 : decode cX9_solve 475 = .ok (.ixor, 1) := by decide +kernel
theorem dX9_solve_476 : decode cX9_solve 476 = .ok (.iastore, 1) := by decide +kernel
theorem dX9_solve_477 : decode cX9_solve 477 = .ok (.iinc 5 1, 3) := by decide +kernel
theorem dX9_solve_480 : decode cX9_solve 480 = .ok (.goto (-40), 3) := by decide +kernel
theorem dX9_solve_483 : decode cX9_solve 483 = .ok (.iconst 1, 1) := by decide +kernel
theorem dX9_solve_484 : decode cX9_solve 484 = .ok (.ireturn, 1) := by decide +kernel
theorem dX9_mend_0 : decode cX9_mend 0 = .ok (.iload_n 2, 1) := by decide +kernel
theorem dX9_mend_1 : decode cX9_mend 1 = .ok (.invokestatic 102, 3) := by decide +kernel
theorem dX9_mend_4 : decode cX9_mend 4 = .ok (.istore_n 3, 1) := by decide +kernel
theorem dX9_mend_5 : decode cX9_mend 5 = .ok (.iload_n 3, 1) := by decide +kernel
theorem dX9_mend_6 : decode cX9_mend 6 = .ok (.iconst 4, 1) := by decide +kernel
theorem dX9_mend_7 : decode cX9_mend 7 = .ok (.if_icmp .le 5, 3) := by decide +kernel
theorem dX9_mend_10 : decode cX9_mend 10 = .ok (.iconst 0, 1) := by decide +kernel
theorem dX9_mend_11 : decode cX9_mend 11 = .ok (.ireturn, 1) := by decide +kernel
theorem dX9_mend_12 : decode cX9_mend 12 = .ok (.aload_n 0, 1) := by decide +kernel
theorem dX9_mend_13 : decode cX9_mend 13 = .ok (.aload_n 1, 1) := by decide +kernel
theorem dX9_mend_14 : decode cX9_mend 14 = .ok (.iload_n 2, 1) := by decide +kernel
theorem dX9_mend_15 : decode cX9_mend 15 = .ok (.invokevirtual 107, 3) := by decide +kernel
theorem dX9_mend_18 : decode cX9_mend 18 = .ok (.ifCond .eq 5, 3) := by decide +kernel
theorem dX9_mend_21 : decode cX9_mend 21 = .ok (.iconst 1, 1) := by decide +kernel
theorem dX9_mend_22 : decode cX9_mend 22 = .ok (.ireturn, 1) := by decide +kernel
theorem dX9_mend_23 : decode cX9_mend 23 = .ok (.iconst 0, 1) := by decide +kernel
theorem dX9_mend_24 : decode cX9_mend 24 = .ok (.istore 4, 2) := by decide +kernel
theorem dX9_mend_26 : decode cX9_mend 26 = .ok (.iload 4, 2) := by decide +kernel
theorem dX9_mend_28 : decode cX9_mend 28 = .ok (.bipush 15, 2) := by decide +kernel
theorem dX9_mend_30 : decode cX9_mend 30 = .ok (.if_icmp .ge 41, 3) := by decide +kernel
theorem dX9_mend_33 : decode cX9_mend 33 = .ok (.iload_n 3, 1) := by decide +kernel
theorem dX9_mend_34 : decode cX9_mend 34 = .ok (.iconst 2, 1) := by decide +kernel
theorem dX9_mend_35 : decode cX9_mend 35 = .ok (.iadd, 1) := by decide +kernel
theorem dX9_mend_36 : decode cX9_mend 36 = .ok (.iconst 4, 1) := by decide +kernel
theorem dX9_mend_37 : decode cX9_mend 37 = .ok (.if_icmp .gt 34, 3) := by decide +kernel
theorem dX9_mend_40 : decode cX9_mend 40 = .ok (.iload_n 2, 1) := by decide +kernel
theorem dX9_mend_41 : decode cX9_mend 41 = .ok (.iload 4, 2) := by decide +kernel
theorem dX9_mend_43 : decode cX9_mend 43 = .ok (.invokestatic 85, 3) := by decide +kernel
theorem dX9_mend_46 : decode cX9_mend 46 = .ok (.ifCond .ne 19, 3) := by decide +kernel
theorem dX9_mend_49 : decode cX9_mend 49 = .ok (.aload_n 0, 1) := by decide +kernel
theorem dX9_mend_50 : decode cX9_mend 50 = .ok (.aload_n 1, 1) := by decide +kernel
theorem dX9_mend_51 : decode cX9_mend 51 = .ok (.iload_n 2, 1) := by decide +kernel
theorem dX9_mend_52 : decode cX9_mend 52 = .ok (.iconst 1, 1) := by decide +kernel
theorem dX9_mend_53 : decode cX9_mend 53 = .ok (.iload 4, 2) := by decide +kernel
theorem dX9_mend_55 : decode cX9_mend 55 = .ok (.ishl, 1) := by decide +kernel
theorem dX9_mend_56 : decode cX9_mend 56 = .ok (.ior, 1) := by decide +kernel
theorem dX9_mend_57 : decode cX9_mend 57 = .ok (.invokevirtual 107, 3) := by decide +kernel
theorem dX9_mend_60 : decode cX9_mend 60 = .ok (.ifCond .eq 5, 3) := by decide +kernel
theorem dX9_mend_63 : decode cX9_mend 63 = .ok (.iconst 1, 1) := by decide +kernel
theorem dX9_mend_64 : decode cX9_mend 64 = .ok (.ireturn, 1) := by decide +kernel
theorem dX9_mend_65 : decode cX9_mend 65 = .ok (.iinc 4 1, 3) := by decide +kernel
theorem dX9_mend_68 : decode cX9_mend 68 = .ok (.goto (-42), 3) := by decide +kernel
theorem dX9_mend_71 : decode cX9_mend 71 = .ok (.iconst 0, 1) := by decide +kernel
theorem dX9_mend_72 : decode cX9_mend 72 = .ok (.istore 4, 2) := by decide +kernel
theorem dX9_mend_74 : decode cX9_mend 74 = .ok (.iload 4, 2) := by decide +kernel
theorem dX9_mend_76 : decode cX9_mend 76 = .ok (.bipush 15, 2) := by decide +kernel
theorem dX9_mend_78 : decode cX9_mend 78 = .ok (.if_icmp .ge 48, 3) := by decide +kernel
theorem dX9_mend_81 : decode cX9_mend 81 = .ok (.iload_n 3, 1) := by decide +kernel
theorem dX9_mend_82 : decode cX9_mend 82 = .ok (.ifCond .ne 44, 3) := by decide +kernel
theorem dX9_mend_85 : decode cX9_mend 85 = .ok (.iconst 0, 1) := by decide +kernel
theorem dX9_mend_86 : decode cX9_mend 86 = .ok (.istore 5, 2) := by decide +kernel
theorem dX9_mend_88 : decode cX9_mend 88 = .ok (.iload 5, 2) := by decide +kernel
theorem dX9_mend_90 : decode cX9_mend 90 = .ok (.iload 4, 2) := by decide +kernel
theorem dX9_mend_92 : decode cX9_mend 92 = .ok (.if_icmp .ge 28, 3) := by decide +kernel
theorem dX9_mend_95 : decode cX9_mend 95 = .ok (.aload_n 0, 1) := by decide +kernel
theorem dX9_mend_96 : decode cX9_mend 96 = .ok (.aload_n 1, 1) := by decide +kernel
theorem dX9_mend_97 : decode cX9_mend 97 = .ok (.iconst 1, 1) := by decide +kernel
theorem dX9_mend_98 : decode cX9_mend 98 = .ok (.iload 4, 2) := by decide +kernel
theorem dX9_mend_100 : decode cX9_mend 100 = .ok (.ishl, 1) := by decide +kernel
theorem dX9_mend_101 : decode cX9_mend 101 = .ok (.iconst 1, 1) := by decide +kernel
theorem dX9_mend_102 : decode cX9_mend 102 = .ok (.iload 5, 2) := by decide +kernel
theorem dX9_mend_104 : decode cX9_mend 104 = .ok (.ishl, 1) := by decide +kernel
theorem dX9_mend_105 : decode cX9_mend 105 = .ok (.ior, 1) := by decide +kernel
theorem dX9_mend_106 : decode cX9_mend 106 = .ok (.invokevirtual 107, 3) := by decide +kernel
theorem dX9_mend_109 : decode cX9_mend 109 = .ok (.ifCond .eq 5, 3) := by decide +kernel
theorem dX9_mend_112 : decode cX9_mend 112 = .ok (.iconst 1, 1) := by decide +kernel
theorem dX9_mend_113 : decode cX9_mend 113 = .ok (.ireturn, 1) := by decide +kernel
theorem dX9_mend_114 : decode cX9_mend 114 = .ok (.iinc 5 1, 3) := by decide +kernel
theorem dX9_mend_117 : decode cX9_mend 117 = .ok (.goto (-29), 3) := by decide +kernel
theorem dX9_mend_120 : decode cX9_mend 120 = .ok (.iinc 4 1, 3) := by decide +kernel
theorem dX9_mend_123 : decode cX9_mend 123 = .ok (.goto (-49), 3) := by decide +kernel
theorem dX9_mend_126 : decode cX9_mend 126 = .ok (.iconst 0, 1) := by decide +kernel
theorem dX9_mend_127 : decode cX9_mend 127 = .ok (.ireturn, 1) := by decide +kernel
theorem dX9_wordOf_0 : decode cX9_wordOf 0 = .ok (.bipush 15, 2) := by decide +kernel
theorem dX9_wordOf_2 : decode cX9_wordOf 2 = .ok (.newarray .int, 2) := by decide +kernel
theorem dX9_wordOf_4 : decode cX9_wordOf 4 = .ok (.astore_n 3, 1) := by decide +kernel
theorem dX9_wordOf_5 : decode cX9_wordOf 5 = .ok (.lload_n 1, 1) := by decide +kernel
theorem dX9_wordOf_6 : decode cX9_wordOf 6 = .ok (.lstore 4, 2) := by decide +kernel
theorem dX9_wordOf_8 : decode cX9_wordOf 8 = .ok (.iconst 4, 1) := by decide +kernel
theorem dX9_wordOf_9 : decode cX9_wordOf 9 = .ok (.istore 6, 2) := by decide +kernel
theorem dX9_wordOf_11 : decode cX9_wordOf 11 = .ok (.iload 6, 2) := by decide +kernel
theorem dX9_wordOf_13 : decode cX9_wordOf 13 = .ok (.bipush 15, 2) := by decide +kernel
theorem dX9_wordOf_15 : decode cX9_wordOf 15 = .ok (.if_icmp .ge 28, 3) := by decide +kernel
theorem dX9_wordOf_18 : decode cX9_wordOf 18 = .ok (.aload_n 3, 1) := by decide +kernel
theorem dX9_wordOf_19 : decode cX9_wordOf 19 = .ok (.iload 6, 2) := by decide +kernel
theorem dX9_wordOf_21 : decode cX9_wordOf 21 = .ok (.lload 4, 2) := by decide +kernel
theorem dX9_wordOf_23 : decode cX9_wordOf 23 = .ok (.ldc2_w 111, 3) := by decide +kernel
theorem dX9_wordOf_26 : decode cX9_wordOf 26 = .ok (.lrem, 1) := by decide +kernel
theorem dX9_wordOf_27 : decode cX9_wordOf 27 = .ok (.l2i, 1) := by decide +kernel
theorem dX9_wordOf_28 : decode cX9_wordOf 28 = .ok (.iastore, 1) := by decide +kernel
theorem dX9_wordOf_29 : decode cX9_wordOf 29 = .ok (.lload 4, 2) := by decide +kernel
theorem dX9_wordOf_31 : decode cX9_wordOf 31 = .ok (.ldc2_w 111, 3) := by decide +kernel
theorem dX9_wordOf_34 : decode cX9_wordOf 34 = .ok (.ldiv, 1) := by decide +kernel
theorem dX9_wordOf_35 : decode cX9_wordOf 35 = .ok (.lstore 4, 2) := by decide +kernel
theorem dX9_wordOf_37 : decode cX9_wordOf 37 = .ok (.iinc 6 1, 3) := by decide +kernel
theorem dX9_wordOf_40 : decode cX9_wordOf 40 = .ok (.goto (-29), 3) := by decide +kernel
theorem dX9_wordOf_43 : decode cX9_wordOf 43 = .ok (.aload_n 0, 1) := by decide +kernel
theorem dX9_wordOf_44 : decode cX9_wordOf 44 = .ok (.aload_n 3, 1) := by decide +kernel
theorem dX9_wordOf_45 : decode cX9_wordOf 45 = .ok (.bipush 15, 2) := by decide +kernel
theorem dX9_wordOf_47 : decode cX9_wordOf 47 = .ok (.invokevirtual 107, 3) := by decide +kernel
theorem dX9_wordOf_50 : decode cX9_wordOf 50 = .ok (.pop, 1) := by decide +kernel
theorem dX9_wordOf_51 : decode cX9_wordOf 51 = .ok (.aload_n 0, 1) := by decide +kernel
theorem dX9_wordOf_52 : decode cX9_wordOf 52 = .ok (.getfield 45, 3) := by decide +kernel
theorem dX9_wordOf_55 : decode cX9_wordOf 55 = .ok (.iconst 0, 1) := by decide +kernel
theorem dX9_wordOf_56 : decode cX9_wordOf 56 = .ok (.aload_n 3, 1) := by decide +kernel
theorem dX9_wordOf_57 : decode cX9_wordOf 57 = .ok (.iconst 0, 1) := by decide +kernel
theorem dX9_wordOf_58 : decode cX9_wordOf 58 = .ok (.bipush 15, 2) := by decide +kernel
theorem dX9_wordOf_60 : decode cX9_wordOf 60 = .ok (.invokestatic 96, 3) := by decide +kernel
theorem dX9_wordOf_63 : decode cX9_wordOf 63 = .ok (.aload_n 3, 1) := by decide +kernel
theorem dX9_wordOf_64 : decode cX9_wordOf 64 = .ok (.areturn, 1) := by decide +kernel
theorem dX9_dataOf_0 : decode cX9_dataOf 0 = .ok (.lconst 0, 1) := by decide +kernel
theorem dX9_dataOf_1 : decode cX9_dataOf 1 = .ok (.lstore_n 1, 1) := by decide +kernel
theorem dX9_dataOf_2 : decode cX9_dataOf 2 = .ok (.bipush 14, 2) := by decide +kernel
theorem dX9_dataOf_4 : decode cX9_dataOf 4 = .ok (.istore_n 3, 1) := by decide +kernel
theorem dX9_dataOf_5 : decode cX9_dataOf 5 = .ok (.iload_n 3, 1) := by decide +kernel
theorem dX9_dataOf_6 : decode cX9_dataOf 6 = .ok (.iconst 4, 1) := by decide +kernel
theorem dX9_dataOf_7 : decode cX9_dataOf 7 = .ok (.if_icmp .lt 20, 3) := by decide +kernel
theorem dX9_dataOf_10 : decode cX9_dataOf 10 = .ok (.ldc2_w 111, 3) := by decide +kernel
theorem dX9_dataOf_13 : decode cX9_dataOf 13 = .ok (.lload_n 1, 1) := by decide +kernel
theorem dX9_dataOf_14 : decode cX9_dataOf 14 = .ok (.lmul, 1) := by decide +kernel
theorem dX9_dataOf_15 : decode cX9_dataOf 15 = .ok (.aload_n 0, 1) := by decide +kernel
theorem dX9_dataOf_16 : decode cX9_dataOf 16 = .ok (.iload_n 3, 1) := by decide +kernel
theorem dX9_dataOf_17 : decode cX9_dataOf 17 = .ok (.iaload, 1) := by decide +kernel
theorem dX9_dataOf_18 : decode cX9_dataOf 18 = .ok (.i2l, 1) := by decide +kernel
theorem dX9_dataOf_19 : decode cX9_dataOf 19 = .ok (.ladd, 1) := by decide +kernel
theorem dX9_dataOf_20 : decode cX9_dataOf 20 = .ok (.lstore_n 1, 1) := by decide +kernel
theorem dX9_dataOf_21 : decode cX9_dataOf 21 = .ok (.iinc 3 (-1), 3) := by decide +kernel
theorem dX9_dataOf_24 : decode cX9_dataOf 24 = .ok (.goto (-19), 3) := by decide +kernel
theorem dX9_dataOf_27 : decode cX9_dataOf 27 = .ok (.lload_n 1, 1) := by decide +kernel
theorem dX9_dataOf_28 : decode cX9_dataOf 28 = .ok (.lreturn, 1) := by decide +kernel
theorem dX9_readOf_0 : decode cX9_readOf 0 = .ok (.aload_n 0, 1) := by decide +kernel
theorem dX9_readOf_1 : decode cX9_readOf 1 = .ok (.getfield 27, 3) := by decide +kernel
theorem dX9_readOf_4 : decode cX9_readOf 4 = .ok (.iload_n 1, 1) := by decide +kernel
theorem dX9_readOf_5 : decode cX9_readOf 5 = .ok (.aaload, 1) := by decide +kernel
theorem dX9_readOf_6 : decode cX9_readOf 6 = .ok (.getfield 113, 3) := by decide +kernel
theorem dX9_readOf_9 : decode cX9_readOf 9 = .ok (.iconst (-1), 1) := by decide +kernel
theorem dX9_readOf_10 : decode cX9_readOf 10 = .ok (.if_icmp .eq 18, 3) := by decide +kernel
theorem dX9_readOf_13 : decode cX9_readOf 13 = .ok (.aload_n 0, 1) := by decide +kernel
theorem dX9_readOf_14 : decode cX9_readOf 14 = .ok (.getfield 27, 3) := by decide +kernel
theorem dX9_readOf_17 : decode cX9_readOf 17 = .ok (.iload_n 1, 1) := by decide +kernel
theorem dX9_readOf_18 : decode cX9_readOf 18 = .ok (.aaload, 1) := by decide +kernel
theorem dX9_readOf_19 : decode cX9_readOf 19 = .ok (.getfield 113, 3) := by decide +kernel
theorem dX9_readOf_22 : decode cX9_readOf 22 = .ok (.iload_n 2, 1) := by decide +kernel
theorem dX9_readOf_23 : decode cX9_readOf 23 = .ok (.iadd, 1) := by decide +kernel
theorem dX9_readOf_24 : decode cX9_readOf 24 = .ok (.bipush 16, 2) := by decide +kernel
theorem dX9_readOf_26 : decode cX9_readOf 26 = .ok (.irem, 1) := by decide +kernel
theorem dX9_readOf_27 : decode cX9_readOf 27 = .ok (.ireturn, 1) := by decide +kernel
theorem dX9_readOf_28 : decode cX9_readOf 28 = .ok (.iload_n 1, 1) := by decide +kernel
theorem dX9_readOf_29 : decode cX9_readOf 29 = .ok (.bipush 16, 2) := by decide +kernel
theorem dX9_readOf_31 : decode cX9_readOf 31 = .ok (.imul, 1) := by decide +kernel
theorem dX9_readOf_32 : decode cX9_readOf 32 = .ok (.iload_n 2, 1) := by decide +kernel
theorem dX9_readOf_33 : decode cX9_readOf 33 = .ok (.iadd, 1) := by decide +kernel
theorem dX9_readOf_34 : decode cX9_readOf 34 = .ok (.istore_n 3, 1) := by decide +kernel
theorem dX9_readOf_35 : decode cX9_readOf 35 = .ok (.aload_n 0, 1) := by decide +kernel
theorem dX9_readOf_36 : decode cX9_readOf 36 = .ok (.getfield 16, 3) := by decide +kernel
theorem dX9_readOf_39 : decode cX9_readOf 39 = .ok (.iload_n 3, 1) := by decide +kernel
theorem dX9_readOf_40 : decode cX9_readOf 40 = .ok (.iaload, 1) := by decide +kernel
theorem dX9_readOf_41 : decode cX9_readOf 41 = .ok (.aload_n 0, 1) := by decide +kernel
theorem dX9_readOf_42 : decode cX9_readOf 42 = .ok (.getfield 19, 3) := by decide +kernel
theorem dX9_readOf_45 : decode cX9_readOf 45 = .ok (.iload_n 3, 1) := by decide +kernel
theorem dX9_readOf_46 : decode cX9_readOf 46 = .ok (.iaload, 1) := by decide +kernel
theorem dX9_readOf_47 : decode cX9_readOf 47 = .ok (.iconst (-1), 1) := by decide +kernel
theorem dX9_readOf_48 : decode cX9_readOf 48 = .ok (.ixor, 1) := by decide +kernel
theorem dX9_readOf_49 : decode cX9_readOf 49 = .ok (.iand, 1) := by decide +kernel
theorem dX9_readOf_50 : decode cX9_readOf 50 = .ok (.aload_n 0, 1) := by decide +kernel
theorem dX9_readOf_51 : decode cX9_readOf 51 = .ok (.getfield 22, 3) := by decide +kernel
theorem dX9_readOf_54 : decode cX9_readOf 54 = .ok (.iload_n 3, 1) := by decide +kernel
theorem dX9_readOf_55 : decode cX9_readOf 55 = .ok (.iaload, 1) := by decide +kernel
theorem dX9_readOf_56 : decode cX9_readOf 56 = .ok (.aload_n 0, 1) := by decide +kernel
theorem dX9_readOf_57 : decode cX9_readOf 57 = .ok (.getfield 19, 3) := by decide +kernel
theorem dX9_readOf_60 : decode cX9_readOf 60 = .ok (.iload_n 3, 1) := by decide +kernel
theorem dX9_readOf_61 : decode cX9_readOf 61 = .ok (.iaload, 1) := by decide +kernel
theorem dX9_readOf_62 : decode cX9_readOf 62 = .ok (.iand, 1) := by decide +kernel
theorem dX9_readOf_63 : decode cX9_readOf 63 = .ok (.ior, 1) := by decide +kernel
theorem dX9_readOf_64 : decode cX9_readOf 64 = .ok (.ireturn, 1) := by decide +kernel
theorem dX9_read_0 : decode cX9_read 0 = .ok (.bipush 15, 2) := by decide +kernel
theorem dX9_read_2 : decode cX9_read 2 = .ok (.newarray .int, 2) := by decide +kernel
theorem dX9_read_4 : decode cX9_read 4 = .ok (.astore_n 2, 1) := by decide +kernel
theorem dX9_read_5 : decode cX9_read 5 = .ok (.iconst 0, 1) := by decide +kernel
theorem dX9_read_6 : decode cX9_read 6 = .ok (.istore_n 3, 1) := by decide +kernel
theorem dX9_read_7 : decode cX9_read 7 = .ok (.iload_n 3, 1) := by decide +kernel
theorem dX9_read_8 : decode cX9_read 8 = .ok (.bipush 15, 2) := by decide +kernel
theorem dX9_read_10 : decode cX9_read 10 = .ok (.if_icmp .ge 23, 3) := by decide +kernel
theorem dX9_read_13 : decode cX9_read 13 = .ok (.aload_n 2, 1) := by decide +kernel
theorem dX9_read_14 : decode cX9_read 14 = .ok (.iload_n 3, 1) := by decide +kernel
theorem dX9_read_15 : decode cX9_read 15 = .ok (.aload_n 0, 1) := by decide +kernel
theorem dX9_read_16 : decode cX9_read 16 = .ok (.aload_n 0, 1) := by decide +kernel
theorem dX9_read_17 : decode cX9_read 17 = .ok (.getfield 31, 3) := by decide +kernel
theorem dX9_read_20 : decode cX9_read 20 = .ok (.iload_n 3, 1) := by decide +kernel
theorem dX9_read_21 : decode cX9_read 21 = .ok (.iaload, 1) := by decide +kernel
theorem dX9_read_22 : decode cX9_read 22 = .ok (.iload_n 1, 1) := by decide +kernel
theorem dX9_read_23 : decode cX9_read 23 = .ok (.invokevirtual 116, 3) := by decide +kernel
theorem dX9_read_26 : decode cX9_read 26 = .ok (.iastore, 1) := by decide +kernel
theorem dX9_read_27 : decode cX9_read 27 = .ok (.iinc 3 1, 3) := by decide +kernel
theorem dX9_read_30 : decode cX9_read 30 = .ok (.goto (-23), 3) := by decide +kernel
theorem dX9_read_33 : decode cX9_read 33 = .ok (.aload_n 2, 1) := by decide +kernel
theorem dX9_read_34 : decode cX9_read 34 = .ok (.areturn, 1) := by decide +kernel
theorem dX9_write_0 : decode cX9_write 0 = .ok (.iconst 0, 1) := by decide +kernel
theorem dX9_write_1 : decode cX9_write 1 = .ok (.istore_n 3, 1) := by decide +kernel
theorem dX9_write_2 : decode cX9_write 2 = .ok (.iload_n 3, 1) := by decide +kernel
theorem dX9_write_3 : decode cX9_write 3 = .ok (.bipush 15, 2) := by decide +kernel
theorem dX9_write_5 : decode cX9_write 5 = .ok (.if_icmp .ge 28, 3) := by decide +kernel
theorem dX9_write_8 : decode cX9_write 8 = .ok (.aload_n 0, 1) := by decide +kernel
theorem dX9_write_9 : decode cX9_write 9 = .ok (.getfield 16, 3) := by decide +kernel
theorem dX9_write_12 : decode cX9_write 12 = .ok (.aload_n 0, 1) := by decide +kernel
theorem dX9_write_13 : decode cX9_write 13 = .ok (.getfield 31, 3) := by decide +kernel
theorem dX9_write_16 : decode cX9_write 16 = .ok (.iload_n 3, 1) := by decide +kernel
theorem dX9_write_17 : decode cX9_write 17 = .ok (.iaload, 1) := by decide +kernel
theorem dX9_write_18 : decode cX9_write 18 = .ok (.bipush 16, 2) := by decide +kernel
theorem dX9_write_20 : decode cX9_write 20 = .ok (.imul, 1) := by decide +kernel
theorem dX9_write_21 : decode cX9_write 21 = .ok (.iload_n 1, 1) := by decide +kernel
theorem dX9_write_22 : decode cX9_write 22 = .ok (.iadd, 1) := by decide +kernel
theorem dX9_write_23 : decode cX9_write 23 = .ok (.aload_n 2, 1) := by decide +kernel
theorem dX9_write_24 : decode cX9_write 24 = .ok (.iload_n 3, 1) := by decide +kernel
theorem dX9_write_25 : decode cX9_write 25 = .ok (.iaload, 1) := by decide +kernel
theorem dX9_write_26 : decode cX9_write 26 = .ok (.iastore, 1) := by decide +kernel
theorem dX9_write_27 : decode cX9_write 27 = .ok (.iinc 3 1, 3) := by decide +kernel
theorem dX9_write_30 : decode cX9_write 30 = .ok (.goto (-28), 3) := by decide +kernel
theorem dX9_write_33 : decode cX9_write 33 = .ok (.return_, 1) := by decide +kernel
theorem dX9_erased_0 : decode cX9_erased 0 = .ok (.iconst 0, 1) := by decide +kernel
theorem dX9_erased_1 : decode cX9_erased 1 = .ok (.istore_n 1, 1) := by decide +kernel
theorem dX9_erased_2 : decode cX9_erased 2 = .ok (.iconst 0, 1) := by decide +kernel
theorem dX9_erased_3 : decode cX9_erased 3 = .ok (.istore_n 2, 1) := by decide +kernel
theorem dX9_erased_4 : decode cX9_erased 4 = .ok (.iload_n 2, 1) := by decide +kernel
theorem dX9_erased_5 : decode cX9_erased 5 = .ok (.bipush 15, 2) := by decide +kernel
theorem dX9_erased_7 : decode cX9_erased 7 = .ok (.if_icmp .ge 36, 3) := by decide +kernel
theorem dX9_erased_10 : decode cX9_erased 10 = .ok (.iload_n 1, 1) := by decide +kernel
theorem dX9_erased_11 : decode cX9_erased 11 = .ok (.aload_n 0, 1) := by decide +kernel
theorem dX9_erased_12 : decode cX9_erased 12 = .ok (.getfield 27, 3) := by decide +kernel
theorem dX9_erased_15 : decode cX9_erased 15 = .ok (.aload_n 0, 1) := by decide +kernel
theorem dX9_erased_16 : decode cX9_erased 16 = .ok (.getfield 31, 3) := by decide +kernel
theorem dX9_erased_19 : decode cX9_erased 19 = .ok (.iload_n 2, 1) := by decide +kernel
theorem dX9_erased_20 : decode cX9_erased 20 = .ok (.iaload, 1) := by decide +kernel
theorem dX9_erased_21 : decode cX9_erased 21 = .ok (.aaload, 1) := by decide +kernel
theorem dX9_erased_22 : decode cX9_erased 22 = .ok (.getfield 119, 3) := by decide +kernel
theorem dX9_erased_25 : decode cX9_erased 25 = .ok (.ifCond .eq 9, 3) := by decide +kernel
theorem dX9_erased_28 : decode cX9_erased 28 = .ok (.iconst 1, 1) := by decide +kernel
theorem dX9_erased_29 : decode cX9_erased 29 = .ok (.iload_n 2, 1) := by decide +kernel
theorem dX9_erased_30 : decode cX9_erased 30 = .ok (.ishl, 1) := by decide +kernel
theorem dX9_erased_31 : decode cX9_erased 31 = .ok (.goto 4, 3) := by decide +kernel
theorem dX9_erased_34 : decode cX9_erased 34 = .ok (.iconst 0, 1) := by decide +kernel
theorem dX9_erased_35 : decode cX9_erased 35 = .ok (.ior, 1) := by decide +kernel
theorem dX9_erased_36 : decode cX9_erased 36 = .ok (.istore_n 1, 1) := by decide +kernel
theorem dX9_erased_37 : decode cX9_erased 37 = .ok (.iinc 2 1, 3) := by decide +kernel
theorem dX9_erased_40 : decode cX9_erased 40 = .ok (.goto (-36), 3) := by decide +kernel
theorem dX9_erased_43 : decode cX9_erased 43 = .ok (.iload_n 1, 1) := by decide +kernel
theorem dX9_erased_44 : decode cX9_erased 44 = .ok (.ireturn, 1) := by decide +kernel
theorem dX9_differing_0 : decode cX9_differing 0 = .ok (.iconst 0, 1) := by decide +kernel
theorem dX9_differing_1 : decode cX9_differing 1 = .ok (.istore_n 2, 1) := by decide +kernel
theorem dX9_differing_2 : decode cX9_differing 2 = .ok (.iconst 0, 1) := by decide +kernel
theorem dX9_differing_3 : decode cX9_differing 3 = .ok (.istore_n 3, 1) := by decide +kernel
theorem dX9_differing_4 : decode cX9_differing 4 = .ok (.iload_n 3, 1) := by decide +kernel
theorem dX9_differing_5 : decode cX9_differing 5 = .ok (.bipush 15, 2) := by decide +kernel
theorem dX9_differing_7 : decode cX9_differing 7 = .ok (.if_icmp .ge 31, 3) := by decide +kernel
theorem dX9_differing_10 : decode cX9_differing 10 = .ok (.iload_n 2, 1) := by decide +kernel
theorem dX9_differing_11 : decode cX9_differing 11 = .ok (.aload_n 1, 1) := by decide +kernel
theorem dX9_differing_12 : decode cX9_differing 12 = .ok (.iload_n 3, 1) := by decide +kernel
theorem dX9_differing_13 : decode cX9_differing 13 = .ok (.iaload, 1) := by decide +kernel
theorem dX9_differing_14 : decode cX9_differing 14 = .ok (.aload_n 0, 1) := by decide +kernel
theorem dX9_differing_15 : decode cX9_differing 15 = .ok (.getfield 45, 3) := by decide +kernel
theorem dX9_differing_18 : decode cX9_differing 18 = .ok (.iload_n 3, 1) := by decide +kernel
theorem dX9_differing_19 : decode cX9_differing 19 = .ok (.iaload, 1) := by decide +kernel
theorem dX9_differing_20 : decode cX9_differing 20 = .ok (.if_icmp .ne 7, 3) := by decide +kernel
theorem dX9_differing_23 : decode cX9_differing 23 = .ok (.iconst 0, 1) := by decide +kernel
theorem dX9_differing_24 : decode cX9_differing 24 = .ok (.goto 6, 3) := by decide +kernel
theorem dX9_differing_27 : decode cX9_differing 27 = .ok (.iconst 1, 1) := by decide +kernel
theorem dX9_differing_28 : decode cX9_differing 28 = .ok (.iload_n 3, 1) := by decide +kernel
theorem dX9_differing_29 : decode cX9_differing 29 = .ok (.ishl, 1) := by decide +kernel
theorem dX9_differing_30 : decode cX9_differing 30 = .ok (.ior, 1) := by decide +kernel
theorem dX9_differing_31 : decode cX9_differing 31 = .ok (.istore_n 2, 1) := by decide +kernel
theorem dX9_differing_32 : decode cX9_differing 32 = .ok (.iinc 3 1, 3) := by decide +kernel
theorem dX9_differing_35 : decode cX9_differing 35 = .ok (.goto (-31), 3) := by decide +kernel
theorem dX9_differing_38 : decode cX9_differing 38 = .ok (.iload_n 2, 1) := by decide +kernel
theorem dX9_differing_39 : decode cX9_differing 39 = .ok (.ireturn, 1) := by decide +kernel
theorem dX9_write__0 : decode cX9_write_ 0 = .ok (.aload_n 0, 1) := by decide +kernel
theorem dX9_write__1 : decode cX9_write_ 1 = .ok (.iconst 0, 1) := by decide +kernel
theorem dX9_write__2 : decode cX9_write_ 2 = .ok (.putfield 69, 3) := by decide +kernel
theorem dX9_write__5 : decode cX9_write_ 5 = .ok (.iload_n 1, 1) := by decide +kernel
theorem dX9_write__6 : decode cX9_write_ 6 = .ok (.invokestatic 123, 3) := by decide +kernel
theorem dX9_write__9 : decode cX9_write_ 9 = .ok (.ifCond .ne 9, 3) := by decide +kernel
theorem dX9_write__12 : decode cX9_write_ 12 = .ok (.aload_n 0, 1) := by decide +kernel
theorem dX9_write__13 : decode cX9_write_ 13 = .ok (.iconst 1, 1) := by decide +kernel
theorem dX9_write__14 : decode cX9_write_ 14 = .ok (.invokevirtual 127, 3) := by decide +kernel
theorem dX9_write__17 : decode cX9_write_ 17 = .ok (.ireturn, 1) := by decide +kernel
theorem dX9_write__18 : decode cX9_write_ 18 = .ok (.lload_n 2, 1) := by decide +kernel
theorem dX9_write__19 : decode cX9_write_ 19 = .ok (.invokestatic 130, 3) := by decide +kernel
theorem dX9_write__22 : decode cX9_write_ 22 = .ok (.ifCond .ne 9, 3) := by decide +kernel
theorem dX9_write__25 : decode cX9_write_ 25 = .ok (.aload_n 0, 1) := by decide +kernel
theorem dX9_write__26 : decode cX9_write_ 26 = .ok (.iconst 2, 1) := by decide +kernel
theorem dX9_write__27 : decode cX9_write_ 27 = .ok (.invokevirtual 127, 3) := by decide +kernel
theorem dX9_write__30 : decode cX9_write_ 30 = .ok (.ireturn, 1) := by decide +kernel
theorem dX9_write__31 : decode cX9_write_ 31 = .ok (.aload_n 0, 1) := by decide +kernel
theorem dX9_write__32 : decode cX9_write_ 32 = .ok (.iload_n 1, 1) := by decide +kernel
theorem dX9_write__33 : decode cX9_write_ 33 = .ok (.invokevirtual 134, 3) := by decide +kernel
theorem dX9_write__36 : decode cX9_write_ 36 = .ok (.astore 4, 2) := by decide +kernel
theorem dX9_write__38 : decode cX9_write_ 38 = .ok (.aload_n 0, 1) := by decide +kernel
theorem dX9_write__39 : decode cX9_write_ 39 = .ok (.iload_n 1, 1) := by decide +kernel
theorem dX9_write__40 : decode cX9_write_ 40 = .ok (.aload_n 0, 1) := by decide +kernel
theorem dX9_write__41 : decode cX9_write_ 41 = .ok (.lload_n 2, 1) := by decide +kernel
theorem dX9_write__42 : decode cX9_write_ 42 = .ok (.invokevirtual 138, 3) := by decide +kernel
theorem dX9_write__45 : decode cX9_write_ 45 = .ok (.invokevirtual 142, 3) := by decide +kernel
theorem dX9_write__48 : decode cX9_write_ 48 = .ok (.aload_n 0, 1) := by decide +kernel
theorem dX9_write__49 : decode cX9_write_ 49 = .ok (.iload_n 1, 1) := by decide +kernel
theorem dX9_write__50 : decode cX9_write_ 50 = .ok (.invokevirtual 134, 3) := by decide +kernel
theorem dX9_write__53 : decode cX9_write_ 53 = .ok (.astore 5, 2) := by decide +kernel
theorem dX9_write__55 : decode cX9_write_ 55 = .ok (.iconst 0, 1) := by decide +kernel
theorem dX9_write__56 : decode cX9_write_ 56 = .ok (.istore 6, 2) := by decide +kernel
theorem dX9_write__58 : decode cX9_write_ 58 = .ok (.iconst 0, 1) := by decide +kernel
theorem dX9_write__59 : decode cX9_write_ 59 = .ok (.istore 7, 2) := by decide +kernel
theorem dX9_write__61 : decode cX9_write_ 61 = .ok (.iload 7, 2) := by decide +kernel
theorem dX9_write__63 : decode cX9_write_ 63 = .ok (.bipush 15, 2) := by decide +kernel
theorem dX9_write__65 : decode cX9_write_ 65 = .ok (.if_icmp .ge 32, 3) := by decide +kernel
theorem dX9_write__68 : decode cX9_write_ 68 = .ok (.iload 6, 2) := by decide +kernel
theorem dX9_write__70 : decode cX9_write_ 70 = .ok (.aload 4, 2) := by decide +kernel
theorem dX9_write__72 : decode cX9_write_ 72 = .ok (.iload 7, 2) := by decide +kernel
theorem dX9_write__74 : decode cX9_write_ 74 = .ok (.iaload, 1) := by decide +kernel
theorem dX9_write__75 : decode cX9_write_ 75 = .ok (.aload 5, 2) := by decide +kernel
theorem dX9_write__77 : decode cX9_write_ 77 = .ok (.iload 7, 2) := by decide +kernel
theorem dX9_write__79 : decode cX9_write_ 79 = .ok (.iaload, 1) := by decide +kernel
theorem dX9_write__80 : decode cX9_write_ 80 = .ok (.if_icmp .ne 7, 3) := by decide +kernel
theorem dX9_write__83 : decode cX9_write_ 83 = .ok (.iconst 0, 1) := by decide +kernel
theorem dX9_write__84 : decode cX9_write_ 84 = .ok (.goto 4, 3) := by decide +kernel
theorem dX9_write__87 : decode cX9_write_ 87 = .ok (.iconst 1, 1) := by decide +kernel
theorem dX9_write__88 : decode cX9_write_ 88 = .ok (.iadd, 1) := by decide +kernel
theorem dX9_write__89 : decode cX9_write_ 89 = .ok (.istore 6, 2) := by decide +kernel
theorem dX9_write__91 : decode cX9_write_ 91 = .ok (.iinc 7 1, 3) := by decide +kernel
theorem dX9_write__94 : decode cX9_write_ 94 = .ok (.goto (-33), 3) := by decide +kernel
theorem dX9_write__97 : decode cX9_write_ 97 = .ok (.iload 6, 2) := by decide +kernel
theorem dX9_write__99 : decode cX9_write_ 99 = .ok (.ireturn, 1) := by decide +kernel
theorem dX9_stuck_0 : decode cX9_stuck 0 = .ok (.iconst 0, 1) := by decide +kernel
theorem dX9_stuck_1 : decode cX9_stuck 1 = .ok (.istore_n 2, 1) := by decide +kernel
theorem dX9_stuck_2 : decode cX9_stuck 2 = .ok (.iconst 0, 1) := by decide +kernel
theorem dX9_stuck_3 : decode cX9_stuck 3 = .ok (.istore_n 3, 1) := by decide +kernel
theorem dX9_stuck_4 : decode cX9_stuck 4 = .ok (.iload_n 3, 1) := by decide +kernel
theorem dX9_stuck_5 : decode cX9_stuck 5 = .ok (.bipush 16, 2) := by decide +kernel
theorem dX9_stuck_7 : decode cX9_stuck 7 = .ok (.if_icmp .ge 31, 3) := by decide +kernel
theorem dX9_stuck_10 : decode cX9_stuck 10 = .ok (.iload_n 2, 1) := by decide +kernel
theorem dX9_stuck_11 : decode cX9_stuck 11 = .ok (.aload_n 0, 1) := by decide +kernel
theorem dX9_stuck_12 : decode cX9_stuck 12 = .ok (.getfield 19, 3) := by decide +kernel
theorem dX9_stuck_15 : decode cX9_stuck 15 = .ok (.iload_n 1, 1) := by decide +kernel
theorem dX9_stuck_16 : decode cX9_stuck 16 = .ok (.bipush 16, 2) := by decide +kernel
theorem dX9_stuck_18 : decode cX9_stuck 18 = .ok (.imul, 1) := by decide +kernel
theorem dX9_stuck_19 : decode cX9_stuck 19 = .ok (.iload_n 3, 1) := by decide +kernel
theorem dX9_stuck_20 : decode cX9_stuck 20 = .ok (.iadd, 1) := by decide +kernel
theorem dX9_stuck_21 : decode cX9_stuck 21 = .ok (.iaload, 1) := by decide +kernel
theorem dX9_stuck_22 : decode cX9_stuck 22 = .ok (.ifCond .ne 7, 3) := by decide +kernel
theorem dX9_stuck_25 : decode cX9_stuck 25 = .ok (.iconst 0, 1) := by decide +kernel
theorem dX9_stuck_26 : decode cX9_stuck 26 = .ok (.goto 4, 3) := by decide +kernel
theorem dX9_stuck_29 : decode cX9_stuck 29 = .ok (.iconst 1, 1) := by decide +kernel
theorem dX9_stuck_30 : decode cX9_stuck 30 = .ok (.iadd, 1) := by decide +kernel
theorem dX9_stuck_31 : decode cX9_stuck 31 = .ok (.istore_n 2, 1) := by decide +kernel
theorem dX9_stuck_32 : decode cX9_stuck 32 = .ok (.iinc 3 1, 3) := by decide +kernel
theorem dX9_stuck_35 : decode cX9_stuck 35 = .ok (.goto (-31), 3) := by decide +kernel
theorem dX9_stuck_38 : decode cX9_stuck 38 = .ok (.iload_n 2, 1) := by decide +kernel
theorem dX9_stuck_39 : decode cX9_stuck 39 = .ok (.ireturn, 1) := by decide +kernel
theorem dX9_stick_0 : decode cX9_stick 0 = .ok (.aload_n 0, 1) := by decide +kernel
theorem dX9_stick_1 : decode cX9_stick 1 = .ok (.iconst 0, 1) := by decide +kernel
theorem dX9_stick_2 : decode cX9_stick 2 = .ok (.putfield 69, 3) := by decide +kernel
theorem dX9_stick_5 : decode cX9_stick 5 = .ok (.iload_n 1, 1) := by decide +kernel
theorem dX9_stick_6 : decode cX9_stick 6 = .ok (.invokestatic 146, 3) := by decide +kernel
theorem dX9_stick_9 : decode cX9_stick 9 = .ok (.ifCond .eq 10, 3) := by decide +kernel
theorem dX9_stick_12 : decode cX9_stick 12 = .ok (.iload_n 2, 1) := by decide +kernel
theorem dX9_stick_13 : decode cX9_stick 13 = .ok (.invokestatic 123, 3) := by decide +kernel
theorem dX9_stick_16 : decode cX9_stick 16 = .ok (.ifCond .ne 9, 3) := by decide +kernel
theorem dX9_stick_19 : decode cX9_stick 19 = .ok (.aload_n 0, 1) := by decide +kernel
theorem dX9_stick_20 : decode cX9_stick 20 = .ok (.iconst 1, 1) := by decide +kernel
theorem dX9_stick_21 : decode cX9_stick 21 = .ok (.invokevirtual 127, 3) := by decide +kernel
theorem dX9_stick_24 : decode cX9_stick 24 = .ok (.ireturn, 1) := by decide +kernel
theorem dX9_stick_25 : decode cX9_stick 25 = .ok (.iload_n 3, 1) := by decide +kernel
theorem dX9_stick_26 : decode cX9_stick 26 = .ok (.iconst 0, 1) := by decide +kernel
theorem dX9_stick_27 : decode cX9_stick 27 = .ok (.bipush 15, 2) := by decide +kernel
theorem dX9_stick_29 : decode cX9_stick 29 = .ok (.invokestatic 72, 3) := by decide +kernel
theorem dX9_stick_32 : decode cX9_stick 32 = .ok (.ifCond .eq 14, 3) := by decide +kernel
theorem dX9_stick_35 : decode cX9_stick 35 = .ok (.iload 4, 2) := by decide +kernel
theorem dX9_stick_37 : decode cX9_stick 37 = .ok (.iconst 0, 1) := by decide +kernel
theorem dX9_stick_38 : decode cX9_stick 38 = .ok (.bipush 15, 2) := by decide +kernel
theorem dX9_stick_40 : decode cX9_stick 40 = .ok (.invokestatic 72, 3) := by decide +kernel
theorem dX9_stick_43 : decode cX9_stick 43 = .ok (.ifCond .ne 9, 3) := by decide +kernel
theorem dX9_stick_46 : decode cX9_stick 46 = .ok (.aload_n 0, 1) := by decide +kernel
theorem dX9_stick_47 : decode cX9_stick 47 = .ok (.iconst 2, 1) := by decide +kernel
theorem dX9_stick_48 : decode cX9_stick 48 = .ok (.invokevirtual 127, 3) := by decide +kernel
theorem dX9_stick_51 : decode cX9_stick 51 = .ok (.ireturn, 1) := by decide +kernel
theorem dX9_stick_52 : decode cX9_stick 52 = .ok (.aload_n 0, 1) := by decide +kernel
theorem dX9_stick_53 : decode cX9_stick 53 = .ok (.getfield 19, 3) := by decide +kernel
theorem dX9_stick_56 : decode cX9_stick 56 = .ok (.iload_n 1, 1) := by decide +kernel
theorem dX9_stick_57 : decode cX9_stick 57 = .ok (.bipush 16, 2) := by decide +kernel
theorem dX9_stick_59 : decode cX9_stick 59 = .ok (.imul, 1) := by decide +kernel
theorem dX9_stick_60 : decode cX9_stick 60 = .ok (.iload_n 2, 1) := by decide +kernel
theorem dX9_stick_61 : decode cX9_stick 61 = .ok (.iadd, 1) := by decide +kernel
theorem dX9_stick_62 : decode cX9_stick 62 = .ok (.iload_n 3, 1) := by decide +kernel
theorem dX9_stick_63 : decode cX9_stick 63 = .ok (.iastore, 1) := by decide +kernel
theorem dX9_stick_64 : decode cX9_stick 64 = .ok (.aload_n 0, 1) := by decide +kernel
theorem dX9_stick_65 : decode cX9_stick 65 = .ok (.getfield 22, 3) := by decide +kernel
theorem dX9_stick_68 : decode cX9_stick 68 = .ok (.iload_n 1, 1) := by decide +kernel
theorem dX9_stick_69 : decode cX9_stick 69 = .ok (.bipush 16, 2) := by decide +kernel
theorem dX9_stick_71 : decode cX9_stick 71 = .ok (.imul, 1) := by decide +kernel
theorem dX9_stick_72 : decode cX9_stick 72 = .ok (.iload_n 2, 1) := by decide +kernel
theorem dX9_stick_73 : decode cX9_stick 73 = .ok (.iadd, 1) := by decide +kernel
theorem dX9_stick_74 : decode cX9_stick 74 = .ok (.iload 4, 2) := by decide +kernel
theorem dX9_stick_76 : decode cX9_stick 76 = .ok (.iastore, 1) := by decide +kernel
theorem dX9_stick_77 : decode cX9_stick 77 = .ok (.aload_n 0, 1) := by decide +kernel
theorem dX9_stick_78 : decode cX9_stick 78 = .ok (.iload_n 1, 1) := by decide +kernel
theorem dX9_stick_79 : decode cX9_stick 79 = .ok (.invokevirtual 149, 3) := by decide +kernel
theorem dX9_stick_82 : decode cX9_stick 82 = .ok (.ireturn, 1) := by decide +kernel
theorem dX9_mad_0 : decode cX9_mad 0 = .ok (.aload_n 0, 1) := by decide +kernel
theorem dX9_mad_1 : decode cX9_mad 1 = .ok (.iconst 0, 1) := by decide +kernel
theorem dX9_mad_2 : decode cX9_mad 2 = .ok (.putfield 69, 3) := by decide +kernel
theorem dX9_mad_5 : decode cX9_mad 5 = .ok (.iload_n 1, 1) := by decide +kernel
theorem dX9_mad_6 : decode cX9_mad 6 = .ok (.invokestatic 146, 3) := by decide +kernel
theorem dX9_mad_9 : decode cX9_mad 9 = .ok (.ifCond .ne 9, 3) := by decide +kernel
theorem dX9_mad_12 : decode cX9_mad 12 = .ok (.aload_n 0, 1) := by decide +kernel
theorem dX9_mad_13 : decode cX9_mad 13 = .ok (.iconst 1, 1) := by decide +kernel
theorem dX9_mad_14 : decode cX9_mad 14 = .ok (.invokevirtual 127, 3) := by decide +kernel
theorem dX9_mad_17 : decode cX9_mad 17 = .ok (.ireturn, 1) := by decide +kernel
theorem dX9_mad_18 : decode cX9_mad 18 = .ok (.iload_n 2, 1) := by decide +kernel
theorem dX9_mad_19 : decode cX9_mad 19 = .ok (.iconst (-1), 1) := by decide +kernel
theorem dX9_mad_20 : decode cX9_mad 20 = .ok (.bipush 15, 2) := by decide +kernel
theorem dX9_mad_22 : decode cX9_mad 22 = .ok (.invokestatic 72, 3) := by decide +kernel
theorem dX9_mad_25 : decode cX9_mad 25 = .ok (.ifCond .ne 9, 3) := by decide +kernel
theorem dX9_mad_28 : decode cX9_mad 28 = .ok (.aload_n 0, 1) := by decide +kernel
theorem dX9_mad_29 : decode cX9_mad 29 = .ok (.iconst 2, 1) := by decide +kernel
theorem dX9_mad_30 : decode cX9_mad 30 = .ok (.invokevirtual 127, 3) := by decide +kernel
theorem dX9_mad_33 : decode cX9_mad 33 = .ok (.ireturn, 1) := by decide +kernel
theorem dX9_mad_34 : decode cX9_mad 34 = .ok (.aload_n 0, 1) := by decide +kernel
theorem dX9_mad_35 : decode cX9_mad 35 = .ok (.getfield 27, 3) := by decide +kernel
theorem dX9_mad_38 : decode cX9_mad 38 = .ok (.iload_n 1, 1) := by decide +kernel
theorem dX9_mad_39 : decode cX9_mad 39 = .ok (.aaload, 1) := by decide +kernel
theorem dX9_mad_40 : decode cX9_mad 40 = .ok (.getfield 113, 3) := by decide +kernel
theorem dX9_mad_43 : decode cX9_mad 43 = .ok (.istore_n 3, 1) := by decide +kernel
theorem dX9_mad_44 : decode cX9_mad 44 = .ok (.aload_n 0, 1) := by decide +kernel
theorem dX9_mad_45 : decode cX9_mad 45 = .ok (.getfield 27, 3) := by decide +kernel
theorem dX9_mad_48 : decode cX9_mad 48 = .ok (.iload_n 1, 1) := by decide +kernel
theorem dX9_mad_49 : decode cX9_mad 49 = .ok (.aaload, 1) := by decide +kernel
theorem dX9_mad_50 : decode cX9_mad 50 = .ok (.iload_n 2, 1) := by decide +kernel
theorem dX9_mad_51 : decode cX9_mad 51 = .ok (.putfield 113, 3) := by decide +kernel
theorem dX9_mad_54 : decode cX9_mad 54 = .ok (.iload_n 3, 1) := by decide +kernel
theorem dX9_mad_55 : decode cX9_mad 55 = .ok (.ireturn, 1) := by decide +kernel
theorem dX9_ray_0 : decode cX9_ray 0 = .ok (.aload_n 0, 1) := by decide +kernel
theorem dX9_ray_1 : decode cX9_ray 1 = .ok (.iconst 0, 1) := by decide +kernel
theorem dX9_ray_2 : decode cX9_ray 2 = .ok (.putfield 69, 3) := by decide +kernel
theorem dX9_ray_5 : decode cX9_ray 5 = .ok (.iload_n 1, 1) := by decide +kernel
theorem dX9_ray_6 : decode cX9_ray 6 = .ok (.invokestatic 146, 3) := by decide +kernel
theorem dX9_ray_9 : decode cX9_ray 9 = .ok (.ifCond .eq 10, 3) := by decide +kernel
theorem dX9_ray_12 : decode cX9_ray 12 = .ok (.iload_n 2, 1) := by decide +kernel
theorem dX9_ray_13 : decode cX9_ray 13 = .ok (.invokestatic 123, 3) := by decide +kernel
theorem dX9_ray_16 : decode cX9_ray 16 = .ok (.ifCond .ne 9, 3) := by decide +kernel
theorem dX9_ray_19 : decode cX9_ray 19 = .ok (.aload_n 0, 1) := by decide +kernel
theorem dX9_ray_20 : decode cX9_ray 20 = .ok (.iconst 1, 1) := by decide +kernel
theorem dX9_ray_21 : decode cX9_ray 21 = .ok (.invokevirtual 127, 3) := by decide +kernel
theorem dX9_ray_24 : decode cX9_ray 24 = .ok (.ireturn, 1) := by decide +kernel
theorem dX9_ray_25 : decode cX9_ray 25 = .ok (.iload_n 3, 1) := by decide +kernel
theorem dX9_ray_26 : decode cX9_ray 26 = .ok (.iconst 1, 1) := by decide +kernel
theorem dX9_ray_27 : decode cX9_ray 27 = .ok (.bipush 15, 2) := by decide +kernel
theorem dX9_ray_29 : decode cX9_ray 29 = .ok (.invokestatic 72, 3) := by decide +kernel
theorem dX9_ray_32 : decode cX9_ray 32 = .ok (.ifCond .ne 9, 3) := by decide +kernel
theorem dX9_ray_35 : decode cX9_ray 35 = .ok (.aload_n 0, 1) := by decide +kernel
theorem dX9_ray_36 : decode cX9_ray 36 = .ok (.iconst 2, 1) := by decide +kernel
theorem dX9_ray_37 : decode cX9_ray 37 = .ok (.invokevirtual 127, 3) := by decide +kernel
theorem dX9_ray_40 : decode cX9_ray 40 = .ok (.ireturn, 1) := by decide +kernel
theorem dX9_ray_41 : decode cX9_ray 41 = .ok (.iload_n 1, 1) := by decide +kernel
theorem dX9_ray_42 : decode cX9_ray 42 = .ok (.bipush 16, 2) := by decide +kernel
theorem dX9_ray_44 : decode cX9_ray 44 = .ok (.imul, 1) := by decide +kernel
theorem dX9_ray_45 : decode cX9_ray 45 = .ok (.iload_n 2, 1) := by decide +kernel
theorem dX9_ray_46 : decode cX9_ray 46 = .ok (.iadd, 1) := by decide +kernel
theorem dX9_ray_47 : decode cX9_ray 47 = .ok (.istore 4, 2) := by decide +kernel
theorem dX9_ray_49 : decode cX9_ray 49 = .ok (.aload_n 0, 1) := by decide +kernel
theorem dX9_ray_50 : decode cX9_ray 50 = .ok (.getfield 16, 3) := by decide +kernel
theorem dX9_ray_53 : decode cX9_ray 53 = .ok (.iload 4, 2) := by decide +kernel
theorem dX9_ray_55 : decode cX9_ray 55 = .ok (.dup2, 1) := by decide +kernel
theorem dX9_ray_56 : decode cX9_ray 56 = .ok (.iaload, 1) := by decide +kernel
theorem dX9_ray_57 : decode cX9_ray 57 = .ok (.iload_n 3, 1) := by decide +kernel
theorem dX9_ray_58 : decode cX9_ray 58 = .ok (.ixor, 1) := by decide +kernel
theorem dX9_ray_59 : decode cX9_ray 59 = .ok (.iastore, 1) := by decide +kernel
theorem dX9_ray_60 : decode cX9_ray 60 = .ok (.aload_n 0, 1) := by decide +kernel
theorem dX9_ray_61 : decode cX9_ray 61 = .ok (.getfield 16, 3) := by decide +kernel
theorem dX9_ray_64 : decode cX9_ray 64 = .ok (.iload 4, 2) := by decide +kernel
theorem dX9_ray_66 : decode cX9_ray 66 = .ok (.iaload, 1) := by decide +kernel
theorem dX9_ray_67 : decode cX9_ray 67 = .ok (.ireturn, 1) := by decide +kernel
theorem dX9_erase_0 : decode cX9_erase 0 = .ok (.aload_n 0, 1) := by decide +kernel
theorem dX9_erase_1 : decode cX9_erase 1 = .ok (.iconst 0, 1) := by decide +kernel
theorem dX9_erase_2 : decode cX9_erase 2 = .ok (.putfield 69, 3) := by decide +kernel
theorem dX9_erase_5 : decode cX9_erase 5 = .ok (.iload_n 1, 1) := by decide +kernel
theorem dX9_erase_6 : decode cX9_erase 6 = .ok (.invokestatic 152, 3) := by decide +kernel
theorem dX9_erase_9 : decode cX9_erase 9 = .ok (.ifCond .ne 9, 3) := by decide +kernel
theorem dX9_erase_12 : decode cX9_erase 12 = .ok (.aload_n 0, 1) := by decide +kernel
theorem dX9_erase_13 : decode cX9_erase 13 = .ok (.iconst 1, 1) := by decide +kernel
theorem dX9_erase_14 : decode cX9_erase 14 = .ok (.invokevirtual 127, 3) := by decide +kernel
theorem dX9_erase_17 : decode cX9_erase 17 = .ok (.ireturn, 1) := by decide +kernel
theorem dX9_erase_18 : decode cX9_erase 18 = .ok (.iload_n 2, 1) := by decide +kernel
theorem dX9_erase_19 : decode cX9_erase 19 = .ok (.ifCond .eq 26, 3) := by decide +kernel
theorem dX9_erase_22 : decode cX9_erase 22 = .ok (.aload_n 0, 1) := by decide +kernel
theorem dX9_erase_23 : decode cX9_erase 23 = .ok (.invokevirtual 155, 3) := by decide +kernel
theorem dX9_erase_26 : decode cX9_erase 26 = .ok (.iconst 1, 1) := by decide +kernel
theorem dX9_erase_27 : decode cX9_erase 27 = .ok (.iload_n 1, 1) := by decide +kernel
theorem dX9_erase_28 : decode cX9_erase 28 = .ok (.ishl, 1) := by decide +kernel
theorem dX9_erase_29 : decode cX9_erase 29 = .ok (.iconst (-1), 1) := by decide +kernel
theorem dX9_erase_30 : decode cX9_erase 30 = .ok (.ixor, 1) := by decide +kernel
theorem dX9_erase_31 : decode cX9_erase 31 = .ok (.iand, 1) := by decide +kernel
theorem dX9_erase_32 : decode cX9_erase 32 = .ok (.invokestatic 102, 3) := by decide +kernel
theorem dX9_erase_35 : decode cX9_erase 35 = .ok (.iconst 4, 1) := by decide +kernel
theorem dX9_erase_36 : decode cX9_erase 36 = .ok (.if_icmp .ne 9, 3) := by decide +kernel
theorem dX9_erase_39 : decode cX9_erase 39 = .ok (.aload_n 0, 1) := by decide +kernel
theorem dX9_erase_40 : decode cX9_erase 40 = .ok (.iconst 2, 1) := by decide +kernel
theorem dX9_erase_41 : decode cX9_erase 41 = .ok (.invokevirtual 127, 3) := by decide +kernel
theorem dX9_erase_44 : decode cX9_erase 44 = .ok (.ireturn, 1) := by decide +kernel
theorem dX9_erase_45 : decode cX9_erase 45 = .ok (.aload_n 0, 1) := by decide +kernel
theorem dX9_erase_46 : decode cX9_erase 46 = .ok (.getfield 27, 3) := by decide +kernel
theorem dX9_erase_49 : decode cX9_erase 49 = .ok (.aload_n 0, 1) := by decide +kernel
theorem dX9_erase_50 : decode cX9_erase 50 = .ok (.getfield 31, 3) := by decide +kernel
theorem dX9_erase_53 : decode cX9_erase 53 = .ok (.iload_n 1, 1) := by decide +kernel
theorem dX9_erase_54 : decode cX9_erase 54 = .ok (.iaload, 1) := by decide +kernel
theorem dX9_erase_55 : decode cX9_erase 55 = .ok (.aaload, 1) := by decide +kernel
theorem dX9_erase_56 : decode cX9_erase 56 = .ok (.iload_n 2, 1) := by decide +kernel
theorem dX9_erase_57 : decode cX9_erase 57 = .ok (.putfield 119, 3) := by decide +kernel
theorem dX9_erase_60 : decode cX9_erase 60 = .ok (.aload_n 0, 1) := by decide +kernel
theorem dX9_erase_61 : decode cX9_erase 61 = .ok (.invokevirtual 155, 3) := by decide +kernel
theorem dX9_erase_64 : decode cX9_erase 64 = .ok (.invokestatic 102, 3) := by decide +kernel
theorem dX9_erase_67 : decode cX9_erase 67 = .ok (.ireturn, 1) := by decide +kernel
theorem dX9_spares_0 : decode cX9_spares 0 = .ok (.iconst 0, 1) := by decide +kernel
theorem dX9_spares_1 : decode cX9_spares 1 = .ok (.istore_n 1, 1) := by decide +kernel
theorem dX9_spares_2 : decode cX9_spares 2 = .ok (.aload_n 0, 1) := by decide +kernel
theorem dX9_spares_3 : decode cX9_spares 3 = .ok (.getfield 27, 3) := by decide +kernel
theorem dX9_spares_6 : decode cX9_spares 6 = .ok (.astore_n 2, 1) := by decide +kernel
theorem dX9_spares_7 : decode cX9_spares 7 = .ok (.aload_n 2, 1) := by decide +kernel
theorem dX9_spares_8 : decode cX9_spares 8 = .ok (.arraylength, 1) := by decide +kernel
theorem dX9_spares_9 : decode cX9_spares 9 = .ok (.istore_n 3, 1) := by decide +kernel
theorem dX9_spares_10 : decode cX9_spares 10 = .ok (.iconst 0, 1) := by decide +kernel
theorem dX9_spares_11 : decode cX9_spares 11 = .ok (.istore 4, 2) := by decide +kernel
theorem dX9_spares_13 : decode cX9_spares 13 = .ok (.iload 4, 2) := by decide +kernel
theorem dX9_spares_15 : decode cX9_spares 15 = .ok (.iload_n 3, 1) := by decide +kernel
theorem dX9_spares_16 : decode cX9_spares 16 = .ok (.if_icmp .ge 40, 3) := by decide +kernel
theorem dX9_spares_19 : decode cX9_spares 19 = .ok (.aload_n 2, 1) := by decide +kernel
theorem dX9_spares_20 : decode cX9_spares 20 = .ok (.iload 4, 2) := by decide +kernel
theorem dX9_spares_22 : decode cX9_spares 22 = .ok (.aaload, 1) := by decide +kernel
theorem dX9_spares_23 : decode cX9_spares 23 = .ok (.astore 5, 2) := by decide +kernel
theorem dX9_spares_25 : decode cX9_spares 25 = .ok (.iload_n 1, 1) := by decide +kernel
theorem dX9_spares_26 : decode cX9_spares 26 = .ok (.aload 5, 2) := by decide +kernel
theorem dX9_spares_28 : decode cX9_spares 28 = .ok (.getfield 59, 3) := by decide +kernel
theorem dX9_spares_31 : decode cX9_spares 31 = .ok (.iconst (-1), 1) := by decide +kernel
theorem dX9_spares_32 : decode cX9_spares 32 = .ok (.if_icmp .ne 15, 3) := by decide +kernel
theorem dX9_spares_35 : decode cX9_spares 35 = .ok (.aload 5, 2) := by decide +kernel
theorem dX9_spares_37 : decode cX9_spares 37 = .ok (.getfield 159, 3) := by decide +kernel
theorem dX9_spares_40 : decode cX9_spares 40 = .ok (.ifCond .ne 7, 3) := by decide +kernel
theorem dX9_spares_43 : decode cX9_spares 43 = .ok (.iconst 1, 1) := by decide +kernel
theorem dX9_spares_44 : decode cX9_spares 44 = .ok (.goto 4, 3) := by decide +kernel
theorem dX9_spares_47 : decode cX9_spares 47 = .ok (.iconst 0, 1) := by decide +kernel
theorem dX9_spares_48 : decode cX9_spares 48 = .ok (.iadd, 1) := by decide +kernel
theorem dX9_spares_49 : decode cX9_spares 49 = .ok (.istore_n 1, 1) := by decide +kernel
theorem dX9_spares_50 : decode cX9_spares 50 = .ok (.iinc 4 1, 3) := by decide +kernel
theorem dX9_spares_53 : decode cX9_spares 53 = .ok (.goto (-40), 3) := by decide +kernel
theorem dX9_spares_56 : decode cX9_spares 56 = .ok (.iload_n 1, 1) := by decide +kernel
theorem dX9_spares_57 : decode cX9_spares 57 = .ok (.ireturn, 1) := by decide +kernel
theorem dX9_replace_0 : decode cX9_replace 0 = .ok (.aload_n 0, 1) := by decide +kernel
theorem dX9_replace_1 : decode cX9_replace 1 = .ok (.iconst 0, 1) := by decide +kernel
theorem dX9_replace_2 : decode cX9_replace 2 = .ok (.putfield 69, 3) := by decide +kernel
theorem dX9_replace_5 : decode cX9_replace 5 = .ok (.iload_n 1, 1) := by decide +kernel
theorem dX9_replace_6 : decode cX9_replace 6 = .ok (.invokestatic 152, 3) := by decide +kernel
theorem dX9_replace_9 : decode cX9_replace 9 = .ok (.ifCond .ne 9, 3) := by decide +kernel
theorem dX9_replace_12 : decode cX9_replace 12 = .ok (.aload_n 0, 1) := by decide +kernel
theorem dX9_replace_13 : decode cX9_replace 13 = .ok (.iconst 1, 1) := by decide +kernel
theorem dX9_replace_14 : decode cX9_replace 14 = .ok (.invokevirtual 127, 3) := by decide +kernel
theorem dX9_replace_17 : decode cX9_replace 17 = .ok (.ireturn, 1) := by decide +kernel
theorem dX9_replace_18 : decode cX9_replace 18 = .ok (.aload_n 0, 1) := by decide +kernel
theorem dX9_replace_19 : decode cX9_replace 19 = .ok (.invokevirtual 162, 3) := by decide +kernel
theorem dX9_replace_22 : decode cX9_replace 22 = .ok (.ifCond .ne 9, 3) := by decide +kernel
theorem dX9_replace_25 : decode cX9_replace 25 = .ok (.aload_n 0, 1) := by decide +kernel
theorem dX9_replace_26 : decode cX9_replace 26 = .ok (.iconst 2, 1) := by decide +kernel
theorem dX9_replace_27 : decode cX9_replace 27 = .ok (.invokevirtual 127, 3) := by decide +kernel
theorem dX9_replace_30 : decode cX9_replace 30 = .ok (.ireturn, 1) := by decide +kernel
theorem dX9_replace_31 : decode cX9_replace 31 = .ok (.bipush 15, 2) := by decide +kernel
theorem dX9_replace_33 : decode cX9_replace 33 = .ok (.istore_n 2, 1) := by decide +kernel
theorem dX9_replace_34 : decode cX9_replace 34 = .ok (.aload_n 0, 1) := by decide +kernel
theorem dX9_replace_35 : decode cX9_replace 35 = .ok (.getfield 27, 3) := by decide +kernel
theorem dX9_replace_38 : decode cX9_replace 38 = .ok (.iload_n 2, 1) := by decide +kernel
theorem dX9_replace_39 : decode cX9_replace 39 = .ok (.aaload, 1) := by decide +kernel
theorem dX9_replace_40 : decode cX9_replace 40 = .ok (.getfield 59, 3) := by decide +kernel
theorem dX9_replace_43 : decode cX9_replace 43 = .ok (.iconst (-1), 1) := by decide +kernel
theorem dX9_replace_44 : decode cX9_replace 44 = .ok (.if_icmp .ne 15, 3) := by decide +kernel
theorem dX9_replace_47 : decode cX9_replace 47 = .ok (.aload_n 0, 1) := by decide +kernel
theorem dX9_replace_48 : decode cX9_replace 48 = .ok (.getfield 27, 3) := by decide +kernel
theorem dX9_replace_51 : decode cX9_replace 51 = .ok (.iload_n 2, 1) := by decide +kernel
theorem dX9_replace_52 : decode cX9_replace 52 = .ok (.aaload, 1) := by decide +kernel
theorem dX9_replace_53 : decode cX9_replace 53 = .ok (.getfield 159, 3) := by decide +kernel
theorem dX9_replace_56 : decode cX9_replace 56 = .ok (.ifCond .eq 9, 3) := by decide +kernel
theorem dX9_replace_59 : decode cX9_replace 59 = .ok (.iinc 2 1, 3) := by decide +kernel
theorem dX9_replace_62 : decode cX9_replace 62 = .ok (.goto (-28), 3) := by decide +kernel
theorem dX9_replace_65 : decode cX9_replace 65 = .ok (.aload_n 0, 1) := by decide +kernel
theorem dX9_replace_66 : decode cX9_replace 66 = .ok (.invokevirtual 155, 3) := by decide +kernel
theorem dX9_replace_69 : decode cX9_replace 69 = .ok (.istore_n 3, 1) := by decide +kernel
theorem dX9_replace_70 : decode cX9_replace 70 = .ok (.iload_n 3, 1) := by decide +kernel
theorem dX9_replace_71 : decode cX9_replace 71 = .ok (.iconst 1, 1) := by decide +kernel
theorem dX9_replace_72 : decode cX9_replace 72 = .ok (.iload_n 1, 1) := by decide +kernel
theorem dX9_replace_73 : decode cX9_replace 73 = .ok (.ishl, 1) := by decide +kernel
theorem dX9_replace_74 : decode cX9_replace 74 = .ok (.ior, 1) := by decide +kernel
theorem dX9_replace_75 : decode cX9_replace 75 = .ok (.invokestatic 102, 3) := by decide +kernel
theorem dX9_replace_78 : decode cX9_replace 78 = .ok (.iconst 4, 1) := by decide +kernel
theorem dX9_replace_79 : decode cX9_replace 79 = .ok (.if_icmp .gt 9, 3) := by decide +kernel
theorem dX9_replace_82 : decode cX9_replace 82 = .ok (.iload_n 3, 1) := by decide +kernel
theorem dX9_replace_83 : decode cX9_replace 83 = .ok (.iconst 1, 1) := by decide +kernel
theorem dX9_replace_84 : decode cX9_replace 84 = .ok (.iload_n 1, 1) := by decide +kernel
theorem dX9_replace_85 : decode cX9_replace 85 = .ok (.ishl, 1) := by decide +kernel
theorem dX9_replace_86 : decode cX9_replace 86 = .ok (.ior, 1) := by decide +kernel
theorem dX9_replace_87 : decode cX9_replace 87 = .ok (.istore_n 3, 1) := by decide +kernel
theorem dX9_replace_88 : decode cX9_replace 88 = .ok (.iconst 0, 1) := by decide +kernel
theorem dX9_replace_89 : decode cX9_replace 89 = .ok (.istore 4, 2) := by decide +kernel
theorem dX9_replace_91 : decode cX9_replace 91 = .ok (.iload 4, 2) := by decide +kernel
theorem dX9_replace_93 : decode cX9_replace 93 = .ok (.bipush 16, 2) := by decide +kernel
theorem dX9_replace_95 : decode cX9_replace 95 = .ok (.if_icmp .ge 52, 3) := by decide +kernel
theorem dX9_replace_98 : decode cX9_replace 98 = .ok (.aload_n 0, 1) := by decide +kernel
theorem dX9_replace_99 : decode cX9_replace 99 = .ok (.iload 4, 2) := by decide +kernel
theorem dX9_replace_101 : decode cX9_replace 101 = .ok (.invokevirtual 134, 3) := by decide +kernel
theorem dX9_replace_104 : decode cX9_replace 104 = .ok (.astore 5, 2) := by decide +kernel
theorem dX9_replace_106 : decode cX9_replace 106 = .ok (.aload_n 0, 1) := by decide +kernel
theorem dX9_replace_107 : decode cX9_replace 107 = .ok (.getfield 16, 3) := by decide +kernel
theorem dX9_replace_110 : decode cX9_replace 110 = .ok (.iload_n 2, 1) := by decide +kernel
theorem dX9_replace_111 : decode cX9_replace 111 = .ok (.bipush 16, 2) := by decide +kernel
theorem dX9_replace_113 : decode cX9_replace 113 = .ok (.imul, 1) := by decide +kernel
theorem dX9_replace_114 : decode cX9_replace 114 = .ok (.iload 4, 2) := by decide +kernel
theorem dX9_replace_116 : decode cX9_replace 116 = .ok (.iadd, 1) := by decide +kernel
theorem dX9_replace_117 : decode cX9_replace 117 = .ok (.aload_n 0, 1) := by decide +kernel
theorem dX9_replace_118 : decode cX9_replace 118 = .ok (.aload 5, 2) := by decide +kernel
theorem dX9_replace_120 : decode cX9_replace 120 = .ok (.iload_n 3, 1) := by decide +kernel
theorem dX9_replace_121 : decode cX9_replace 121 = .ok (.invokevirtual 165, 3) := by decide +kernel
theorem dX9_replace_124 : decode cX9_replace 124 = .ok (.ifCond .eq 12, 3) := by decide +kernel
theorem dX9_replace_127 : decode cX9_replace 127 = .ok (.aload_n 0, 1) := by decide +kernel
theorem dX9_replace_128 : decode cX9_replace 128 = .ok (.getfield 45, 3) := by decide +kernel
theorem dX9_replace_131 : decode cX9_replace 131 = .ok (.iload_n 1, 1) := by decide +kernel
theorem dX9_replace_132 : decode cX9_replace 132 = .ok (.iaload, 1) := by decide +kernel
theorem dX9_replace_133 : decode cX9_replace 133 = .ok (.goto 7, 3) := by decide +kernel
theorem dX9_replace_136 : decode cX9_replace 136 = .ok (.aload 5, 2) := by decide +kernel
theorem dX9_replace_138 : decode cX9_replace 138 = .ok (.iload_n 1, 1) := by decide +kernel
theorem dX9_replace_139 : decode cX9_replace 139 = .ok (.iaload, 1) := by decide +kernel
theorem dX9_replace_140 : decode cX9_replace 140 = .ok (.iastore, 1) := by decide +kernel
theorem dX9_replace_141 : decode cX9_replace 141 = .ok (.iinc 4 1, 3) := by decide +kernel
theorem dX9_replace_144 : decode cX9_replace 144 = .ok (.goto (-53), 3) := by decide +kernel
theorem dX9_replace_147 : decode cX9_replace 147 = .ok (.aload_n 0, 1) := by decide +kernel
theorem dX9_replace_148 : decode cX9_replace 148 = .ok (.getfield 31, 3) := by decide +kernel
theorem dX9_replace_151 : decode cX9_replace 151 = .ok (.iload_n 1, 1) := by decide +kernel
theorem dX9_replace_152 : decode cX9_replace 152 = .ok (.iaload, 1) := by decide +kernel
theorem dX9_replace_153 : decode cX9_replace 153 = .ok (.istore 4, 2) := by decide +kernel
theorem dX9_replace_155 : decode cX9_replace 155 = .ok (.aload_n 0, 1) := by decide +kernel
theorem dX9_replace_156 : decode cX9_replace 156 = .ok (.getfield 27, 3) := by decide +kernel
theorem dX9_replace_159 : decode cX9_replace 159 = .ok (.iload 4, 2) := by decide +kernel
theorem dX9_replace_161 : decode cX9_replace 161 = .ok (.aaload, 1) := by decide +kernel
theorem dX9_replace_162 : decode cX9_replace 162 = .ok (.iconst (-1), 1) := by decide +kernel
theorem dX9_replace_163 : decode cX9_replace 163 = .ok (.putfield 59, 3) := by decide +kernel
theorem dX9_replace_166 : decode cX9_replace 166 = .ok (.aload_n 0, 1) := by decide +kernel
theorem dX9_replace_167 : decode cX9_replace 167 = .ok (.getfield 27, 3) := by decide +kernel
theorem dX9_replace_170 : decode cX9_replace 170 = .ok (.iload 4, 2) := by decide +kernel
theorem dX9_replace_172 : decode cX9_replace 172 = .ok (.aaload, 1) := by decide +kernel
theorem dX9_replace_173 : decode cX9_replace 173 = .ok (.iconst 1, 1) := by decide +kernel
theorem dX9_replace_174 : decode cX9_replace 174 = .ok (.putfield 159, 3) := by decide +kernel
theorem dX9_replace_177 : decode cX9_replace 177 = .ok (.aload_n 0, 1) := by decide +kernel
theorem dX9_replace_178 : decode cX9_replace 178 = .ok (.getfield 27, 3) := by decide +kernel
theorem dX9_replace_181 : decode cX9_replace 181 = .ok (.iload_n 2, 1) := by decide +kernel
theorem dX9_replace_182 : decode cX9_replace 182 = .ok (.aaload, 1) := by decide +kernel
theorem dX9_replace_183 : decode cX9_replace 183 = .ok (.iload_n 1, 1) := by decide +kernel
theorem dX9_replace_184 : decode cX9_replace 184 = .ok (.putfield 59, 3) := by decide +kernel
theorem dX9_replace_187 : decode cX9_replace 187 = .ok (.aload_n 0, 1) := by decide +kernel
theorem dX9_replace_188 : decode cX9_replace 188 = .ok (.getfield 27, 3) := by decide +kernel
theorem dX9_replace_191 : decode cX9_replace 191 = .ok (.iload_n 2, 1) := by decide +kernel
theorem dX9_replace_192 : decode cX9_replace 192 = .ok (.aaload, 1) := by decide +kernel
theorem dX9_replace_193 : decode cX9_replace 193 = .ok (.iconst 0, 1) := by decide +kernel
theorem dX9_replace_194 : decode cX9_replace 194 = .ok (.putfield 119, 3) := by decide +kernel
theorem dX9_replace_197 : decode cX9_replace 197 = .ok (.aload_n 0, 1) := by decide +kernel
theorem dX9_replace_198 : decode cX9_replace 198 = .ok (.getfield 27, 3) := by decide +kernel
theorem dX9_replace_201 : decode cX9_replace 201 = .ok (.iload_n 2, 1) := by decide +kernel
theorem dX9_replace_202 : decode cX9_replace 202 = .ok (.aaload, 1) := by decide +kernel
theorem dX9_replace_203 : decode cX9_replace 203 = .ok (.iconst 0, 1) := by decide +kernel
theorem dX9_replace_204 : decode cX9_replace 204 = .ok (.putfield 168, 3) := by decide +kernel
theorem dX9_replace_207 : decode cX9_replace 207 = .ok (.aload_n 0, 1) := by decide +kernel
theorem dX9_replace_208 : decode cX9_replace 208 = .ok (.getfield 31, 3) := by decide +kernel
theorem dX9_replace_211 : decode cX9_replace 211 = .ok (.iload_n 1, 1) := by decide +kernel
theorem dX9_replace_212 : decode cX9_replace 212 = .ok (.iload_n 2, 1) := by decide +kernel
theorem dX9_replace_213 : decode cX9_replace 213 = .ok (.iastore, 1) := by decide +kernel
theorem dX9_replace_214 : decode cX9_replace 214 = .ok (.iload_n 2, 1) := by decide +kernel
theorem dX9_replace_215 : decode cX9_replace 215 = .ok (.ireturn, 1) := by decide +kernel
theorem dX9_limit_0 : decode cX9_limit 0 = .ok (.aload_n 0, 1) := by decide +kernel
theorem dX9_limit_1 : decode cX9_limit 1 = .ok (.iconst 0, 1) := by decide +kernel
theorem dX9_limit_2 : decode cX9_limit 2 = .ok (.putfield 69, 3) := by decide +kernel
theorem dX9_limit_5 : decode cX9_limit 5 = .ok (.iload_n 1, 1) := by decide +kernel
theorem dX9_limit_6 : decode cX9_limit 6 = .ok (.iconst 1, 1) := by decide +kernel
theorem dX9_limit_7 : decode cX9_limit 7 = .ok (.bipush 99, 2) := by decide +kernel
theorem dX9_limit_9 : decode cX9_limit 9 = .ok (.invokestatic 72, 3) := by decide +kernel
theorem dX9_limit_12 : decode cX9_limit 12 = .ok (.ifCond .ne 9, 3) := by decide +kernel
theorem dX9_limit_15 : decode cX9_limit 15 = .ok (.aload_n 0, 1) := by decide +kernel
theorem dX9_limit_16 : decode cX9_limit 16 = .ok (.iconst 1, 1) := by decide +kernel
theorem dX9_limit_17 : decode cX9_limit 17 = .ok (.invokevirtual 127, 3) := by decide +kernel
theorem dX9_limit_20 : decode cX9_limit 20 = .ok (.ireturn, 1) := by decide +kernel
theorem dX9_limit_21 : decode cX9_limit 21 = .ok (.aload_n 0, 1) := by decide +kernel
theorem dX9_limit_22 : decode cX9_limit 22 = .ok (.getfield 41, 3) := by decide +kernel
theorem dX9_limit_25 : decode cX9_limit 25 = .ok (.istore_n 2, 1) := by decide +kernel
theorem dX9_limit_26 : decode cX9_limit 26 = .ok (.aload_n 0, 1) := by decide +kernel
theorem dX9_limit_27 : decode cX9_limit 27 = .ok (.iload_n 1, 1) := by decide +kernel
theorem dX9_limit_28 : decode cX9_limit 28 = .ok (.putfield 41, 3) := by decide +kernel
theorem dX9_limit_31 : decode cX9_limit 31 = .ok (.iload_n 2, 1) := by decide +kernel
theorem dX9_limit_32 : decode cX9_limit 32 = .ok (.ireturn, 1) := by decide +kernel
theorem dX9_fetchNow_0 : decode cX9_fetchNow 0 = .ok (.aload_n 0, 1) := by decide +kernel
theorem dX9_fetchNow_1 : decode cX9_fetchNow 1 = .ok (.dup, 1) := by decide +kernel
theorem dX9_fetchNow_2 : decode cX9_fetchNow 2 = .ok (.getfield 171, 3) := by decide +kernel
theorem dX9_fetchNow_5 : decode cX9_fetchNow 5 = .ok (.iconst 1, 1) := by decide +kernel
theorem dX9_fetchNow_6 : decode cX9_fetchNow 6 = .ok (.iadd, 1) := by decide +kernel
theorem dX9_fetchNow_7 : decode cX9_fetchNow 7 = .ok (.putfield 171, 3) := by decide +kernel
theorem dX9_fetchNow_10 : decode cX9_fetchNow 10 = .ok (.aload_n 0, 1) := by decide +kernel
theorem dX9_fetchNow_11 : decode cX9_fetchNow 11 = .ok (.iload_n 1, 1) := by decide +kernel
theorem dX9_fetchNow_12 : decode cX9_fetchNow 12 = .ok (.invokevirtual 134, 3) := by decide +kernel
theorem dX9_fetchNow_15 : decode cX9_fetchNow 15 = .ok (.astore_n 2, 1) := by decide +kernel
theorem dX9_fetchNow_16 : decode cX9_fetchNow 16 = .ok (.aload_n 0, 1) := by decide +kernel
theorem dX9_fetchNow_17 : decode cX9_fetchNow 17 = .ok (.invokevirtual 155, 3) := by decide +kernel
theorem dX9_fetchNow_20 : decode cX9_fetchNow 20 = .ok (.istore_n 3, 1) := by decide +kernel
theorem dX9_fetchNow_21 : decode cX9_fetchNow 21 = .ok (.iconst (-1), 1) := by decide +kernel
theorem dX9_fetchNow_22 : decode cX9_fetchNow 22 = .ok (.istore 4, 2) := by decide +kernel
theorem dX9_fetchNow_24 : decode cX9_fetchNow 24 = .ok (.aload_n 0, 1) := by decide +kernel
theorem dX9_fetchNow_25 : decode cX9_fetchNow 25 = .ok (.aload_n 2, 1) := by decide +kernel
theorem dX9_fetchNow_26 : decode cX9_fetchNow 26 = .ok (.iload_n 3, 1) := by decide +kernel
theorem dX9_fetchNow_27 : decode cX9_fetchNow 27 = .ok (.invokevirtual 165, 3) := by decide +kernel
theorem dX9_fetchNow_30 : decode cX9_fetchNow 30 = .ok (.ifCond .eq 100, 3) := by decide +kernel
theorem dX9_fetchNow_33 : decode cX9_fetchNow 33 = .ok (.aload_n 0, 1) := by decide +kernel
theorem dX9_fetchNow_34 : decode cX9_fetchNow 34 = .ok (.aload_n 2, 1) := by decide +kernel
theorem dX9_fetchNow_35 : decode cX9_fetchNow 35 = .ok (.invokevirtual 174, 3) := by decide +kernel
theorem dX9_fetchNow_38 : decode cX9_fetchNow 38 = .ok (.istore 5, 2) := by decide +kernel
theorem dX9_fetchNow_40 : decode cX9_fetchNow 40 = .ok (.iconst 0, 1) := by decide +kernel
theorem dX9_fetchNow_41 : decode cX9_fetchNow 41 = .ok (.istore 6, 2) := by decide +kernel
theorem dX9_fetchNow_43 : decode cX9_fetchNow 43 = .ok (.iload 6, 2) := by decide +kernel
theorem dX9_fetchNow_45 : decode cX9_fetchNow 45 = .ok (.bipush 15, 2) := by decide +kernel
theorem dX9_fetchNow_47 : decode cX9_fetchNow 47 = .ok (.if_icmp .ge 48, 3) := by decide +kernel
theorem dX9_fetchNow_50 : decode cX9_fetchNow 50 = .ok (.aload_n 0, 1) := by decide +kernel
theorem dX9_fetchNow_51 : decode cX9_fetchNow 51 = .ok (.getfield 27, 3) := by decide +kernel
theorem dX9_fetchNow_54 : decode cX9_fetchNow 54 = .ok (.aload_n 0, 1) := by decide +kernel
theorem dX9_fetchNow_55 : decode cX9_fetchNow 55 = .ok (.getfield 31, 3) := by decide +kernel
theorem dX9_fetchNow_58 : decode cX9_fetchNow 58 = .ok (.iload 6, 2) := by decide +kernel
theorem dX9_fetchNow_60 : decode cX9_fetchNow 60 = .ok (.iaload, 1) := by decide +kernel
theorem dX9_fetchNow_61 : decode cX9_fetchNow 61 = .ok (.aaload, 1) := by decide +kernel
theorem dX9_fetchNow_62 : decode cX9_fetchNow 62 = .ok (.dup, 1) := by decide +kernel
theorem dX9_fetchNow_63 : decode cX9_fetchNow 63 = .ok (.getfield 168, 3) := by decide +kernel
theorem dX9_fetchNow_66 : decode cX9_fetchNow 66 = .ok (.iload 5, 2) := by decide +kernel
theorem dX9_fetchNow_68 : decode cX9_fetchNow 68 = .ok (.iload_n 3, 1) := by decide +kernel
theorem dX9_fetchNow_69 : decode cX9_fetchNow 69 = .ok (.iconst (-1), 1) := by decide +kernel
theorem dX9_fetchNow_70 : decode cX9_fetchNow 70 = .ok (.ixor, 1) := by decide +kernel
theorem dX9_fetchNow_71 : decode cX9_fetchNow 71 = .ok (.iand, 1) := by decide +kernel
theorem dX9_fetchNow_72 : decode cX9_fetchNow 72 = .ok (.iload 6, 2) := by decide +kernel
theorem dX9_fetchNow_74 : decode cX9_fetchNow 74 = .ok (.invokestatic 85, 3) := by decide +kernel
theorem dX9_fetchNow_77 : decode cX9_fetchNow 77 = .ok (.ifCond .eq 7, 3) := by decide +kernel
theorem dX9_fetchNow_80 : decode cX9_fetchNow 80 = .ok (.iconst 1, 1) := by decide +kernel
theorem dX9_fetchNow_81 : decode cX9_fetchNow 81 = .ok (.goto 4, 3) := by decide +kernel
theorem dX9_fetchNow_84 : decode cX9_fetchNow 84 = .ok (.iconst 0, 1) := by decide +kernel
theorem dX9_fetchNow_85 : decode cX9_fetchNow 85 = .ok (.iadd, 1) := by decide +kernel
theorem dX9_fetchNow_86 : decode cX9_fetchNow 86 = .ok (.putfield 168, 3) := by decide +kernel
theorem dX9_fetchNow_89 : decode cX9_fetchNow 89 = .ok (.iinc 6 1, 3) := by decide +kernel
theorem dX9_fetchNow_92 : decode cX9_fetchNow 92 = .ok (.goto (-49), 3) := by decide +kernel
theorem dX9_fetchNow_95 : decode cX9_fetchNow 95 = .ok (.iload 5, 2) := by decide +kernel
theorem dX9_fetchNow_97 : decode cX9_fetchNow 97 = .ok (.ifCond .eq 12, 3) := by decide +kernel
theorem dX9_fetchNow_100 : decode cX9_fetchNow 100 = .ok (.aload_n 0, 1) := by decide +kernel
theorem dX9_fetchNow_101 : decode cX9_fetchNow 101 = .ok (.iload_n 1, 1) := by decide +kernel
theorem dX9_fetchNow_102 : decode cX9_fetchNow 102 = .ok (.aload_n 0, 1) := by decide +kernel
theorem dX9_fetchNow_103 : decode cX9_fetchNow 103 = .ok (.getfield 45, 3) := by decide +kernel
theorem dX9_fetchNow_106 : decode cX9_fetchNow 106 = .ok (.invokevirtual 142, 3) := by decide +kernel
theorem dX9_fetchNow_109 : decode cX9_fetchNow 109 = .ok (.iload 5, 2) := by decide +kernel
theorem dX9_fetchNow_111 : decode cX9_fetchNow 111 = .ok (.invokestatic 102, 3) := by decide +kernel
theorem dX9_fetchNow_114 : decode cX9_fetchNow 114 = .ok (.istore 4, 2) := by decide +kernel
theorem dX9_fetchNow_116 : decode cX9_fetchNow 116 = .ok (.aload_n 0, 1) := by decide +kernel
theorem dX9_fetchNow_117 : decode cX9_fetchNow 117 = .ok (.dup, 1) := by decide +kernel
theorem dX9_fetchNow_118 : decode cX9_fetchNow 118 = .ok (.getfield 178, 3) := by decide +kernel
theorem dX9_fetchNow_121 : decode cX9_fetchNow 121 = .ok (.iload 4, 2) := by decide +kernel
theorem dX9_fetchNow_123 : decode cX9_fetchNow 123 = .ok (.iadd, 1) := by decide +kernel
theorem dX9_fetchNow_124 : decode cX9_fetchNow 124 = .ok (.putfield 178, 3) := by decide +kernel
theorem dX9_fetchNow_127 : decode cX9_fetchNow 127 = .ok (.goto 13, 3) := by decide +kernel
theorem dX9_fetchNow_130 : decode cX9_fetchNow 130 = .ok (.aload_n 0, 1) := by decide +kernel
theorem dX9_fetchNow_131 : decode cX9_fetchNow 131 = .ok (.dup, 1) := by decide +kernel
theorem dX9_fetchNow_132 : decode cX9_fetchNow 132 = .ok (.getfield 181, 3) := by decide +kernel
theorem dX9_fetchNow_135 : decode cX9_fetchNow 135 = .ok (.iconst 1, 1) := by decide +kernel
theorem dX9_fetchNow_136 : decode cX9_fetchNow 136 = .ok (.iadd, 1) := by decide +kernel
theorem dX9_fetchNow_137 : decode cX9_fetchNow 137 = .ok (.putfield 181, 3) := by decide +kernel
theorem dX9_fetchNow_140 : decode cX9_fetchNow 140 = .ok (.iconst 0, 1) := by decide +kernel
theorem dX9_fetchNow_141 : decode cX9_fetchNow 141 = .ok (.istore 5, 2) := by decide +kernel
theorem dX9_fetchNow_143 : decode cX9_fetchNow 143 = .ok (.iload 5, 2) := by decide +kernel
theorem dX9_fetchNow_145 : decode cX9_fetchNow 145 = .ok (.bipush 15, 2) := by decide +kernel
theorem dX9_fetchNow_147 : decode cX9_fetchNow 147 = .ok (.if_icmp .ge 52, 3) := by decide +kernel
theorem dX9_fetchNow_150 : decode cX9_fetchNow 150 = .ok (.aload_n 0, 1) := by decide +kernel
theorem dX9_fetchNow_151 : decode cX9_fetchNow 151 = .ok (.getfield 27, 3) := by decide +kernel
theorem dX9_fetchNow_154 : decode cX9_fetchNow 154 = .ok (.aload_n 0, 1) := by decide +kernel
theorem dX9_fetchNow_155 : decode cX9_fetchNow 155 = .ok (.getfield 31, 3) := by decide +kernel
theorem dX9_fetchNow_158 : decode cX9_fetchNow 158 = .ok (.iload 5, 2) := by decide +kernel
theorem dX9_fetchNow_160 : decode cX9_fetchNow 160 = .ok (.iaload, 1) := by decide +kernel
theorem dX9_fetchNow_161 : decode cX9_fetchNow 161 = .ok (.aaload, 1) := by decide +kernel
theorem dX9_fetchNow_162 : decode cX9_fetchNow 162 = .ok (.astore 6, 2) := by decide +kernel
theorem dX9_fetchNow_164 : decode cX9_fetchNow 164 = .ok (.aload 6, 2) := by decide +kernel
theorem dX9_fetchNow_166 : decode cX9_fetchNow 166 = .ok (.getfield 168, 3) := by decide +kernel
theorem dX9_fetchNow_169 : decode cX9_fetchNow 169 = .ok (.aload_n 0, 1) := by decide +kernel
theorem dX9_fetchNow_170 : decode cX9_fetchNow 170 = .ok (.getfield 41, 3) := by decide +kernel
theorem dX9_fetchNow_173 : decode cX9_fetchNow 173 = .ok (.if_icmp .lt 20, 3) := by decide +kernel
theorem dX9_fetchNow_176 : decode cX9_fetchNow 176 = .ok (.aload_n 0, 1) := by decide +kernel
theorem dX9_fetchNow_177 : decode cX9_fetchNow 177 = .ok (.invokevirtual 155, 3) := by decide +kernel
theorem dX9_fetchNow_180 : decode cX9_fetchNow 180 = .ok (.invokestatic 102, 3) := by decide +kernel
theorem dX9_fetchNow_183 : decode cX9_fetchNow 183 = .ok (.iconst 4, 1) := by decide +kernel
theorem dX9_fetchNow_184 : decode cX9_fetchNow 184 = .ok (.if_icmp .ge 9, 3) := by decide +kernel
theorem dX9_fetchNow_187 : decode cX9_fetchNow 187 = .ok (.aload 6, 2) := by decide +kernel
theorem dX9_fetchNow_189 : decode cX9_fetchNow 189 = .ok (.iconst 1, 1) := by decide +kernel
theorem dX9_fetchNow_190 : decode cX9_fetchNow 190 = .ok (.putfield 119, 3) := by decide +kernel
theorem dX9_fetchNow_193 : decode cX9_fetchNow 193 = .ok (.iinc 5 1, 3) := by decide +kernel
theorem dX9_fetchNow_196 : decode cX9_fetchNow 196 = .ok (.goto (-53), 3) := by decide +kernel
theorem dX9_fetchNow_199 : decode cX9_fetchNow 199 = .ok (.iload 4, 2) := by decide +kernel
theorem dX9_fetchNow_201 : decode cX9_fetchNow 201 = .ok (.ireturn, 1) := by decide +kernel
theorem dX9_fetch_0 : decode cX9_fetch 0 = .ok (.aload_n 0, 1) := by decide +kernel
theorem dX9_fetch_1 : decode cX9_fetch 1 = .ok (.iconst 0, 1) := by decide +kernel
theorem dX9_fetch_2 : decode cX9_fetch 2 = .ok (.putfield 69, 3) := by decide +kernel
theorem dX9_fetch_5 : decode cX9_fetch 5 = .ok (.iload_n 1, 1) := by decide +kernel
theorem dX9_fetch_6 : decode cX9_fetch 6 = .ok (.invokestatic 123, 3) := by decide +kernel
theorem dX9_fetch_9 : decode cX9_fetch 9 = .ok (.ifCond .eq 11, 3) := by decide +kernel
theorem dX9_fetch_12 : decode cX9_fetch 12 = .ok (.aload_n 0, 1) := by decide +kernel
theorem dX9_fetch_13 : decode cX9_fetch 13 = .ok (.iload_n 1, 1) := by decide +kernel
theorem dX9_fetch_14 : decode cX9_fetch 14 = .ok (.invokevirtual 184, 3) := by decide +kernel
theorem dX9_fetch_17 : decode cX9_fetch 17 = .ok (.goto 8, 3) := by decide +kernel
theorem dX9_fetch_20 : decode cX9_fetch 20 = .ok (.aload_n 0, 1) := by decide +kernel
theorem dX9_fetch_21 : decode cX9_fetch 21 = .ok (.iconst 1, 1) := by decide +kernel
theorem dX9_fetch_22 : decode cX9_fetch 22 = .ok (.invokevirtual 127, 3) := by decide +kernel
theorem dX9_fetch_25 : decode cX9_fetch 25 = .ok (.ireturn, 1) := by decide +kernel
theorem dX9_patrol_0 : decode cX9_patrol 0 = .ok (.aload_n 0, 1) := by decide +kernel
theorem dX9_patrol_1 : decode cX9_patrol 1 = .ok (.iconst 0, 1) := by decide +kernel
theorem dX9_patrol_2 : decode cX9_patrol 2 = .ok (.putfield 69, 3) := by decide +kernel
theorem dX9_patrol_5 : decode cX9_patrol 5 = .ok (.iload_n 1, 1) := by decide +kernel
theorem dX9_patrol_6 : decode cX9_patrol 6 = .ok (.iconst 1, 1) := by decide +kernel
theorem dX9_patrol_7 : decode cX9_patrol 7 = .ok (.bipush 40, 2) := by decide +kernel
theorem dX9_patrol_9 : decode cX9_patrol 9 = .ok (.invokestatic 72, 3) := by decide +kernel
theorem dX9_patrol_12 : decode cX9_patrol 12 = .ok (.ifCond .ne 9, 3) := by decide +kernel
theorem dX9_patrol_15 : decode cX9_patrol 15 = .ok (.aload_n 0, 1) := by decide +kernel
theorem dX9_patrol_16 : decode cX9_patrol 16 = .ok (.iconst 1, 1) := by decide +kernel
theorem dX9_patrol_17 : decode cX9_patrol 17 = .ok (.invokevirtual 127, 3) := by decide +kernel
theorem dX9_patrol_20 : decode cX9_patrol 20 = .ok (.ireturn, 1) := by decide +kernel
theorem dX9_patrol_21 : decode cX9_patrol 21 = .ok (.iconst 0, 1) := by decide +kernel
theorem dX9_patrol_22 : decode cX9_patrol 22 = .ok (.istore_n 2, 1) := by decide +kernel
theorem dX9_patrol_23 : decode cX9_patrol 23 = .ok (.iconst 0, 1) := by decide +kernel
theorem dX9_patrol_24 : decode cX9_patrol 24 = .ok (.istore_n 3, 1) := by decide +kernel
theorem dX9_patrol_25 : decode cX9_patrol 25 = .ok (.iload_n 3, 1) := by decide +kernel
theorem dX9_patrol_26 : decode cX9_patrol 26 = .ok (.iload_n 1, 1) := by decide +kernel
theorem dX9_patrol_27 : decode cX9_patrol 27 = .ok (.if_icmp .ge 42, 3) := by decide +kernel
theorem dX9_patrol_30 : decode cX9_patrol 30 = .ok (.iload_n 2, 1) := by decide +kernel
theorem dX9_patrol_31 : decode cX9_patrol 31 = .ok (.aload_n 0, 1) := by decide +kernel
theorem dX9_patrol_32 : decode cX9_patrol 32 = .ok (.aload_n 0, 1) := by decide +kernel
theorem dX9_patrol_33 : decode cX9_patrol 33 = .ok (.getfield 187, 3) := by decide +kernel
theorem dX9_patrol_36 : decode cX9_patrol 36 = .ok (.invokevirtual 184, 3) := by decide +kernel
theorem dX9_patrol_39 : decode cX9_patrol 39 = .ok (.iconst (-1), 1) := by decide +kernel
theorem dX9_patrol_40 : decode cX9_patrol 40 = .ok (.if_icmp .ne 7, 3) := by decide +kernel
theorem dX9_patrol_43 : decode cX9_patrol 43 = .ok (.iconst 1, 1) := by decide +kernel
theorem dX9_patrol_44 : decode cX9_patrol 44 = .ok (.goto 4, 3) := by decide +kernel
theorem dX9_patrol_47 : decode cX9_patrol 47 = .ok (.iconst 0, 1) := by decide +kernel
theorem dX9_patrol_48 : decode cX9_patrol 48 = .ok (.iadd, 1) := by decide +kernel
theorem dX9_patrol_49 : decode cX9_patrol 49 = .ok (.istore_n 2, 1) := by decide +kernel
theorem dX9_patrol_50 : decode cX9_patrol 50 = .ok (.aload_n 0, 1) := by decide +kernel
theorem dX9_patrol_51 : decode cX9_patrol 51 = .ok (.aload_n 0, 1) := by decide +kernel
theorem dX9_patrol_52 : decode cX9_patrol 52 = .ok (.getfield 187, 3) := by decide +kernel
theorem dX9_patrol_55 : decode cX9_patrol 55 = .ok (.iconst 1, 1) := by decide +kernel
theorem dX9_patrol_56 : decode cX9_patrol 56 = .ok (.iadd, 1) := by decide +kernel
theorem dX9_patrol_57 : decode cX9_patrol 57 = .ok (.bipush 16, 2) := by decide +kernel
theorem dX9_patrol_59 : decode cX9_patrol 59 = .ok (.irem, 1) := by decide +kernel
theorem dX9_patrol_60 : decode cX9_patrol 60 = .ok (.putfield 187, 3) := by decide +kernel
theorem dX9_patrol_63 : decode cX9_patrol 63 = .ok (.iinc 3 1, 3) := by decide +kernel
theorem dX9_patrol_66 : decode cX9_patrol 66 = .ok (.goto (-41), 3) := by decide +kernel
theorem dX9_patrol_69 : decode cX9_patrol 69 = .ok (.iload_n 2, 1) := by decide +kernel
theorem dX9_patrol_70 : decode cX9_patrol 70 = .ok (.ireturn, 1) := by decide +kernel
theorem dX9_frameOf_0 : decode cX9_frameOf 0 = .ok (.iconst 0, 1) := by decide +kernel
theorem dX9_frameOf_1 : decode cX9_frameOf 1 = .ok (.istore_n 2, 1) := by decide +kernel
theorem dX9_frameOf_2 : decode cX9_frameOf 2 = .ok (.iload_n 2, 1) := by decide +kernel
theorem dX9_frameOf_3 : decode cX9_frameOf 3 = .ok (.iconst 4, 1) := by decide +kernel
theorem dX9_frameOf_4 : decode cX9_frameOf 4 = .ok (.if_icmp .ge 29, 3) := by decide +kernel
theorem dX9_frameOf_7 : decode cX9_frameOf 7 = .ok (.aload_n 0, 1) := by decide +kernel
theorem dX9_frameOf_8 : decode cX9_frameOf 8 = .ok (.getfield 37, 3) := by decide +kernel
theorem dX9_frameOf_11 : decode cX9_frameOf 11 = .ok (.iload_n 2, 1) := by decide +kernel
theorem dX9_frameOf_12 : decode cX9_frameOf 12 = .ok (.invokevirtual 190, 3) := by decide +kernel
theorem dX9_frameOf_15 : decode cX9_frameOf 15 = .ok (.checkcast 62, 3) := by decide +kernel
theorem dX9_frameOf_18 : decode cX9_frameOf 18 = .ok (.getfield 194, 3) := by decide +kernel
theorem dX9_frameOf_21 : decode cX9_frameOf 21 = .ok (.iload_n 1, 1) := by decide +kernel
theorem dX9_frameOf_22 : decode cX9_frameOf 22 = .ok (.if_icmp .ne 5, 3) := by decide +kernel
theorem dX9_frameOf_25 : decode cX9_frameOf 25 = .ok (.iload_n 2, 1) := by decide +kernel
theorem dX9_frameOf_26 : decode cX9_frameOf 26 = .ok (.ireturn, 1) := by decide +kernel
theorem dX9_frameOf_27 : decode cX9_frameOf 27 = .ok (.iinc 2 1, 3) := by decide +kernel
theorem dX9_frameOf_30 : decode cX9_frameOf 30 = .ok (.goto (-28), 3) := by decide +kernel
theorem dX9_frameOf_33 : decode cX9_frameOf 33 = .ok (.iconst (-1), 1) := by decide +kernel
theorem dX9_frameOf_34 : decode cX9_frameOf 34 = .ok (.ireturn, 1) := by decide +kernel
theorem dX9_use_0 : decode cX9_use 0 = .ok (.aload_n 0, 1) := by decide +kernel
theorem dX9_use_1 : decode cX9_use 1 = .ok (.dup, 1) := by decide +kernel
theorem dX9_use_2 : decode cX9_use 2 = .ok (.getfield 197, 3) := by decide +kernel
theorem dX9_use_5 : decode cX9_use 5 = .ok (.iconst 1, 1) := by decide +kernel
theorem dX9_use_6 : decode cX9_use 6 = .ok (.iadd, 1) := by decide +kernel
theorem dX9_use_7 : decode cX9_use 7 = .ok (.putfield 197, 3) := by decide +kernel
theorem dX9_use_10 : decode cX9_use 10 = .ok (.aload_n 1, 1) := by decide +kernel
theorem dX9_use_11 : decode cX9_use 11 = .ok (.aload_n 0, 1) := by decide +kernel
theorem dX9_use_12 : decode cX9_use 12 = .ok (.getfield 197, 3) := by decide +kernel
theorem dX9_use_15 : decode cX9_use 15 = .ok (.putfield 200, 3) := by decide +kernel
theorem dX9_use_18 : decode cX9_use 18 = .ok (.return_, 1) := by decide +kernel
theorem dX9_room_0 : decode cX9_room 0 = .ok (.iconst 0, 1) := by decide +kernel
theorem dX9_room_1 : decode cX9_room 1 = .ok (.istore_n 1, 1) := by decide +kernel
theorem dX9_room_2 : decode cX9_room 2 = .ok (.iconst 1, 1) := by decide +kernel
theorem dX9_room_3 : decode cX9_room 3 = .ok (.istore_n 2, 1) := by decide +kernel
theorem dX9_room_4 : decode cX9_room 4 = .ok (.iload_n 2, 1) := by decide +kernel
theorem dX9_room_5 : decode cX9_room 5 = .ok (.iconst 4, 1) := by decide +kernel
theorem dX9_room_6 : decode cX9_room 6 = .ok (.if_icmp .ge 42, 3) := by decide +kernel
theorem dX9_room_9 : decode cX9_room 9 = .ok (.aload_n 0, 1) := by decide +kernel
theorem dX9_room_10 : decode cX9_room 10 = .ok (.getfield 37, 3) := by decide +kernel
theorem dX9_room_13 : decode cX9_room 13 = .ok (.iload_n 2, 1) := by decide +kernel
theorem dX9_room_14 : decode cX9_room 14 = .ok (.invokevirtual 190, 3) := by decide +kernel
theorem dX9_room_17 : decode cX9_room 17 = .ok (.checkcast 62, 3) := by decide +kernel
theorem dX9_room_20 : decode cX9_room 20 = .ok (.getfield 200, 3) := by decide +kernel
theorem dX9_room_23 : decode cX9_room 23 = .ok (.aload_n 0, 1) := by decide +kernel
theorem dX9_room_24 : decode cX9_room 24 = .ok (.getfield 37, 3) := by decide +kernel
theorem dX9_room_27 : decode cX9_room 27 = .ok (.iload_n 1, 1) := by decide +kernel
theorem dX9_room_28 : decode cX9_room 28 = .ok (.invokevirtual 190, 3) := by decide +kernel
theorem dX9_room_31 : decode cX9_room 31 = .ok (.checkcast 62, 3) := by decide +kernel
theorem dX9_room_34 : decode cX9_room 34 = .ok (.getfield 200, 3) := by decide +kernel
theorem dX9_room_37 : decode cX9_room 37 = .ok (.if_icmp .ge 5, 3) := by decide +kernel
theorem dX9_room_40 : decode cX9_room 40 = .ok (.iload_n 2, 1) := by decide +kernel
theorem dX9_room_41 : decode cX9_room 41 = .ok (.istore_n 1, 1) := by decide +kernel
theorem dX9_room_42 : decode cX9_room 42 = .ok (.iinc 2 1, 3) := by decide +kernel
theorem dX9_room_45 : decode cX9_room 45 = .ok (.goto (-41), 3) := by decide +kernel
theorem dX9_room_48 : decode cX9_room 48 = .ok (.aload_n 0, 1) := by decide +kernel
theorem dX9_room_49 : decode cX9_room 49 = .ok (.getfield 37, 3) := by decide +kernel
theorem dX9_room_52 : decode cX9_room 52 = .ok (.iload_n 1, 1) := by decide +kernel
theorem dX9_room_53 : decode cX9_room 53 = .ok (.invokevirtual 190, 3) := by decide +kernel
theorem dX9_room_56 : decode cX9_room 56 = .ok (.checkcast 62, 3) := by decide +kernel
theorem dX9_room_59 : decode cX9_room 59 = .ok (.astore_n 2, 1) := by decide +kernel
theorem dX9_room_60 : decode cX9_room 60 = .ok (.aload_n 2, 1) := by decide +kernel
theorem dX9_room_61 : decode cX9_room 61 = .ok (.getfield 203, 3) := by decide +kernel
theorem dX9_room_64 : decode cX9_room 64 = .ok (.ifCond .eq 19, 3) := by decide +kernel
theorem dX9_room_67 : decode cX9_room 67 = .ok (.aload_n 0, 1) := by decide +kernel
theorem dX9_room_68 : decode cX9_room 68 = .ok (.aload_n 2, 1) := by decide +kernel
theorem dX9_room_69 : decode cX9_room 69 = .ok (.getfield 194, 3) := by decide +kernel
theorem dX9_room_72 : decode cX9_room 72 = .ok (.aload_n 0, 1) := by decide +kernel
theorem dX9_room_73 : decode cX9_room 73 = .ok (.aload_n 2, 1) := by decide +kernel
theorem dX9_room_74 : decode cX9_room 74 = .ok (.getfield 206, 3) := by decide +kernel
theorem dX9_room_77 : decode cX9_room 77 = .ok (.invokevirtual 138, 3) := by decide +kernel
theorem dX9_room_80 : decode cX9_room 80 = .ok (.invokevirtual 142, 3) := by decide +kernel
theorem dX9_room_83 : decode cX9_room 83 = .ok (.iload_n 1, 1) := by decide +kernel
theorem dX9_room_84 : decode cX9_room 84 = .ok (.ireturn, 1) := by decide +kernel
theorem dX9_keep_0 : decode cX9_keep 0 = .ok (.aload_n 0, 1) := by decide +kernel
theorem dX9_keep_1 : decode cX9_keep 1 = .ok (.invokevirtual 210, 3) := by decide +kernel
theorem dX9_keep_4 : decode cX9_keep 4 = .ok (.istore 5, 2) := by decide +kernel
theorem dX9_keep_6 : decode cX9_keep 6 = .ok (.aload_n 0, 1) := by decide +kernel
theorem dX9_keep_7 : decode cX9_keep 7 = .ok (.getfield 37, 3) := by decide +kernel
theorem dX9_keep_10 : decode cX9_keep 10 = .ok (.iload 5, 2) := by decide +kernel
theorem dX9_keep_12 : decode cX9_keep 12 = .ok (.invokevirtual 190, 3) := by decide +kernel
theorem dX9_keep_15 : decode cX9_keep 15 = .ok (.checkcast 62, 3) := by decide +kernel
theorem dX9_keep_18 : decode cX9_keep 18 = .ok (.astore 6, 2) := by decide +kernel
theorem dX9_keep_20 : decode cX9_keep 20 = .ok (.aload 6, 2) := by decide +kernel
theorem dX9_keep_22 : decode cX9_keep 22 = .ok (.iload_n 1, 1) := by decide +kernel
theorem dX9_keep_23 : decode cX9_keep 23 = .ok (.putfield 194, 3) := by decide +kernel
theorem dX9_keep_26 : decode cX9_keep 26 = .ok (.aload 6, 2) := by decide +kernel
theorem dX9_keep_28 : decode cX9_keep 28 = .ok (.lload_n 2, 1) := by decide +kernel
theorem dX9_keep_29 : decode cX9_keep 29 = .ok (.putfield 206, 3) := by decide +kernel
theorem dX9_keep_32 : decode cX9_keep 32 = .ok (.aload 6, 2) := by decide +kernel
theorem dX9_keep_34 : decode cX9_keep 34 = .ok (.iload 4, 2) := by decide +kernel
theorem dX9_keep_36 : decode cX9_keep 36 = .ok (.putfield 203, 3) := by decide +kernel
theorem dX9_keep_39 : decode cX9_keep 39 = .ok (.aload_n 0, 1) := by decide +kernel
theorem dX9_keep_40 : decode cX9_keep 40 = .ok (.aload 6, 2) := by decide +kernel
theorem dX9_keep_42 : decode cX9_keep 42 = .ok (.invokevirtual 213, 3) := by decide +kernel
theorem dX9_keep_45 : decode cX9_keep 45 = .ok (.iload 5, 2) := by decide +kernel
theorem dX9_keep_47 : decode cX9_keep 47 = .ok (.ireturn, 1) := by decide +kernel
theorem dX9_load_0 : decode cX9_load 0 = .ok (.aload_n 0, 1) := by decide +kernel
theorem dX9_load_1 : decode cX9_load 1 = .ok (.iconst 0, 1) := by decide +kernel
theorem dX9_load_2 : decode cX9_load 2 = .ok (.putfield 69, 3) := by decide +kernel
theorem dX9_load_5 : decode cX9_load 5 = .ok (.iload_n 1, 1) := by decide +kernel
theorem dX9_load_6 : decode cX9_load 6 = .ok (.invokestatic 123, 3) := by decide +kernel
theorem dX9_load_9 : decode cX9_load 9 = .ok (.ifCond .ne 10, 3) := by decide +kernel
theorem dX9_load_12 : decode cX9_load 12 = .ok (.aload_n 0, 1) := by decide +kernel
theorem dX9_load_13 : decode cX9_load 13 = .ok (.iconst 1, 1) := by decide +kernel
theorem dX9_load_14 : decode cX9_load 14 = .ok (.invokevirtual 127, 3) := by decide +kernel
theorem dX9_load_17 : decode cX9_load 17 = .ok (.i2l, 1) := by decide +kernel
theorem dX9_load_18 : decode cX9_load 18 = .ok (.lreturn, 1) := by decide +kernel
theorem dX9_load_19 : decode cX9_load 19 = .ok (.aload_n 0, 1) := by decide +kernel
theorem dX9_load_20 : decode cX9_load 20 = .ok (.iload_n 1, 1) := by decide +kernel
theorem dX9_load_21 : decode cX9_load 21 = .ok (.invokevirtual 217, 3) := by decide +kernel
theorem dX9_load_24 : decode cX9_load 24 = .ok (.istore_n 2, 1) := by decide +kernel
theorem dX9_load_25 : decode cX9_load 25 = .ok (.iload_n 2, 1) := by decide +kernel
theorem dX9_load_26 : decode cX9_load 26 = .ok (.iconst (-1), 1) := by decide +kernel
theorem dX9_load_27 : decode cX9_load 27 = .ok (.if_icmp .eq 43, 3) := by decide +kernel
theorem dX9_load_30 : decode cX9_load 30 = .ok (.aload_n 0, 1) := by decide +kernel
theorem dX9_load_31 : decode cX9_load 31 = .ok (.dup, 1) := by decide +kernel
theorem dX9_load_32 : decode cX9_load 32 = .ok (.getfield 220, 3) := by decide +kernel
theorem dX9_load_35 : decode cX9_load 35 = .ok (.iconst 1, 1) := by decide +kernel
theorem dX9_load_36 : decode cX9_load 36 = .ok (.iadd, 1) := by decide +kernel
theorem dX9_load_37 : decode cX9_load 37 = .ok (.putfield 220, 3) := by decide +kernel
theorem dX9_load_40 : decode cX9_load 40 = .ok (.aload_n 0, 1) := by decide +kernel
theorem dX9_load_41 : decode cX9_load 41 = .ok (.aload_n 0, 1) := by decide +kernel
theorem dX9_load_42 : decode cX9_load 42 = .ok (.getfield 37, 3) := by decide +kernel
theorem dX9_load_45 : decode cX9_load 45 = .ok (.iload_n 2, 1) := by decide +kernel
theorem dX9_load_46 : decode cX9_load 46 = .ok (.invokevirtual 190, 3) := by decide +kernel
theorem dX9_load_49 : decode cX9_load 49 = .ok (.checkcast 62, 3) := by decide +kernel
theorem dX9_load_52 : decode cX9_load 52 = .ok (.invokevirtual 213, 3) := by decide +kernel
theorem dX9_load_55 : decode cX9_load 55 = .ok (.aload_n 0, 1) := by decide +kernel
theorem dX9_load_56 : decode cX9_load 56 = .ok (.getfield 37, 3) := by decide +kernel
theorem dX9_load_59 : decode cX9_load 59 = .ok (.iload_n 2, 1) := by decide +kernel
theorem dX9_load_60 : decode cX9_load 60 = .ok (.invokevirtual 190, 3) := by decide +kernel
theorem dX9_load_63 : decode cX9_load 63 = .ok (.checkcast 62, 3) := by decide +kernel
theorem dX9_load_66 : decode cX9_load 66 = .ok (.getfield 206, 3) := by decide +kernel
theorem dX9_load_69 : decode cX9_load 69 = .ok (.lreturn, 1) := by decide +kernel
theorem dX9_load_70 : decode cX9_load 70 = .ok (.aload_n 0, 1) := by decide +kernel
theorem dX9_load_71 : decode cX9_load 71 = .ok (.dup, 1) := by decide +kernel
theorem dX9_load_72 : decode cX9_load 72 = .ok (.getfield 223, 3) := by decide +kernel
theorem dX9_load_75 : decode cX9_load 75 = .ok (.iconst 1, 1) := by decide +kernel
theorem dX9_load_76 : decode cX9_load 76 = .ok (.iadd, 1) := by decide +kernel
theorem dX9_load_77 : decode cX9_load 77 = .ok (.putfield 223, 3) := by decide +kernel
theorem dX9_load_80 : decode cX9_load 80 = .ok (.aload_n 0, 1) := by decide +kernel
theorem dX9_load_81 : decode cX9_load 81 = .ok (.iload_n 1, 1) := by decide +kernel
theorem dX9_load_82 : decode cX9_load 82 = .ok (.invokevirtual 184, 3) := by decide +kernel
theorem dX9_load_85 : decode cX9_load 85 = .ok (.iconst (-1), 1) := by decide +kernel
theorem dX9_load_86 : decode cX9_load 86 = .ok (.if_icmp .ne 7, 3) := by decide +kernel
theorem dX9_load_89 : decode cX9_load 89 = .ok (.ldc2_w 226, 3) := by decide +kernel
theorem dX9_load_92 : decode cX9_load 92 = .ok (.lreturn, 1) := by decide +kernel
theorem dX9_load_93 : decode cX9_load 93 = .ok (.aload_n 0, 1) := by decide +kernel
theorem dX9_load_94 : decode cX9_load 94 = .ok (.getfield 45, 3) := by decide +kernel
theorem dX9_load_97 : decode cX9_load 97 = .ok (.invokestatic 228, 3) := by decide +kernel
theorem dX9_load_100 : decode cX9_load 100 = .ok (.lstore_n 3, 1) := by decide +kernel
theorem dX9_load_101 : decode cX9_load 101 = .ok (.aload_n 0, 1) := by decide +kernel
theorem dX9_load_102 : decode cX9_load 102 = .ok (.iload_n 1, 1) := by decide +kernel
theorem dX9_load_103 : decode cX9_load 103 = .ok (.lload_n 3, 1) := by decide +kernel
theorem dX9_load_104 : decode cX9_load 104 = .ok (.iconst 0, 1) := by decide +kernel
theorem dX9_load_105 : decode cX9_load 105 = .ok (.invokevirtual 232, 3) := by decide +kernel
theorem dX9_load_108 : decode cX9_load 108 = .ok (.pop, 1) := by decide +kernel
theorem dX9_load_109 : decode cX9_load 109 = .ok (.lload_n 3, 1) := by decide +kernel
theorem dX9_load_110 : decode cX9_load 110 = .ok (.lreturn, 1) := by decide +kernel
theorem dX9_store_0 : decode cX9_store 0 = .ok (.aload_n 0, 1) := by decide +kernel
theorem dX9_store_1 : decode cX9_store 1 = .ok (.iconst 0, 1) := by decide +kernel
theorem dX9_store_2 : decode cX9_store 2 = .ok (.putfield 69, 3) := by decide +kernel
theorem dX9_store_5 : decode cX9_store 5 = .ok (.iload_n 1, 1) := by decide +kernel
theorem dX9_store_6 : decode cX9_store 6 = .ok (.invokestatic 123, 3) := by decide +kernel
theorem dX9_store_9 : decode cX9_store 9 = .ok (.ifCond .ne 9, 3) := by decide +kernel
theorem dX9_store_12 : decode cX9_store 12 = .ok (.aload_n 0, 1) := by decide +kernel
theorem dX9_store_13 : decode cX9_store 13 = .ok (.iconst 1, 1) := by decide +kernel
theorem dX9_store_14 : decode cX9_store 14 = .ok (.invokevirtual 127, 3) := by decide +kernel
theorem dX9_store_17 : decode cX9_store 17 = .ok (.ireturn, 1) := by decide +kernel
theorem dX9_store_18 : decode cX9_store 18 = .ok (.lload_n 2, 1) := by decide +kernel
theorem dX9_store_19 : decode cX9_store 19 = .ok (.invokestatic 130, 3) := by decide +kernel
theorem dX9_store_22 : decode cX9_store 22 = .ok (.ifCond .ne 9, 3) := by decide +kernel
theorem dX9_store_25 : decode cX9_store 25 = .ok (.aload_n 0, 1) := by decide +kernel
theorem dX9_store_26 : decode cX9_store 26 = .ok (.iconst 2, 1) := by decide +kernel
theorem dX9_store_27 : decode cX9_store 27 = .ok (.invokevirtual 127, 3) := by decide +kernel
theorem dX9_store_30 : decode cX9_store 30 = .ok (.ireturn, 1) := by decide +kernel
theorem dX9_store_31 : decode cX9_store 31 = .ok (.aload_n 0, 1) := by decide +kernel
theorem dX9_store_32 : decode cX9_store 32 = .ok (.iload_n 1, 1) := by decide +kernel
theorem dX9_store_33 : decode cX9_store 33 = .ok (.invokevirtual 217, 3) := by decide +kernel
theorem dX9_store_36 : decode cX9_store 36 = .ok (.istore 4, 2) := by decide +kernel
theorem dX9_store_38 : decode cX9_store 38 = .ok (.iload 4, 2) := by decide +kernel
theorem dX9_store_40 : decode cX9_store 40 = .ok (.iconst (-1), 1) := by decide +kernel
theorem dX9_store_41 : decode cX9_store 41 = .ok (.if_icmp .ne 21, 3) := by decide +kernel
theorem dX9_store_44 : decode cX9_store 44 = .ok (.aload_n 0, 1) := by decide +kernel
theorem dX9_store_45 : decode cX9_store 45 = .ok (.dup, 1) := by decide +kernel
theorem dX9_store_46 : decode cX9_store 46 = .ok (.getfield 223, 3) := by decide +kernel
theorem dX9_store_49 : decode cX9_store 49 = .ok (.iconst 1, 1) := by decide +kernel
theorem dX9_store_50 : decode cX9_store 50 = .ok (.iadd, 1) := by decide +kernel
theorem dX9_store_51 : decode cX9_store 51 = .ok (.putfield 223, 3) := by decide +kernel
theorem dX9_store_54 : decode cX9_store 54 = .ok (.aload_n 0, 1) := by decide +kernel
theorem dX9_store_55 : decode cX9_store 55 = .ok (.iload_n 1, 1) := by decide +kernel
theorem dX9_store_56 : decode cX9_store 56 = .ok (.lload_n 2, 1) := by decide +kernel
theorem dX9_store_57 : decode cX9_store 57 = .ok (.iconst 1, 1) := by decide +kernel
theorem dX9_store_58 : decode cX9_store 58 = .ok (.invokevirtual 232, 3) := by decide +kernel
theorem dX9_store_61 : decode cX9_store 61 = .ok (.ireturn, 1) := by decide +kernel
theorem dX9_store_62 : decode cX9_store 62 = .ok (.aload_n 0, 1) := by decide +kernel
theorem dX9_store_63 : decode cX9_store 63 = .ok (.dup, 1) := by decide +kernel
theorem dX9_store_64 : decode cX9_store 64 = .ok (.getfield 220, 3) := by decide +kernel
theorem dX9_store_67 : decode cX9_store 67 = .ok (.iconst 1, 1) := by decide +kernel
theorem dX9_store_68 : decode cX9_store 68 = .ok (.iadd, 1) := by decide +kernel
theorem dX9_store_69 : decode cX9_store 69 = .ok (.putfield 220, 3) := by decide +kernel
theorem dX9_store_72 : decode cX9_store 72 = .ok (.aload_n 0, 1) := by decide +kernel
theorem dX9_store_73 : decode cX9_store 73 = .ok (.getfield 37, 3) := by decide +kernel
theorem dX9_store_76 : decode cX9_store 76 = .ok (.iload 4, 2) := by decide +kernel
theorem dX9_store_78 : decode cX9_store 78 = .ok (.invokevirtual 190, 3) := by decide +kernel
theorem dX9_store_81 : decode cX9_store 81 = .ok (.checkcast 62, 3) := by decide +kernel
theorem dX9_store_84 : decode cX9_store 84 = .ok (.lload_n 2, 1) := by decide +kernel
theorem dX9_store_85 : decode cX9_store 85 = .ok (.putfield 206, 3) := by decide +kernel
theorem dX9_store_88 : decode cX9_store 88 = .ok (.aload_n 0, 1) := by decide +kernel
theorem dX9_store_89 : decode cX9_store 89 = .ok (.getfield 37, 3) := by decide +kernel
theorem dX9_store_92 : decode cX9_store 92 = .ok (.iload 4, 2) := by decide +kernel
theorem dX9_store_94 : decode cX9_store 94 = .ok (.invokevirtual 190, 3) := by decide +kernel
theorem dX9_store_97 : decode cX9_store 97 = .ok (.checkcast 62, 3) := by decide +kernel
theorem dX9_store_100 : decode cX9_store 100 = .ok (.iconst 1, 1) := by decide +kernel
theorem dX9_store_101 : decode cX9_store 101 = .ok (.putfield 203, 3) := by decide +kernel
theorem dX9_store_104 : decode cX9_store 104 = .ok (.aload_n 0, 1) := by decide +kernel
theorem dX9_store_105 : decode cX9_store 105 = .ok (.aload_n 0, 1) := by decide +kernel
theorem dX9_store_106 : decode cX9_store 106 = .ok (.getfield 37, 3) := by decide +kernel
theorem dX9_store_109 : decode cX9_store 109 = .ok (.iload 4, 2) := by decide +kernel
theorem dX9_store_111 : decode cX9_store 111 = .ok (.invokevirtual 190, 3) := by decide +kernel
theorem dX9_store_114 : decode cX9_store 114 = .ok (.checkcast 62, 3) := by decide +kernel
theorem dX9_store_117 : decode cX9_store 117 = .ok (.invokevirtual 213, 3) := by decide +kernel
theorem dX9_store_120 : decode cX9_store 120 = .ok (.iload 4, 2) := by decide +kernel
theorem dX9_store_122 : decode cX9_store 122 = .ok (.ireturn, 1) := by decide +kernel
theorem dX9_dirty_0 : decode cX9_dirty 0 = .ok (.iconst 0, 1) := by decide +kernel
theorem dX9_dirty_1 : decode cX9_dirty 1 = .ok (.istore_n 1, 1) := by decide +kernel
theorem dX9_dirty_2 : decode cX9_dirty 2 = .ok (.iconst 0, 1) := by decide +kernel
theorem dX9_dirty_3 : decode cX9_dirty 3 = .ok (.istore_n 2, 1) := by decide +kernel
theorem dX9_dirty_4 : decode cX9_dirty 4 = .ok (.iload_n 2, 1) := by decide +kernel
theorem dX9_dirty_5 : decode cX9_dirty 5 = .ok (.iconst 4, 1) := by decide +kernel
theorem dX9_dirty_6 : decode cX9_dirty 6 = .ok (.if_icmp .ge 34, 3) := by decide +kernel
theorem dX9_dirty_9 : decode cX9_dirty 9 = .ok (.iload_n 1, 1) := by decide +kernel
theorem dX9_dirty_10 : decode cX9_dirty 10 = .ok (.aload_n 0, 1) := by decide +kernel
theorem dX9_dirty_11 : decode cX9_dirty 11 = .ok (.getfield 37, 3) := by decide +kernel
theorem dX9_dirty_14 : decode cX9_dirty 14 = .ok (.iload_n 2, 1) := by decide +kernel
theorem dX9_dirty_15 : decode cX9_dirty 15 = .ok (.invokevirtual 190, 3) := by decide +kernel
theorem dX9_dirty_18 : decode cX9_dirty 18 = .ok (.checkcast 62, 3) := by decide +kernel
theorem dX9_dirty_21 : decode cX9_dirty 21 = .ok (.getfield 203, 3) := by decide +kernel
theorem dX9_dirty_24 : decode cX9_dirty 24 = .ok (.ifCond .eq 7, 3) := by decide +kernel
theorem dX9_dirty_27 : decode cX9_dirty 27 = .ok (.iconst 1, 1) := by decide +kernel
theorem dX9_dirty_28 : decode cX9_dirty 28 = .ok (.goto 4, 3) := by decide +kernel
theorem dX9_dirty_31 : decode cX9_dirty 31 = .ok (.iconst 0, 1) := by decide +kernel
theorem dX9_dirty_32 : decode cX9_dirty 32 = .ok (.iadd, 1) := by decide +kernel
theorem dX9_dirty_33 : decode cX9_dirty 33 = .ok (.istore_n 1, 1) := by decide +kernel
theorem dX9_dirty_34 : decode cX9_dirty 34 = .ok (.iinc 2 1, 3) := by decide +kernel
theorem dX9_dirty_37 : decode cX9_dirty 37 = .ok (.goto (-33), 3) := by decide +kernel
theorem dX9_dirty_40 : decode cX9_dirty 40 = .ok (.iload_n 1, 1) := by decide +kernel
theorem dX9_dirty_41 : decode cX9_dirty 41 = .ok (.ireturn, 1) := by decide +kernel
theorem dX9_flush_0 : decode cX9_flush 0 = .ok (.aload_n 0, 1) := by decide +kernel
theorem dX9_flush_1 : decode cX9_flush 1 = .ok (.iconst 0, 1) := by decide +kernel
theorem dX9_flush_2 : decode cX9_flush 2 = .ok (.putfield 69, 3) := by decide +kernel
theorem dX9_flush_5 : decode cX9_flush 5 = .ok (.aload_n 0, 1) := by decide +kernel
theorem dX9_flush_6 : decode cX9_flush 6 = .ok (.invokevirtual 236, 3) := by decide +kernel
theorem dX9_flush_9 : decode cX9_flush 9 = .ok (.istore_n 1, 1) := by decide +kernel
theorem dX9_flush_10 : decode cX9_flush 10 = .ok (.iconst 0, 1) := by decide +kernel
theorem dX9_flush_11 : decode cX9_flush 11 = .ok (.istore_n 2, 1) := by decide +kernel
theorem dX9_flush_12 : decode cX9_flush 12 = .ok (.iload_n 2, 1) := by decide +kernel
theorem dX9_flush_13 : decode cX9_flush 13 = .ok (.iconst 4, 1) := by decide +kernel
theorem dX9_flush_14 : decode cX9_flush 14 = .ok (.if_icmp .ge 49, 3) := by decide +kernel
theorem dX9_flush_17 : decode cX9_flush 17 = .ok (.aload_n 0, 1) := by decide +kernel
theorem dX9_flush_18 : decode cX9_flush 18 = .ok (.getfield 37, 3) := by decide +kernel
theorem dX9_flush_21 : decode cX9_flush 21 = .ok (.iload_n 2, 1) := by decide +kernel
theorem dX9_flush_22 : decode cX9_flush 22 = .ok (.invokevirtual 190, 3) := by decide +kernel
theorem dX9_flush_25 : decode cX9_flush 25 = .ok (.checkcast 62, 3) := by decide +kernel
theorem dX9_flush_28 : decode cX9_flush 28 = .ok (.astore_n 3, 1) := by decide +kernel
theorem dX9_flush_29 : decode cX9_flush 29 = .ok (.aload_n 3, 1) := by decide +kernel
theorem dX9_flush_30 : decode cX9_flush 30 = .ok (.getfield 203, 3) := by decide +kernel
theorem dX9_flush_33 : decode cX9_flush 33 = .ok (.ifCond .eq 19, 3) := by decide +kernel
theorem dX9_flush_36 : decode cX9_flush 36 = .ok (.aload_n 0, 1) := by decide +kernel
theorem dX9_flush_37 : decode cX9_flush 37 = .ok (.aload_n 3, 1) := by decide +kernel
theorem dX9_flush_38 : decode cX9_flush 38 = .ok (.getfield 194, 3) := by decide +kernel
theorem dX9_flush_41 : decode cX9_flush 41 = .ok (.aload_n 0, 1) := by decide +kernel
theorem dX9_flush_42 : decode cX9_flush 42 = .ok (.aload_n 3, 1) := by decide +kernel
theorem dX9_flush_43 : decode cX9_flush 43 = .ok (.getfield 206, 3) := by decide +kernel
theorem dX9_flush_46 : decode cX9_flush 46 = .ok (.invokevirtual 138, 3) := by decide +kernel
theorem dX9_flush_49 : decode cX9_flush 49 = .ok (.invokevirtual 142, 3) := by decide +kernel
theorem dX9_flush_52 : decode cX9_flush 52 = .ok (.aload_n 3, 1) := by decide +kernel
theorem dX9_flush_53 : decode cX9_flush 53 = .ok (.iconst 0, 1) := by decide +kernel
theorem dX9_flush_54 : decode cX9_flush 54 = .ok (.putfield 203, 3) := by decide +kernel
theorem dX9_flush_57 : decode cX9_flush 57 = .ok (.iinc 2 1, 3) := by decide +kernel
theorem dX9_flush_60 : decode cX9_flush 60 = .ok (.goto (-48), 3) := by decide +kernel
theorem dX9_flush_63 : decode cX9_flush 63 = .ok (.iload_n 1, 1) := by decide +kernel
theorem dX9_flush_64 : decode cX9_flush 64 = .ok (.ireturn, 1) := by decide +kernel
theorem dX9_call_0 : decode cX9_call 0 = .ok (.aload_n 0, 1) := by decide +kernel
theorem dX9_call_1 : decode cX9_call 1 = .ok (.iconst 0, 1) := by decide +kernel
theorem dX9_call_2 : decode cX9_call 2 = .ok (.putfield 69, 3) := by decide +kernel
theorem dX9_call_5 : decode cX9_call 5 = .ok (.aload_n 0, 1) := by decide +kernel
theorem dX9_call_6 : decode cX9_call 6 = .ok (.dup, 1) := by decide +kernel
theorem dX9_call_7 : decode cX9_call 7 = .ok (.getfield 239, 3) := by decide +kernel
theorem dX9_call_10 : decode cX9_call 10 = .ok (.iconst 1, 1) := by decide +kernel
theorem dX9_call_11 : decode cX9_call 11 = .ok (.iadd, 1) := by decide +kernel
theorem dX9_call_12 : decode cX9_call 12 = .ok (.putfield 239, 3) := by decide +kernel
theorem dX9_call_15 : decode cX9_call 15 = .ok (.aload_n 0, 1) := by decide +kernel
theorem dX9_call_16 : decode cX9_call 16 = .ok (.getfield 239, 3) := by decide +kernel
theorem dX9_call_19 : decode cX9_call 19 = .ok (.ireturn, 1) := by decide +kernel
theorem dX9_times_0 : decode cX9_times 0 = .ok (.aload_n 0, 1) := by decide +kernel
theorem dX9_times_1 : decode cX9_times 1 = .ok (.iconst 0, 1) := by decide +kernel
theorem dX9_times_2 : decode cX9_times 2 = .ok (.putfield 69, 3) := by decide +kernel
theorem dX9_times_5 : decode cX9_times 5 = .ok (.iload_n 1, 1) := by decide +kernel
theorem dX9_times_6 : decode cX9_times 6 = .ok (.iconst 0, 1) := by decide +kernel
theorem dX9_times_7 : decode cX9_times 7 = .ok (.bipush 15, 2) := by decide +kernel
theorem dX9_times_9 : decode cX9_times 9 = .ok (.invokestatic 72, 3) := by decide +kernel
theorem dX9_times_12 : decode cX9_times 12 = .ok (.ifCond .eq 22, 3) := by decide +kernel
theorem dX9_times_15 : decode cX9_times 15 = .ok (.iload_n 2, 1) := by decide +kernel
theorem dX9_times_16 : decode cX9_times 16 = .ok (.iconst 0, 1) := by decide +kernel
theorem dX9_times_17 : decode cX9_times 17 = .ok (.bipush 15, 2) := by decide +kernel
theorem dX9_times_19 : decode cX9_times 19 = .ok (.invokestatic 72, 3) := by decide +kernel
theorem dX9_times_22 : decode cX9_times 22 = .ok (.ifCond .eq 12, 3) := by decide +kernel
theorem dX9_times_25 : decode cX9_times 25 = .ok (.aload_n 0, 1) := by decide +kernel
theorem dX9_times_26 : decode cX9_times 26 = .ok (.iload_n 1, 1) := by decide +kernel
theorem dX9_times_27 : decode cX9_times 27 = .ok (.iload_n 2, 1) := by decide +kernel
theorem dX9_times_28 : decode cX9_times 28 = .ok (.invokevirtual 78, 3) := by decide +kernel
theorem dX9_times_31 : decode cX9_times 31 = .ok (.goto 8, 3) := by decide +kernel
theorem dX9_times_34 : decode cX9_times 34 = .ok (.aload_n 0, 1) := by decide +kernel
theorem dX9_times_35 : decode cX9_times 35 = .ok (.iconst 1, 1) := by decide +kernel
theorem dX9_times_36 : decode cX9_times 36 = .ok (.invokevirtual 127, 3) := by decide +kernel
theorem dX9_times_39 : decode cX9_times 39 = .ok (.ireturn, 1) := by decide +kernel
theorem dX9_power_0 : decode cX9_power 0 = .ok (.aload_n 0, 1) := by decide +kernel
theorem dX9_power_1 : decode cX9_power 1 = .ok (.iconst 0, 1) := by decide +kernel
theorem dX9_power_2 : decode cX9_power 2 = .ok (.putfield 69, 3) := by decide +kernel
theorem dX9_power_5 : decode cX9_power 5 = .ok (.iload_n 1, 1) := by decide +kernel
theorem dX9_power_6 : decode cX9_power 6 = .ok (.iconst 0, 1) := by decide +kernel
theorem dX9_power_7 : decode cX9_power 7 = .ok (.sipush 999, 3) := by decide +kernel
theorem dX9_power_10 : decode cX9_power 10 = .ok (.invokestatic 72, 3) := by decide +kernel
theorem dX9_power_13 : decode cX9_power 13 = .ok (.ifCond .eq 11, 3) := by decide +kernel
theorem dX9_power_16 : decode cX9_power 16 = .ok (.aload_n 0, 1) := by decide +kernel
theorem dX9_power_17 : decode cX9_power 17 = .ok (.iload_n 1, 1) := by decide +kernel
theorem dX9_power_18 : decode cX9_power 18 = .ok (.invokevirtual 81, 3) := by decide +kernel
theorem dX9_power_21 : decode cX9_power 21 = .ok (.goto 8, 3) := by decide +kernel
theorem dX9_power_24 : decode cX9_power 24 = .ok (.aload_n 0, 1) := by decide +kernel
theorem dX9_power_25 : decode cX9_power 25 = .ok (.iconst 1, 1) := by decide +kernel
theorem dX9_power_26 : decode cX9_power 26 = .ok (.invokevirtual 127, 3) := by decide +kernel
theorem dX9_power_29 : decode cX9_power 29 = .ok (.ireturn, 1) := by decide +kernel
theorem dX9_symbol_0 : decode cX9_symbol 0 = .ok (.aload_n 0, 1) := by decide +kernel
theorem dX9_symbol_1 : decode cX9_symbol 1 = .ok (.iconst 0, 1) := by decide +kernel
theorem dX9_symbol_2 : decode cX9_symbol 2 = .ok (.putfield 69, 3) := by decide +kernel
theorem dX9_symbol_5 : decode cX9_symbol 5 = .ok (.iload_n 3, 1) := by decide +kernel
theorem dX9_symbol_6 : decode cX9_symbol 6 = .ok (.invokestatic 152, 3) := by decide +kernel
theorem dX9_symbol_9 : decode cX9_symbol 9 = .ok (.ifCond .ne 9, 3) := by decide +kernel
theorem dX9_symbol_12 : decode cX9_symbol 12 = .ok (.aload_n 0, 1) := by decide +kernel
theorem dX9_symbol_13 : decode cX9_symbol 13 = .ok (.iconst 1, 1) := by decide +kernel
theorem dX9_symbol_14 : decode cX9_symbol 14 = .ok (.invokevirtual 127, 3) := by decide +kernel
theorem dX9_symbol_17 : decode cX9_symbol 17 = .ok (.ireturn, 1) := by decide +kernel
theorem dX9_symbol_18 : decode cX9_symbol 18 = .ok (.lload_n 1, 1) := by decide +kernel
theorem dX9_symbol_19 : decode cX9_symbol 19 = .ok (.invokestatic 130, 3) := by decide +kernel
theorem dX9_symbol_22 : decode cX9_symbol 22 = .ok (.ifCond .eq 13, 3) := by decide +kernel
theorem dX9_symbol_25 : decode cX9_symbol 25 = .ok (.aload_n 0, 1) := by decide +kernel
theorem dX9_symbol_26 : decode cX9_symbol 26 = .ok (.lload_n 1, 1) := by decide +kernel
theorem dX9_symbol_27 : decode cX9_symbol 27 = .ok (.invokevirtual 138, 3) := by decide +kernel
theorem dX9_symbol_30 : decode cX9_symbol 30 = .ok (.iload_n 3, 1) := by decide +kernel
theorem dX9_symbol_31 : decode cX9_symbol 31 = .ok (.iaload, 1) := by decide +kernel
theorem dX9_symbol_32 : decode cX9_symbol 32 = .ok (.goto 8, 3) := by decide +kernel
theorem dX9_symbol_35 : decode cX9_symbol 35 = .ok (.aload_n 0, 1) := by decide +kernel
theorem dX9_symbol_36 : decode cX9_symbol 36 = .ok (.iconst 2, 1) := by decide +kernel
theorem dX9_symbol_37 : decode cX9_symbol 37 = .ok (.invokevirtual 127, 3) := by decide +kernel
theorem dX9_symbol_40 : decode cX9_symbol 40 = .ok (.ireturn, 1) := by decide +kernel
theorem dX9_fooled_0 : decode cX9_fooled 0 = .ok (.aload_n 0, 1) := by decide +kernel
theorem dX9_fooled_1 : decode cX9_fooled 1 = .ok (.iconst 0, 1) := by decide +kernel
theorem dX9_fooled_2 : decode cX9_fooled 2 = .ok (.putfield 69, 3) := by decide +kernel
theorem dX9_fooled_5 : decode cX9_fooled 5 = .ok (.iload_n 1, 1) := by decide +kernel
theorem dX9_fooled_6 : decode cX9_fooled 6 = .ok (.invokestatic 152, 3) := by decide +kernel
theorem dX9_fooled_9 : decode cX9_fooled 9 = .ok (.ifCond .eq 17, 3) := by decide +kernel
theorem dX9_fooled_12 : decode cX9_fooled 12 = .ok (.iload_n 2, 1) := by decide +kernel
theorem dX9_fooled_13 : decode cX9_fooled 13 = .ok (.invokestatic 152, 3) := by decide +kernel
theorem dX9_fooled_16 : decode cX9_fooled 16 = .ok (.ifCond .eq 10, 3) := by decide +kernel
theorem dX9_fooled_19 : decode cX9_fooled 19 = .ok (.iload_n 3, 1) := by decide +kernel
theorem dX9_fooled_20 : decode cX9_fooled 20 = .ok (.invokestatic 152, 3) := by decide +kernel
theorem dX9_fooled_23 : decode cX9_fooled 23 = .ok (.ifCond .ne 9, 3) := by decide +kernel
theorem dX9_fooled_26 : decode cX9_fooled 26 = .ok (.aload_n 0, 1) := by decide +kernel
theorem dX9_fooled_27 : decode cX9_fooled 27 = .ok (.iconst 1, 1) := by decide +kernel
theorem dX9_fooled_28 : decode cX9_fooled 28 = .ok (.invokevirtual 127, 3) := by decide +kernel
theorem dX9_fooled_31 : decode cX9_fooled 31 = .ok (.ireturn, 1) := by decide +kernel
theorem dX9_fooled_32 : decode cX9_fooled 32 = .ok (.iload_n 1, 1) := by decide +kernel
theorem dX9_fooled_33 : decode cX9_fooled 33 = .ok (.iload_n 2, 1) := by decide +kernel
theorem dX9_fooled_34 : decode cX9_fooled 34 = .ok (.if_icmp .eq 35, 3) := by decide +kernel
theorem dX9_fooled_37 : decode cX9_fooled 37 = .ok (.iload_n 1, 1) := by decide +kernel
theorem dX9_fooled_38 : decode cX9_fooled 38 = .ok (.iload_n 3, 1) := by decide +kernel
theorem dX9_fooled_39 : decode cX9_fooled 39 = .ok (.if_icmp .eq 30, 3) := by decide +kernel
theorem dX9_fooled_42 : decode cX9_fooled 42 = .ok (.iload_n 2, 1) := by decide +kernel
theorem dX9_fooled_43 : decode cX9_fooled 43 = .ok (.iload_n 3, 1) := by decide +kernel
theorem dX9_fooled_44 : decode cX9_fooled 44 = .ok (.if_icmp .eq 25, 3) := by decide +kernel
theorem dX9_fooled_47 : decode cX9_fooled 47 = .ok (.iload 4, 2) := by decide +kernel
theorem dX9_fooled_49 : decode cX9_fooled 49 = .ok (.iconst 1, 1) := by decide +kernel
theorem dX9_fooled_50 : decode cX9_fooled 50 = .ok (.bipush 15, 2) := by decide +kernel
theorem dX9_fooled_52 : decode cX9_fooled 52 = .ok (.invokestatic 72, 3) := by decide +kernel
theorem dX9_fooled_55 : decode cX9_fooled 55 = .ok (.ifCond .eq 14, 3) := by decide +kernel
theorem dX9_fooled_58 : decode cX9_fooled 58 = .ok (.iload 5, 2) := by decide +kernel
theorem dX9_fooled_60 : decode cX9_fooled 60 = .ok (.iconst 1, 1) := by decide +kernel
theorem dX9_fooled_61 : decode cX9_fooled 61 = .ok (.bipush 15, 2) := by decide +kernel
theorem dX9_fooled_63 : decode cX9_fooled 63 = .ok (.invokestatic 72, 3) := by decide +kernel
theorem dX9_fooled_66 : decode cX9_fooled 66 = .ok (.ifCond .ne 9, 3) := by decide +kernel
theorem dX9_fooled_69 : decode cX9_fooled 69 = .ok (.aload_n 0, 1) := by decide +kernel
theorem dX9_fooled_70 : decode cX9_fooled 70 = .ok (.iconst 2, 1) := by decide +kernel
theorem dX9_fooled_71 : decode cX9_fooled 71 = .ok (.invokevirtual 127, 3) := by decide +kernel
theorem dX9_fooled_74 : decode cX9_fooled 74 = .ok (.ireturn, 1) := by decide +kernel
theorem dX9_fooled_75 : decode cX9_fooled 75 = .ok (.bipush 15, 2) := by decide +kernel
theorem dX9_fooled_77 : decode cX9_fooled 77 = .ok (.newarray .int, 2) := by decide +kernel
theorem dX9_fooled_79 : decode cX9_fooled 79 = .ok (.astore 6, 2) := by decide +kernel
theorem dX9_fooled_81 : decode cX9_fooled 81 = .ok (.aload 6, 2) := by decide +kernel
theorem dX9_fooled_83 : decode cX9_fooled 83 = .ok (.iload_n 1, 1) := by decide +kernel
theorem dX9_fooled_84 : decode cX9_fooled 84 = .ok (.iload 4, 2) := by decide +kernel
theorem dX9_fooled_86 : decode cX9_fooled 86 = .ok (.iastore, 1) := by decide +kernel
theorem dX9_fooled_87 : decode cX9_fooled 87 = .ok (.aload 6, 2) := by decide +kernel
theorem dX9_fooled_89 : decode cX9_fooled 89 = .ok (.iload_n 2, 1) := by decide +kernel
theorem dX9_fooled_90 : decode cX9_fooled 90 = .ok (.iload 5, 2) := by decide +kernel
theorem dX9_fooled_92 : decode cX9_fooled 92 = .ok (.iastore, 1) := by decide +kernel
theorem dX9_fooled_93 : decode cX9_fooled 93 = .ok (.iconst 0, 1) := by decide +kernel
theorem dX9_fooled_94 : decode cX9_fooled 94 = .ok (.istore 7, 2) := by decide +kernel
theorem dX9_fooled_96 : decode cX9_fooled 96 = .ok (.iconst 1, 1) := by decide +kernel
theorem dX9_fooled_97 : decode cX9_fooled 97 = .ok (.istore 8, 2) := by decide +kernel
theorem dX9_fooled_99 : decode cX9_fooled 99 = .ok (.iload 8, 2) := by decide +kernel
theorem dX9_fooled_101 : decode cX9_fooled 101 = .ok (.bipush 16, 2) := by decide +kernel
theorem dX9_fooled_103 : decode cX9_fooled 103 = .ok (.if_icmp .ge 35, 3) := by decide +kernel
theorem dX9_fooled_106 : decode cX9_fooled 106 = .ok (.aload 6, 2) := by decide +kernel
theorem dX9_fooled_108 : decode cX9_fooled 108 = .ok (.iload_n 3, 1) := by decide +kernel
theorem dX9_fooled_109 : decode cX9_fooled 109 = .ok (.iload 8, 2) := by decide +kernel
theorem dX9_fooled_111 : decode cX9_fooled 111 = .ok (.iastore, 1) := by decide +kernel
theorem dX9_fooled_112 : decode cX9_fooled 112 = .ok (.iload 7, 2) := by decide +kernel
theorem dX9_fooled_114 : decode cX9_fooled 114 = .ok (.aload_n 0, 1) := by decide +kernel
theorem dX9_fooled_115 : decode cX9_fooled 115 = .ok (.aload 6, 2) := by decide +kernel
theorem dX9_fooled_117 : decode cX9_fooled 117 = .ok (.iconst 0, 1) := by decide +kernel
theorem dX9_fooled_118 : decode cX9_fooled 118 = .ok (.invokevirtual 165, 3) := by decide +kernel
theorem dX9_fooled_121 : decode cX9_fooled 121 = .ok (.ifCond .eq 7, 3) := by decide +kernel
theorem dX9_fooled_124 : decode cX9_fooled 124 = .ok (.iconst 1, 1) := by decide +kernel
theorem dX9_fooled_125 : decode cX9_fooled 125 = .ok (.goto 4, 3) := by decide +kernel
theorem dX9_fooled_128 : decode cX9_fooled 128 = .ok (.iconst 0, 1) := by decide +kernel
theorem dX9_fooled_129 : decode cX9_fooled 129 = .ok (.iadd, 1) := by decide +kernel
theorem dX9_fooled_130 : decode cX9_fooled 130 = .ok (.istore 7, 2) := by decide +kernel
theorem dX9_fooled_132 : decode cX9_fooled 132 = .ok (.iinc 8 1, 3) := by decide +kernel
theorem dX9_fooled_135 : decode cX9_fooled 135 = .ok (.goto (-36), 3) := by decide +kernel
theorem dX9_fooled_138 : decode cX9_fooled 138 = .ok (.iload 7, 2) := by decide +kernel
theorem dX9_fooled_140 : decode cX9_fooled 140 = .ok (.ireturn, 1) := by decide +kernel
theorem dX9_seen_0 : decode cX9_seen 0 = .ok (.aload_n 0, 1) := by decide +kernel
theorem dX9_seen_1 : decode cX9_seen 1 = .ok (.iconst 0, 1) := by decide +kernel
theorem dX9_seen_2 : decode cX9_seen 2 = .ok (.putfield 69, 3) := by decide +kernel
theorem dX9_seen_5 : decode cX9_seen 5 = .ok (.iload_n 1, 1) := by decide +kernel
theorem dX9_seen_6 : decode cX9_seen 6 = .ok (.invokestatic 123, 3) := by decide +kernel
theorem dX9_seen_9 : decode cX9_seen 9 = .ok (.ifCond .eq 24, 3) := by decide +kernel
theorem dX9_seen_12 : decode cX9_seen 12 = .ok (.iload_n 2, 1) := by decide +kernel
theorem dX9_seen_13 : decode cX9_seen 13 = .ok (.invokestatic 152, 3) := by decide +kernel
theorem dX9_seen_16 : decode cX9_seen 16 = .ok (.ifCond .eq 17, 3) := by decide +kernel
theorem dX9_seen_19 : decode cX9_seen 19 = .ok (.aload_n 0, 1) := by decide +kernel
theorem dX9_seen_20 : decode cX9_seen 20 = .ok (.aload_n 0, 1) := by decide +kernel
theorem dX9_seen_21 : decode cX9_seen 21 = .ok (.getfield 31, 3) := by decide +kernel
theorem dX9_seen_24 : decode cX9_seen 24 = .ok (.iload_n 2, 1) := by decide +kernel
theorem dX9_seen_25 : decode cX9_seen 25 = .ok (.iaload, 1) := by decide +kernel
theorem dX9_seen_26 : decode cX9_seen 26 = .ok (.iload_n 1, 1) := by decide +kernel
theorem dX9_seen_27 : decode cX9_seen 27 = .ok (.invokevirtual 116, 3) := by decide +kernel
theorem dX9_seen_30 : decode cX9_seen 30 = .ok (.goto 8, 3) := by decide +kernel
theorem dX9_seen_33 : decode cX9_seen 33 = .ok (.aload_n 0, 1) := by decide +kernel
theorem dX9_seen_34 : decode cX9_seen 34 = .ok (.iconst 1, 1) := by decide +kernel
theorem dX9_seen_35 : decode cX9_seen 35 = .ok (.invokevirtual 127, 3) := by decide +kernel
theorem dX9_seen_38 : decode cX9_seen 38 = .ok (.ireturn, 1) := by decide +kernel
theorem dX9_sum_0 : decode cX9_sum 0 = .ok (.aload_n 0, 1) := by decide +kernel
theorem dX9_sum_1 : decode cX9_sum 1 = .ok (.iconst 0, 1) := by decide +kernel
theorem dX9_sum_2 : decode cX9_sum 2 = .ok (.putfield 69, 3) := by decide +kernel
theorem dX9_sum_5 : decode cX9_sum 5 = .ok (.iload_n 1, 1) := by decide +kernel
theorem dX9_sum_6 : decode cX9_sum 6 = .ok (.invokestatic 123, 3) := by decide +kernel
theorem dX9_sum_9 : decode cX9_sum 9 = .ok (.ifCond .ne 9, 3) := by decide +kernel
theorem dX9_sum_12 : decode cX9_sum 12 = .ok (.aload_n 0, 1) := by decide +kernel
theorem dX9_sum_13 : decode cX9_sum 13 = .ok (.iconst 1, 1) := by decide +kernel
theorem dX9_sum_14 : decode cX9_sum 14 = .ok (.invokevirtual 127, 3) := by decide +kernel
theorem dX9_sum_17 : decode cX9_sum 17 = .ok (.ireturn, 1) := by decide +kernel
theorem dX9_sum_18 : decode cX9_sum 18 = .ok (.iload_n 2, 1) := by decide +kernel
theorem dX9_sum_19 : decode cX9_sum 19 = .ok (.iconst 1, 1) := by decide +kernel
theorem dX9_sum_20 : decode cX9_sum 20 = .ok (.iconst 4, 1) := by decide +kernel
theorem dX9_sum_21 : decode cX9_sum 21 = .ok (.invokestatic 72, 3) := by decide +kernel
theorem dX9_sum_24 : decode cX9_sum 24 = .ok (.ifCond .eq 16, 3) := by decide +kernel
theorem dX9_sum_27 : decode cX9_sum 27 = .ok (.aload_n 0, 1) := by decide +kernel
theorem dX9_sum_28 : decode cX9_sum 28 = .ok (.aload_n 0, 1) := by decide +kernel
theorem dX9_sum_29 : decode cX9_sum 29 = .ok (.iload_n 1, 1) := by decide +kernel
theorem dX9_sum_30 : decode cX9_sum 30 = .ok (.invokevirtual 134, 3) := by decide +kernel
theorem dX9_sum_33 : decode cX9_sum 33 = .ok (.iload_n 2, 1) := by decide +kernel
theorem dX9_sum_34 : decode cX9_sum 34 = .ok (.invokevirtual 89, 3) := by decide +kernel
theorem dX9_sum_37 : decode cX9_sum 37 = .ok (.goto 8, 3) := by decide +kernel
theorem dX9_sum_40 : decode cX9_sum 40 = .ok (.aload_n 0, 1) := by decide +kernel
theorem dX9_sum_41 : decode cX9_sum 41 = .ok (.iconst 2, 1) := by decide +kernel
theorem dX9_sum_42 : decode cX9_sum 42 = .ok (.invokevirtual 127, 3) := by decide +kernel
theorem dX9_sum_45 : decode cX9_sum 45 = .ok (.ireturn, 1) := by decide +kernel
theorem dX9_mendedNow_0 : decode cX9_mendedNow 0 = .ok (.aload_n 0, 1) := by decide +kernel
theorem dX9_mendedNow_1 : decode cX9_mendedNow 1 = .ok (.aload_n 1, 1) := by decide +kernel
theorem dX9_mendedNow_2 : decode cX9_mendedNow 2 = .ok (.iload_n 2, 1) := by decide +kernel
theorem dX9_mendedNow_3 : decode cX9_mendedNow 3 = .ok (.invokevirtual 165, 3) := by decide +kernel
theorem dX9_mendedNow_6 : decode cX9_mendedNow 6 = .ok (.ifCond .eq 11, 3) := by decide +kernel
theorem dX9_mendedNow_9 : decode cX9_mendedNow 9 = .ok (.aload_n 0, 1) := by decide +kernel
theorem dX9_mendedNow_10 : decode cX9_mendedNow 10 = .ok (.aload_n 1, 1) := by decide +kernel
theorem dX9_mendedNow_11 : decode cX9_mendedNow 11 = .ok (.invokevirtual 174, 3) := by decide +kernel
theorem dX9_mendedNow_14 : decode cX9_mendedNow 14 = .ok (.goto 4, 3) := by decide +kernel
theorem dX9_mendedNow_17 : decode cX9_mendedNow 17 = .ok (.iconst (-1), 1) := by decide +kernel
theorem dX9_mendedNow_18 : decode cX9_mendedNow 18 = .ok (.ireturn, 1) := by decide +kernel
theorem dX9_mended_0 : decode cX9_mended 0 = .ok (.aload_n 0, 1) := by decide +kernel
theorem dX9_mended_1 : decode cX9_mended 1 = .ok (.iconst 0, 1) := by decide +kernel
theorem dX9_mended_2 : decode cX9_mended 2 = .ok (.putfield 69, 3) := by decide +kernel
theorem dX9_mended_5 : decode cX9_mended 5 = .ok (.iload_n 1, 1) := by decide +kernel
theorem dX9_mended_6 : decode cX9_mended 6 = .ok (.invokestatic 123, 3) := by decide +kernel
theorem dX9_mended_9 : decode cX9_mended 9 = .ok (.ifCond .eq 19, 3) := by decide +kernel
theorem dX9_mended_12 : decode cX9_mended 12 = .ok (.aload_n 0, 1) := by decide +kernel
theorem dX9_mended_13 : decode cX9_mended 13 = .ok (.aload_n 0, 1) := by decide +kernel
theorem dX9_mended_14 : decode cX9_mended 14 = .ok (.iload_n 1, 1) := by decide +kernel
theorem dX9_mended_15 : decode cX9_mended 15 = .ok (.invokevirtual 134, 3) := by decide +kernel
theorem dX9_mended_18 : decode cX9_mended 18 = .ok (.aload_n 0, 1) := by decide +kernel
theorem dX9_mended_19 : decode cX9_mended 19 = .ok (.invokevirtual 155, 3) := by decide +kernel
theorem dX9_mended_22 : decode cX9_mended 22 = .ok (.invokevirtual 242, 3) := by decide +kernel
theorem dX9_mended_25 : decode cX9_mended 25 = .ok (.goto 8, 3) := by decide +kernel
theorem dX9_mended_28 : decode cX9_mended 28 = .ok (.aload_n 0, 1) := by decide +kernel
theorem dX9_mended_29 : decode cX9_mended 29 = .ok (.iconst 1, 1) := by decide +kernel
theorem dX9_mended_30 : decode cX9_mended 30 = .ok (.invokevirtual 127, 3) := by decide +kernel
theorem dX9_mended_33 : decode cX9_mended 33 = .ok (.ireturn, 1) := by decide +kernel
theorem dX9_data_0 : decode cX9_data 0 = .ok (.aload_n 0, 1) := by decide +kernel
theorem dX9_data_1 : decode cX9_data 1 = .ok (.iconst 0, 1) := by decide +kernel
theorem dX9_data_2 : decode cX9_data 2 = .ok (.putfield 69, 3) := by decide +kernel
theorem dX9_data_5 : decode cX9_data 5 = .ok (.iload_n 1, 1) := by decide +kernel
theorem dX9_data_6 : decode cX9_data 6 = .ok (.invokestatic 123, 3) := by decide +kernel
theorem dX9_data_9 : decode cX9_data 9 = .ok (.ifCond .ne 10, 3) := by decide +kernel
theorem dX9_data_12 : decode cX9_data 12 = .ok (.aload_n 0, 1) := by decide +kernel
theorem dX9_data_13 : decode cX9_data 13 = .ok (.iconst 1, 1) := by decide +kernel
theorem dX9_data_14 : decode cX9_data 14 = .ok (.invokevirtual 127, 3) := by decide +kernel
theorem dX9_data_17 : decode cX9_data 17 = .ok (.i2l, 1) := by decide +kernel
theorem dX9_data_18 : decode cX9_data 18 = .ok (.lreturn, 1) := by decide +kernel
theorem dX9_data_19 : decode cX9_data 19 = .ok (.aload_n 0, 1) := by decide +kernel
theorem dX9_data_20 : decode cX9_data 20 = .ok (.aload_n 0, 1) := by decide +kernel
theorem dX9_data_21 : decode cX9_data 21 = .ok (.iload_n 1, 1) := by decide +kernel
theorem dX9_data_22 : decode cX9_data 22 = .ok (.invokevirtual 134, 3) := by decide +kernel
theorem dX9_data_25 : decode cX9_data 25 = .ok (.aload_n 0, 1) := by decide +kernel
theorem dX9_data_26 : decode cX9_data 26 = .ok (.invokevirtual 155, 3) := by decide +kernel
theorem dX9_data_29 : decode cX9_data 29 = .ok (.invokevirtual 165, 3) := by decide +kernel
theorem dX9_data_32 : decode cX9_data 32 = .ok (.ifCond .eq 13, 3) := by decide +kernel
theorem dX9_data_35 : decode cX9_data 35 = .ok (.aload_n 0, 1) := by decide +kernel
theorem dX9_data_36 : decode cX9_data 36 = .ok (.getfield 45, 3) := by decide +kernel
theorem dX9_data_39 : decode cX9_data 39 = .ok (.invokestatic 228, 3) := by decide +kernel
theorem dX9_data_42 : decode cX9_data 42 = .ok (.goto 6, 3) := by decide +kernel
theorem dX9_data_45 : decode cX9_data 45 = .ok (.ldc2_w 226, 3) := by decide +kernel
theorem dX9_data_48 : decode cX9_data 48 = .ok (.lreturn, 1) := by decide +kernel
theorem dX9_ofChipNow_0 : decode cX9_ofChipNow 0 = .ok (.aload_n 0, 1) := by decide +kernel
theorem dX9_ofChipNow_1 : decode cX9_ofChipNow 1 = .ok (.getfield 27, 3) := by decide +kernel
theorem dX9_ofChipNow_4 : decode cX9_ofChipNow 4 = .ok (.iload_n 1, 1) := by decide +kernel
theorem dX9_ofChipNow_5 : decode cX9_ofChipNow 5 = .ok (.aaload, 1) := by decide +kernel
theorem dX9_ofChipNow_6 : decode cX9_ofChipNow 6 = .ok (.astore_n 3, 1) := by decide +kernel
theorem dX9_ofChipNow_7 : decode cX9_ofChipNow 7 = .ok (.iload_n 2, 1) := by decide +kernel
theorem dX9_ofChipNow_8 : decode cX9_ofChipNow 8 = .ok (.tableswitch 77 0 4 #[36, 41, 46, 51, 64], 36) := by decide +kernel
theorem dX9_ofChipNow_44 : decode cX9_ofChipNow 44 = .ok (.aload_n 3, 1) := by decide +kernel
theorem dX9_ofChipNow_45 : decode cX9_ofChipNow 45 = .ok (.getfield 59, 3) := by decide +kernel
theorem dX9_ofChipNow_48 : decode cX9_ofChipNow 48 = .ok (.ireturn, 1) := by decide +kernel
theorem dX9_ofChipNow_49 : decode cX9_ofChipNow 49 = .ok (.aload_n 3, 1) := by decide +kernel
theorem dX9_ofChipNow_50 : decode cX9_ofChipNow 50 = .ok (.getfield 113, 3) := by decide +kernel
theorem dX9_ofChipNow_53 : decode cX9_ofChipNow 53 = .ok (.ireturn, 1) := by decide +kernel
theorem dX9_ofChipNow_54 : decode cX9_ofChipNow 54 = .ok (.aload_n 3, 1) := by decide +kernel
theorem dX9_ofChipNow_55 : decode cX9_ofChipNow 55 = .ok (.getfield 168, 3) := by decide +kernel
theorem dX9_ofChipNow_58 : decode cX9_ofChipNow 58 = .ok (.ireturn, 1) := by decide +kernel
theorem dX9_ofChipNow_59 : decode cX9_ofChipNow 59 = .ok (.aload_n 3, 1) := by decide +kernel
theorem dX9_ofChipNow_60 : decode cX9_ofChipNow 60 = .ok (.getfield 119, 3) := by decide +kernel
theorem dX9_ofChipNow_63 : decode cX9_ofChipNow 63 = .ok (.ifCond .eq 7, 3) := by decide +kernel
theorem dX9_ofChipNow_66 : decode cX9_ofChipNow 66 = .ok (.iconst 1, 1) := by decide +kernel
theorem dX9_ofChipNow_67 : decode cX9_ofChipNow 67 = .ok (.goto 4, 3) := by decide +kernel
theorem dX9_ofChipNow_70 : decode cX9_ofChipNow 70 = .ok (.iconst 0, 1) := by decide +kernel
theorem dX9_ofChipNow_71 : decode cX9_ofChipNow 71 = .ok (.ireturn, 1) := by decide +kernel
theorem dX9_ofChipNow_72 : decode cX9_ofChipNow 72 = .ok (.aload_n 3, 1) := by decide +kernel
theorem dX9_ofChipNow_73 : decode cX9_ofChipNow 73 = .ok (.getfield 159, 3) := by decide +kernel
theorem dX9_ofChipNow_76 : decode cX9_ofChipNow 76 = .ok (.ifCond .eq 7, 3) := by decide +kernel
theorem dX9_ofChipNow_79 : decode cX9_ofChipNow 79 = .ok (.iconst 1, 1) := by decide +kernel
theorem dX9_ofChipNow_80 : decode cX9_ofChipNow 80 = .ok (.goto 4, 3) := by decide +kernel
theorem dX9_ofChipNow_83 : decode cX9_ofChipNow 83 = .ok (.iconst 0, 1) := by decide +kernel
theorem dX9_ofChipNow_84 : decode cX9_ofChipNow 84 = .ok (.ireturn, 1) := by decide +kernel
theorem dX9_ofChipNow_85 : decode cX9_ofChipNow 85 = .ok (.aload_n 0, 1) := by decide +kernel
theorem dX9_ofChipNow_86 : decode cX9_ofChipNow 86 = .ok (.iload_n 1, 1) := by decide +kernel
theorem dX9_ofChipNow_87 : decode cX9_ofChipNow 87 = .ok (.invokevirtual 149, 3) := by decide +kernel
theorem dX9_ofChipNow_90 : decode cX9_ofChipNow 90 = .ok (.ireturn, 1) := by decide +kernel
theorem dX9_ofChip_0 : decode cX9_ofChip 0 = .ok (.aload_n 0, 1) := by decide +kernel
theorem dX9_ofChip_1 : decode cX9_ofChip 1 = .ok (.iconst 0, 1) := by decide +kernel
theorem dX9_ofChip_2 : decode cX9_ofChip 2 = .ok (.putfield 69, 3) := by decide +kernel
theorem dX9_ofChip_5 : decode cX9_ofChip 5 = .ok (.iload_n 1, 1) := by decide +kernel
theorem dX9_ofChip_6 : decode cX9_ofChip 6 = .ok (.invokestatic 146, 3) := by decide +kernel
theorem dX9_ofChip_9 : decode cX9_ofChip 9 = .ok (.ifCond .ne 9, 3) := by decide +kernel
theorem dX9_ofChip_12 : decode cX9_ofChip 12 = .ok (.aload_n 0, 1) := by decide +kernel
theorem dX9_ofChip_13 : decode cX9_ofChip 13 = .ok (.iconst 1, 1) := by decide +kernel
theorem dX9_ofChip_14 : decode cX9_ofChip 14 = .ok (.invokevirtual 127, 3) := by decide +kernel
theorem dX9_ofChip_17 : decode cX9_ofChip 17 = .ok (.ireturn, 1) := by decide +kernel
theorem dX9_ofChip_18 : decode cX9_ofChip 18 = .ok (.iload_n 2, 1) := by decide +kernel
theorem dX9_ofChip_19 : decode cX9_ofChip 19 = .ok (.iconst 0, 1) := by decide +kernel
theorem dX9_ofChip_20 : decode cX9_ofChip 20 = .ok (.iconst 5, 1) := by decide +kernel
theorem dX9_ofChip_21 : decode cX9_ofChip 21 = .ok (.invokestatic 72, 3) := by decide +kernel
theorem dX9_ofChip_24 : decode cX9_ofChip 24 = .ok (.ifCond .eq 12, 3) := by decide +kernel
theorem dX9_ofChip_27 : decode cX9_ofChip 27 = .ok (.aload_n 0, 1) := by decide +kernel
theorem dX9_ofChip_28 : decode cX9_ofChip 28 = .ok (.iload_n 1, 1) := by decide +kernel
theorem dX9_ofChip_29 : decode cX9_ofChip 29 = .ok (.iload_n 2, 1) := by decide +kernel
theorem dX9_ofChip_30 : decode cX9_ofChip 30 = .ok (.invokevirtual 245, 3) := by decide +kernel
theorem dX9_ofChip_33 : decode cX9_ofChip 33 = .ok (.goto 8, 3) := by decide +kernel
theorem dX9_ofChip_36 : decode cX9_ofChip 36 = .ok (.aload_n 0, 1) := by decide +kernel
theorem dX9_ofChip_37 : decode cX9_ofChip 37 = .ok (.iconst 2, 1) := by decide +kernel
theorem dX9_ofChip_38 : decode cX9_ofChip 38 = .ok (.invokevirtual 127, 3) := by decide +kernel
theorem dX9_ofChip_41 : decode cX9_ofChip 41 = .ok (.ireturn, 1) := by decide +kernel
theorem dX9_stored_0 : decode cX9_stored 0 = .ok (.aload_n 0, 1) := by decide +kernel
theorem dX9_stored_1 : decode cX9_stored 1 = .ok (.iconst 0, 1) := by decide +kernel
theorem dX9_stored_2 : decode cX9_stored 2 = .ok (.putfield 69, 3) := by decide +kernel
theorem dX9_stored_5 : decode cX9_stored 5 = .ok (.iload_n 1, 1) := by decide +kernel
theorem dX9_stored_6 : decode cX9_stored 6 = .ok (.invokestatic 146, 3) := by decide +kernel
theorem dX9_stored_9 : decode cX9_stored 9 = .ok (.ifCond .eq 24, 3) := by decide +kernel
theorem dX9_stored_12 : decode cX9_stored 12 = .ok (.iload_n 2, 1) := by decide +kernel
theorem dX9_stored_13 : decode cX9_stored 13 = .ok (.invokestatic 123, 3) := by decide +kernel
theorem dX9_stored_16 : decode cX9_stored 16 = .ok (.ifCond .eq 17, 3) := by decide +kernel
theorem dX9_stored_19 : decode cX9_stored 19 = .ok (.aload_n 0, 1) := by decide +kernel
theorem dX9_stored_20 : decode cX9_stored 20 = .ok (.getfield 16, 3) := by decide +kernel
theorem dX9_stored_23 : decode cX9_stored 23 = .ok (.iload_n 1, 1) := by decide +kernel
theorem dX9_stored_24 : decode cX9_stored 24 = .ok (.bipush 16, 2) := by decide +kernel
theorem dX9_stored_26 : decode cX9_stored 26 = .ok (.imul, 1) := by decide +kernel
theorem dX9_stored_27 : decode cX9_stored 27 = .ok (.iload_n 2, 1) := by decide +kernel
theorem dX9_stored_28 : decode cX9_stored 28 = .ok (.iadd, 1) := by decide +kernel
theorem dX9_stored_29 : decode cX9_stored 29 = .ok (.iaload, 1) := by decide +kernel
theorem dX9_stored_30 : decode cX9_stored 30 = .ok (.goto 8, 3) := by decide +kernel
theorem dX9_stored_33 : decode cX9_stored 33 = .ok (.aload_n 0, 1) := by decide +kernel
theorem dX9_stored_34 : decode cX9_stored 34 = .ok (.iconst 1, 1) := by decide +kernel
theorem dX9_stored_35 : decode cX9_stored 35 = .ok (.invokevirtual 127, 3) := by decide +kernel
theorem dX9_stored_38 : decode cX9_stored 38 = .ok (.ireturn, 1) := by decide +kernel
theorem dX9_ofFrameNow_0 : decode cX9_ofFrameNow 0 = .ok (.aload_n 0, 1) := by decide +kernel
theorem dX9_ofFrameNow_1 : decode cX9_ofFrameNow 1 = .ok (.getfield 37, 3) := by decide +kernel
theorem dX9_ofFrameNow_4 : decode cX9_ofFrameNow 4 = .ok (.iload_n 1, 1) := by decide +kernel
theorem dX9_ofFrameNow_5 : decode cX9_ofFrameNow 5 = .ok (.invokevirtual 190, 3) := by decide +kernel
theorem dX9_ofFrameNow_8 : decode cX9_ofFrameNow 8 = .ok (.checkcast 62, 3) := by decide +kernel
theorem dX9_ofFrameNow_11 : decode cX9_ofFrameNow 11 = .ok (.astore_n 3, 1) := by decide +kernel
theorem dX9_ofFrameNow_12 : decode cX9_ofFrameNow 12 = .ok (.iload_n 2, 1) := by decide +kernel
theorem dX9_ofFrameNow_13 : decode cX9_ofFrameNow 13 = .ok (.ifCond .ne 10, 3) := by decide +kernel
theorem dX9_ofFrameNow_16 : decode cX9_ofFrameNow 16 = .ok (.aload_n 3, 1) := by decide +kernel
theorem dX9_ofFrameNow_17 : decode cX9_ofFrameNow 17 = .ok (.getfield 194, 3) := by decide +kernel
theorem dX9_ofFrameNow_20 : decode cX9_ofFrameNow 20 = .ok (.goto 27, 3) := by decide +kernel
theorem dX9_ofFrameNow_23 : decode cX9_ofFrameNow 23 = .ok (.iload_n 2, 1) := by decide +kernel
theorem dX9_ofFrameNow_24 : decode cX9_ofFrameNow 24 = .ok (.iconst 1, 1) := by decide +kernel
theorem dX9_ofFrameNow_25 : decode cX9_ofFrameNow 25 = .ok (.if_icmp .ne 18, 3) := by decide +kernel
theorem dX9_ofFrameNow_28 : decode cX9_ofFrameNow 28 = .ok (.aload_n 3, 1) := by decide +kernel
theorem dX9_ofFrameNow_29 : decode cX9_ofFrameNow 29 = .ok (.getfield 203, 3) := by decide +kernel
theorem dX9_ofFrameNow_32 : decode cX9_ofFrameNow 32 = .ok (.ifCond .eq 7, 3) := by decide +kernel
theorem dX9_ofFrameNow_35 : decode cX9_ofFrameNow 35 = .ok (.iconst 1, 1) := by decide +kernel
theorem dX9_ofFrameNow_36 : decode cX9_ofFrameNow 36 = .ok (.goto 11, 3) := by decide +kernel
theorem dX9_ofFrameNow_39 : decode cX9_ofFrameNow 39 = .ok (.iconst 0, 1) := by decide +kernel
theorem dX9_ofFrameNow_40 : decode cX9_ofFrameNow 40 = .ok (.goto 7, 3) := by decide +kernel
theorem dX9_ofFrameNow_43 : decode cX9_ofFrameNow 43 = .ok (.aload_n 3, 1) := by decide +kernel
theorem dX9_ofFrameNow_44 : decode cX9_ofFrameNow 44 = .ok (.getfield 200, 3) := by decide +kernel
theorem dX9_ofFrameNow_47 : decode cX9_ofFrameNow 47 = .ok (.ireturn, 1) := by decide +kernel
theorem dX9_ofFrame_0 : decode cX9_ofFrame 0 = .ok (.aload_n 0, 1) := by decide +kernel
theorem dX9_ofFrame_1 : decode cX9_ofFrame 1 = .ok (.iconst 0, 1) := by decide +kernel
theorem dX9_ofFrame_2 : decode cX9_ofFrame 2 = .ok (.putfield 69, 3) := by decide +kernel
theorem dX9_ofFrame_5 : decode cX9_ofFrame 5 = .ok (.iload_n 1, 1) := by decide +kernel
theorem dX9_ofFrame_6 : decode cX9_ofFrame 6 = .ok (.iconst 0, 1) := by decide +kernel
theorem dX9_ofFrame_7 : decode cX9_ofFrame 7 = .ok (.iconst 3, 1) := by decide +kernel
theorem dX9_ofFrame_8 : decode cX9_ofFrame 8 = .ok (.invokestatic 72, 3) := by decide +kernel
theorem dX9_ofFrame_11 : decode cX9_ofFrame 11 = .ok (.ifCond .ne 9, 3) := by decide +kernel
theorem dX9_ofFrame_14 : decode cX9_ofFrame 14 = .ok (.aload_n 0, 1) := by decide +kernel
theorem dX9_ofFrame_15 : decode cX9_ofFrame 15 = .ok (.iconst 1, 1) := by decide +kernel
theorem dX9_ofFrame_16 : decode cX9_ofFrame 16 = .ok (.invokevirtual 127, 3) := by decide +kernel
theorem dX9_ofFrame_19 : decode cX9_ofFrame 19 = .ok (.ireturn, 1) := by decide +kernel
theorem dX9_ofFrame_20 : decode cX9_ofFrame 20 = .ok (.iload_n 2, 1) := by decide +kernel
theorem dX9_ofFrame_21 : decode cX9_ofFrame 21 = .ok (.iconst 0, 1) := by decide +kernel
theorem dX9_ofFrame_22 : decode cX9_ofFrame 22 = .ok (.iconst 2, 1) := by decide +kernel
theorem dX9_ofFrame_23 : decode cX9_ofFrame 23 = .ok (.invokestatic 72, 3) := by decide +kernel
theorem dX9_ofFrame_26 : decode cX9_ofFrame 26 = .ok (.ifCond .eq 12, 3) := by decide +kernel
theorem dX9_ofFrame_29 : decode cX9_ofFrame 29 = .ok (.aload_n 0, 1) := by decide +kernel
theorem dX9_ofFrame_30 : decode cX9_ofFrame 30 = .ok (.iload_n 1, 1) := by decide +kernel
theorem dX9_ofFrame_31 : decode cX9_ofFrame 31 = .ok (.iload_n 2, 1) := by decide +kernel
theorem dX9_ofFrame_32 : decode cX9_ofFrame 32 = .ok (.invokevirtual 248, 3) := by decide +kernel
theorem dX9_ofFrame_35 : decode cX9_ofFrame 35 = .ok (.goto 8, 3) := by decide +kernel
theorem dX9_ofFrame_38 : decode cX9_ofFrame 38 = .ok (.aload_n 0, 1) := by decide +kernel
theorem dX9_ofFrame_39 : decode cX9_ofFrame 39 = .ok (.iconst 2, 1) := by decide +kernel
theorem dX9_ofFrame_40 : decode cX9_ofFrame 40 = .ok (.invokevirtual 127, 3) := by decide +kernel
theorem dX9_ofFrame_43 : decode cX9_ofFrame 43 = .ok (.ireturn, 1) := by decide +kernel
theorem dX9_heldNow_0 : decode cX9_heldNow 0 = .ok (.aload_n 0, 1) := by decide +kernel
theorem dX9_heldNow_1 : decode cX9_heldNow 1 = .ok (.getfield 37, 3) := by decide +kernel
theorem dX9_heldNow_4 : decode cX9_heldNow 4 = .ok (.iload_n 1, 1) := by decide +kernel
theorem dX9_heldNow_5 : decode cX9_heldNow 5 = .ok (.invokevirtual 190, 3) := by decide +kernel
theorem dX9_heldNow_8 : decode cX9_heldNow 8 = .ok (.checkcast 62, 3) := by decide +kernel
theorem dX9_heldNow_11 : decode cX9_heldNow 11 = .ok (.getfield 194, 3) := by decide +kernel
theorem dX9_heldNow_14 : decode cX9_heldNow 14 = .ok (.iconst (-1), 1) := by decide +kernel
theorem dX9_heldNow_15 : decode cX9_heldNow 15 = .ok (.if_icmp .ne 9, 3) := by decide +kernel
theorem dX9_heldNow_18 : decode cX9_heldNow 18 = .ok (.ldc2_w 226, 3) := by decide +kernel
theorem dX9_heldNow_21 : decode cX9_heldNow 21 = .ok (.goto 17, 3) := by decide +kernel
theorem dX9_heldNow_24 : decode cX9_heldNow 24 = .ok (.aload_n 0, 1) := by decide +kernel
theorem dX9_heldNow_25 : decode cX9_heldNow 25 = .ok (.getfield 37, 3) := by decide +kernel
theorem dX9_heldNow_28 : decode cX9_heldNow 28 = .ok (.iload_n 1, 1) := by decide +kernel
theorem dX9_heldNow_29 : decode cX9_heldNow 29 = .ok (.invokevirtual 190, 3) := by decide +kernel
theorem dX9_heldNow_32 : decode cX9_heldNow 32 = .ok (.checkcast 62, 3) := by decide +kernel
theorem dX9_heldNow_35 : decode cX9_heldNow 35 = .ok (.getfield 206, 3) := by decide +kernel
theorem dX9_heldNow_38 : decode cX9_heldNow 38 = .ok (.lreturn, 1) := by decide +kernel
theorem dX9_held_0 : decode cX9_held 0 = .ok (.aload_n 0, 1) := by decide +kernel
theorem dX9_held_1 : decode cX9_held 1 = .ok (.iconst 0, 1) := by decide +kernel
theorem dX9_held_2 : decode cX9_held 2 = .ok (.putfield 69, 3) := by decide +kernel
theorem dX9_held_5 : decode cX9_held 5 = .ok (.iload_n 1, 1) := by decide +kernel
theorem dX9_held_6 : decode cX9_held 6 = .ok (.iconst 0, 1) := by decide +kernel
theorem dX9_held_7 : decode cX9_held 7 = .ok (.iconst 3, 1) := by decide +kernel
theorem dX9_held_8 : decode cX9_held 8 = .ok (.invokestatic 72, 3) := by decide +kernel
theorem dX9_held_11 : decode cX9_held 11 = .ok (.ifCond .eq 11, 3) := by decide +kernel
theorem dX9_held_14 : decode cX9_held 14 = .ok (.aload_n 0, 1) := by decide +kernel
theorem dX9_held_15 : decode cX9_held 15 = .ok (.iload_n 1, 1) := by decide +kernel
theorem dX9_held_16 : decode cX9_held 16 = .ok (.invokevirtual 251, 3) := by decide +kernel
theorem dX9_held_19 : decode cX9_held 19 = .ok (.goto 9, 3) := by decide +kernel
theorem dX9_held_22 : decode cX9_held 22 = .ok (.aload_n 0, 1) := by decide +kernel
theorem dX9_held_23 : decode cX9_held 23 = .ok (.iconst 1, 1) := by decide +kernel
theorem dX9_held_24 : decode cX9_held 24 = .ok (.invokevirtual 127, 3) := by decide +kernel
theorem dX9_held_27 : decode cX9_held 27 = .ok (.i2l, 1) := by decide +kernel
theorem dX9_held_28 : decode cX9_held 28 = .ok (.lreturn, 1) := by decide +kernel
theorem dX9_bad_0 : decode cX9_bad 0 = .ok (.iconst 0, 1) := by decide +kernel
theorem dX9_bad_1 : decode cX9_bad 1 = .ok (.istore_n 1, 1) := by decide +kernel
theorem dX9_bad_2 : decode cX9_bad 2 = .ok (.iconst 0, 1) := by decide +kernel
theorem dX9_bad_3 : decode cX9_bad 3 = .ok (.istore_n 2, 1) := by decide +kernel
theorem dX9_bad_4 : decode cX9_bad 4 = .ok (.iload_n 2, 1) := by decide +kernel
theorem dX9_bad_5 : decode cX9_bad 5 = .ok (.bipush 16, 2) := by decide +kernel
theorem dX9_bad_7 : decode cX9_bad 7 = .ok (.if_icmp .ge 33, 3) := by decide +kernel
theorem dX9_bad_10 : decode cX9_bad 10 = .ok (.iload_n 1, 1) := by decide +kernel
theorem dX9_bad_11 : decode cX9_bad 11 = .ok (.aload_n 0, 1) := by decide +kernel
theorem dX9_bad_12 : decode cX9_bad 12 = .ok (.aload_n 0, 1) := by decide +kernel
theorem dX9_bad_13 : decode cX9_bad 13 = .ok (.iload_n 2, 1) := by decide +kernel
theorem dX9_bad_14 : decode cX9_bad 14 = .ok (.invokevirtual 134, 3) := by decide +kernel
theorem dX9_bad_17 : decode cX9_bad 17 = .ok (.aload_n 0, 1) := by decide +kernel
theorem dX9_bad_18 : decode cX9_bad 18 = .ok (.invokevirtual 155, 3) := by decide +kernel
theorem dX9_bad_21 : decode cX9_bad 21 = .ok (.invokevirtual 165, 3) := by decide +kernel
theorem dX9_bad_24 : decode cX9_bad 24 = .ok (.ifCond .eq 7, 3) := by decide +kernel
theorem dX9_bad_27 : decode cX9_bad 27 = .ok (.iconst 0, 1) := by decide +kernel
theorem dX9_bad_28 : decode cX9_bad 28 = .ok (.goto 4, 3) := by decide +kernel
theorem dX9_bad_31 : decode cX9_bad 31 = .ok (.iconst 1, 1) := by decide +kernel
theorem dX9_bad_32 : decode cX9_bad 32 = .ok (.iadd, 1) := by decide +kernel
theorem dX9_bad_33 : decode cX9_bad 33 = .ok (.istore_n 1, 1) := by decide +kernel
theorem dX9_bad_34 : decode cX9_bad 34 = .ok (.iinc 2 1, 3) := by decide +kernel
theorem dX9_bad_37 : decode cX9_bad 37 = .ok (.goto (-33), 3) := by decide +kernel
theorem dX9_bad_40 : decode cX9_bad 40 = .ok (.iload_n 1, 1) := by decide +kernel
theorem dX9_bad_41 : decode cX9_bad 41 = .ok (.ireturn, 1) := by decide +kernel
theorem dX9_out_0 : decode cX9_out 0 = .ok (.iconst 0, 1) := by decide +kernel
theorem dX9_out_1 : decode cX9_out 1 = .ok (.istore_n 1, 1) := by decide +kernel
theorem dX9_out_2 : decode cX9_out 2 = .ok (.aload_n 0, 1) := by decide +kernel
theorem dX9_out_3 : decode cX9_out 3 = .ok (.getfield 27, 3) := by decide +kernel
theorem dX9_out_6 : decode cX9_out 6 = .ok (.astore_n 2, 1) := by decide +kernel
theorem dX9_out_7 : decode cX9_out 7 = .ok (.aload_n 2, 1) := by decide +kernel
theorem dX9_out_8 : decode cX9_out 8 = .ok (.arraylength, 1) := by decide +kernel
theorem dX9_out_9 : decode cX9_out 9 = .ok (.istore_n 3, 1) := by decide +kernel
theorem dX9_out_10 : decode cX9_out 10 = .ok (.iconst 0, 1) := by decide +kernel
theorem dX9_out_11 : decode cX9_out 11 = .ok (.istore 4, 2) := by decide +kernel
theorem dX9_out_13 : decode cX9_out 13 = .ok (.iload 4, 2) := by decide +kernel
theorem dX9_out_15 : decode cX9_out 15 = .ok (.iload_n 3, 1) := by decide +kernel
theorem dX9_out_16 : decode cX9_out 16 = .ok (.if_icmp .ge 31, 3) := by decide +kernel
theorem dX9_out_19 : decode cX9_out 19 = .ok (.aload_n 2, 1) := by decide +kernel
theorem dX9_out_20 : decode cX9_out 20 = .ok (.iload 4, 2) := by decide +kernel
theorem dX9_out_22 : decode cX9_out 22 = .ok (.aaload, 1) := by decide +kernel
theorem dX9_out_23 : decode cX9_out 23 = .ok (.astore 5, 2) := by decide +kernel
theorem dX9_out_25 : decode cX9_out 25 = .ok (.iload_n 1, 1) := by decide +kernel
theorem dX9_out_26 : decode cX9_out 26 = .ok (.aload 5, 2) := by decide +kernel
theorem dX9_out_28 : decode cX9_out 28 = .ok (.getfield 159, 3) := by decide +kernel
theorem dX9_out_31 : decode cX9_out 31 = .ok (.ifCond .eq 7, 3) := by decide +kernel
theorem dX9_out_34 : decode cX9_out 34 = .ok (.iconst 1, 1) := by decide +kernel
theorem dX9_out_35 : decode cX9_out 35 = .ok (.goto 4, 3) := by decide +kernel
theorem dX9_out_38 : decode cX9_out 38 = .ok (.iconst 0, 1) := by decide +kernel
theorem dX9_out_39 : decode cX9_out 39 = .ok (.iadd, 1) := by decide +kernel
theorem dX9_out_40 : decode cX9_out 40 = .ok (.istore_n 1, 1) := by decide +kernel
theorem dX9_out_41 : decode cX9_out 41 = .ok (.iinc 4 1, 3) := by decide +kernel
theorem dX9_out_44 : decode cX9_out 44 = .ok (.goto (-31), 3) := by decide +kernel
theorem dX9_out_47 : decode cX9_out 47 = .ok (.iload_n 1, 1) := by decide +kernel
theorem dX9_out_48 : decode cX9_out 48 = .ok (.ireturn, 1) := by decide +kernel
theorem dX9_bankNow_0 : decode cX9_bankNow 0 = .ok (.iload_n 1, 1) := by decide +kernel
theorem dX9_bankNow_1 : decode cX9_bankNow 1 = .ok (.tableswitch 123 0 11 #[63, 68, 73, 78, 83, 91, 96, 101, 106, 111, 116, 118], 63) := by decide +kernel
theorem dX9_bankNow_64 : decode cX9_bankNow 64 = .ok (.aload_n 0, 1) := by decide +kernel
theorem dX9_bankNow_65 : decode cX9_bankNow 65 = .ok (.getfield 171, 3) := by decide +kernel
theorem dX9_bankNow_68 : decode cX9_bankNow 68 = .ok (.ireturn, 1) := by decide +kernel
theorem dX9_bankNow_69 : decode cX9_bankNow 69 = .ok (.aload_n 0, 1) := by decide +kernel
theorem dX9_bankNow_70 : decode cX9_bankNow 70 = .ok (.getfield 181, 3) := by decide +kernel
theorem dX9_bankNow_73 : decode cX9_bankNow 73 = .ok (.ireturn, 1) := by decide +kernel
theorem dX9_bankNow_74 : decode cX9_bankNow 74 = .ok (.aload_n 0, 1) := by decide +kernel
theorem dX9_bankNow_75 : decode cX9_bankNow 75 = .ok (.getfield 178, 3) := by decide +kernel
theorem dX9_bankNow_78 : decode cX9_bankNow 78 = .ok (.ireturn, 1) := by decide +kernel
theorem dX9_bankNow_79 : decode cX9_bankNow 79 = .ok (.aload_n 0, 1) := by decide +kernel
theorem dX9_bankNow_80 : decode cX9_bankNow 80 = .ok (.invokevirtual 162, 3) := by decide +kernel
theorem dX9_bankNow_83 : decode cX9_bankNow 83 = .ok (.ireturn, 1) := by decide +kernel
theorem dX9_bankNow_84 : decode cX9_bankNow 84 = .ok (.aload_n 0, 1) := by decide +kernel
theorem dX9_bankNow_85 : decode cX9_bankNow 85 = .ok (.invokevirtual 155, 3) := by decide +kernel
theorem dX9_bankNow_88 : decode cX9_bankNow 88 = .ok (.invokestatic 102, 3) := by decide +kernel
theorem dX9_bankNow_91 : decode cX9_bankNow 91 = .ok (.ireturn, 1) := by decide +kernel
theorem dX9_bankNow_92 : decode cX9_bankNow 92 = .ok (.aload_n 0, 1) := by decide +kernel
theorem dX9_bankNow_93 : decode cX9_bankNow 93 = .ok (.invokevirtual 255, 3) := by decide +kernel
theorem dX9_bankNow_96 : decode cX9_bankNow 96 = .ok (.ireturn, 1) := by decide +kernel
theorem dX9_bankNow_97 : decode cX9_bankNow 97 = .ok (.aload_n 0, 1) := by decide +kernel
theorem dX9_bankNow_98 : decode cX9_bankNow 98 = .ok (.getfield 187, 3) := by decide +kernel
theorem dX9_bankNow_101 : decode cX9_bankNow 101 = .ok (.ireturn, 1) := by decide +kernel
theorem dX9_bankNow_102 : decode cX9_bankNow 102 = .ok (.aload_n 0, 1) := by decide +kernel
theorem dX9_bankNow_103 : decode cX9_bankNow 103 = .ok (.getfield 220, 3) := by decide +kernel
theorem dX9_bankNow_106 : decode cX9_bankNow 106 = .ok (.ireturn, 1) := by decide +kernel
theorem dX9_bankNow_107 : decode cX9_bankNow 107 = .ok (.aload_n 0, 1) := by decide +kernel
theorem dX9_bankNow_108 : decode cX9_bankNow 108 = .ok (.getfield 223, 3) := by decide +kernel
theorem dX9_bankNow_111 : decode cX9_bankNow 111 = .ok (.ireturn, 1) := by decide +kernel
theorem dX9_bankNow_112 : decode cX9_bankNow 112 = .ok (.aload_n 0, 1) := by decide +kernel
theorem dX9_bankNow_113 : decode cX9_bankNow 113 = .ok (.invokevirtual 236, 3) := by decide +kernel
theorem dX9_bankNow_116 : decode cX9_bankNow 116 = .ok (.ireturn, 1) := by decide +kernel
theorem dX9_bankNow_117 : decode cX9_bankNow 117 = .ok (.iload_n 2, 1) := by decide +kernel
theorem dX9_bankNow_118 : decode cX9_bankNow 118 = .ok (.ireturn, 1) := by decide +kernel
theorem dX9_bankNow_119 : decode cX9_bankNow 119 = .ok (.aload_n 0, 1) := by decide +kernel
theorem dX9_bankNow_120 : decode cX9_bankNow 120 = .ok (.getfield 41, 3) := by decide +kernel
theorem dX9_bankNow_123 : decode cX9_bankNow 123 = .ok (.ireturn, 1) := by decide +kernel
theorem dX9_bankNow_124 : decode cX9_bankNow 124 = .ok (.aload_n 0, 1) := by decide +kernel
theorem dX9_bankNow_125 : decode cX9_bankNow 125 = .ok (.getfield 239, 3) := by decide +kernel
theorem dX9_bankNow_128 : decode cX9_bankNow 128 = .ok (.ireturn, 1) := by decide +kernel
theorem dX9_bank_0 : decode cX9_bank 0 = .ok (.aload_n 0, 1) := by decide +kernel
theorem dX9_bank_1 : decode cX9_bank 1 = .ok (.iconst 0, 1) := by decide +kernel
theorem dX9_bank_2 : decode cX9_bank 2 = .ok (.putfield 69, 3) := by decide +kernel
theorem dX9_bank_5 : decode cX9_bank 5 = .ok (.iload_n 1, 1) := by decide +kernel
theorem dX9_bank_6 : decode cX9_bank 6 = .ok (.iconst 0, 1) := by decide +kernel
theorem dX9_bank_7 : decode cX9_bank 7 = .ok (.bipush 12, 2) := by decide +kernel
theorem dX9_bank_9 : decode cX9_bank 9 = .ok (.invokestatic 72, 3) := by decide +kernel
theorem dX9_bank_12 : decode cX9_bank 12 = .ok (.ifCond .eq 25, 3) := by decide +kernel
theorem dX9_bank_15 : decode cX9_bank 15 = .ok (.aload_n 0, 1) := by decide +kernel
theorem dX9_bank_16 : decode cX9_bank 16 = .ok (.iload_n 1, 1) := by decide +kernel
theorem dX9_bank_17 : decode cX9_bank 17 = .ok (.iload_n 1, 1) := by decide +kernel
theorem dX9_bank_18 : decode cX9_bank 18 = .ok (.bipush 10, 2) := by decide +kernel
theorem dX9_bank_20 : decode cX9_bank 20 = .ok (.if_icmp .ne 10, 3) := by decide +kernel
theorem dX9_bank_23 : decode cX9_bank 23 = .ok (.aload_n 0, 1) := by decide +kernel
theorem dX9_bank_24 : decode cX9_bank 24 = .ok (.invokevirtual 258, 3) := by decide +kernel
theorem dX9_bank_27 : decode cX9_bank 27 = .ok (.goto 4, 3) := by decide +kernel
theorem dX9_bank_30 : decode cX9_bank 30 = .ok (.iconst 0, 1) := by decide +kernel
theorem dX9_bank_31 : decode cX9_bank 31 = .ok (.invokevirtual 261, 3) := by decide +kernel
theorem dX9_bank_34 : decode cX9_bank 34 = .ok (.goto 8, 3) := by decide +kernel
theorem dX9_bank_37 : decode cX9_bank 37 = .ok (.aload_n 0, 1) := by decide +kernel
theorem dX9_bank_38 : decode cX9_bank 38 = .ok (.iconst 1, 1) := by decide +kernel
theorem dX9_bank_39 : decode cX9_bank 39 = .ok (.invokevirtual 127, 3) := by decide +kernel
theorem dX9_bank_42 : decode cX9_bank 42 = .ok (.ireturn, 1) := by decide +kernel
theorem dX9_row_0 : decode cX9_row 0 = .ok (.aload_n 0, 1) := by decide +kernel
theorem dX9_row_1 : decode cX9_row 1 = .ok (.iload_n 1, 1) := by decide +kernel
theorem dX9_row_2 : decode cX9_row 2 = .ok (.invokestatic 123, 3) := by decide +kernel
theorem dX9_row_5 : decode cX9_row 5 = .ok (.ifCond .eq 7, 3) := by decide +kernel
theorem dX9_row_8 : decode cX9_row 8 = .ok (.iconst 0, 1) := by decide +kernel
theorem dX9_row_9 : decode cX9_row 9 = .ok (.goto 4, 3) := by decide +kernel
theorem dX9_row_12 : decode cX9_row 12 = .ok (.iconst 1, 1) := by decide +kernel
theorem dX9_row_13 : decode cX9_row 13 = .ok (.putfield 69, 3) := by decide +kernel
theorem dX9_row_16 : decode cX9_row 16 = .ok (.aload_n 0, 1) := by decide +kernel
theorem dX9_row_17 : decode cX9_row 17 = .ok (.getfield 69, 3) := by decide +kernel
theorem dX9_row_20 : decode cX9_row 20 = .ok (.ifCond .le 7, 3) := by decide +kernel
theorem dX9_row_23 : decode cX9_row 23 = .ok (.ldc_w 264, 3) := by decide +kernel
theorem dX9_row_26 : decode cX9_row 26 = .ok (.areturn, 1) := by decide +kernel
theorem dX9_row_27 : decode cX9_row 27 = .ok (.new 266, 3) := by decide +kernel
theorem dX9_row_30 : decode cX9_row 30 = .ok (.dup, 1) := by decide +kernel
theorem dX9_row_31 : decode cX9_row 31 = .ok (.invokespecial 268, 3) := by decide +kernel
theorem dX9_row_34 : decode cX9_row 34 = .ok (.astore_n 2, 1) := by decide +kernel
theorem dX9_row_35 : decode cX9_row 35 = .ok (.aload_n 0, 1) := by decide +kernel
theorem dX9_row_36 : decode cX9_row 36 = .ok (.iload_n 1, 1) := by decide +kernel
theorem dX9_row_37 : decode cX9_row 37 = .ok (.invokevirtual 134, 3) := by decide +kernel
theorem dX9_row_40 : decode cX9_row 40 = .ok (.astore_n 3, 1) := by decide +kernel
theorem dX9_row_41 : decode cX9_row 41 = .ok (.aload_n 0, 1) := by decide +kernel
theorem dX9_row_42 : decode cX9_row 42 = .ok (.invokevirtual 155, 3) := by decide +kernel
theorem dX9_row_45 : decode cX9_row 45 = .ok (.istore 4, 2) := by decide +kernel
theorem dX9_row_47 : decode cX9_row 47 = .ok (.iconst 0, 1) := by decide +kernel
theorem dX9_row_48 : decode cX9_row 48 = .ok (.istore 5, 2) := by decide +kernel
theorem dX9_row_50 : decode cX9_row 50 = .ok (.iload 5, 2) := by decide +kernel
theorem dX9_row_52 : decode cX9_row 52 = .ok (.bipush 15, 2) := by decide +kernel
theorem dX9_row_54 : decode cX9_row 54 = .ok (.if_icmp .ge 63, 3) := by decide +kernel
theorem dX9_row_57 : decode cX9_row 57 = .ok (.aload_n 3, 1) := by decide +kernel
theorem dX9_row_58 : decode cX9_row 58 = .ok (.iload 5, 2) := by decide +kernel
theorem dX9_row_60 : decode cX9_row 60 = .ok (.iaload, 1) := by decide +kernel
theorem dX9_row_61 : decode cX9_row 61 = .ok (.istore 6, 2) := by decide +kernel
theorem dX9_row_63 : decode cX9_row 63 = .ok (.iload 6, 2) := by decide +kernel
theorem dX9_row_65 : decode cX9_row 65 = .ok (.bipush 10, 2) := by decide +kernel
theorem dX9_row_67 : decode cX9_row 67 = .ok (.if_icmp .ge 11, 3) := by decide +kernel
theorem dX9_row_70 : decode cX9_row 70 = .ok (.bipush 48, 2) := by decide +kernel
theorem dX9_row_72 : decode cX9_row 72 = .ok (.iload 6, 2) := by decide +kernel
theorem dX9_row_74 : decode cX9_row 74 = .ok (.iadd, 1) := by decide +kernel
theorem dX9_row_75 : decode cX9_row 75 = .ok (.goto 11, 3) := by decide +kernel
theorem dX9_row_78 : decode cX9_row 78 = .ok (.bipush 97, 2) := by decide +kernel
theorem dX9_row_80 : decode cX9_row 80 = .ok (.iload 6, 2) := by decide +kernel
theorem dX9_row_82 : decode cX9_row 82 = .ok (.iadd, 1) := by decide +kernel
theorem dX9_row_83 : decode cX9_row 83 = .ok (.bipush 10, 2) := by decide +kernel
theorem dX9_row_85 : decode cX9_row 85 = .ok (.isub, 1) := by decide +kernel
theorem dX9_row_86 : decode cX9_row 86 = .ok (.i2c, 1) := by decide +kernel
theorem dX9_row_87 : decode cX9_row 87 = .ok (.istore 7, 2) := by decide +kernel
theorem dX9_row_89 : decode cX9_row 89 = .ok (.aload_n 2, 1) := by decide +kernel
theorem dX9_row_90 : decode cX9_row 90 = .ok (.iload 4, 2) := by decide +kernel
theorem dX9_row_92 : decode cX9_row 92 = .ok (.iload 5, 2) := by decide +kernel
theorem dX9_row_94 : decode cX9_row 94 = .ok (.invokestatic 85, 3) := by decide +kernel
theorem dX9_row_97 : decode cX9_row 97 = .ok (.ifCond .eq 8, 3) := by decide +kernel
theorem dX9_row_100 : decode cX9_row 100 = .ok (.bipush 63, 2) := by decide +kernel
theorem dX9_row_102 : decode cX9_row 102 = .ok (.goto 5, 3) := by decide +kernel
theorem dX9_row_105 : decode cX9_row 105 = .ok (.iload 7, 2) := by decide +kernel
theorem dX9_row_107 : decode cX9_row 107 = .ok (.invokevirtual 269, 3) := by decide +kernel
theorem dX9_row_110 : decode cX9_row 110 = .ok (.pop, 1) := by decide +kernel
theorem dX9_row_111 : decode cX9_row 111 = .ok (.iinc 5 1, 3) := by decide +kernel
theorem dX9_row_114 : decode cX9_row 114 = .ok (.goto (-64), 3) := by decide +kernel
theorem dX9_row_117 : decode cX9_row 117 = .ok (.aload_n 2, 1) := by decide +kernel
theorem dX9_row_118 : decode cX9_row 118 = .ok (.invokevirtual 273, 3) := by decide +kernel
theorem dX9_row_121 : decode cX9_row 121 = .ok (.areturn, 1) := by decide +kernel
theorem dX9_wouldMend_0 : decode cX9_wouldMend 0 = .ok (.aload_n 0, 1) := by decide +kernel
theorem dX9_wouldMend_1 : decode cX9_wouldMend 1 = .ok (.iconst 0, 1) := by decide +kernel
theorem dX9_wouldMend_2 : decode cX9_wouldMend 2 = .ok (.putfield 69, 3) := by decide +kernel
theorem dX9_wouldMend_5 : decode cX9_wouldMend 5 = .ok (.iload_n 1, 1) := by decide +kernel
theorem dX9_wouldMend_6 : decode cX9_wouldMend 6 = .ok (.invokestatic 123, 3) := by decide +kernel
theorem dX9_wouldMend_9 : decode cX9_wouldMend 9 = .ok (.ifCond .ne 9, 3) := by decide +kernel
theorem dX9_wouldMend_12 : decode cX9_wouldMend 12 = .ok (.aload_n 0, 1) := by decide +kernel
theorem dX9_wouldMend_13 : decode cX9_wouldMend 13 = .ok (.iconst 1, 1) := by decide +kernel
theorem dX9_wouldMend_14 : decode cX9_wouldMend 14 = .ok (.invokevirtual 127, 3) := by decide +kernel
theorem dX9_wouldMend_17 : decode cX9_wouldMend 17 = .ok (.ireturn, 1) := by decide +kernel
theorem dX9_wouldMend_18 : decode cX9_wouldMend 18 = .ok (.iload_n 2, 1) := by decide +kernel
theorem dX9_wouldMend_19 : decode cX9_wouldMend 19 = .ok (.iconst 0, 1) := by decide +kernel
theorem dX9_wouldMend_20 : decode cX9_wouldMend 20 = .ok (.sipush 32767, 3) := by decide +kernel
theorem dX9_wouldMend_23 : decode cX9_wouldMend 23 = .ok (.invokestatic 72, 3) := by decide +kernel
theorem dX9_wouldMend_26 : decode cX9_wouldMend 26 = .ok (.ifCond .ne 9, 3) := by decide +kernel
theorem dX9_wouldMend_29 : decode cX9_wouldMend 29 = .ok (.aload_n 0, 1) := by decide +kernel
theorem dX9_wouldMend_30 : decode cX9_wouldMend 30 = .ok (.iconst 2, 1) := by decide +kernel
theorem dX9_wouldMend_31 : decode cX9_wouldMend 31 = .ok (.invokevirtual 127, 3) := by decide +kernel
theorem dX9_wouldMend_34 : decode cX9_wouldMend 34 = .ok (.ireturn, 1) := by decide +kernel
theorem dX9_wouldMend_35 : decode cX9_wouldMend 35 = .ok (.aload_n 0, 1) := by decide +kernel
theorem dX9_wouldMend_36 : decode cX9_wouldMend 36 = .ok (.aload_n 0, 1) := by decide +kernel
theorem dX9_wouldMend_37 : decode cX9_wouldMend 37 = .ok (.iload_n 1, 1) := by decide +kernel
theorem dX9_wouldMend_38 : decode cX9_wouldMend 38 = .ok (.invokevirtual 134, 3) := by decide +kernel
theorem dX9_wouldMend_41 : decode cX9_wouldMend 41 = .ok (.aload_n 0, 1) := by decide +kernel
theorem dX9_wouldMend_42 : decode cX9_wouldMend 42 = .ok (.invokevirtual 155, 3) := by decide +kernel
theorem dX9_wouldMend_45 : decode cX9_wouldMend 45 = .ok (.iload_n 2, 1) := by decide +kernel
theorem dX9_wouldMend_46 : decode cX9_wouldMend 46 = .ok (.ior, 1) := by decide +kernel
theorem dX9_wouldMend_47 : decode cX9_wouldMend 47 = .ok (.invokevirtual 242, 3) := by decide +kernel
theorem dX9_wouldMend_50 : decode cX9_wouldMend 50 = .ok (.istore_n 3, 1) := by decide +kernel
theorem dX9_wouldMend_51 : decode cX9_wouldMend 51 = .ok (.iload_n 3, 1) := by decide +kernel
theorem dX9_wouldMend_52 : decode cX9_wouldMend 52 = .ok (.iconst (-1), 1) := by decide +kernel
theorem dX9_wouldMend_53 : decode cX9_wouldMend 53 = .ok (.if_icmp .ne 7, 3) := by decide +kernel
theorem dX9_wouldMend_56 : decode cX9_wouldMend 56 = .ok (.iconst (-1), 1) := by decide +kernel
theorem dX9_wouldMend_57 : decode cX9_wouldMend 57 = .ok (.goto 7, 3) := by decide +kernel
theorem dX9_wouldMend_60 : decode cX9_wouldMend 60 = .ok (.iload_n 3, 1) := by decide +kernel
theorem dX9_wouldMend_61 : decode cX9_wouldMend 61 = .ok (.invokestatic 102, 3) := by decide +kernel
theorem dX9_wouldMend_64 : decode cX9_wouldMend 64 = .ok (.ireturn, 1) := by decide +kernel
theorem dX9_spareNow_0 : decode cX9_spareNow 0 = .ok (.iload_n 1, 1) := by decide +kernel
theorem dX9_spareNow_1 : decode cX9_spareNow 1 = .ok (.iconst (-1), 1) := by decide +kernel
theorem dX9_spareNow_2 : decode cX9_spareNow 2 = .ok (.if_icmp .ne 7, 3) := by decide +kernel
theorem dX9_spareNow_5 : decode cX9_spareNow 5 = .ok (.iconst (-1), 1) := by decide +kernel
theorem dX9_spareNow_6 : decode cX9_spareNow 6 = .ok (.goto 20, 3) := by decide +kernel
theorem dX9_spareNow_9 : decode cX9_spareNow 9 = .ok (.iconst 4, 1) := by decide +kernel
theorem dX9_spareNow_10 : decode cX9_spareNow 10 = .ok (.iload_n 2, 1) := by decide +kernel
theorem dX9_spareNow_11 : decode cX9_spareNow 11 = .ok (.invokestatic 102, 3) := by decide +kernel
theorem dX9_spareNow_14 : decode cX9_spareNow 14 = .ok (.isub, 1) := by decide +kernel
theorem dX9_spareNow_15 : decode cX9_spareNow 15 = .ok (.iconst 2, 1) := by decide +kernel
theorem dX9_spareNow_16 : decode cX9_spareNow 16 = .ok (.iload_n 1, 1) := by decide +kernel
theorem dX9_spareNow_17 : decode cX9_spareNow 17 = .ok (.iload_n 2, 1) := by decide +kernel
theorem dX9_spareNow_18 : decode cX9_spareNow 18 = .ok (.iconst (-1), 1) := by decide +kernel
theorem dX9_spareNow_19 : decode cX9_spareNow 19 = .ok (.ixor, 1) := by decide +kernel
theorem dX9_spareNow_20 : decode cX9_spareNow 20 = .ok (.iand, 1) := by decide +kernel
theorem dX9_spareNow_21 : decode cX9_spareNow 21 = .ok (.invokestatic 102, 3) := by decide +kernel
theorem dX9_spareNow_24 : decode cX9_spareNow 24 = .ok (.imul, 1) := by decide +kernel
theorem dX9_spareNow_25 : decode cX9_spareNow 25 = .ok (.isub, 1) := by decide +kernel
theorem dX9_spareNow_26 : decode cX9_spareNow 26 = .ok (.ireturn, 1) := by decide +kernel
theorem dX9_spare_0 : decode cX9_spare 0 = .ok (.aload_n 0, 1) := by decide +kernel
theorem dX9_spare_1 : decode cX9_spare 1 = .ok (.iconst 0, 1) := by decide +kernel
theorem dX9_spare_2 : decode cX9_spare 2 = .ok (.putfield 69, 3) := by decide +kernel
theorem dX9_spare_5 : decode cX9_spare 5 = .ok (.iload_n 1, 1) := by decide +kernel
theorem dX9_spare_6 : decode cX9_spare 6 = .ok (.invokestatic 123, 3) := by decide +kernel
theorem dX9_spare_9 : decode cX9_spare 9 = .ok (.ifCond .eq 27, 3) := by decide +kernel
theorem dX9_spare_12 : decode cX9_spare 12 = .ok (.aload_n 0, 1) := by decide +kernel
theorem dX9_spare_13 : decode cX9_spare 13 = .ok (.aload_n 0, 1) := by decide +kernel
theorem dX9_spare_14 : decode cX9_spare 14 = .ok (.aload_n 0, 1) := by decide +kernel
theorem dX9_spare_15 : decode cX9_spare 15 = .ok (.iload_n 1, 1) := by decide +kernel
theorem dX9_spare_16 : decode cX9_spare 16 = .ok (.invokevirtual 134, 3) := by decide +kernel
theorem dX9_spare_19 : decode cX9_spare 19 = .ok (.aload_n 0, 1) := by decide +kernel
theorem dX9_spare_20 : decode cX9_spare 20 = .ok (.invokevirtual 155, 3) := by decide +kernel
theorem dX9_spare_23 : decode cX9_spare 23 = .ok (.invokevirtual 242, 3) := by decide +kernel
theorem dX9_spare_26 : decode cX9_spare 26 = .ok (.aload_n 0, 1) := by decide +kernel
theorem dX9_spare_27 : decode cX9_spare 27 = .ok (.invokevirtual 155, 3) := by decide +kernel
theorem dX9_spare_30 : decode cX9_spare 30 = .ok (.invokevirtual 277, 3) := by decide +kernel
theorem dX9_spare_33 : decode cX9_spare 33 = .ok (.goto 8, 3) := by decide +kernel
theorem dX9_spare_36 : decode cX9_spare 36 = .ok (.aload_n 0, 1) := by decide +kernel
theorem dX9_spare_37 : decode cX9_spare 37 = .ok (.iconst 1, 1) := by decide +kernel
theorem dX9_spare_38 : decode cX9_spare 38 = .ok (.invokevirtual 127, 3) := by decide +kernel
theorem dX9_spare_41 : decode cX9_spare 41 = .ok (.ireturn, 1) := by decide +kernel
theorem dX9_wouldLose_0 : decode cX9_wouldLose 0 = .ok (.aload_n 0, 1) := by decide +kernel
theorem dX9_wouldLose_1 : decode cX9_wouldLose 1 = .ok (.iconst 0, 1) := by decide +kernel
theorem dX9_wouldLose_2 : decode cX9_wouldLose 2 = .ok (.putfield 69, 3) := by decide +kernel
theorem dX9_wouldLose_5 : decode cX9_wouldLose 5 = .ok (.iload_n 1, 1) := by decide +kernel
theorem dX9_wouldLose_6 : decode cX9_wouldLose 6 = .ok (.invokestatic 152, 3) := by decide +kernel
theorem dX9_wouldLose_9 : decode cX9_wouldLose 9 = .ok (.ifCond .ne 9, 3) := by decide +kernel
theorem dX9_wouldLose_12 : decode cX9_wouldLose 12 = .ok (.aload_n 0, 1) := by decide +kernel
theorem dX9_wouldLose_13 : decode cX9_wouldLose 13 = .ok (.iconst 1, 1) := by decide +kernel
theorem dX9_wouldLose_14 : decode cX9_wouldLose 14 = .ok (.invokevirtual 127, 3) := by decide +kernel
theorem dX9_wouldLose_17 : decode cX9_wouldLose 17 = .ok (.ireturn, 1) := by decide +kernel
theorem dX9_wouldLose_18 : decode cX9_wouldLose 18 = .ok (.iload_n 2, 1) := by decide +kernel
theorem dX9_wouldLose_19 : decode cX9_wouldLose 19 = .ok (.iconst 0, 1) := by decide +kernel
theorem dX9_wouldLose_20 : decode cX9_wouldLose 20 = .ok (.bipush 15, 2) := by decide +kernel
theorem dX9_wouldLose_22 : decode cX9_wouldLose 22 = .ok (.invokestatic 72, 3) := by decide +kernel
theorem dX9_wouldLose_25 : decode cX9_wouldLose 25 = .ok (.ifCond .ne 9, 3) := by decide +kernel
theorem dX9_wouldLose_28 : decode cX9_wouldLose 28 = .ok (.aload_n 0, 1) := by decide +kernel
theorem dX9_wouldLose_29 : decode cX9_wouldLose 29 = .ok (.iconst 2, 1) := by decide +kernel
theorem dX9_wouldLose_30 : decode cX9_wouldLose 30 = .ok (.invokevirtual 127, 3) := by decide +kernel
theorem dX9_wouldLose_33 : decode cX9_wouldLose 33 = .ok (.ireturn, 1) := by decide +kernel
theorem dX9_wouldLose_34 : decode cX9_wouldLose 34 = .ok (.iconst 0, 1) := by decide +kernel
theorem dX9_wouldLose_35 : decode cX9_wouldLose 35 = .ok (.istore_n 3, 1) := by decide +kernel
theorem dX9_wouldLose_36 : decode cX9_wouldLose 36 = .ok (.iconst 0, 1) := by decide +kernel
theorem dX9_wouldLose_37 : decode cX9_wouldLose 37 = .ok (.istore 4, 2) := by decide +kernel
theorem dX9_wouldLose_39 : decode cX9_wouldLose 39 = .ok (.iload 4, 2) := by decide +kernel
theorem dX9_wouldLose_41 : decode cX9_wouldLose 41 = .ok (.bipush 16, 2) := by decide +kernel
theorem dX9_wouldLose_43 : decode cX9_wouldLose 43 = .ok (.if_icmp .ge 49, 3) := by decide +kernel
theorem dX9_wouldLose_46 : decode cX9_wouldLose 46 = .ok (.aload_n 0, 1) := by decide +kernel
theorem dX9_wouldLose_47 : decode cX9_wouldLose 47 = .ok (.iload 4, 2) := by decide +kernel
theorem dX9_wouldLose_49 : decode cX9_wouldLose 49 = .ok (.invokevirtual 134, 3) := by decide +kernel
theorem dX9_wouldLose_52 : decode cX9_wouldLose 52 = .ok (.astore 5, 2) := by decide +kernel
theorem dX9_wouldLose_54 : decode cX9_wouldLose 54 = .ok (.aload 5, 2) := by decide +kernel
theorem dX9_wouldLose_56 : decode cX9_wouldLose 56 = .ok (.iload_n 1, 1) := by decide +kernel
theorem dX9_wouldLose_57 : decode cX9_wouldLose 57 = .ok (.iload_n 2, 1) := by decide +kernel
theorem dX9_wouldLose_58 : decode cX9_wouldLose 58 = .ok (.iload 4, 2) := by decide +kernel
theorem dX9_wouldLose_60 : decode cX9_wouldLose 60 = .ok (.iadd, 1) := by decide +kernel
theorem dX9_wouldLose_61 : decode cX9_wouldLose 61 = .ok (.bipush 16, 2) := by decide +kernel
theorem dX9_wouldLose_63 : decode cX9_wouldLose 63 = .ok (.irem, 1) := by decide +kernel
theorem dX9_wouldLose_64 : decode cX9_wouldLose 64 = .ok (.iastore, 1) := by decide +kernel
theorem dX9_wouldLose_65 : decode cX9_wouldLose 65 = .ok (.iload_n 3, 1) := by decide +kernel
theorem dX9_wouldLose_66 : decode cX9_wouldLose 66 = .ok (.aload_n 0, 1) := by decide +kernel
theorem dX9_wouldLose_67 : decode cX9_wouldLose 67 = .ok (.aload 5, 2) := by decide +kernel
theorem dX9_wouldLose_69 : decode cX9_wouldLose 69 = .ok (.aload_n 0, 1) := by decide +kernel
theorem dX9_wouldLose_70 : decode cX9_wouldLose 70 = .ok (.invokevirtual 155, 3) := by decide +kernel
theorem dX9_wouldLose_73 : decode cX9_wouldLose 73 = .ok (.invokevirtual 165, 3) := by decide +kernel
theorem dX9_wouldLose_76 : decode cX9_wouldLose 76 = .ok (.ifCond .eq 7, 3) := by decide +kernel
theorem dX9_wouldLose_79 : decode cX9_wouldLose 79 = .ok (.iconst 0, 1) := by decide +kernel
theorem dX9_wouldLose_80 : decode cX9_wouldLose 80 = .ok (.goto 4, 3) := by decide +kernel
theorem dX9_wouldLose_83 : decode cX9_wouldLose 83 = .ok (.iconst 1, 1) := by decide +kernel
theorem dX9_wouldLose_84 : decode cX9_wouldLose 84 = .ok (.iadd, 1) := by decide +kernel
theorem dX9_wouldLose_85 : decode cX9_wouldLose 85 = .ok (.istore_n 3, 1) := by decide +kernel
theorem dX9_wouldLose_86 : decode cX9_wouldLose 86 = .ok (.iinc 4 1, 3) := by decide +kernel
theorem dX9_wouldLose_89 : decode cX9_wouldLose 89 = .ok (.goto (-50), 3) := by decide +kernel
theorem dX9_wouldLose_92 : decode cX9_wouldLose 92 = .ok (.iload_n 3, 1) := by decide +kernel
theorem dX9_wouldLose_93 : decode cX9_wouldLose 93 = .ok (.ireturn, 1) := by decide +kernel
theorem dX9_health_0 : decode cX9_health 0 = .ok (.aload_n 0, 1) := by decide +kernel
theorem dX9_health_1 : decode cX9_health 1 = .ok (.iconst 0, 1) := by decide +kernel
theorem dX9_health_2 : decode cX9_health 2 = .ok (.putfield 69, 3) := by decide +kernel
theorem dX9_health_5 : decode cX9_health 5 = .ok (.bipush 16, 2) := by decide +kernel
theorem dX9_health_7 : decode cX9_health 7 = .ok (.aload_n 0, 1) := by decide +kernel
theorem dX9_health_8 : decode cX9_health 8 = .ok (.invokevirtual 258, 3) := by decide +kernel
theorem dX9_health_11 : decode cX9_health 11 = .ok (.isub, 1) := by decide +kernel
theorem dX9_health_12 : decode cX9_health 12 = .ok (.i2d, 1) := by decide +kernel
theorem dX9_health_13 : decode cX9_health 13 = .ok (.ldc2_w 280, 3) := by decide +kernel
theorem dX9_health_16 : decode cX9_health 16 = .ok (.ddiv, 1) := by decide +kernel
theorem dX9_health_17 : decode cX9_health 17 = .ok (.dreturn, 1) := by decide +kernel
theorem dX9_isSoundNow_0 : decode cX9_isSoundNow 0 = .ok (.iconst 0, 1) := by decide +kernel
theorem dX9_isSoundNow_1 : decode cX9_isSoundNow 1 = .ok (.istore_n 1, 1) := by decide +kernel
theorem dX9_isSoundNow_2 : decode cX9_isSoundNow 2 = .ok (.iconst 0, 1) := by decide +kernel
theorem dX9_isSoundNow_3 : decode cX9_isSoundNow 3 = .ok (.istore_n 2, 1) := by decide +kernel
theorem dX9_isSoundNow_4 : decode cX9_isSoundNow 4 = .ok (.iload_n 2, 1) := by decide +kernel
theorem dX9_isSoundNow_5 : decode cX9_isSoundNow 5 = .ok (.bipush 15, 2) := by decide +kernel
theorem dX9_isSoundNow_7 : decode cX9_isSoundNow 7 = .ok (.if_icmp .ge 62, 3) := by decide +kernel
theorem dX9_isSoundNow_10 : decode cX9_isSoundNow 10 = .ok (.aload_n 0, 1) := by decide +kernel
theorem dX9_isSoundNow_11 : decode cX9_isSoundNow 11 = .ok (.getfield 27, 3) := by decide +kernel
theorem dX9_isSoundNow_14 : decode cX9_isSoundNow 14 = .ok (.aload_n 0, 1) := by decide +kernel
theorem dX9_isSoundNow_15 : decode cX9_isSoundNow 15 = .ok (.getfield 31, 3) := by decide +kernel
theorem dX9_isSoundNow_18 : decode cX9_isSoundNow 18 = .ok (.iload_n 2, 1) := by decide +kernel
theorem dX9_isSoundNow_19 : decode cX9_isSoundNow 19 = .ok (.iaload, 1) := by decide +kernel
theorem dX9_isSoundNow_20 : decode cX9_isSoundNow 20 = .ok (.aaload, 1) := by decide +kernel
theorem dX9_isSoundNow_21 : decode cX9_isSoundNow 21 = .ok (.astore_n 3, 1) := by decide +kernel
theorem dX9_isSoundNow_22 : decode cX9_isSoundNow 22 = .ok (.aload_n 3, 1) := by decide +kernel
theorem dX9_isSoundNow_23 : decode cX9_isSoundNow 23 = .ok (.getfield 59, 3) := by decide +kernel
theorem dX9_isSoundNow_26 : decode cX9_isSoundNow 26 = .ok (.iload_n 2, 1) := by decide +kernel
theorem dX9_isSoundNow_27 : decode cX9_isSoundNow 27 = .ok (.if_icmp .ne 23, 3) := by decide +kernel
theorem dX9_isSoundNow_30 : decode cX9_isSoundNow 30 = .ok (.aload_n 3, 1) := by decide +kernel
theorem dX9_isSoundNow_31 : decode cX9_isSoundNow 31 = .ok (.getfield 159, 3) := by decide +kernel
theorem dX9_isSoundNow_34 : decode cX9_isSoundNow 34 = .ok (.ifCond .ne 16, 3) := by decide +kernel
theorem dX9_isSoundNow_37 : decode cX9_isSoundNow 37 = .ok (.iload_n 1, 1) := by decide +kernel
theorem dX9_isSoundNow_38 : decode cX9_isSoundNow 38 = .ok (.aload_n 0, 1) := by decide +kernel
theorem dX9_isSoundNow_39 : decode cX9_isSoundNow 39 = .ok (.getfield 31, 3) := by decide +kernel
theorem dX9_isSoundNow_42 : decode cX9_isSoundNow 42 = .ok (.iload_n 2, 1) := by decide +kernel
theorem dX9_isSoundNow_43 : decode cX9_isSoundNow 43 = .ok (.iaload, 1) := by decide +kernel
theorem dX9_isSoundNow_44 : decode cX9_isSoundNow 44 = .ok (.invokestatic 85, 3) := by decide +kernel
theorem dX9_isSoundNow_47 : decode cX9_isSoundNow 47 = .ok (.ifCond .eq 5, 3) := by decide +kernel
theorem dX9_isSoundNow_50 : decode cX9_isSoundNow 50 = .ok (.iconst 0, 1) := by decide +kernel
theorem dX9_isSoundNow_51 : decode cX9_isSoundNow 51 = .ok (.ireturn, 1) := by decide +kernel
theorem dX9_isSoundNow_52 : decode cX9_isSoundNow 52 = .ok (.iload_n 1, 1) := by decide +kernel
theorem dX9_isSoundNow_53 : decode cX9_isSoundNow 53 = .ok (.iconst 1, 1) := by decide +kernel
theorem dX9_isSoundNow_54 : decode cX9_isSoundNow 54 = .ok (.aload_n 0, 1) := by decide +kernel
theorem dX9_isSoundNow_55 : decode cX9_isSoundNow 55 = .ok (.getfield 31, 3) := by decide +kernel
theorem dX9_isSoundNow_58 : decode cX9_isSoundNow 58 = .ok (.iload_n 2, 1) := by decide +kernel
theorem dX9_isSoundNow_59 : decode cX9_isSoundNow 59 = .ok (.iaload, 1) := by decide +kernel
theorem dX9_isSoundNow_60 : decode cX9_isSoundNow 60 = .ok (.ishl, 1) := by decide +kernel
theorem dX9_isSoundNow_61 : decode cX9_isSoundNow 61 = .ok (.ior, 1) := by decide +kernel
theorem dX9_isSoundNow_62 : decode cX9_isSoundNow 62 = .ok (.istore_n 1, 1) := by decide +kernel
theorem dX9_isSoundNow_63 : decode cX9_isSoundNow 63 = .ok (.iinc 2 1, 3) := by decide +kernel
theorem dX9_isSoundNow_66 : decode cX9_isSoundNow 66 = .ok (.goto (-62), 3) := by decide +kernel
theorem dX9_isSoundNow_69 : decode cX9_isSoundNow 69 = .ok (.iconst 0, 1) := by decide +kernel
theorem dX9_isSoundNow_70 : decode cX9_isSoundNow 70 = .ok (.istore_n 2, 1) := by decide +kernel
theorem dX9_isSoundNow_71 : decode cX9_isSoundNow 71 = .ok (.iload_n 2, 1) := by decide +kernel
theorem dX9_isSoundNow_72 : decode cX9_isSoundNow 72 = .ok (.iconst 4, 1) := by decide +kernel
theorem dX9_isSoundNow_73 : decode cX9_isSoundNow 73 = .ok (.if_icmp .ge 134, 3) := by decide +kernel
theorem dX9_isSoundNow_76 : decode cX9_isSoundNow 76 = .ok (.iconst 0, 1) := by decide +kernel
theorem dX9_isSoundNow_77 : decode cX9_isSoundNow 77 = .ok (.istore_n 3, 1) := by decide +kernel
theorem dX9_isSoundNow_78 : decode cX9_isSoundNow 78 = .ok (.iload_n 3, 1) := by decide +kernel
theorem dX9_isSoundNow_79 : decode cX9_isSoundNow 79 = .ok (.iload_n 2, 1) := by decide +kernel
theorem dX9_isSoundNow_80 : decode cX9_isSoundNow 80 = .ok (.if_icmp .ge 121, 3) := by decide +kernel
theorem dX9_isSoundNow_83 : decode cX9_isSoundNow 83 = .ok (.aload_n 0, 1) := by decide +kernel
theorem dX9_isSoundNow_84 : decode cX9_isSoundNow 84 = .ok (.getfield 37, 3) := by decide +kernel
theorem dX9_isSoundNow_87 : decode cX9_isSoundNow 87 = .ok (.iload_n 2, 1) := by decide +kernel
theorem dX9_isSoundNow_88 : decode cX9_isSoundNow 88 = .ok (.invokevirtual 190, 3) := by decide +kernel
theorem dX9_isSoundNow_91 : decode cX9_isSoundNow 91 = .ok (.checkcast 62, 3) := by decide +kernel
theorem dX9_isSoundNow_94 : decode cX9_isSoundNow 94 = .ok (.getfield 194, 3) := by decide +kernel
theorem dX9_isSoundNow_97 : decode cX9_isSoundNow 97 = .ok (.iconst (-1), 1) := by decide +kernel
theorem dX9_isSoundNow_98 : decode cX9_isSoundNow 98 = .ok (.if_icmp .eq 25, 3) := by decide +kernel
theorem dX9_isSoundNow_101 : decode cX9_isSoundNow 101 = .ok (.aload_n 0, 1) := by decide +kernel
theorem dX9_isSoundNow_102 : decode cX9_isSoundNow 102 = .ok (.getfield 37, 3) := by decide +kernel
theorem dX9_isSoundNow_105 : decode cX9_isSoundNow 105 = .ok (.iload_n 3, 1) := by decide +kernel
theorem dX9_isSoundNow_106 : decode cX9_isSoundNow 106 = .ok (.invokevirtual 190, 3) := by decide +kernel
theorem dX9_isSoundNow_109 : decode cX9_isSoundNow 109 = .ok (.checkcast 62, 3) := by decide +kernel
theorem dX9_isSoundNow_112 : decode cX9_isSoundNow 112 = .ok (.getfield 194, 3) := by decide +kernel
theorem dX9_isSoundNow_115 : decode cX9_isSoundNow 115 = .ok (.iconst (-1), 1) := by decide +kernel
theorem dX9_isSoundNow_116 : decode cX9_isSoundNow 116 = .ok (.if_icmp .eq 7, 3) := by decide +kernel
theorem dX9_isSoundNow_119 : decode cX9_isSoundNow 119 = .ok (.iconst 1, 1) := by decide +kernel
theorem dX9_isSoundNow_120 : decode cX9_isSoundNow 120 = .ok (.goto 4, 3) := by decide +kernel
theorem dX9_isSoundNow_123 : decode cX9_isSoundNow 123 = .ok (.iconst 0, 1) := by decide +kernel
theorem dX9_isSoundNow_124 : decode cX9_isSoundNow 124 = .ok (.istore 4, 2) := by decide +kernel
theorem dX9_isSoundNow_126 : decode cX9_isSoundNow 126 = .ok (.iload 4, 2) := by decide +kernel
theorem dX9_isSoundNow_128 : decode cX9_isSoundNow 128 = .ok (.ifCond .eq 67, 3) := by decide +kernel
theorem dX9_isSoundNow_131 : decode cX9_isSoundNow 131 = .ok (.aload_n 0, 1) := by decide +kernel
theorem dX9_isSoundNow_132 : decode cX9_isSoundNow 132 = .ok (.getfield 37, 3) := by decide +kernel
theorem dX9_isSoundNow_135 : decode cX9_isSoundNow 135 = .ok (.iload_n 2, 1) := by decide +kernel
theorem dX9_isSoundNow_136 : decode cX9_isSoundNow 136 = .ok (.invokevirtual 190, 3) := by decide +kernel
theorem dX9_isSoundNow_139 : decode cX9_isSoundNow 139 = .ok (.checkcast 62, 3) := by decide +kernel
theorem dX9_isSoundNow_142 : decode cX9_isSoundNow 142 = .ok (.getfield 194, 3) := by decide +kernel
theorem dX9_isSoundNow_145 : decode cX9_isSoundNow 145 = .ok (.aload_n 0, 1) := by decide +kernel
theorem dX9_isSoundNow_146 : decode cX9_isSoundNow 146 = .ok (.getfield 37, 3) := by decide +kernel
theorem dX9_isSoundNow_149 : decode cX9_isSoundNow 149 = .ok (.iload_n 3, 1) := by decide +kernel
theorem dX9_isSoundNow_150 : decode cX9_isSoundNow 150 = .ok (.invokevirtual 190, 3) := by decide +kernel
theorem dX9_isSoundNow_153 : decode cX9_isSoundNow 153 = .ok (.checkcast 62, 3) := by decide +kernel
theorem dX9_isSoundNow_156 : decode cX9_isSoundNow 156 = .ok (.getfield 194, 3) := by decide +kernel
theorem dX9_isSoundNow_159 : decode cX9_isSoundNow 159 = .ok (.if_icmp .eq 34, 3) := by decide +kernel
theorem dX9_isSoundNow_162 : decode cX9_isSoundNow 162 = .ok (.aload_n 0, 1) := by decide +kernel
theorem dX9_isSoundNow_163 : decode cX9_isSoundNow 163 = .ok (.getfield 37, 3) := by decide +kernel
theorem dX9_isSoundNow_166 : decode cX9_isSoundNow 166 = .ok (.iload_n 2, 1) := by decide +kernel
theorem dX9_isSoundNow_167 : decode cX9_isSoundNow 167 = .ok (.invokevirtual 190, 3) := by decide +kernel
theorem dX9_isSoundNow_170 : decode cX9_isSoundNow 170 = .ok (.checkcast 62, 3) := by decide +kernel
theorem dX9_isSoundNow_173 : decode cX9_isSoundNow 173 = .ok (.getfield 200, 3) := by decide +kernel
theorem dX9_isSoundNow_176 : decode cX9_isSoundNow 176 = .ok (.aload_n 0, 1) := by decide +kernel
theorem dX9_isSoundNow_177 : decode cX9_isSoundNow 177 = .ok (.getfield 37, 3) := by decide +kernel
theorem dX9_isSoundNow_180 : decode cX9_isSoundNow 180 = .ok (.iload_n 3, 1) := by decide +kernel
theorem dX9_isSoundNow_181 : decode cX9_isSoundNow 181 = .ok (.invokevirtual 190, 3) := by decide +kernel
theorem dX9_isSoundNow_184 : decode cX9_isSoundNow 184 = .ok (.checkcast 62, 3) := by decide +kernel
theorem dX9_isSoundNow_187 : decode cX9_isSoundNow 187 = .ok (.getfield 200, 3) := by decide +kernel
theorem dX9_isSoundNow_190 : decode cX9_isSoundNow 190 = .ok (.if_icmp .ne 5, 3) := by decide +kernel
theorem dX9_isSoundNow_193 : decode cX9_isSoundNow 193 = .ok (.iconst 0, 1) := by decide +kernel
theorem dX9_isSoundNow_194 : decode cX9_isSoundNow 194 = .ok (.ireturn, 1) := by decide +kernel
theorem dX9_isSoundNow_195 : decode cX9_isSoundNow 195 = .ok (.iinc 3 1, 3) := by decide +kernel
theorem dX9_isSoundNow_198 : decode cX9_isSoundNow 198 = .ok (.goto (-120), 3) := by decide +kernel
theorem dX9_isSoundNow_201 : decode cX9_isSoundNow 201 = .ok (.iinc 2 1, 3) := by decide +kernel
theorem dX9_isSoundNow_204 : decode cX9_isSoundNow 204 = .ok (.goto (-133), 3) := by decide +kernel
theorem dX9_isSoundNow_207 : decode cX9_isSoundNow 207 = .ok (.aload_n 0, 1) := by decide +kernel
theorem dX9_isSoundNow_208 : decode cX9_isSoundNow 208 = .ok (.getfield 16, 3) := by decide +kernel
theorem dX9_isSoundNow_211 : decode cX9_isSoundNow 211 = .ok (.astore_n 2, 1) := by decide +kernel
theorem dX9_isSoundNow_212 : decode cX9_isSoundNow 212 = .ok (.aload_n 2, 1) := by decide +kernel
theorem dX9_isSoundNow_213 : decode cX9_isSoundNow 213 = .ok (.arraylength, 1) := by decide +kernel
theorem dX9_isSoundNow_214 : decode cX9_isSoundNow 214 = .ok (.istore_n 3, 1) := by decide +kernel
theorem dX9_isSoundNow_215 : decode cX9_isSoundNow 215 = .ok (.iconst 0, 1) := by decide +kernel
theorem dX9_isSoundNow_216 : decode cX9_isSoundNow 216 = .ok (.istore 4, 2) := by decide +kernel
theorem dX9_isSoundNow_218 : decode cX9_isSoundNow 218 = .ok (.iload 4, 2) := by decide +kernel
theorem dX9_isSoundNow_220 : decode cX9_isSoundNow 220 = .ok (.iload_n 3, 1) := by decide +kernel
theorem dX9_isSoundNow_221 : decode cX9_isSoundNow 221 = .ok (.if_icmp .ge 28, 3) := by decide +kernel
theorem dX9_isSoundNow_224 : decode cX9_isSoundNow 224 = .ok (.aload_n 2, 1) := by decide +kernel
theorem dX9_isSoundNow_225 : decode cX9_isSoundNow 225 = .ok (.iload 4, 2) := by decide +kernel
theorem dX9_isSoundNow_227 : decode cX9_isSoundNow 227 = .ok (.iaload, 1) := by decide +kernel
theorem dX9_isSoundNow_228 : decode cX9_isSoundNow 228 = .ok (.istore 5, 2) := by decide +kernel
theorem dX9_isSoundNow_230 : decode cX9_isSoundNow 230 = .ok (.iload 5, 2) := by decide +kernel
theorem dX9_isSoundNow_232 : decode cX9_isSoundNow 232 = .ok (.iconst 0, 1) := by decide +kernel
theorem dX9_isSoundNow_233 : decode cX9_isSoundNow 233 = .ok (.bipush 15, 2) := by decide +kernel
theorem dX9_isSoundNow_235 : decode cX9_isSoundNow 235 = .ok (.invokestatic 72, 3) := by decide +kernel
theorem dX9_isSoundNow_238 : decode cX9_isSoundNow 238 = .ok (.ifCond .ne 5, 3) := by decide +kernel
theorem dX9_isSoundNow_241 : decode cX9_isSoundNow 241 = .ok (.iconst 0, 1) := by decide +kernel
theorem dX9_isSoundNow_242 : decode cX9_isSoundNow 242 = .ok (.ireturn, 1) := by decide +kernel
theorem dX9_isSoundNow_243 : decode cX9_isSoundNow 243 = .ok (.iinc 4 1, 3) := by decide +kernel
theorem dX9_isSoundNow_246 : decode cX9_isSoundNow 246 = .ok (.goto (-28), 3) := by decide +kernel
theorem dX9_isSoundNow_249 : decode cX9_isSoundNow 249 = .ok (.aload_n 0, 1) := by decide +kernel
theorem dX9_isSoundNow_250 : decode cX9_isSoundNow 250 = .ok (.invokevirtual 155, 3) := by decide +kernel
theorem dX9_isSoundNow_253 : decode cX9_isSoundNow 253 = .ok (.invokestatic 102, 3) := by decide +kernel
theorem dX9_isSoundNow_256 : decode cX9_isSoundNow 256 = .ok (.iconst 4, 1) := by decide +kernel
theorem dX9_isSoundNow_257 : decode cX9_isSoundNow 257 = .ok (.if_icmp .gt 18, 3) := by decide +kernel
theorem dX9_isSoundNow_260 : decode cX9_isSoundNow 260 = .ok (.aload_n 0, 1) := by decide +kernel
theorem dX9_isSoundNow_261 : decode cX9_isSoundNow 261 = .ok (.getfield 181, 3) := by decide +kernel
theorem dX9_isSoundNow_264 : decode cX9_isSoundNow 264 = .ok (.aload_n 0, 1) := by decide +kernel
theorem dX9_isSoundNow_265 : decode cX9_isSoundNow 265 = .ok (.getfield 171, 3) := by decide +kernel
theorem dX9_isSoundNow_268 : decode cX9_isSoundNow 268 = .ok (.if_icmp .gt 7, 3) := by decide +kernel
theorem dX9_isSoundNow_271 : decode cX9_isSoundNow 271 = .ok (.iconst 1, 1) := by decide +kernel
theorem dX9_isSoundNow_272 : decode cX9_isSoundNow 272 = .ok (.goto 4, 3) := by decide +kernel
theorem dX9_isSoundNow_275 : decode cX9_isSoundNow 275 = .ok (.iconst 0, 1) := by decide +kernel
theorem dX9_isSoundNow_276 : decode cX9_isSoundNow 276 = .ok (.ireturn, 1) := by decide +kernel
theorem dX9_isSound_0 : decode cX9_isSound 0 = .ok (.aload_n 0, 1) := by decide +kernel
theorem dX9_isSound_1 : decode cX9_isSound 1 = .ok (.iconst 0, 1) := by decide +kernel
theorem dX9_isSound_2 : decode cX9_isSound 2 = .ok (.putfield 69, 3) := by decide +kernel
theorem dX9_isSound_5 : decode cX9_isSound 5 = .ok (.aload_n 0, 1) := by decide +kernel
theorem dX9_isSound_6 : decode cX9_isSound 6 = .ok (.invokevirtual 282, 3) := by decide +kernel
theorem dX9_isSound_9 : decode cX9_isSound 9 = .ok (.ireturn, 1) := by decide +kernel
theorem dX9_add_0 : decode cX9_add 0 = .ok (.aload_n 0, 1) := by decide +kernel
theorem dX9_add_1 : decode cX9_add 1 = .ok (.aload_n 0, 1) := by decide +kernel
theorem dX9_add_2 : decode cX9_add 2 = .ok (.getfield 286, 3) := by decide +kernel
theorem dX9_add_5 : decode cX9_add 5 = .ok (.ldc2_w 289, 3) := by decide +kernel
theorem dX9_add_8 : decode cX9_add 8 = .ok (.lmul, 1) := by decide +kernel
theorem dX9_add_9 : decode cX9_add 9 = .ok (.lload_n 1, 1) := by decide +kernel
theorem dX9_add_10 : decode cX9_add 10 = .ok (.ladd, 1) := by decide +kernel
theorem dX9_add_11 : decode cX9_add 11 = .ok (.putfield 286, 3) := by decide +kernel
theorem dX9_add_14 : decode cX9_add 14 = .ok (.return_, 1) := by decide +kernel
theorem dX9_digest_0 : decode cX9_digest 0 = .ok (.aload_n 0, 1) := by decide +kernel
theorem dX9_digest_1 : decode cX9_digest 1 = .ok (.iconst 0, 1) := by decide +kernel
theorem dX9_digest_2 : decode cX9_digest 2 = .ok (.putfield 69, 3) := by decide +kernel
theorem dX9_digest_5 : decode cX9_digest 5 = .ok (.aload_n 0, 1) := by decide +kernel
theorem dX9_digest_6 : decode cX9_digest 6 = .ok (.invokevirtual 155, 3) := by decide +kernel
theorem dX9_digest_9 : decode cX9_digest 9 = .ok (.istore_n 1, 1) := by decide +kernel
theorem dX9_digest_10 : decode cX9_digest 10 = .ok (.iconst 0, 1) := by decide +kernel
theorem dX9_digest_11 : decode cX9_digest 11 = .ok (.istore_n 2, 1) := by decide +kernel
theorem dX9_digest_12 : decode cX9_digest 12 = .ok (.bipush 16, 2) := by decide +kernel
theorem dX9_digest_14 : decode cX9_digest 14 = .ok (.newarray .int, 2) := by decide +kernel
theorem dX9_digest_16 : decode cX9_digest 16 = .ok (.astore_n 3, 1) := by decide +kernel
theorem dX9_digest_17 : decode cX9_digest 17 = .ok (.bipush 16, 2) := by decide +kernel
theorem dX9_digest_19 : decode cX9_digest 19 = .ok (.newarray .long, 2) := by decide +kernel
theorem dX9_digest_21 : decode cX9_digest 21 = .ok (.astore 4, 2) := by decide +kernel
theorem dX9_digest_23 : decode cX9_digest 23 = .ok (.iconst 0, 1) := by decide +kernel
theorem dX9_digest_24 : decode cX9_digest 24 = .ok (.istore 5, 2) := by decide +kernel
theorem dX9_digest_26 : decode cX9_digest 26 = .ok (.iload 5, 2) := by decide +kernel
theorem dX9_digest_28 : decode cX9_digest 28 = .ok (.bipush 16, 2) := by decide +kernel
theorem dX9_digest_30 : decode cX9_digest 30 = .ok (.if_icmp .ge 70, 3) := by decide +kernel
theorem dX9_digest_33 : decode cX9_digest 33 = .ok (.aload_n 0, 1) := by decide +kernel
theorem dX9_digest_34 : decode cX9_digest 34 = .ok (.iload 5, 2) := by decide +kernel
theorem dX9_digest_36 : decode cX9_digest 36 = .ok (.invokevirtual 134, 3) := by decide +kernel
theorem dX9_digest_39 : decode cX9_digest 39 = .ok (.astore 6, 2) := by decide +kernel
theorem dX9_digest_41 : decode cX9_digest 41 = .ok (.aload_n 3, 1) := by decide +kernel
theorem dX9_digest_42 : decode cX9_digest 42 = .ok (.iload 5, 2) := by decide +kernel
theorem dX9_digest_44 : decode cX9_digest 44 = .ok (.aload_n 0, 1) := by decide +kernel
theorem dX9_digest_45 : decode cX9_digest 45 = .ok (.aload 6, 2) := by decide +kernel
theorem dX9_digest_47 : decode cX9_digest 47 = .ok (.iload_n 1, 1) := by decide +kernel
theorem dX9_digest_48 : decode cX9_digest 48 = .ok (.invokevirtual 242, 3) := by decide +kernel
theorem dX9_digest_51 : decode cX9_digest 51 = .ok (.iastore, 1) := by decide +kernel
theorem dX9_digest_52 : decode cX9_digest 52 = .ok (.aload 4, 2) := by decide +kernel
theorem dX9_digest_54 : decode cX9_digest 54 = .ok (.iload 5, 2) := by decide +kernel
theorem dX9_digest_56 : decode cX9_digest 56 = .ok (.aload_n 3, 1) := by decide +kernel
theorem dX9_digest_57 : decode cX9_digest 57 = .ok (.iload 5, 2) := by decide +kernel
theorem dX9_digest_59 : decode cX9_digest 59 = .ok (.iaload, 1) := by decide +kernel
theorem dX9_digest_60 : decode cX9_digest 60 = .ok (.iconst (-1), 1) := by decide +kernel
theorem dX9_digest_61 : decode cX9_digest 61 = .ok (.if_icmp .ne 9, 3) := by decide +kernel
theorem dX9_digest_64 : decode cX9_digest 64 = .ok (.ldc2_w 226, 3) := by decide +kernel
theorem dX9_digest_67 : decode cX9_digest 67 = .ok (.goto 10, 3) := by decide +kernel
theorem dX9_digest_70 : decode cX9_digest 70 = .ok (.aload_n 0, 1) := by decide +kernel
theorem dX9_digest_71 : decode cX9_digest 71 = .ok (.getfield 45, 3) := by decide +kernel
theorem dX9_digest_74 : decode cX9_digest 74 = .ok (.invokestatic 228, 3) := by decide +kernel
theorem dX9_digest_77 : decode cX9_digest 77 = .ok (.lastore, 1) := by decide +kernel
theorem dX9_digest_78 : decode cX9_digest 78 = .ok (.iload_n 2, 1) := by decide +kernel
theorem dX9_digest_79 : decode cX9_digest 79 = .ok (.aload_n 3, 1) := by decide +kernel
theorem dX9_digest_80 : decode cX9_digest 80 = .ok (.iload 5, 2) := by decide +kernel
theorem dX9_digest_82 : decode cX9_digest 82 = .ok (.iaload, 1) := by decide +kernel
theorem dX9_digest_83 : decode cX9_digest 83 = .ok (.iconst (-1), 1) := by decide +kernel
theorem dX9_digest_84 : decode cX9_digest 84 = .ok (.if_icmp .ne 7, 3) := by decide +kernel
theorem dX9_digest_87 : decode cX9_digest 87 = .ok (.iconst 1, 1) := by decide +kernel
theorem dX9_digest_88 : decode cX9_digest 88 = .ok (.goto 4, 3) := by decide +kernel
theorem dX9_digest_91 : decode cX9_digest 91 = .ok (.iconst 0, 1) := by decide +kernel
theorem dX9_digest_92 : decode cX9_digest 92 = .ok (.iadd, 1) := by decide +kernel
theorem dX9_digest_93 : decode cX9_digest 93 = .ok (.istore_n 2, 1) := by decide +kernel
theorem dX9_digest_94 : decode cX9_digest 94 = .ok (.iinc 5 1, 3) := by decide +kernel
theorem dX9_digest_97 : decode cX9_digest 97 = .ok (.goto (-71), 3) := by decide +kernel
theorem dX9_digest_100 : decode cX9_digest 100 = .ok (.aload_n 0, 1) := by decide +kernel
theorem dX9_digest_101 : decode cX9_digest 101 = .ok (.ldc2_w 291, 3) := by decide +kernel
theorem dX9_digest_104 : decode cX9_digest 104 = .ok (.putfield 286, 3) := by decide +kernel
theorem dX9_digest_107 : decode cX9_digest 107 = .ok (.iconst 0, 1) := by decide +kernel
theorem dX9_digest_108 : decode cX9_digest 108 = .ok (.istore 5, 2) := by decide +kernel
theorem dX9_digest_110 : decode cX9_digest 110 = .ok (.iload 5, 2) := by decide +kernel
theorem dX9_digest_112 : decode cX9_digest 112 = .ok (.bipush 13, 2) := by decide +kernel
theorem dX9_digest_114 : decode cX9_digest 114 = .ok (.if_icmp .ge 21, 3) := by decide +kernel
theorem dX9_digest_117 : decode cX9_digest 117 = .ok (.aload_n 0, 1) := by decide +kernel
theorem dX9_digest_118 : decode cX9_digest 118 = .ok (.aload_n 0, 1) := by decide +kernel
theorem dX9_digest_119 : decode cX9_digest 119 = .ok (.iload 5, 2) := by decide +kernel
theorem dX9_digest_121 : decode cX9_digest 121 = .ok (.iload_n 2, 1) := by decide +kernel
theorem dX9_digest_122 : decode cX9_digest 122 = .ok (.invokevirtual 261, 3) := by decide +kernel
theorem dX9_digest_125 : decode cX9_digest 125 = .ok (.i2l, 1) := by decide +kernel
theorem dX9_digest_126 : decode cX9_digest 126 = .ok (.invokevirtual 293, 3) := by decide +kernel
theorem dX9_digest_129 : decode cX9_digest 129 = .ok (.iinc 5 1, 3) := by decide +kernel
theorem dX9_digest_132 : decode cX9_digest 132 = .ok (.goto (-22), 3) := by decide +kernel
theorem dX9_digest_135 : decode cX9_digest 135 = .ok (.iconst 0, 1) := by decide +kernel
theorem dX9_digest_136 : decode cX9_digest 136 = .ok (.istore 5, 2) := by decide +kernel
theorem dX9_digest_138 : decode cX9_digest 138 = .ok (.iload 5, 2) := by decide +kernel
theorem dX9_digest_140 : decode cX9_digest 140 = .ok (.bipush 18, 2) := by decide +kernel
theorem dX9_digest_142 : decode cX9_digest 142 = .ok (.if_icmp .ge 38, 3) := by decide +kernel
theorem dX9_digest_145 : decode cX9_digest 145 = .ok (.iconst 0, 1) := by decide +kernel
theorem dX9_digest_146 : decode cX9_digest 146 = .ok (.istore 6, 2) := by decide +kernel
theorem dX9_digest_148 : decode cX9_digest 148 = .ok (.iload 6, 2) := by decide +kernel
theorem dX9_digest_150 : decode cX9_digest 150 = .ok (.bipush 6, 2) := by decide +kernel
theorem dX9_digest_152 : decode cX9_digest 152 = .ok (.if_icmp .ge 22, 3) := by decide +kernel
theorem dX9_digest_155 : decode cX9_digest 155 = .ok (.aload_n 0, 1) := by decide +kernel
theorem dX9_digest_156 : decode cX9_digest 156 = .ok (.aload_n 0, 1) := by decide +kernel
theorem dX9_digest_157 : decode cX9_digest 157 = .ok (.iload 5, 2) := by decide +kernel
theorem dX9_digest_159 : decode cX9_digest 159 = .ok (.iload 6, 2) := by decide +kernel
theorem dX9_digest_161 : decode cX9_digest 161 = .ok (.invokevirtual 245, 3) := by decide +kernel
theorem dX9_digest_164 : decode cX9_digest 164 = .ok (.i2l, 1) := by decide +kernel
theorem dX9_digest_165 : decode cX9_digest 165 = .ok (.invokevirtual 293, 3) := by decide +kernel
theorem dX9_digest_168 : decode cX9_digest 168 = .ok (.iinc 6 1, 3) := by decide +kernel
theorem dX9_digest_171 : decode cX9_digest 171 = .ok (.goto (-23), 3) := by decide +kernel
theorem dX9_digest_174 : decode cX9_digest 174 = .ok (.iinc 5 1, 3) := by decide +kernel
theorem dX9_digest_177 : decode cX9_digest 177 = .ok (.goto (-39), 3) := by decide +kernel
theorem dX9_digest_180 : decode cX9_digest 180 = .ok (.iconst 0, 1) := by decide +kernel
theorem dX9_digest_181 : decode cX9_digest 181 = .ok (.istore 5, 2) := by decide +kernel
theorem dX9_digest_183 : decode cX9_digest 183 = .ok (.iload 5, 2) := by decide +kernel
theorem dX9_digest_185 : decode cX9_digest 185 = .ok (.bipush 16, 2) := by decide +kernel
theorem dX9_digest_187 : decode cX9_digest 187 = .ok (.if_icmp .ge 41, 3) := by decide +kernel
theorem dX9_digest_190 : decode cX9_digest 190 = .ok (.aload_n 0, 1) := by decide +kernel
theorem dX9_digest_191 : decode cX9_digest 191 = .ok (.aload_n 3, 1) := by decide +kernel
theorem dX9_digest_192 : decode cX9_digest 192 = .ok (.iload 5, 2) := by decide +kernel
theorem dX9_digest_194 : decode cX9_digest 194 = .ok (.iaload, 1) := by decide +kernel
theorem dX9_digest_195 : decode cX9_digest 195 = .ok (.i2l, 1) := by decide +kernel
theorem dX9_digest_196 : decode cX9_digest 196 = .ok (.invokevirtual 293, 3) := by decide +kernel
theorem dX9_digest_199 : decode cX9_digest 199 = .ok (.aload_n 0, 1) := by decide +kernel
theorem dX9_digest_200 : decode cX9_digest 200 = .ok (.aload 4, 2) := by decide +kernel
theorem dX9_digest_202 : decode cX9_digest 202 = .ok (.iload 5, 2) := by decide +kernel
theorem dX9_digest_204 : decode cX9_digest 204 = .ok (.laload, 1) := by decide +kernel
theorem dX9_digest_205 : decode cX9_digest 205 = .ok (.invokevirtual 293, 3) := by decide +kernel
theorem dX9_digest_208 : decode cX9_digest 208 = .ok (.aload_n 0, 1) := by decide +kernel
theorem dX9_digest_209 : decode cX9_digest 209 = .ok (.aload_n 0, 1) := by decide +kernel
theorem dX9_digest_210 : decode cX9_digest 210 = .ok (.aload_n 3, 1) := by decide +kernel
theorem dX9_digest_211 : decode cX9_digest 211 = .ok (.iload 5, 2) := by decide +kernel
theorem dX9_digest_213 : decode cX9_digest 213 = .ok (.iaload, 1) := by decide +kernel
theorem dX9_digest_214 : decode cX9_digest 214 = .ok (.iload_n 1, 1) := by decide +kernel
theorem dX9_digest_215 : decode cX9_digest 215 = .ok (.invokevirtual 277, 3) := by decide +kernel
theorem dX9_digest_218 : decode cX9_digest 218 = .ok (.i2l, 1) := by decide +kernel
theorem dX9_digest_219 : decode cX9_digest 219 = .ok (.invokevirtual 293, 3) := by decide +kernel
theorem dX9_digest_222 : decode cX9_digest 222 = .ok (.iinc 5 1, 3) := by decide +kernel
theorem dX9_digest_225 : decode cX9_digest 225 = .ok (.goto (-42), 3) := by decide +kernel
theorem dX9_digest_228 : decode cX9_digest 228 = .ok (.aload_n 0, 1) := by decide +kernel
theorem dX9_digest_229 : decode cX9_digest 229 = .ok (.getfield 16, 3) := by decide +kernel
theorem dX9_digest_232 : decode cX9_digest 232 = .ok (.astore 5, 2) := by decide +kernel
theorem dX9_digest_234 : decode cX9_digest 234 = .ok (.aload 5, 2) := by decide +kernel
theorem dX9_digest_236 : decode cX9_digest 236 = .ok (.arraylength, 1) := by decide +kernel
theorem dX9_digest_237 : decode cX9_digest 237 = .ok (.istore 6, 2) := by decide +kernel
theorem dX9_digest_239 : decode cX9_digest 239 = .ok (.iconst 0, 1) := by decide +kernel
theorem dX9_digest_240 : decode cX9_digest 240 = .ok (.istore 7, 2) := by decide +kernel
theorem dX9_digest_242 : decode cX9_digest 242 = .ok (.iload 7, 2) := by decide +kernel
theorem dX9_digest_244 : decode cX9_digest 244 = .ok (.iload 6, 2) := by decide +kernel
theorem dX9_digest_246 : decode cX9_digest 246 = .ok (.if_icmp .ge 23, 3) := by decide +kernel
theorem dX9_digest_249 : decode cX9_digest 249 = .ok (.aload 5, 2) := by decide +kernel
theorem dX9_digest_251 : decode cX9_digest 251 = .ok (.iload 7, 2) := by decide +kernel
theorem dX9_digest_253 : decode cX9_digest 253 = .ok (.iaload, 1) := by decide +kernel
theorem dX9_digest_254 : decode cX9_digest 254 = .ok (.istore 8, 2) := by decide +kernel
theorem dX9_digest_256 : decode cX9_digest 256 = .ok (.aload_n 0, 1) := by decide +kernel
theorem dX9_digest_257 : decode cX9_digest 257 = .ok (.iload 8, 2) := by decide +kernel
theorem dX9_digest_259 : decode cX9_digest 259 = .ok (.i2l, 1) := by decide +kernel
theorem dX9_digest_260 : decode cX9_digest 260 = .ok (.invokevirtual 293, 3) := by decide +kernel
theorem dX9_digest_263 : decode cX9_digest 263 = .ok (.iinc 7 1, 3) := by decide +kernel
theorem dX9_digest_266 : decode cX9_digest 266 = .ok (.goto (-24), 3) := by decide +kernel
theorem dX9_digest_269 : decode cX9_digest 269 = .ok (.iconst 0, 1) := by decide +kernel
theorem dX9_digest_270 : decode cX9_digest 270 = .ok (.istore 5, 2) := by decide +kernel
theorem dX9_digest_272 : decode cX9_digest 272 = .ok (.iload 5, 2) := by decide +kernel
theorem dX9_digest_274 : decode cX9_digest 274 = .ok (.iconst 4, 1) := by decide +kernel
theorem dX9_digest_275 : decode cX9_digest 275 = .ok (.if_icmp .ge 47, 3) := by decide +kernel
theorem dX9_digest_278 : decode cX9_digest 278 = .ok (.iconst 0, 1) := by decide +kernel
theorem dX9_digest_279 : decode cX9_digest 279 = .ok (.istore 6, 2) := by decide +kernel
theorem dX9_digest_281 : decode cX9_digest 281 = .ok (.iload 6, 2) := by decide +kernel
theorem dX9_digest_283 : decode cX9_digest 283 = .ok (.iconst 3, 1) := by decide +kernel
theorem dX9_digest_284 : decode cX9_digest 284 = .ok (.if_icmp .ge 22, 3) := by decide +kernel
theorem dX9_digest_287 : decode cX9_digest 287 = .ok (.aload_n 0, 1) := by decide +kernel
theorem dX9_digest_288 : decode cX9_digest 288 = .ok (.aload_n 0, 1) := by decide +kernel
theorem dX9_digest_289 : decode cX9_digest 289 = .ok (.iload 5, 2) := by decide +kernel
theorem dX9_digest_291 : decode cX9_digest 291 = .ok (.iload 6, 2) := by decide +kernel
theorem dX9_digest_293 : decode cX9_digest 293 = .ok (.invokevirtual 248, 3) := by decide +kernel
theorem dX9_digest_296 : decode cX9_digest 296 = .ok (.i2l, 1) := by decide +kernel
theorem dX9_digest_297 : decode cX9_digest 297 = .ok (.invokevirtual 293, 3) := by decide +kernel
theorem dX9_digest_300 : decode cX9_digest 300 = .ok (.iinc 6 1, 3) := by decide +kernel
theorem dX9_digest_303 : decode cX9_digest 303 = .ok (.goto (-22), 3) := by decide +kernel
theorem dX9_digest_306 : decode cX9_digest 306 = .ok (.aload_n 0, 1) := by decide +kernel
theorem dX9_digest_307 : decode cX9_digest 307 = .ok (.aload_n 0, 1) := by decide +kernel
theorem dX9_digest_308 : decode cX9_digest 308 = .ok (.iload 5, 2) := by decide +kernel
theorem dX9_digest_310 : decode cX9_digest 310 = .ok (.invokevirtual 251, 3) := by decide +kernel
theorem dX9_digest_313 : decode cX9_digest 313 = .ok (.invokevirtual 293, 3) := by decide +kernel
theorem dX9_digest_316 : decode cX9_digest 316 = .ok (.iinc 5 1, 3) := by decide +kernel
theorem dX9_digest_319 : decode cX9_digest 319 = .ok (.goto (-47), 3) := by decide +kernel
theorem dX9_digest_322 : decode cX9_digest 322 = .ok (.aload_n 0, 1) := by decide +kernel
theorem dX9_digest_323 : decode cX9_digest 323 = .ok (.iconst 4, 1) := by decide +kernel
theorem dX9_digest_324 : decode cX9_digest 324 = .ok (.bipush 16, 2) := by decide +kernel
theorem dX9_digest_326 : decode cX9_digest 326 = .ok (.iload_n 2, 1) := by decide +kernel
theorem dX9_digest_327 : decode cX9_digest 327 = .ok (.isub, 1) := by decide +kernel
theorem dX9_digest_328 : decode cX9_digest 328 = .ok (.imul, 1) := by decide +kernel
theorem dX9_digest_329 : decode cX9_digest 329 = .ok (.i2l, 1) := by decide +kernel
theorem dX9_digest_330 : decode cX9_digest 330 = .ok (.invokevirtual 293, 3) := by decide +kernel
theorem dX9_digest_333 : decode cX9_digest 333 = .ok (.aload_n 0, 1) := by decide +kernel
theorem dX9_digest_334 : decode cX9_digest 334 = .ok (.aload_n 0, 1) := by decide +kernel
theorem dX9_digest_335 : decode cX9_digest 335 = .ok (.invokevirtual 282, 3) := by decide +kernel
theorem dX9_digest_338 : decode cX9_digest 338 = .ok (.ifCond .eq 7, 3) := by decide +kernel
theorem dX9_digest_341 : decode cX9_digest 341 = .ok (.lconst 1, 1) := by decide +kernel
theorem dX9_digest_342 : decode cX9_digest 342 = .ok (.goto 4, 3) := by decide +kernel
theorem dX9_digest_345 : decode cX9_digest 345 = .ok (.lconst 0, 1) := by decide +kernel
theorem dX9_digest_346 : decode cX9_digest 346 = .ok (.invokevirtual 293, 3) := by decide +kernel
theorem dX9_digest_349 : decode cX9_digest 349 = .ok (.aload_n 0, 1) := by decide +kernel
theorem dX9_digest_350 : decode cX9_digest 350 = .ok (.getfield 286, 3) := by decide +kernel
theorem dX9_digest_353 : decode cX9_digest 353 = .ok (.lreturn, 1) := by decide +kernel
theorem dJ5_init_d00df_0 : decode cJ5_init_d00df 0 = .ok (.aload_n 0, 1) := by decide +kernel
theorem dJ5_init_d00df_1 : decode cJ5_init_d00df 1 = .ok (.invokespecial 3, 3) := by decide +kernel
theorem dJ5_init_d00df_4 : decode cJ5_init_d00df 4 = .ok (.getstatic 18, 3) := by decide +kernel
theorem dJ5_init_d00df_7 : decode cJ5_init_d00df 7 = .ok (.ifCond .eq 18, 3) := by decide +kernel
theorem dJ5_init_d00df_10 : decode cJ5_init_d00df 10 = .ok (.aload_n 0, 1) := by decide +kernel
theorem dJ5_init_d00df_11 : decode cJ5_init_d00df 11 = .ok (.iload_n 1, 1) := by decide +kernel
theorem dJ5_init_d00df_12 : decode cJ5_init_d00df 12 = .ok (.newarray .byte, 2) := by decide +kernel
theorem dJ5_init_d00df_14 : decode cJ5_init_d00df 14 = .ok (.putfield 15, 3) := by decide +kernel
theorem dJ5_init_d00df_17 : decode cJ5_init_d00df 17 = .ok (.aload_n 0, 1) := by decide +kernel
theorem dJ5_init_d00df_18 : decode cJ5_init_d00df 18 = .ok (.iconst 0, 1) := by decide +kernel
theorem dJ5_init_d00df_19 : decode cJ5_init_d00df 19 = .ok (.putfield 22, 3) := by decide +kernel
theorem dJ5_init_d00df_22 : decode cJ5_init_d00df 22 = .ok (.goto 16, 3) := by decide +kernel
theorem dJ5_init_d00df_25 : decode cJ5_init_d00df 25 = .ok (.aload_n 0, 1) := by decide +kernel
theorem dJ5_init_d00df_26 : decode cJ5_init_d00df 26 = .ok (.iload_n 1, 1) := by decide +kernel
theorem dJ5_init_d00df_27 : decode cJ5_init_d00df 27 = .ok (.invokestatic 26, 3) := by decide +kernel
theorem dJ5_init_d00df_30 : decode cJ5_init_d00df 30 = .ok (.putfield 15, 3) := by decide +kernel
theorem dJ5_init_d00df_33 : decode cJ5_init_d00df 33 = .ok (.aload_n 0, 1) := by decide +kernel
theorem dJ5_init_d00df_34 : decode cJ5_init_d00df 34 = .ok (.iconst 1, 1) := by decide +kernel
theorem dJ5_init_d00df_35 : decode cJ5_init_d00df 35 = .ok (.putfield 22, 3) := by decide +kernel
theorem dJ5_init_d00df_38 : decode cJ5_init_d00df 38 = .ok (.return_, 1) := by decide +kernel
theorem dJ5_length_8abf5_0 : decode cJ5_length_8abf5 0 = .ok (.aload_n 0, 1) := by decide +kernel
theorem dJ5_length_8abf5_1 : decode cJ5_length_8abf5 1 = .ok (.getfield 79, 3) := by decide +kernel
theorem dJ5_length_8abf5_4 : decode cJ5_length_8abf5 4 = .ok (.ireturn, 1) := by decide +kernel
theorem dJ5_ensureCapacityInternal_d00df_0 : decode cJ5_ensureCapacityInternal_d00df 0 = .ok (.aload_n 0, 1) := by decide +kernel
theorem dJ5_ensureCapacityInternal_d00df_1 : decode cJ5_ensureCapacityInternal_d00df 1 = .ok (.getfield 15, 3) := by decide +kernel
theorem dJ5_ensureCapacityInternal_d00df_4 : decode cJ5_ensureCapacityInternal_d00df 4 = .ok (.arraylength, 1) := by decide +kernel
theorem dJ5_ensureCapacityInternal_d00df_5 : decode cJ5_ensureCapacityInternal_d00df 5 = .ok (.aload_n 0, 1) := by decide +kernel
theorem dJ5_ensureCapacityInternal_d00df_6 : decode cJ5_ensureCapacityInternal_d00df 6 = .ok (.getfield 22, 3) := by decide +kernel
theorem dJ5_ensureCapacityInternal_d00df_9 : decode cJ5_ensureCapacityInternal_d00df 9 = .ok (.ishr, 1) := by decide +kernel
theorem dJ5_ensureCapacityInternal_d00df_10 : decode cJ5_ensureCapacityInternal_d00df 10 = .ok (.istore_n 2, 1) := by decide +kernel
theorem dJ5_ensureCapacityInternal_d00df_11 : decode cJ5_ensureCapacityInternal_d00df 11 = .ok (.iload_n 1, 1) := by decide +kernel
theorem dJ5_ensureCapacityInternal_d00df_12 : decode cJ5_ensureCapacityInternal_d00df 12 = .ok (.iload_n 2, 1) := by decide +kernel
theorem dJ5_ensureCapacityInternal_d00df_13 : decode cJ5_ensureCapacityInternal_d00df 13 = .ok (.isub, 1) := by decide +kernel
theorem dJ5_ensureCapacityInternal_d00df_14 : decode cJ5_ensureCapacityInternal_d00df 14 = .ok (.ifCond .le 24, 3) := by decide +kernel
theorem dJ5_ensureCapacityInternal_d00df_17 : decode cJ5_ensureCapacityInternal_d00df 17 = .ok (.aload_n 0, 1) := by decide +kernel
theorem dJ5_ensureCapacityInternal_d00df_18 : decode cJ5_ensureCapacityInternal_d00df 18 = .ok (.aload_n 0, 1) := by decide +kernel
theorem dJ5_ensureCapacityInternal_d00df_19 : decode cJ5_ensureCapacityInternal_d00df 19 = .ok (.getfield 15, 3) := by decide +kernel
theorem dJ5_ensureCapacityInternal_d00df_22 : decode cJ5_ensureCapacityInternal_d00df 22 = .ok (.aload_n 0, 1) := by decide +kernel
theorem dJ5_ensureCapacityInternal_d00df_23 : decode cJ5_ensureCapacityInternal_d00df 23 = .ok (.iload_n 1, 1) := by decide +kernel
theorem dJ5_ensureCapacityInternal_d00df_24 : decode cJ5_ensureCapacityInternal_d00df 24 = .ok (.invokevirtual 104, 3) := by decide +kernel
theorem dJ5_ensureCapacityInternal_d00df_27 : decode cJ5_ensureCapacityInternal_d00df 27 = .ok (.aload_n 0, 1) := by decide +kernel
theorem dJ5_ensureCapacityInternal_d00df_28 : decode cJ5_ensureCapacityInternal_d00df 28 = .ok (.getfield 22, 3) := by decide +kernel
theorem dJ5_ensureCapacityInternal_d00df_31 : decode cJ5_ensureCapacityInternal_d00df 31 = .ok (.ishl, 1) := by decide +kernel
theorem dJ5_ensureCapacityInternal_d00df_32 : decode cJ5_ensureCapacityInternal_d00df 32 = .ok (.invokestatic 108, 3) := by decide +kernel
theorem dJ5_ensureCapacityInternal_d00df_35 : decode cJ5_ensureCapacityInternal_d00df 35 = .ok (.putfield 15, 3) := by decide +kernel
theorem dJ5_ensureCapacityInternal_d00df_38 : decode cJ5_ensureCapacityInternal_d00df 38 = .ok (.return_, 1) := by decide +kernel
theorem dJ5_newCapacity_0f7a4_0 : decode cJ5_newCapacity_0f7a4 0 = .ok (.aload_n 0, 1) := by decide +kernel
theorem dJ5_newCapacity_0f7a4_1 : decode cJ5_newCapacity_0f7a4 1 = .ok (.getfield 15, 3) := by decide +kernel
theorem dJ5_newCapacity_0f7a4_4 : decode cJ5_newCapacity_0f7a4 4 = .ok (.arraylength, 1) := by decide +kernel
theorem dJ5_newCapacity_0f7a4_5 : decode cJ5_newCapacity_0f7a4 5 = .ok (.istore_n 2, 1) := by decide +kernel
theorem dJ5_newCapacity_0f7a4_6 : decode cJ5_newCapacity_0f7a4 6 = .ok (.iload_n 1, 1) := by decide +kernel
theorem dJ5_newCapacity_0f7a4_7 : decode cJ5_newCapacity_0f7a4 7 = .ok (.aload_n 0, 1) := by decide +kernel
theorem dJ5_newCapacity_0f7a4_8 : decode cJ5_newCapacity_0f7a4 8 = .ok (.getfield 22, 3) := by decide +kernel
theorem dJ5_newCapacity_0f7a4_11 : decode cJ5_newCapacity_0f7a4 11 = .ok (.ishl, 1) := by decide +kernel
theorem dJ5_newCapacity_0f7a4_12 : decode cJ5_newCapacity_0f7a4 12 = .ok (.istore_n 3, 1) := by decide +kernel
theorem dJ5_newCapacity_0f7a4_13 : decode cJ5_newCapacity_0f7a4 13 = .ok (.iload_n 3, 1) := by decide +kernel
theorem dJ5_newCapacity_0f7a4_14 : decode cJ5_newCapacity_0f7a4 14 = .ok (.iload_n 2, 1) := by decide +kernel
theorem dJ5_newCapacity_0f7a4_15 : decode cJ5_newCapacity_0f7a4 15 = .ok (.isub, 1) := by decide +kernel
theorem dJ5_newCapacity_0f7a4_16 : decode cJ5_newCapacity_0f7a4 16 = .ok (.istore 4, 2) := by decide +kernel
theorem dJ5_newCapacity_0f7a4_18 : decode cJ5_newCapacity_0f7a4 18 = .ok (.iload_n 2, 1) := by decide +kernel
theorem dJ5_newCapacity_0f7a4_19 : decode cJ5_newCapacity_0f7a4 19 = .ok (.iload 4, 2) := by decide +kernel
theorem dJ5_newCapacity_0f7a4_21 : decode cJ5_newCapacity_0f7a4 21 = .ok (.iload_n 2, 1) := by decide +kernel
theorem dJ5_newCapacity_0f7a4_22 : decode cJ5_newCapacity_0f7a4 22 = .ok (.iconst 2, 1) := by decide +kernel
theorem dJ5_newCapacity_0f7a4_23 : decode cJ5_newCapacity_0f7a4 23 = .ok (.aload_n 0, 1) := by decide +kernel
theorem dJ5_newCapacity_0f7a4_24 : decode cJ5_newCapacity_0f7a4 24 = .ok (.getfield 22, 3) := by decide +kernel
theorem dJ5_newCapacity_0f7a4_27 : decode cJ5_newCapacity_0f7a4 27 = .ok (.ishl, 1) := by decide +kernel
theorem dJ5_newCapacity_0f7a4_28 : decode cJ5_newCapacity_0f7a4 28 = .ok (.iadd, 1) := by decide +kernel
theorem dJ5_newCapacity_0f7a4_29 : decode cJ5_newCapacity_0f7a4 29 = .ok (.invokestatic 114, 3) := by decide +kernel
theorem dJ5_newCapacity_0f7a4_32 : decode cJ5_newCapacity_0f7a4 32 = .ok (.istore 5, 2) := by decide +kernel
theorem dJ5_newCapacity_0f7a4_34 : decode cJ5_newCapacity_0f7a4 34 = .ok (.iload 5, 2) := by decide +kernel
theorem dJ5_newCapacity_0f7a4_36 : decode cJ5_newCapacity_0f7a4 36 = .ok (.ldc 39, 2) := by decide +kernel
theorem dJ5_newCapacity_0f7a4_38 : decode cJ5_newCapacity_0f7a4 38 = .ok (.if_icmp .ne 13, 3) := by decide +kernel
theorem dJ5_newCapacity_0f7a4_41 : decode cJ5_newCapacity_0f7a4 41 = .ok (.new 120, 3) := by decide +kernel
theorem dJ5_newCapacity_0f7a4_44 : decode cJ5_newCapacity_0f7a4 44 = .ok (.dup, 1) := by decide +kernel
theorem dJ5_newCapacity_0f7a4_45 : decode cJ5_newCapacity_0f7a4 45 = .ok (.ldc 122, 2) := by decide +kernel
theorem dJ5_newCapacity_0f7a4_47 : decode cJ5_newCapacity_0f7a4 47 = .ok (.invokespecial 124, 3) := by decide +kernel
theorem dJ5_newCapacity_0f7a4_50 : decode cJ5_newCapacity_0f7a4 50 = .ok (.athrow, 1) := by decide +kernel
theorem dJ5_newCapacity_0f7a4_51 : decode cJ5_newCapacity_0f7a4 51 = .ok (.iload 5, 2) := by decide +kernel
theorem dJ5_newCapacity_0f7a4_53 : decode cJ5_newCapacity_0f7a4 53 = .ok (.aload_n 0, 1) := by decide +kernel
theorem dJ5_newCapacity_0f7a4_54 : decode cJ5_newCapacity_0f7a4 54 = .ok (.getfield 22, 3) := by decide +kernel
theorem dJ5_newCapacity_0f7a4_57 : decode cJ5_newCapacity_0f7a4 57 = .ok (.ishr, 1) := by decide +kernel
theorem dJ5_newCapacity_0f7a4_58 : decode cJ5_newCapacity_0f7a4 58 = .ok (.ireturn, 1) := by decide +kernel
theorem dJ5_inflate_da8c8_0 : decode cJ5_inflate_da8c8 0 = .ok (.aload_n 0, 1) := by decide +kernel
theorem dJ5_inflate_da8c8_1 : decode cJ5_inflate_da8c8 1 = .ok (.invokevirtual 83, 3) := by decide +kernel
theorem dJ5_inflate_da8c8_4 : decode cJ5_inflate_da8c8 4 = .ok (.ifCond .ne 4, 3) := by decide +kernel
theorem dJ5_inflate_da8c8_7 : decode cJ5_inflate_da8c8 7 = .ok (.return_, 1) := by decide +kernel
theorem dJ5_inflate_da8c8_8 : decode cJ5_inflate_da8c8 8 = .ok (.aload_n 0, 1) := by decide +kernel
theorem dJ5_inflate_da8c8_9 : decode cJ5_inflate_da8c8 9 = .ok (.getfield 15, 3) := by decide +kernel
theorem dJ5_inflate_da8c8_12 : decode cJ5_inflate_da8c8 12 = .ok (.arraylength, 1) := by decide +kernel
theorem dJ5_inflate_da8c8_13 : decode cJ5_inflate_da8c8 13 = .ok (.invokestatic 26, 3) := by decide +kernel
theorem dJ5_inflate_da8c8_16 : decode cJ5_inflate_da8c8 16 = .ok (.astore_n 1, 1) := by decide +kernel
theorem dJ5_inflate_da8c8_17 : decode cJ5_inflate_da8c8 17 = .ok (.aload_n 0, 1) := by decide +kernel
theorem dJ5_inflate_da8c8_18 : decode cJ5_inflate_da8c8 18 = .ok (.getfield 15, 3) := by decide +kernel
theorem dJ5_inflate_da8c8_21 : decode cJ5_inflate_da8c8 21 = .ok (.iconst 0, 1) := by decide +kernel
theorem dJ5_inflate_da8c8_22 : decode cJ5_inflate_da8c8 22 = .ok (.aload_n 1, 1) := by decide +kernel
theorem dJ5_inflate_da8c8_23 : decode cJ5_inflate_da8c8 23 = .ok (.iconst 0, 1) := by decide +kernel
theorem dJ5_inflate_da8c8_24 : decode cJ5_inflate_da8c8 24 = .ok (.aload_n 0, 1) := by decide +kernel
theorem dJ5_inflate_da8c8_25 : decode cJ5_inflate_da8c8 25 = .ok (.getfield 79, 3) := by decide +kernel
theorem dJ5_inflate_da8c8_28 : decode cJ5_inflate_da8c8 28 = .ok (.invokestatic 125, 3) := by decide +kernel
theorem dJ5_inflate_da8c8_31 : decode cJ5_inflate_da8c8 31 = .ok (.aload_n 0, 1) := by decide +kernel
theorem dJ5_inflate_da8c8_32 : decode cJ5_inflate_da8c8 32 = .ok (.aload_n 1, 1) := by decide +kernel
theorem dJ5_inflate_da8c8_33 : decode cJ5_inflate_da8c8 33 = .ok (.putfield 15, 3) := by decide +kernel
theorem dJ5_inflate_da8c8_36 : decode cJ5_inflate_da8c8 36 = .ok (.aload_n 0, 1) := by decide +kernel
theorem dJ5_inflate_da8c8_37 : decode cJ5_inflate_da8c8 37 = .ok (.iconst 1, 1) := by decide +kernel
theorem dJ5_inflate_da8c8_38 : decode cJ5_inflate_da8c8 38 = .ok (.putfield 22, 3) := by decide +kernel
theorem dJ5_inflate_da8c8_41 : decode cJ5_inflate_da8c8 41 = .ok (.return_, 1) := by decide +kernel
theorem dJ5_append_cf1ce_0 : decode cJ5_append_cf1ce 0 = .ok (.aload_n 1, 1) := by decide +kernel
theorem dJ5_append_cf1ce_1 : decode cJ5_append_cf1ce 1 = .ok (.ifnonnull 8, 3) := by decide +kernel
theorem dJ5_append_cf1ce_4 : decode cJ5_append_cf1ce 4 = .ok (.aload_n 0, 1) := by decide +kernel
theorem dJ5_append_cf1ce_5 : decode cJ5_append_cf1ce 5 = .ok (.invokevirtual 204, 3) := by decide +kernel
theorem dJ5_append_cf1ce_8 : decode cJ5_append_cf1ce 8 = .ok (.areturn, 1) := by decide +kernel
theorem dJ5_append_cf1ce_9 : decode cJ5_append_cf1ce 9 = .ok (.aload_n 1, 1) := by decide +kernel
theorem dJ5_append_cf1ce_10 : decode cJ5_append_cf1ce 10 = .ok (.invokevirtual 32, 3) := by decide +kernel
theorem dJ5_append_cf1ce_13 : decode cJ5_append_cf1ce 13 = .ok (.istore_n 2, 1) := by decide +kernel
theorem dJ5_append_cf1ce_14 : decode cJ5_append_cf1ce 14 = .ok (.aload_n 0, 1) := by decide +kernel
theorem dJ5_append_cf1ce_15 : decode cJ5_append_cf1ce 15 = .ok (.aload_n 0, 1) := by decide +kernel
theorem dJ5_append_cf1ce_16 : decode cJ5_append_cf1ce 16 = .ok (.getfield 79, 3) := by decide +kernel
theorem dJ5_append_cf1ce_19 : decode cJ5_append_cf1ce 19 = .ok (.iload_n 2, 1) := by decide +kernel
theorem dJ5_append_cf1ce_20 : decode cJ5_append_cf1ce 20 = .ok (.iadd, 1) := by decide +kernel
theorem dJ5_append_cf1ce_21 : decode cJ5_append_cf1ce 21 = .ok (.invokevirtual 100, 3) := by decide +kernel
theorem dJ5_append_cf1ce_24 : decode cJ5_append_cf1ce 24 = .ok (.aload_n 0, 1) := by decide +kernel
theorem dJ5_append_cf1ce_25 : decode cJ5_append_cf1ce 25 = .ok (.aload_n 0, 1) := by decide +kernel
theorem dJ5_append_cf1ce_26 : decode cJ5_append_cf1ce 26 = .ok (.getfield 79, 3) := by decide +kernel
theorem dJ5_append_cf1ce_29 : decode cJ5_append_cf1ce 29 = .ok (.aload_n 1, 1) := by decide +kernel
theorem dJ5_append_cf1ce_30 : decode cJ5_append_cf1ce 30 = .ok (.invokevirtual 208, 3) := by decide +kernel
theorem dJ5_append_cf1ce_33 : decode cJ5_append_cf1ce 33 = .ok (.aload_n 0, 1) := by decide +kernel
theorem dJ5_append_cf1ce_34 : decode cJ5_append_cf1ce 34 = .ok (.dup, 1) := by decide +kernel
theorem dJ5_append_cf1ce_35 : decode cJ5_append_cf1ce 35 = .ok (.getfield 79, 3) := by decide +kernel
theorem dJ5_append_cf1ce_38 : decode cJ5_append_cf1ce 38 = .ok (.iload_n 2, 1) := by decide +kernel
theorem dJ5_append_cf1ce_39 : decode cJ5_append_cf1ce 39 = .ok (.iadd, 1) := by decide +kernel
theorem dJ5_append_cf1ce_40 : decode cJ5_append_cf1ce 40 = .ok (.putfield 79, 3) := by decide +kernel
theorem dJ5_append_cf1ce_43 : decode cJ5_append_cf1ce 43 = .ok (.aload_n 0, 1) := by decide +kernel
theorem dJ5_append_cf1ce_44 : decode cJ5_append_cf1ce 44 = .ok (.areturn, 1) := by decide +kernel
theorem dJ5_appendNull_278bc_0 : decode cJ5_appendNull_278bc 0 = .ok (.aload_n 0, 1) := by decide +kernel
theorem dJ5_appendNull_278bc_1 : decode cJ5_appendNull_278bc 1 = .ok (.aload_n 0, 1) := by decide +kernel
theorem dJ5_appendNull_278bc_2 : decode cJ5_appendNull_278bc 2 = .ok (.getfield 79, 3) := by decide +kernel
theorem dJ5_appendNull_278bc_5 : decode cJ5_appendNull_278bc 5 = .ok (.iconst 4, 1) := by decide +kernel
theorem dJ5_appendNull_278bc_6 : decode cJ5_appendNull_278bc 6 = .ok (.iadd, 1) := by decide +kernel
theorem dJ5_appendNull_278bc_7 : decode cJ5_appendNull_278bc 7 = .ok (.invokevirtual 100, 3) := by decide +kernel
theorem dJ5_appendNull_278bc_10 : decode cJ5_appendNull_278bc 10 = .ok (.aload_n 0, 1) := by decide +kernel
theorem dJ5_appendNull_278bc_11 : decode cJ5_appendNull_278bc 11 = .ok (.getfield 79, 3) := by decide +kernel
theorem dJ5_appendNull_278bc_14 : decode cJ5_appendNull_278bc 14 = .ok (.istore_n 1, 1) := by decide +kernel
theorem dJ5_appendNull_278bc_15 : decode cJ5_appendNull_278bc 15 = .ok (.aload_n 0, 1) := by decide +kernel
theorem dJ5_appendNull_278bc_16 : decode cJ5_appendNull_278bc 16 = .ok (.getfield 15, 3) := by decide +kernel
theorem dJ5_appendNull_278bc_19 : decode cJ5_appendNull_278bc 19 = .ok (.astore_n 2, 1) := by decide +kernel
theorem dJ5_appendNull_278bc_20 : decode cJ5_appendNull_278bc 20 = .ok (.aload_n 0, 1) := by decide +kernel
theorem dJ5_appendNull_278bc_21 : decode cJ5_appendNull_278bc 21 = .ok (.invokevirtual 83, 3) := by decide +kernel
theorem dJ5_appendNull_278bc_24 : decode cJ5_appendNull_278bc 24 = .ok (.ifCond .eq 38, 3) := by decide +kernel
theorem dJ5_appendNull_278bc_27 : decode cJ5_appendNull_278bc 27 = .ok (.aload_n 2, 1) := by decide +kernel
theorem dJ5_appendNull_278bc_28 : decode cJ5_appendNull_278bc 28 = .ok (.iload_n 1, 1) := by decide +kernel
theorem dJ5_appendNull_278bc_29 : decode cJ5_appendNull_278bc 29 = .ok (.iinc 1 1, 3) := by decide +kernel
theorem dJ5_appendNull_278bc_32 : decode cJ5_appendNull_278bc 32 = .ok (.bipush 110, 2) := by decide +kernel
theorem dJ5_appendNull_278bc_34 : decode cJ5_appendNull_278bc 34 = .ok (.bastore, 1) := by decide +kernel
theorem dJ5_appendNull_278bc_35 : decode cJ5_appendNull_278bc 35 = .ok (.aload_n 2, 1) := by decide +kernel
theorem dJ5_appendNull_278bc_36 : decode cJ5_appendNull_278bc 36 = .ok (.iload_n 1, 1) := by decide +kernel
theorem dJ5_appendNull_278bc_37 : decode cJ5_appendNull_278bc 37 = .ok (.iinc 1 1, 3) := by decide +kernel
theorem dJ5_appendNull_278bc_40 : decode cJ5_appendNull_278bc 40 = .ok (.bipush 117, 2) := by decide +kernel
theorem dJ5_appendNull_278bc_42 : decode cJ5_appendNull_278bc 42 = .ok (.bastore, 1) := by decide +kernel
theorem dJ5_appendNull_278bc_43 : decode cJ5_appendNull_278bc 43 = .ok (.aload_n 2, 1) := by decide +kernel
theorem dJ5_appendNull_278bc_44 : decode cJ5_appendNull_278bc 44 = .ok (.iload_n 1, 1) := by decide +kernel
theorem dJ5_appendNull_278bc_45 : decode cJ5_appendNull_278bc 45 = .ok (.iinc 1 1, 3) := by decide +kernel
theorem dJ5_appendNull_278bc_48 : decode cJ5_appendNull_278bc 48 = .ok (.bipush 108, 2) := by decide +kernel
theorem dJ5_appendNull_278bc_50 : decode cJ5_appendNull_278bc 50 = .ok (.bastore, 1) := by decide +kernel
theorem dJ5_appendNull_278bc_51 : decode cJ5_appendNull_278bc 51 = .ok (.aload_n 2, 1) := by decide +kernel
theorem dJ5_appendNull_278bc_52 : decode cJ5_appendNull_278bc 52 = .ok (.iload_n 1, 1) := by decide +kernel
theorem dJ5_appendNull_278bc_53 : decode cJ5_appendNull_278bc 53 = .ok (.iinc 1 1, 3) := by decide +kernel
theorem dJ5_appendNull_278bc_56 : decode cJ5_appendNull_278bc 56 = .ok (.bipush 108, 2) := by decide +kernel
theorem dJ5_appendNull_278bc_58 : decode cJ5_appendNull_278bc 58 = .ok (.bastore, 1) := by decide +kernel
theorem dJ5_appendNull_278bc_59 : decode cJ5_appendNull_278bc 59 = .ok (.goto 17, 3) := by decide +kernel
theorem dJ5_appendNull_278bc_62 : decode cJ5_appendNull_278bc 62 = .ok (.aload_n 2, 1) := by decide +kernel
theorem dJ5_appendNull_278bc_63 : decode cJ5_appendNull_278bc 63 = .ok (.iload_n 1, 1) := by decide +kernel
theorem dJ5_appendNull_278bc_64 : decode cJ5_appendNull_278bc 64 = .ok (.bipush 110, 2) := by decide +kernel
theorem dJ5_appendNull_278bc_66 : decode cJ5_appendNull_278bc 66 = .ok (.bipush 117, 2) := by decide +kernel
theorem dJ5_appendNull_278bc_68 : decode cJ5_appendNull_278bc 68 = .ok (.bipush 108, 2) := by decide +kernel
theorem dJ5_appendNull_278bc_70 : decode cJ5_appendNull_278bc 70 = .ok (.bipush 108, 2) := by decide +kernel
theorem dJ5_appendNull_278bc_72 : decode cJ5_appendNull_278bc 72 = .ok (.invokestatic 226, 3) := by decide +kernel
theorem dJ5_appendNull_278bc_75 : decode cJ5_appendNull_278bc 75 = .ok (.istore_n 1, 1) := by decide +kernel
theorem dJ5_appendNull_278bc_76 : decode cJ5_appendNull_278bc 76 = .ok (.aload_n 0, 1) := by decide +kernel
theorem dJ5_appendNull_278bc_77 : decode cJ5_appendNull_278bc 77 = .ok (.iload_n 1, 1) := by decide +kernel
theorem dJ5_appendNull_278bc_78 : decode cJ5_appendNull_278bc 78 = .ok (.putfield 79, 3) := by decide +kernel
theorem dJ5_appendNull_278bc_81 : decode cJ5_appendNull_278bc 81 = .ok (.aload_n 0, 1) := by decide +kernel
theorem dJ5_appendNull_278bc_82 : decode cJ5_appendNull_278bc 82 = .ok (.areturn, 1) := by decide +kernel
theorem dJ5_append_3fe6f_0 : decode cJ5_append_3fe6f 0 = .ok (.aload_n 0, 1) := by decide +kernel
theorem dJ5_append_3fe6f_1 : decode cJ5_append_3fe6f 1 = .ok (.aload_n 0, 1) := by decide +kernel
theorem dJ5_append_3fe6f_2 : decode cJ5_append_3fe6f 2 = .ok (.getfield 79, 3) := by decide +kernel
theorem dJ5_append_3fe6f_5 : decode cJ5_append_3fe6f 5 = .ok (.iconst 1, 1) := by decide +kernel
theorem dJ5_append_3fe6f_6 : decode cJ5_append_3fe6f 6 = .ok (.iadd, 1) := by decide +kernel
theorem dJ5_append_3fe6f_7 : decode cJ5_append_3fe6f 7 = .ok (.invokevirtual 100, 3) := by decide +kernel
theorem dJ5_append_3fe6f_10 : decode cJ5_append_3fe6f 10 = .ok (.aload_n 0, 1) := by decide +kernel
theorem dJ5_append_3fe6f_11 : decode cJ5_append_3fe6f 11 = .ok (.invokevirtual 83, 3) := by decide +kernel
theorem dJ5_append_3fe6f_14 : decode cJ5_append_3fe6f 14 = .ok (.ifCond .eq 31, 3) := by decide +kernel
theorem dJ5_append_3fe6f_17 : decode cJ5_append_3fe6f 17 = .ok (.iload_n 1, 1) := by decide +kernel
theorem dJ5_append_3fe6f_18 : decode cJ5_append_3fe6f 18 = .ok (.invokestatic 191, 3) := by decide +kernel
theorem dJ5_append_3fe6f_21 : decode cJ5_append_3fe6f 21 = .ok (.ifCond .eq 24, 3) := by decide +kernel
theorem dJ5_append_3fe6f_24 : decode cJ5_append_3fe6f 24 = .ok (.aload_n 0, 1) := by decide +kernel
theorem dJ5_append_3fe6f_25 : decode cJ5_append_3fe6f 25 = .ok (.getfield 15, 3) := by decide +kernel
theorem dJ5_append_3fe6f_28 : decode cJ5_append_3fe6f 28 = .ok (.aload_n 0, 1) := by decide +kernel
theorem dJ5_append_3fe6f_29 : decode cJ5_append_3fe6f 29 = .ok (.dup, 1) := by decide +kernel
theorem dJ5_append_3fe6f_30 : decode cJ5_append_3fe6f 30 = .ok (.getfield 79, 3) := by decide +kernel
theorem dJ5_append_3fe6f_33 : decode cJ5_append_3fe6f 33 = .ok (.dup_x1, 1) := by decide +kernel
theorem dJ5_append_3fe6f_34 : decode cJ5_append_3fe6f 34 = .ok (.iconst 1, 1) := by decide +kernel
theorem dJ5_append_3fe6f_35 : decode cJ5_append_3fe6f 35 = .ok (.iadd, 1) := by decide +kernel
theorem dJ5_append_3fe6f_36 : decode cJ5_append_3fe6f 36 = .ok (.putfield 79, 3) := by decide +kernel
theorem dJ5_append_3fe6f_39 : decode cJ5_append_3fe6f 39 = .ok (.iload_n 1, 1) := by decide +kernel
theorem dJ5_append_3fe6f_40 : decode cJ5_append_3fe6f 40 = .ok (.i2b, 1) := by decide +kernel
theorem dJ5_append_3fe6f_41 : decode cJ5_append_3fe6f 41 = .ok (.bastore, 1) := by decide +kernel
theorem dJ5_append_3fe6f_42 : decode cJ5_append_3fe6f 42 = .ok (.goto 33, 3) := by decide +kernel
theorem dJ5_append_3fe6f_45 : decode cJ5_append_3fe6f 45 = .ok (.aload_n 0, 1) := by decide +kernel
theorem dJ5_append_3fe6f_46 : decode cJ5_append_3fe6f 46 = .ok (.invokevirtual 83, 3) := by decide +kernel
theorem dJ5_append_3fe6f_49 : decode cJ5_append_3fe6f 49 = .ok (.ifCond .eq 7, 3) := by decide +kernel
theorem dJ5_append_3fe6f_52 : decode cJ5_append_3fe6f 52 = .ok (.aload_n 0, 1) := by decide +kernel
theorem dJ5_append_3fe6f_53 : decode cJ5_append_3fe6f 53 = .ok (.invokevirtual 195, 3) := by decide +kernel
theorem dJ5_append_3fe6f_56 : decode cJ5_append_3fe6f 56 = .ok (.aload_n 0, 1) := by decide +kernel
theorem dJ5_append_3fe6f_57 : decode cJ5_append_3fe6f 57 = .ok (.getfield 15, 3) := by decide +kernel
theorem dJ5_append_3fe6f_60 : decode cJ5_append_3fe6f 60 = .ok (.aload_n 0, 1) := by decide +kernel
theorem dJ5_append_3fe6f_61 : decode cJ5_append_3fe6f 61 = .ok (.dup, 1) := by decide +kernel
theorem dJ5_append_3fe6f_62 : decode cJ5_append_3fe6f 62 = .ok (.getfield 79, 3) := by decide +kernel
theorem dJ5_append_3fe6f_65 : decode cJ5_append_3fe6f 65 = .ok (.dup_x1, 1) := by decide +kernel
theorem dJ5_append_3fe6f_66 : decode cJ5_append_3fe6f 66 = .ok (.iconst 1, 1) := by decide +kernel
theorem dJ5_append_3fe6f_67 : decode cJ5_append_3fe6f 67 = .ok (.iadd, 1) := by decide +kernel
theorem dJ5_append_3fe6f_68 : decode cJ5_append_3fe6f 68 = .ok (.putfield 79, 3) := by decide +kernel
theorem dJ5_append_3fe6f_71 : decode cJ5_append_3fe6f 71 = .ok (.iload_n 1, 1) := by decide +kernel
theorem dJ5_append_3fe6f_72 : decode cJ5_append_3fe6f 72 = .ok (.invokestatic 197, 3) := by decide +kernel
theorem dJ5_append_3fe6f_75 : decode cJ5_append_3fe6f 75 = .ok (.aload_n 0, 1) := by decide +kernel
theorem dJ5_append_3fe6f_76 : decode cJ5_append_3fe6f 76 = .ok (.areturn, 1) := by decide +kernel
theorem dJ5_append_c97b9_0 : decode cJ5_append_c97b9 0 = .ok (.aload_n 0, 1) := by decide +kernel
theorem dJ5_append_c97b9_1 : decode cJ5_append_c97b9 1 = .ok (.getfield 79, 3) := by decide +kernel
theorem dJ5_append_c97b9_4 : decode cJ5_append_c97b9 4 = .ok (.istore_n 2, 1) := by decide +kernel
theorem dJ5_append_c97b9_5 : decode cJ5_append_c97b9 5 = .ok (.iload_n 2, 1) := by decide +kernel
theorem dJ5_append_c97b9_6 : decode cJ5_append_c97b9 6 = .ok (.iload_n 1, 1) := by decide +kernel
theorem dJ5_append_c97b9_7 : decode cJ5_append_c97b9 7 = .ok (.invokestatic 245, 3) := by decide +kernel
theorem dJ5_append_c97b9_10 : decode cJ5_append_c97b9 10 = .ok (.iadd, 1) := by decide +kernel
theorem dJ5_append_c97b9_11 : decode cJ5_append_c97b9 11 = .ok (.istore_n 3, 1) := by decide +kernel
theorem dJ5_append_c97b9_12 : decode cJ5_append_c97b9 12 = .ok (.aload_n 0, 1) := by decide +kernel
theorem dJ5_append_c97b9_13 : decode cJ5_append_c97b9 13 = .ok (.iload_n 3, 1) := by decide +kernel
theorem dJ5_append_c97b9_14 : decode cJ5_append_c97b9 14 = .ok (.invokevirtual 100, 3) := by decide +kernel
theorem dJ5_append_c97b9_17 : decode cJ5_append_c97b9 17 = .ok (.aload_n 0, 1) := by decide +kernel
theorem dJ5_append_c97b9_18 : decode cJ5_append_c97b9 18 = .ok (.invokevirtual 83, 3) := by decide +kernel
theorem dJ5_append_c97b9_21 : decode cJ5_append_c97b9 21 = .ok (.ifCond .eq 16, 3) := by decide +kernel
theorem dJ5_append_c97b9_24 : decode cJ5_append_c97b9 24 = .ok (.iload_n 1, 1) := by decide +kernel
theorem dJ5_append_c97b9_25 : decode cJ5_append_c97b9 25 = .ok (.iload_n 3, 1) := by decide +kernel
theorem dJ5_append_c97b9_26 : decode cJ5_append_c97b9 26 = .ok (.aload_n 0, 1) := by decide +kernel
theorem dJ5_append_c97b9_27 : decode cJ5_append_c97b9 27 = .ok (.getfield 15, 3) := by decide +kernel
theorem dJ5_append_c97b9_30 : decode cJ5_append_c97b9 30 = .ok (.invokestatic 248, 3) := by decide +kernel
theorem dJ5_append_c97b9_33 : decode cJ5_append_c97b9 33 = .ok (.pop, 1) := by decide +kernel
theorem dJ5_append_c97b9_34 : decode cJ5_append_c97b9 34 = .ok (.goto 14, 3) := by decide +kernel
theorem dJ5_append_c97b9_37 : decode cJ5_append_c97b9 37 = .ok (.iload_n 1, 1) := by decide +kernel
theorem dJ5_append_c97b9_38 : decode cJ5_append_c97b9 38 = .ok (.iload_n 2, 1) := by decide +kernel
theorem dJ5_append_c97b9_39 : decode cJ5_append_c97b9 39 = .ok (.iload_n 3, 1) := by decide +kernel
theorem dJ5_append_c97b9_40 : decode cJ5_append_c97b9 40 = .ok (.aload_n 0, 1) := by decide +kernel
theorem dJ5_append_c97b9_41 : decode cJ5_append_c97b9 41 = .ok (.getfield 15, 3) := by decide +kernel
theorem dJ5_append_c97b9_44 : decode cJ5_append_c97b9 44 = .ok (.invokestatic 251, 3) := by decide +kernel
theorem dJ5_append_c97b9_47 : decode cJ5_append_c97b9 47 = .ok (.pop, 1) := by decide +kernel
theorem dJ5_append_c97b9_48 : decode cJ5_append_c97b9 48 = .ok (.aload_n 0, 1) := by decide +kernel
theorem dJ5_append_c97b9_49 : decode cJ5_append_c97b9 49 = .ok (.iload_n 3, 1) := by decide +kernel
theorem dJ5_append_c97b9_50 : decode cJ5_append_c97b9 50 = .ok (.putfield 79, 3) := by decide +kernel
theorem dJ5_append_c97b9_53 : decode cJ5_append_c97b9 53 = .ok (.aload_n 0, 1) := by decide +kernel
theorem dJ5_append_c97b9_54 : decode cJ5_append_c97b9 54 = .ok (.areturn, 1) := by decide +kernel
theorem dJ5_getValue_6d5f1_0 : decode cJ5_getValue_6d5f1 0 = .ok (.aload_n 0, 1) := by decide +kernel
theorem dJ5_getValue_6d5f1_1 : decode cJ5_getValue_6d5f1 1 = .ok (.getfield 15, 3) := by decide +kernel
theorem dJ5_getValue_6d5f1_4 : decode cJ5_getValue_6d5f1 4 = .ok (.areturn, 1) := by decide +kernel
theorem dJ5_isLatin1_aae02_0 : decode cJ5_isLatin1_aae02 0 = .ok (.getstatic 18, 3) := by decide +kernel
theorem dJ5_isLatin1_aae02_3 : decode cJ5_isLatin1_aae02 3 = .ok (.ifCond .eq 14, 3) := by decide +kernel
theorem dJ5_isLatin1_aae02_6 : decode cJ5_isLatin1_aae02 6 = .ok (.aload_n 0, 1) := by decide +kernel
theorem dJ5_isLatin1_aae02_7 : decode cJ5_isLatin1_aae02 7 = .ok (.getfield 22, 3) := by decide +kernel
theorem dJ5_isLatin1_aae02_10 : decode cJ5_isLatin1_aae02 10 = .ok (.ifCond .ne 7, 3) := by decide +kernel
theorem dJ5_isLatin1_aae02_13 : decode cJ5_isLatin1_aae02 13 = .ok (.iconst 1, 1) := by decide +kernel
theorem dJ5_isLatin1_aae02_14 : decode cJ5_isLatin1_aae02 14 = .ok (.goto 4, 3) := by decide +kernel
theorem dJ5_isLatin1_aae02_17 : decode cJ5_isLatin1_aae02 17 = .ok (.iconst 0, 1) := by decide +kernel
theorem dJ5_isLatin1_aae02_18 : decode cJ5_isLatin1_aae02 18 = .ok (.ireturn, 1) := by decide +kernel
theorem dJ5_inflateIfNeededFor_a7421_0 : decode cJ5_inflateIfNeededFor_a7421 0 = .ok (.getstatic 18, 3) := by decide +kernel
theorem dJ5_inflateIfNeededFor_a7421_3 : decode cJ5_inflateIfNeededFor_a7421 3 = .ok (.ifCond .eq 18, 3) := by decide +kernel
theorem dJ5_inflateIfNeededFor_a7421_6 : decode cJ5_inflateIfNeededFor_a7421 6 = .ok (.aload_n 0, 1) := by decide +kernel
theorem dJ5_inflateIfNeededFor_a7421_7 : decode cJ5_inflateIfNeededFor_a7421 7 = .ok (.getfield 22, 3) := by decide +kernel
theorem dJ5_inflateIfNeededFor_a7421_10 : decode cJ5_inflateIfNeededFor_a7421 10 = .ok (.aload_n 1, 1) := by decide +kernel
theorem dJ5_inflateIfNeededFor_a7421_11 : decode cJ5_inflateIfNeededFor_a7421 11 = .ok (.invokevirtual 40, 3) := by decide +kernel
theorem dJ5_inflateIfNeededFor_a7421_14 : decode cJ5_inflateIfNeededFor_a7421 14 = .ok (.if_icmp .eq 7, 3) := by decide +kernel
theorem dJ5_inflateIfNeededFor_a7421_17 : decode cJ5_inflateIfNeededFor_a7421 17 = .ok (.aload_n 0, 1) := by decide +kernel
theorem dJ5_inflateIfNeededFor_a7421_18 : decode cJ5_inflateIfNeededFor_a7421 18 = .ok (.invokevirtual 195, 3) := by decide +kernel
theorem dJ5_inflateIfNeededFor_a7421_21 : decode cJ5_inflateIfNeededFor_a7421 21 = .ok (.return_, 1) := by decide +kernel
theorem dJ5_putStringAt_47b60_0 : decode cJ5_putStringAt_47b60 0 = .ok (.aload_n 0, 1) := by decide +kernel
theorem dJ5_putStringAt_47b60_1 : decode cJ5_putStringAt_47b60 1 = .ok (.aload_n 2, 1) := by decide +kernel
theorem dJ5_putStringAt_47b60_2 : decode cJ5_putStringAt_47b60 2 = .ok (.invokevirtual 397, 3) := by decide +kernel
theorem dJ5_putStringAt_47b60_5 : decode cJ5_putStringAt_47b60 5 = .ok (.aload_n 2, 1) := by decide +kernel
theorem dJ5_putStringAt_47b60_6 : decode cJ5_putStringAt_47b60 6 = .ok (.aload_n 0, 1) := by decide +kernel
theorem dJ5_putStringAt_47b60_7 : decode cJ5_putStringAt_47b60 7 = .ok (.getfield 15, 3) := by decide +kernel
theorem dJ5_putStringAt_47b60_10 : decode cJ5_putStringAt_47b60 10 = .ok (.iload_n 1, 1) := by decide +kernel
theorem dJ5_putStringAt_47b60_11 : decode cJ5_putStringAt_47b60 11 = .ok (.aload_n 0, 1) := by decide +kernel
theorem dJ5_putStringAt_47b60_12 : decode cJ5_putStringAt_47b60 12 = .ok (.getfield 22, 3) := by decide +kernel
theorem dJ5_putStringAt_47b60_15 : decode cJ5_putStringAt_47b60 15 = .ok (.invokevirtual 399, 3) := by decide +kernel
theorem dJ5_putStringAt_47b60_18 : decode cJ5_putStringAt_47b60 18 = .ok (.return_, 1) := by decide +kernel
theorem dJ6_getChars_ba4f3_0 : decode cJ6_getChars_ba4f3 0 = .ok (.iload_n 1, 1) := by decide +kernel
theorem dJ6_getChars_ba4f3_1 : decode cJ6_getChars_ba4f3 1 = .ok (.istore 5, 2) := by decide +kernel
theorem dJ6_getChars_ba4f3_3 : decode cJ6_getChars_ba4f3 3 = .ok (.iload_n 0, 1) := by decide +kernel
theorem dJ6_getChars_ba4f3_4 : decode cJ6_getChars_ba4f3 4 = .ok (.ifCond .ge 7, 3) := by decide +kernel
theorem dJ6_getChars_ba4f3_7 : decode cJ6_getChars_ba4f3 7 = .ok (.iconst 1, 1) := by decide +kernel
theorem dJ6_getChars_ba4f3_8 : decode cJ6_getChars_ba4f3 8 = .ok (.goto 4, 3) := by decide +kernel
theorem dJ6_getChars_ba4f3_11 : decode cJ6_getChars_ba4f3 11 = .ok (.iconst 0, 1) := by decide +kernel
theorem dJ6_getChars_ba4f3_12 : decode cJ6_getChars_ba4f3 12 = .ok (.istore 6, 2) := by decide +kernel
theorem dJ6_getChars_ba4f3_14 : decode cJ6_getChars_ba4f3 14 = .ok (.iload 6, 2) := by decide +kernel
theorem dJ6_getChars_ba4f3_16 : decode cJ6_getChars_ba4f3 16 = .ok (.ifCond .ne 6, 3) := by decide +kernel
theorem dJ6_getChars_ba4f3_19 : decode cJ6_getChars_ba4f3 19 = .ok (.iload_n 0, 1) := by decide +kernel
theorem dJ6_getChars_ba4f3_20 : decode cJ6_getChars_ba4f3 20 = .ok (.ineg, 1) := by decide +kernel
theorem dJ6_getChars_ba4f3_21 : decode cJ6_getChars_ba4f3 21 = .ok (.istore_n 0, 1) := by decide +kernel
theorem dJ6_getChars_ba4f3_22 : decode cJ6_getChars_ba4f3 22 = .ok (.iload_n 0, 1) := by decide +kernel
theorem dJ6_getChars_ba4f3_23 : decode cJ6_getChars_ba4f3 23 = .ok (.bipush (-100), 2) := by decide +kernel
theorem dJ6_getChars_ba4f3_25 : decode cJ6_getChars_ba4f3 25 = .ok (.if_icmp .gt 47, 3) := by decide +kernel
theorem dJ6_getChars_ba4f3_28 : decode cJ6_getChars_ba4f3 28 = .ok (.iload_n 0, 1) := by decide +kernel
theorem dJ6_getChars_ba4f3_29 : decode cJ6_getChars_ba4f3 29 = .ok (.bipush 100, 2) := by decide +kernel
theorem dJ6_getChars_ba4f3_31 : decode cJ6_getChars_ba4f3 31 = .ok (.idiv, 1) := by decide +kernel
theorem dJ6_getChars_ba4f3_32 : decode cJ6_getChars_ba4f3 32 = .ok (.istore_n 3, 1) := by decide +kernel
theorem dJ6_getChars_ba4f3_33 : decode cJ6_getChars_ba4f3 33 = .ok (.iload_n 3, 1) := by decide +kernel
theorem dJ6_getChars_ba4f3_34 : decode cJ6_getChars_ba4f3 34 = .ok (.bipush 100, 2) := by decide +kernel
theorem dJ6_getChars_ba4f3_36 : decode cJ6_getChars_ba4f3 36 = .ok (.imul, 1) := by decide +kernel
theorem dJ6_getChars_ba4f3_37 : decode cJ6_getChars_ba4f3 37 = .ok (.iload_n 0, 1) := by decide +kernel
theorem dJ6_getChars_ba4f3_38 : decode cJ6_getChars_ba4f3 38 = .ok (.isub, 1) := by decide +kernel
theorem dJ6_getChars_ba4f3_39 : decode cJ6_getChars_ba4f3 39 = .ok (.istore 4, 2) := by decide +kernel
theorem dJ6_getChars_ba4f3_41 : decode cJ6_getChars_ba4f3 41 = .ok (.iload_n 3, 1) := by decide +kernel
theorem dJ6_getChars_ba4f3_42 : decode cJ6_getChars_ba4f3 42 = .ok (.istore_n 0, 1) := by decide +kernel
theorem dJ6_getChars_ba4f3_43 : decode cJ6_getChars_ba4f3 43 = .ok (.aload_n 2, 1) := by decide +kernel
theorem dJ6_getChars_ba4f3_44 : decode cJ6_getChars_ba4f3 44 = .ok (.iinc 5 (-1), 3) := by decide +kernel
theorem dJ6_getChars_ba4f3_47 : decode cJ6_getChars_ba4f3 47 = .ok (.iload 5, 2) := by decide +kernel
theorem dJ6_getChars_ba4f3_49 : decode cJ6_getChars_ba4f3 49 = .ok (.getstatic 83, 3) := by decide +kernel
theorem dJ6_getChars_ba4f3_52 : decode cJ6_getChars_ba4f3 52 = .ok (.iload 4, 2) := by decide +kernel
theorem dJ6_getChars_ba4f3_54 : decode cJ6_getChars_ba4f3 54 = .ok (.baload, 1) := by decide +kernel
theorem dJ6_getChars_ba4f3_55 : decode cJ6_getChars_ba4f3 55 = .ok (.bastore, 1) := by decide +kernel
theorem dJ6_getChars_ba4f3_56 : decode cJ6_getChars_ba4f3 56 = .ok (.aload_n 2, 1) := by decide +kernel
theorem dJ6_getChars_ba4f3_57 : decode cJ6_getChars_ba4f3 57 = .ok (.iinc 5 (-1), 3) := by decide +kernel
theorem dJ6_getChars_ba4f3_60 : decode cJ6_getChars_ba4f3 60 = .ok (.iload 5, 2) := by decide +kernel
theorem dJ6_getChars_ba4f3_62 : decode cJ6_getChars_ba4f3 62 = .ok (.getstatic 87, 3) := by decide +kernel
theorem dJ6_getChars_ba4f3_65 : decode cJ6_getChars_ba4f3 65 = .ok (.iload 4, 2) := by decide +kernel
theorem dJ6_getChars_ba4f3_67 : decode cJ6_getChars_ba4f3 67 = .ok (.baload, 1) := by decide +kernel
theorem dJ6_getChars_ba4f3_68 : decode cJ6_getChars_ba4f3 68 = .ok (.bastore, 1) := by decide +kernel
theorem dJ6_getChars_ba4f3_69 : decode cJ6_getChars_ba4f3 69 = .ok (.goto (-47), 3) := by decide +kernel
theorem dJ6_getChars_ba4f3_72 : decode cJ6_getChars_ba4f3 72 = .ok (.aload_n 2, 1) := by decide +kernel
theorem dJ6_getChars_ba4f3_73 : decode cJ6_getChars_ba4f3 73 = .ok (.iinc 5 (-1), 3) := by decide +kernel
theorem dJ6_getChars_ba4f3_76 : decode cJ6_getChars_ba4f3 76 = .ok (.iload 5, 2) := by decide +kernel
theorem dJ6_getChars_ba4f3_78 : decode cJ6_getChars_ba4f3 78 = .ok (.getstatic 83, 3) := by decide +kernel
theorem dJ6_getChars_ba4f3_81 : decode cJ6_getChars_ba4f3 81 = .ok (.iload_n 0, 1) := by decide +kernel
theorem dJ6_getChars_ba4f3_82 : decode cJ6_getChars_ba4f3 82 = .ok (.ineg, 1) := by decide +kernel
theorem dJ6_getChars_ba4f3_83 : decode cJ6_getChars_ba4f3 83 = .ok (.baload, 1) := by decide +kernel
theorem dJ6_getChars_ba4f3_84 : decode cJ6_getChars_ba4f3 84 = .ok (.bastore, 1) := by decide +kernel
theorem dJ6_getChars_ba4f3_85 : decode cJ6_getChars_ba4f3 85 = .ok (.iload_n 0, 1) := by decide +kernel
theorem dJ6_getChars_ba4f3_86 : decode cJ6_getChars_ba4f3 86 = .ok (.bipush (-9), 2) := by decide +kernel
theorem dJ6_getChars_ba4f3_88 : decode cJ6_getChars_ba4f3 88 = .ok (.if_icmp .ge 16, 3) := by decide +kernel
theorem dJ6_getChars_ba4f3_91 : decode cJ6_getChars_ba4f3 91 = .ok (.aload_n 2, 1) := by decide +kernel
theorem dJ6_getChars_ba4f3_92 : decode cJ6_getChars_ba4f3 92 = .ok (.iinc 5 (-1), 3) := by decide +kernel
theorem dJ6_getChars_ba4f3_95 : decode cJ6_getChars_ba4f3 95 = .ok (.iload 5, 2) := by decide +kernel
theorem dJ6_getChars_ba4f3_97 : decode cJ6_getChars_ba4f3 97 = .ok (.getstatic 87, 3) := by decide +kernel
theorem dJ6_getChars_ba4f3_100 : decode cJ6_getChars_ba4f3 100 = .ok (.iload_n 0, 1) := by decide +kernel
theorem dJ6_getChars_ba4f3_101 : decode cJ6_getChars_ba4f3 101 = .ok (.ineg, 1) := by decide +kernel
theorem dJ6_getChars_ba4f3_102 : decode cJ6_getChars_ba4f3 102 = .ok (.baload, 1) := by decide +kernel
theorem dJ6_getChars_ba4f3_103 : decode cJ6_getChars_ba4f3 103 = .ok (.bastore, 1) := by decide +kernel
theorem dJ6_getChars_ba4f3_104 : decode cJ6_getChars_ba4f3 104 = .ok (.iload 6, 2) := by decide +kernel
theorem dJ6_getChars_ba4f3_106 : decode cJ6_getChars_ba4f3 106 = .ok (.ifCond .eq 12, 3) := by decide +kernel
theorem dJ6_getChars_ba4f3_109 : decode cJ6_getChars_ba4f3 109 = .ok (.aload_n 2, 1) := by decide +kernel
theorem dJ6_getChars_ba4f3_110 : decode cJ6_getChars_ba4f3 110 = .ok (.iinc 5 (-1), 3) := by decide +kernel
theorem dJ6_getChars_ba4f3_113 : decode cJ6_getChars_ba4f3 113 = .ok (.iload 5, 2) := by decide +kernel
theorem dJ6_getChars_ba4f3_115 : decode cJ6_getChars_ba4f3 115 = .ok (.bipush 45, 2) := by decide +kernel
theorem dJ6_getChars_ba4f3_117 : decode cJ6_getChars_ba4f3 117 = .ok (.bastore, 1) := by decide +kernel
theorem dJ6_getChars_ba4f3_118 : decode cJ6_getChars_ba4f3 118 = .ok (.iload 5, 2) := by decide +kernel
theorem dJ6_getChars_ba4f3_120 : decode cJ6_getChars_ba4f3 120 = .ok (.ireturn, 1) := by decide +kernel
theorem dJ6_stringSize_0f7a4_0 : decode cJ6_stringSize_0f7a4 0 = .ok (.iconst 1, 1) := by decide +kernel
theorem dJ6_stringSize_0f7a4_1 : decode cJ6_stringSize_0f7a4 1 = .ok (.istore_n 1, 1) := by decide +kernel
theorem dJ6_stringSize_0f7a4_2 : decode cJ6_stringSize_0f7a4 2 = .ok (.iload_n 0, 1) := by decide +kernel
theorem dJ6_stringSize_0f7a4_3 : decode cJ6_stringSize_0f7a4 3 = .ok (.ifCond .lt 8, 3) := by decide +kernel
theorem dJ6_stringSize_0f7a4_6 : decode cJ6_stringSize_0f7a4 6 = .ok (.iconst 0, 1) := by decide +kernel
theorem dJ6_stringSize_0f7a4_7 : decode cJ6_stringSize_0f7a4 7 = .ok (.istore_n 1, 1) := by decide +kernel
theorem dJ6_stringSize_0f7a4_8 : decode cJ6_stringSize_0f7a4 8 = .ok (.iload_n 0, 1) := by decide +kernel
theorem dJ6_stringSize_0f7a4_9 : decode cJ6_stringSize_0f7a4 9 = .ok (.ineg, 1) := by decide +kernel
theorem dJ6_stringSize_0f7a4_10 : decode cJ6_stringSize_0f7a4 10 = .ok (.istore_n 0, 1) := by decide +kernel
theorem dJ6_stringSize_0f7a4_11 : decode cJ6_stringSize_0f7a4 11 = .ok (.bipush (-10), 2) := by decide +kernel
theorem dJ6_stringSize_0f7a4_13 : decode cJ6_stringSize_0f7a4 13 = .ok (.istore_n 2, 1) := by decide +kernel
theorem dJ6_stringSize_0f7a4_14 : decode cJ6_stringSize_0f7a4 14 = .ok (.iconst 1, 1) := by decide +kernel
theorem dJ6_stringSize_0f7a4_15 : decode cJ6_stringSize_0f7a4 15 = .ok (.istore_n 3, 1) := by decide +kernel
theorem dJ6_stringSize_0f7a4_16 : decode cJ6_stringSize_0f7a4 16 = .ok (.iload_n 3, 1) := by decide +kernel
theorem dJ6_stringSize_0f7a4_17 : decode cJ6_stringSize_0f7a4 17 = .ok (.bipush 10, 2) := by decide +kernel
theorem dJ6_stringSize_0f7a4_19 : decode cJ6_stringSize_0f7a4 19 = .ok (.if_icmp .ge 23, 3) := by decide +kernel
theorem dJ6_stringSize_0f7a4_22 : decode cJ6_stringSize_0f7a4 22 = .ok (.iload_n 0, 1) := by decide +kernel
theorem dJ6_stringSize_0f7a4_23 : decode cJ6_stringSize_0f7a4 23 = .ok (.iload_n 2, 1) := by decide +kernel
theorem dJ6_stringSize_0f7a4_24 : decode cJ6_stringSize_0f7a4 24 = .ok (.if_icmp .le 7, 3) := by decide +kernel
theorem dJ6_stringSize_0f7a4_27 : decode cJ6_stringSize_0f7a4 27 = .ok (.iload_n 3, 1) := by decide +kernel
theorem dJ6_stringSize_0f7a4_28 : decode cJ6_stringSize_0f7a4 28 = .ok (.iload_n 1, 1) := by decide +kernel
theorem dJ6_stringSize_0f7a4_29 : decode cJ6_stringSize_0f7a4 29 = .ok (.iadd, 1) := by decide +kernel
theorem dJ6_stringSize_0f7a4_30 : decode cJ6_stringSize_0f7a4 30 = .ok (.ireturn, 1) := by decide +kernel
theorem dJ6_stringSize_0f7a4_31 : decode cJ6_stringSize_0f7a4 31 = .ok (.bipush 10, 2) := by decide +kernel
theorem dJ6_stringSize_0f7a4_33 : decode cJ6_stringSize_0f7a4 33 = .ok (.iload_n 2, 1) := by decide +kernel
theorem dJ6_stringSize_0f7a4_34 : decode cJ6_stringSize_0f7a4 34 = .ok (.imul, 1) := by decide +kernel
theorem dJ6_stringSize_0f7a4_35 : decode cJ6_stringSize_0f7a4 35 = .ok (.istore_n 2, 1) := by decide +kernel
theorem dJ6_stringSize_0f7a4_36 : decode cJ6_stringSize_0f7a4 36 = .ok (.iinc 3 1, 3) := by decide +kernel
theorem dJ6_stringSize_0f7a4_39 : decode cJ6_stringSize_0f7a4 39 = .ok (.goto (-23), 3) := by decide +kernel
theorem dJ6_stringSize_0f7a4_42 : decode cJ6_stringSize_0f7a4 42 = .ok (.bipush 10, 2) := by decide +kernel
theorem dJ6_stringSize_0f7a4_44 : decode cJ6_stringSize_0f7a4 44 = .ok (.iload_n 1, 1) := by decide +kernel
theorem dJ6_stringSize_0f7a4_45 : decode cJ6_stringSize_0f7a4 45 = .ok (.iadd, 1) := by decide +kernel
theorem dJ6_stringSize_0f7a4_46 : decode cJ6_stringSize_0f7a4 46 = .ok (.ireturn, 1) := by decide +kernel
theorem dJ6_bitCount_0f7a4_0 : decode cJ6_bitCount_0f7a4 0 = .ok (.iload_n 0, 1) := by decide +kernel
theorem dJ6_bitCount_0f7a4_1 : decode cJ6_bitCount_0f7a4 1 = .ok (.iload_n 0, 1) := by decide +kernel
theorem dJ6_bitCount_0f7a4_2 : decode cJ6_bitCount_0f7a4 2 = .ok (.iconst 1, 1) := by decide +kernel
theorem dJ6_bitCount_0f7a4_3 : decode cJ6_bitCount_0f7a4 3 = .ok (.iushr, 1) := by decide +kernel
theorem dJ6_bitCount_0f7a4_4 : decode cJ6_bitCount_0f7a4 4 = .ok (.ldc_w 265, 3) := by decide +kernel
theorem dJ6_bitCount_0f7a4_7 : decode cJ6_bitCount_0f7a4 7 = .ok (.iand, 1) := by decide +kernel
theorem dJ6_bitCount_0f7a4_8 : decode cJ6_bitCount_0f7a4 8 = .ok (.isub, 1) := by decide +kernel
theorem dJ6_bitCount_0f7a4_9 : decode cJ6_bitCount_0f7a4 9 = .ok (.istore_n 0, 1) := by decide +kernel
theorem dJ6_bitCount_0f7a4_10 : decode cJ6_bitCount_0f7a4 10 = .ok (.iload_n 0, 1) := by decide +kernel
theorem dJ6_bitCount_0f7a4_11 : decode cJ6_bitCount_0f7a4 11 = .ok (.ldc_w 266, 3) := by decide +kernel
theorem dJ6_bitCount_0f7a4_14 : decode cJ6_bitCount_0f7a4 14 = .ok (.iand, 1) := by decide +kernel
theorem dJ6_bitCount_0f7a4_15 : decode cJ6_bitCount_0f7a4 15 = .ok (.iload_n 0, 1) := by decide +kernel
theorem dJ6_bitCount_0f7a4_16 : decode cJ6_bitCount_0f7a4 16 = .ok (.iconst 2, 1) := by decide +kernel
theorem dJ6_bitCount_0f7a4_17 : decode cJ6_bitCount_0f7a4 17 = .ok (.iushr, 1) := by decide +kernel
theorem dJ6_bitCount_0f7a4_18 : decode cJ6_bitCount_0f7a4 18 = .ok (.ldc_w 266, 3) := by decide +kernel
theorem dJ6_bitCount_0f7a4_21 : decode cJ6_bitCount_0f7a4 21 = .ok (.iand, 1) := by decide +kernel
theorem dJ6_bitCount_0f7a4_22 : decode cJ6_bitCount_0f7a4 22 = .ok (.iadd, 1) := by decide +kernel
theorem dJ6_bitCount_0f7a4_23 : decode cJ6_bitCount_0f7a4 23 = .ok (.istore_n 0, 1) := by decide +kernel
theorem dJ6_bitCount_0f7a4_24 : decode cJ6_bitCount_0f7a4 24 = .ok (.iload_n 0, 1) := by decide +kernel
theorem dJ6_bitCount_0f7a4_25 : decode cJ6_bitCount_0f7a4 25 = .ok (.iload_n 0, 1) := by decide +kernel
theorem dJ6_bitCount_0f7a4_26 : decode cJ6_bitCount_0f7a4 26 = .ok (.iconst 4, 1) := by decide +kernel
theorem dJ6_bitCount_0f7a4_27 : decode cJ6_bitCount_0f7a4 27 = .ok (.iushr, 1) := by decide +kernel
theorem dJ6_bitCount_0f7a4_28 : decode cJ6_bitCount_0f7a4 28 = .ok (.iadd, 1) := by decide +kernel
theorem dJ6_bitCount_0f7a4_29 : decode cJ6_bitCount_0f7a4 29 = .ok (.ldc_w 267, 3) := by decide +kernel
theorem dJ6_bitCount_0f7a4_32 : decode cJ6_bitCount_0f7a4 32 = .ok (.iand, 1) := by decide +kernel
theorem dJ6_bitCount_0f7a4_33 : decode cJ6_bitCount_0f7a4 33 = .ok (.istore_n 0, 1) := by decide +kernel
theorem dJ6_bitCount_0f7a4_34 : decode cJ6_bitCount_0f7a4 34 = .ok (.iload_n 0, 1) := by decide +kernel
theorem dJ6_bitCount_0f7a4_35 : decode cJ6_bitCount_0f7a4 35 = .ok (.iload_n 0, 1) := by decide +kernel
theorem dJ6_bitCount_0f7a4_36 : decode cJ6_bitCount_0f7a4 36 = .ok (.bipush 8, 2) := by decide +kernel
theorem dJ6_bitCount_0f7a4_38 : decode cJ6_bitCount_0f7a4 38 = .ok (.iushr, 1) := by decide +kernel
theorem dJ6_bitCount_0f7a4_39 : decode cJ6_bitCount_0f7a4 39 = .ok (.iadd, 1) := by decide +kernel
theorem dJ6_bitCount_0f7a4_40 : decode cJ6_bitCount_0f7a4 40 = .ok (.istore_n 0, 1) := by decide +kernel
theorem dJ6_bitCount_0f7a4_41 : decode cJ6_bitCount_0f7a4 41 = .ok (.iload_n 0, 1) := by decide +kernel
theorem dJ6_bitCount_0f7a4_42 : decode cJ6_bitCount_0f7a4 42 = .ok (.iload_n 0, 1) := by decide +kernel
theorem dJ6_bitCount_0f7a4_43 : decode cJ6_bitCount_0f7a4 43 = .ok (.bipush 16, 2) := by decide +kernel
theorem dJ6_bitCount_0f7a4_45 : decode cJ6_bitCount_0f7a4 45 = .ok (.iushr, 1) := by decide +kernel
theorem dJ6_bitCount_0f7a4_46 : decode cJ6_bitCount_0f7a4 46 = .ok (.iadd, 1) := by decide +kernel
theorem dJ6_bitCount_0f7a4_47 : decode cJ6_bitCount_0f7a4 47 = .ok (.istore_n 0, 1) := by decide +kernel
theorem dJ6_bitCount_0f7a4_48 : decode cJ6_bitCount_0f7a4 48 = .ok (.iload_n 0, 1) := by decide +kernel
theorem dJ6_bitCount_0f7a4_49 : decode cJ6_bitCount_0f7a4 49 = .ok (.bipush 63, 2) := by decide +kernel
theorem dJ6_bitCount_0f7a4_51 : decode cJ6_bitCount_0f7a4 51 = .ok (.iand, 1) := by decide +kernel
theorem dJ6_bitCount_0f7a4_52 : decode cJ6_bitCount_0f7a4 52 = .ok (.ireturn, 1) := by decide +kernel
theorem dJ9_max_7cf53_0 : decode cJ9_max_7cf53 0 = .ok (.iload_n 0, 1) := by decide +kernel
theorem dJ9_max_7cf53_1 : decode cJ9_max_7cf53 1 = .ok (.iload_n 1, 1) := by decide +kernel
theorem dJ9_max_7cf53_2 : decode cJ9_max_7cf53 2 = .ok (.if_icmp .lt 7, 3) := by decide +kernel
theorem dJ9_max_7cf53_5 : decode cJ9_max_7cf53 5 = .ok (.iload_n 0, 1) := by decide +kernel
theorem dJ9_max_7cf53_6 : decode cJ9_max_7cf53 6 = .ok (.goto 4, 3) := by decide +kernel
theorem dJ9_max_7cf53_9 : decode cJ9_max_7cf53 9 = .ok (.iload_n 1, 1) := by decide +kernel
theorem dJ9_max_7cf53_10 : decode cJ9_max_7cf53 10 = .ok (.ireturn, 1) := by decide +kernel
theorem dJ9_min_7cf53_0 : decode cJ9_min_7cf53 0 = .ok (.iload_n 0, 1) := by decide +kernel
theorem dJ9_min_7cf53_1 : decode cJ9_min_7cf53 1 = .ok (.iload_n 1, 1) := by decide +kernel
theorem dJ9_min_7cf53_2 : decode cJ9_min_7cf53 2 = .ok (.if_icmp .gt 7, 3) := by decide +kernel
theorem dJ9_min_7cf53_5 : decode cJ9_min_7cf53 5 = .ok (.iload_n 0, 1) := by decide +kernel
theorem dJ9_min_7cf53_6 : decode cJ9_min_7cf53 6 = .ok (.goto 4, 3) := by decide +kernel
theorem dJ9_min_7cf53_9 : decode cJ9_min_7cf53 9 = .ok (.iload_n 1, 1) := by decide +kernel
theorem dJ9_min_7cf53_10 : decode cJ9_min_7cf53 10 = .ok (.ireturn, 1) := by decide +kernel
theorem dJ0_init_81219_0 : decode cJ0_init_81219 0 = .ok (.aload_n 0, 1) := by decide +kernel
theorem dJ0_init_81219_1 : decode cJ0_init_81219 1 = .ok (.aload_n 1, 1) := by decide +kernel
theorem dJ0_init_81219_2 : decode cJ0_init_81219 2 = .ok (.aconst_null, 1) := by decide +kernel
theorem dJ0_init_81219_3 : decode cJ0_init_81219 3 = .ok (.invokespecial 489, 3) := by decide +kernel
theorem dJ0_init_81219_6 : decode cJ0_init_81219 6 = .ok (.return_, 1) := by decide +kernel
theorem dJ0_length_8abf5_0 : decode cJ0_length_8abf5 0 = .ok (.aload_n 0, 1) := by decide +kernel
theorem dJ0_length_8abf5_1 : decode cJ0_length_8abf5 1 = .ok (.getfield 9, 3) := by decide +kernel
theorem dJ0_length_8abf5_4 : decode cJ0_length_8abf5 4 = .ok (.arraylength, 1) := by decide +kernel
theorem dJ0_length_8abf5_5 : decode cJ0_length_8abf5 5 = .ok (.aload_n 0, 1) := by decide +kernel
theorem dJ0_length_8abf5_6 : decode cJ0_length_8abf5 6 = .ok (.invokevirtual 335, 3) := by decide +kernel
theorem dJ0_length_8abf5_9 : decode cJ0_length_8abf5 9 = .ok (.ishr, 1) := by decide +kernel
theorem dJ0_length_8abf5_10 : decode cJ0_length_8abf5 10 = .ok (.ireturn, 1) := by decide +kernel
theorem dJ0_getBytes_840e7_0 : decode cJ0_getBytes_840e7 0 = .ok (.aload_n 0, 1) := by decide +kernel
theorem dJ0_getBytes_840e7_1 : decode cJ0_getBytes_840e7 1 = .ok (.invokevirtual 335, 3) := by decide +kernel
theorem dJ0_getBytes_840e7_4 : decode cJ0_getBytes_840e7 4 = .ok (.iload_n 3, 1) := by decide +kernel
theorem dJ0_getBytes_840e7_5 : decode cJ0_getBytes_840e7 5 = .ok (.if_icmp .ne 23, 3) := by decide +kernel
theorem dJ0_getBytes_840e7_8 : decode cJ0_getBytes_840e7 8 = .ok (.aload_n 0, 1) := by decide +kernel
theorem dJ0_getBytes_840e7_9 : decode cJ0_getBytes_840e7 9 = .ok (.getfield 9, 3) := by decide +kernel
theorem dJ0_getBytes_840e7_12 : decode cJ0_getBytes_840e7 12 = .ok (.iconst 0, 1) := by decide +kernel
theorem dJ0_getBytes_840e7_13 : decode cJ0_getBytes_840e7 13 = .ok (.aload_n 1, 1) := by decide +kernel
theorem dJ0_getBytes_840e7_14 : decode cJ0_getBytes_840e7 14 = .ok (.iload_n 2, 1) := by decide +kernel
theorem dJ0_getBytes_840e7_15 : decode cJ0_getBytes_840e7 15 = .ok (.iload_n 3, 1) := by decide +kernel
theorem dJ0_getBytes_840e7_16 : decode cJ0_getBytes_840e7 16 = .ok (.ishl, 1) := by decide +kernel
theorem dJ0_getBytes_840e7_17 : decode cJ0_getBytes_840e7 17 = .ok (.aload_n 0, 1) := by decide +kernel
theorem dJ0_getBytes_840e7_18 : decode cJ0_getBytes_840e7 18 = .ok (.getfield 9, 3) := by decide +kernel
theorem dJ0_getBytes_840e7_21 : decode cJ0_getBytes_840e7 21 = .ok (.arraylength, 1) := by decide +kernel
theorem dJ0_getBytes_840e7_22 : decode cJ0_getBytes_840e7 22 = .ok (.invokestatic 212, 3) := by decide +kernel
theorem dJ0_getBytes_840e7_25 : decode cJ0_getBytes_840e7 25 = .ok (.goto 18, 3) := by decide +kernel
theorem dJ0_getBytes_840e7_28 : decode cJ0_getBytes_840e7 28 = .ok (.aload_n 0, 1) := by decide +kernel
theorem dJ0_getBytes_840e7_29 : decode cJ0_getBytes_840e7 29 = .ok (.getfield 9, 3) := by decide +kernel
theorem dJ0_getBytes_840e7_32 : decode cJ0_getBytes_840e7 32 = .ok (.iconst 0, 1) := by decide +kernel
theorem dJ0_getBytes_840e7_33 : decode cJ0_getBytes_840e7 33 = .ok (.aload_n 1, 1) := by decide +kernel
theorem dJ0_getBytes_840e7_34 : decode cJ0_getBytes_840e7 34 = .ok (.iload_n 2, 1) := by decide +kernel
theorem dJ0_getBytes_840e7_35 : decode cJ0_getBytes_840e7 35 = .ok (.aload_n 0, 1) := by decide +kernel
theorem dJ0_getBytes_840e7_36 : decode cJ0_getBytes_840e7 36 = .ok (.getfield 9, 3) := by decide +kernel
theorem dJ0_getBytes_840e7_39 : decode cJ0_getBytes_840e7 39 = .ok (.arraylength, 1) := by decide +kernel
theorem dJ0_getBytes_840e7_40 : decode cJ0_getBytes_840e7 40 = .ok (.invokestatic 106, 3) := by decide +kernel
theorem dJ0_getBytes_840e7_43 : decode cJ0_getBytes_840e7 43 = .ok (.return_, 1) := by decide +kernel
theorem dJ0_init_db425_0 : decode cJ0_init_db425 0 = .ok (.aload_n 0, 1) := by decide +kernel
theorem dJ0_init_db425_1 : decode cJ0_init_db425 1 = .ok (.invokespecial 1, 3) := by decide +kernel
theorem dJ0_init_db425_4 : decode cJ0_init_db425 4 = .ok (.aload_n 1, 1) := by decide +kernel
theorem dJ0_init_db425_5 : decode cJ0_init_db425 5 = .ok (.invokevirtual 552, 3) := by decide +kernel
theorem dJ0_init_db425_8 : decode cJ0_init_db425 8 = .ok (.astore_n 3, 1) := by decide +kernel
theorem dJ0_init_db425_9 : decode cJ0_init_db425 9 = .ok (.aload_n 1, 1) := by decide +kernel
theorem dJ0_init_db425_10 : decode cJ0_init_db425 10 = .ok (.invokevirtual 549, 3) := by decide +kernel
theorem dJ0_init_db425_13 : decode cJ0_init_db425 13 = .ok (.istore 4, 2) := by decide +kernel
theorem dJ0_init_db425_15 : decode cJ0_init_db425 15 = .ok (.aload_n 1, 1) := by decide +kernel
theorem dJ0_init_db425_16 : decode cJ0_init_db425 16 = .ok (.invokevirtual 1047, 3) := by decide +kernel
theorem dJ0_init_db425_19 : decode cJ0_init_db425 19 = .ok (.ifCond .eq 22, 3) := by decide +kernel
theorem dJ0_init_db425_22 : decode cJ0_init_db425 22 = .ok (.aload_n 0, 1) := by decide +kernel
theorem dJ0_init_db425_23 : decode cJ0_init_db425 23 = .ok (.iconst 0, 1) := by decide +kernel
theorem dJ0_init_db425_24 : decode cJ0_init_db425 24 = .ok (.putfield 15, 3) := by decide +kernel
theorem dJ0_init_db425_27 : decode cJ0_init_db425 27 = .ok (.aload_n 0, 1) := by decide +kernel
theorem dJ0_init_db425_28 : decode cJ0_init_db425 28 = .ok (.aload_n 3, 1) := by decide +kernel
theorem dJ0_init_db425_29 : decode cJ0_init_db425 29 = .ok (.iconst 0, 1) := by decide +kernel
theorem dJ0_init_db425_30 : decode cJ0_init_db425 30 = .ok (.iload 4, 2) := by decide +kernel
theorem dJ0_init_db425_32 : decode cJ0_init_db425 32 = .ok (.invokestatic 54, 3) := by decide +kernel
theorem dJ0_init_db425_35 : decode cJ0_init_db425 35 = .ok (.putfield 9, 3) := by decide +kernel
theorem dJ0_init_db425_38 : decode cJ0_init_db425 38 = .ok (.goto 59, 3) := by decide +kernel
theorem dJ0_init_db425_41 : decode cJ0_init_db425 41 = .ok (.getstatic 38, 3) := by decide +kernel
theorem dJ0_init_db425_44 : decode cJ0_init_db425 44 = .ok (.ifCond .eq 35, 3) := by decide +kernel
theorem dJ0_init_db425_47 : decode cJ0_init_db425 47 = .ok (.aload_n 1, 1) := by decide +kernel
theorem dJ0_init_db425_48 : decode cJ0_init_db425 48 = .ok (.getfield 1048, 3) := by decide +kernel
theorem dJ0_init_db425_51 : decode cJ0_init_db425 51 = .ok (.ifCond .eq 28, 3) := by decide +kernel
theorem dJ0_init_db425_54 : decode cJ0_init_db425 54 = .ok (.aload_n 0, 1) := by decide +kernel
theorem dJ0_init_db425_55 : decode cJ0_init_db425 55 = .ok (.aload_n 3, 1) := by decide +kernel
theorem dJ0_init_db425_56 : decode cJ0_init_db425 56 = .ok (.iconst 0, 1) := by decide +kernel
theorem dJ0_init_db425_57 : decode cJ0_init_db425 57 = .ok (.iload 4, 2) := by decide +kernel
theorem dJ0_init_db425_59 : decode cJ0_init_db425 59 = .ok (.invokestatic 1051, 3) := by decide +kernel
theorem dJ0_init_db425_62 : decode cJ0_init_db425 62 = .ok (.putfield 9, 3) := by decide +kernel
theorem dJ0_init_db425_65 : decode cJ0_init_db425 65 = .ok (.aload_n 0, 1) := by decide +kernel
theorem dJ0_init_db425_66 : decode cJ0_init_db425 66 = .ok (.aload_n 0, 1) := by decide +kernel
theorem dJ0_init_db425_67 : decode cJ0_init_db425 67 = .ok (.getfield 9, 3) := by decide +kernel
theorem dJ0_init_db425_70 : decode cJ0_init_db425 70 = .ok (.iload 4, 2) := by decide +kernel
theorem dJ0_init_db425_72 : decode cJ0_init_db425 72 = .ok (.invokestatic 47, 3) := by decide +kernel
theorem dJ0_init_db425_75 : decode cJ0_init_db425 75 = .ok (.putfield 15, 3) := by decide +kernel
theorem dJ0_init_db425_78 : decode cJ0_init_db425 78 = .ok (.return_, 1) := by decide +kernel
theorem dJ0_init_db425_79 : decode cJ0_init_db425 79 = .ok (.aload_n 0, 1) := by decide +kernel
theorem dJ0_init_db425_80 : decode cJ0_init_db425 80 = .ok (.iconst 1, 1) := by decide +kernel
theorem dJ0_init_db425_81 : decode cJ0_init_db425 81 = .ok (.putfield 15, 3) := by decide +kernel
theorem dJ0_init_db425_84 : decode cJ0_init_db425 84 = .ok (.aload_n 0, 1) := by decide +kernel
theorem dJ0_init_db425_85 : decode cJ0_init_db425 85 = .ok (.aload_n 3, 1) := by decide +kernel
theorem dJ0_init_db425_86 : decode cJ0_init_db425 86 = .ok (.iconst 0, 1) := by decide +kernel
theorem dJ0_init_db425_87 : decode cJ0_init_db425 87 = .ok (.iload 4, 2) := by decide +kernel
theorem dJ0_init_db425_89 : decode cJ0_init_db425 89 = .ok (.iconst 1, 1) := by decide +kernel
theorem dJ0_init_db425_90 : decode cJ0_init_db425 90 = .ok (.ishl, 1) := by decide +kernel
theorem dJ0_init_db425_91 : decode cJ0_init_db425 91 = .ok (.invokestatic 54, 3) := by decide +kernel
theorem dJ0_init_db425_94 : decode cJ0_init_db425 94 = .ok (.putfield 9, 3) := by decide +kernel
theorem dJ0_init_db425_97 : decode cJ0_init_db425 97 = .ok (.return_, 1) := by decide +kernel
theorem dJ0_coder_7d493_0 : decode cJ0_coder_7d493 0 = .ok (.getstatic 38, 3) := by decide +kernel
theorem dJ0_coder_7d493_3 : decode cJ0_coder_7d493 3 = .ok (.ifCond .eq 10, 3) := by decide +kernel
theorem dJ0_coder_7d493_6 : decode cJ0_coder_7d493 6 = .ok (.aload_n 0, 1) := by decide +kernel
theorem dJ0_coder_7d493_7 : decode cJ0_coder_7d493 7 = .ok (.getfield 15, 3) := by decide +kernel
theorem dJ0_coder_7d493_10 : decode cJ0_coder_7d493 10 = .ok (.goto 4, 3) := by decide +kernel
theorem dJ0_coder_7d493_13 : decode cJ0_coder_7d493 13 = .ok (.iconst 1, 1) := by decide +kernel
theorem dJ0_coder_7d493_14 : decode cJ0_coder_7d493 14 = .ok (.ireturn, 1) := by decide +kernel
theorem dJ0_checkIndex_df160_0 : decode cJ0_checkIndex_df160 0 = .ok (.iload_n 0, 1) := by decide +kernel
theorem dJ0_checkIndex_df160_1 : decode cJ0_checkIndex_df160 1 = .ok (.iload_n 1, 1) := by decide +kernel
theorem dJ0_checkIndex_df160_2 : decode cJ0_checkIndex_df160 2 = .ok (.getstatic 1053, 3) := by decide +kernel
theorem dJ0_checkIndex_df160_5 : decode cJ0_checkIndex_df160 5 = .ok (.invokestatic 1059, 3) := by decide +kernel
theorem dJ0_checkIndex_df160_8 : decode cJ0_checkIndex_df160 8 = .ok (.pop, 1) := by decide +kernel
theorem dJ0_checkIndex_df160_9 : decode cJ0_checkIndex_df160 9 = .ok (.return_, 1) := by decide +kernel
theorem dJ0_checkBoundsOffCount_cabcc_0 : decode cJ0_checkBoundsOffCount_cabcc 0 = .ok (.iload_n 0, 1) := by decide +kernel
theorem dJ0_checkBoundsOffCount_cabcc_1 : decode cJ0_checkBoundsOffCount_cabcc 1 = .ok (.iload_n 1, 1) := by decide +kernel
theorem dJ0_checkBoundsOffCount_cabcc_2 : decode cJ0_checkBoundsOffCount_cabcc 2 = .ok (.iload_n 2, 1) := by decide +kernel
theorem dJ0_checkBoundsOffCount_cabcc_3 : decode cJ0_checkBoundsOffCount_cabcc 3 = .ok (.getstatic 1053, 3) := by decide +kernel
theorem dJ0_checkBoundsOffCount_cabcc_6 : decode cJ0_checkBoundsOffCount_cabcc 6 = .ok (.invokestatic 1065, 3) := by decide +kernel
theorem dJ0_checkBoundsOffCount_cabcc_9 : decode cJ0_checkBoundsOffCount_cabcc 9 = .ok (.ireturn, 1) := by decide +kernel
theorem dJ0_checkBoundsBeginEnd_23922_0 : decode cJ0_checkBoundsBeginEnd_23922 0 = .ok (.iload_n 0, 1) := by decide +kernel
theorem dJ0_checkBoundsBeginEnd_23922_1 : decode cJ0_checkBoundsBeginEnd_23922 1 = .ok (.iload_n 1, 1) := by decide +kernel
theorem dJ0_checkBoundsBeginEnd_23922_2 : decode cJ0_checkBoundsBeginEnd_23922 2 = .ok (.iload_n 2, 1) := by decide +kernel
theorem dJ0_checkBoundsBeginEnd_23922_3 : decode cJ0_checkBoundsBeginEnd_23922 3 = .ok (.getstatic 1053, 3) := by decide +kernel
theorem dJ0_checkBoundsBeginEnd_23922_6 : decode cJ0_checkBoundsBeginEnd_23922 6 = .ok (.invokestatic 1062, 3) := by decide +kernel
theorem dJ0_checkBoundsBeginEnd_23922_9 : decode cJ0_checkBoundsBeginEnd_23922 9 = .ok (.pop, 1) := by decide +kernel
theorem dJ0_checkBoundsBeginEnd_23922_10 : decode cJ0_checkBoundsBeginEnd_23922 10 = .ok (.return_, 1) := by decide +kernel
theorem dJ4_init_da8c8_0 : decode cJ4_init_da8c8 0 = .ok (.aload_n 0, 1) := by decide +kernel
theorem dJ4_init_da8c8_1 : decode cJ4_init_da8c8 1 = .ok (.bipush 16, 2) := by decide +kernel
theorem dJ4_init_da8c8_3 : decode cJ4_init_da8c8 3 = .ok (.invokespecial 1, 3) := by decide +kernel
theorem dJ4_init_da8c8_6 : decode cJ4_init_da8c8 6 = .ok (.return_, 1) := by decide +kernel
theorem dJ4_append_15ec4_0 : decode cJ4_append_15ec4 0 = .ok (.aload_n 0, 1) := by decide +kernel
theorem dJ4_append_15ec4_1 : decode cJ4_append_15ec4 1 = .ok (.aload_n 1, 1) := by decide +kernel
theorem dJ4_append_15ec4_2 : decode cJ4_append_15ec4 2 = .ok (.invokespecial 29, 3) := by decide +kernel
theorem dJ4_append_15ec4_5 : decode cJ4_append_15ec4 5 = .ok (.pop, 1) := by decide +kernel
theorem dJ4_append_15ec4_6 : decode cJ4_append_15ec4 6 = .ok (.aload_n 0, 1) := by decide +kernel
theorem dJ4_append_15ec4_7 : decode cJ4_append_15ec4 7 = .ok (.areturn, 1) := by decide +kernel
theorem dJ4_append_cf468_0 : decode cJ4_append_cf468 0 = .ok (.aload_n 0, 1) := by decide +kernel
theorem dJ4_append_cf468_1 : decode cJ4_append_cf468 1 = .ok (.iload_n 1, 1) := by decide +kernel
theorem dJ4_append_cf468_2 : decode cJ4_append_cf468 2 = .ok (.invokespecial 50, 3) := by decide +kernel
theorem dJ4_append_cf468_5 : decode cJ4_append_cf468 5 = .ok (.pop, 1) := by decide +kernel
theorem dJ4_append_cf468_6 : decode cJ4_append_cf468 6 = .ok (.aload_n 0, 1) := by decide +kernel
theorem dJ4_append_cf468_7 : decode cJ4_append_cf468 7 = .ok (.areturn, 1) := by decide +kernel
theorem dJ4_append_bf812_0 : decode cJ4_append_bf812 0 = .ok (.aload_n 0, 1) := by decide +kernel
theorem dJ4_append_bf812_1 : decode cJ4_append_bf812 1 = .ok (.iload_n 1, 1) := by decide +kernel
theorem dJ4_append_bf812_2 : decode cJ4_append_bf812 2 = .ok (.invokespecial 53, 3) := by decide +kernel
theorem dJ4_append_bf812_5 : decode cJ4_append_bf812 5 = .ok (.pop, 1) := by decide +kernel
theorem dJ4_append_bf812_6 : decode cJ4_append_bf812 6 = .ok (.aload_n 0, 1) := by decide +kernel
theorem dJ4_append_bf812_7 : decode cJ4_append_bf812 7 = .ok (.areturn, 1) := by decide +kernel
theorem dJ4_toString_0e30d_0 : decode cJ4_toString_0e30d 0 = .ok (.new 18, 3) := by decide +kernel
theorem dJ4_toString_0e30d_3 : decode cJ4_toString_0e30d 3 = .ok (.dup, 1) := by decide +kernel
theorem dJ4_toString_0e30d_4 : decode cJ4_toString_0e30d 4 = .ok (.aload_n 0, 1) := by decide +kernel
theorem dJ4_toString_0e30d_5 : decode cJ4_toString_0e30d 5 = .ok (.invokespecial 137, 3) := by decide +kernel
theorem dJ4_toString_0e30d_8 : decode cJ4_toString_0e30d 8 = .ok (.areturn, 1) := by decide +kernel
theorem dJ4_length_8abf5_0 : decode cJ4_length_8abf5 0 = .ok (.aload_n 0, 1) := by decide +kernel
theorem dJ4_length_8abf5_1 : decode cJ4_length_8abf5 1 = .ok (.invokespecial 343, 3) := by decide +kernel
theorem dJ4_length_8abf5_4 : decode cJ4_length_8abf5 4 = .ok (.ireturn, 1) := by decide +kernel
theorem dJ1_canEncode_fc78d_0 : decode cJ1_canEncode_fc78d 0 = .ok (.iload_n 0, 1) := by decide +kernel
theorem dJ1_canEncode_fc78d_1 : decode cJ1_canEncode_fc78d 1 = .ok (.sipush 255, 3) := by decide +kernel
theorem dJ1_canEncode_fc78d_4 : decode cJ1_canEncode_fc78d 4 = .ok (.if_icmp .gt 7, 3) := by decide +kernel
theorem dJ1_canEncode_fc78d_7 : decode cJ1_canEncode_fc78d 7 = .ok (.iconst 1, 1) := by decide +kernel
theorem dJ1_canEncode_fc78d_8 : decode cJ1_canEncode_fc78d 8 = .ok (.goto 4, 3) := by decide +kernel
theorem dJ1_canEncode_fc78d_11 : decode cJ1_canEncode_fc78d 11 = .ok (.iconst 0, 1) := by decide +kernel
theorem dJ1_canEncode_fc78d_12 : decode cJ1_canEncode_fc78d 12 = .ok (.ireturn, 1) := by decide +kernel
theorem dJ1_inflate_0e8fd_0 : decode cJ1_inflate_0e8fd 0 = .ok (.aload_n 0, 1) := by decide +kernel
theorem dJ1_inflate_0e8fd_1 : decode cJ1_inflate_0e8fd 1 = .ok (.iload_n 1, 1) := by decide +kernel
theorem dJ1_inflate_0e8fd_2 : decode cJ1_inflate_0e8fd 2 = .ok (.aload_n 2, 1) := by decide +kernel
theorem dJ1_inflate_0e8fd_3 : decode cJ1_inflate_0e8fd 3 = .ok (.iload_n 3, 1) := by decide +kernel
theorem dJ1_inflate_0e8fd_4 : decode cJ1_inflate_0e8fd 4 = .ok (.iload 4, 2) := by decide +kernel
theorem dJ1_inflate_0e8fd_6 : decode cJ1_inflate_0e8fd 6 = .ok (.invokestatic 240, 3) := by decide +kernel
theorem dJ1_inflate_0e8fd_9 : decode cJ1_inflate_0e8fd 9 = .ok (.return_, 1) := by decide +kernel
theorem dJ2_newBytesFor_77867_0 : decode cJ2_newBytesFor_77867 0 = .ok (.iload_n 0, 1) := by decide +kernel
theorem dJ2_newBytesFor_77867_1 : decode cJ2_newBytesFor_77867 1 = .ok (.invokestatic 11, 3) := by decide +kernel
theorem dJ2_newBytesFor_77867_4 : decode cJ2_newBytesFor_77867 4 = .ok (.newarray .byte, 2) := by decide +kernel
theorem dJ2_newBytesFor_77867_6 : decode cJ2_newBytesFor_77867 6 = .ok (.areturn, 1) := by decide +kernel
theorem dJ2_newBytesLength_0f7a4_0 : decode cJ2_newBytesLength_0f7a4 0 = .ok (.iload_n 0, 1) := by decide +kernel
theorem dJ2_newBytesLength_0f7a4_1 : decode cJ2_newBytesLength_0f7a4 1 = .ok (.ifCond .ge 11, 3) := by decide +kernel
theorem dJ2_newBytesLength_0f7a4_4 : decode cJ2_newBytesLength_0f7a4 4 = .ok (.new 17, 3) := by decide +kernel
theorem dJ2_newBytesLength_0f7a4_7 : decode cJ2_newBytesLength_0f7a4 7 = .ok (.dup, 1) := by decide +kernel
theorem dJ2_newBytesLength_0f7a4_8 : decode cJ2_newBytesLength_0f7a4 8 = .ok (.invokespecial 19, 3) := by decide +kernel
theorem dJ2_newBytesLength_0f7a4_11 : decode cJ2_newBytesLength_0f7a4 11 = .ok (.athrow, 1) := by decide +kernel
theorem dJ2_newBytesLength_0f7a4_12 : decode cJ2_newBytesLength_0f7a4 12 = .ok (.iload_n 0, 1) := by decide +kernel
theorem dJ2_newBytesLength_0f7a4_13 : decode cJ2_newBytesLength_0f7a4 13 = .ok (.ldc 20, 2) := by decide +kernel
theorem dJ2_newBytesLength_0f7a4_15 : decode cJ2_newBytesLength_0f7a4 15 = .ok (.if_icmp .lt 40, 3) := by decide +kernel
theorem dJ2_newBytesLength_0f7a4_18 : decode cJ2_newBytesLength_0f7a4 18 = .ok (.new 21, 3) := by decide +kernel
theorem dJ2_newBytesLength_0f7a4_21 : decode cJ2_newBytesLength_0f7a4 21 = .ok (.dup, 1) := by decide +kernel
theorem dJ2_newBytesLength_0f7a4_22 : decode cJ2_newBytesLength_0f7a4 22 = .ok (.new 23, 3) := by decide +kernel
theorem dJ2_newBytesLength_0f7a4_25 : decode cJ2_newBytesLength_0f7a4 25 = .ok (.dup, 1) := by decide +kernel
theorem dJ2_newBytesLength_0f7a4_26 : decode cJ2_newBytesLength_0f7a4 26 = .ok (.invokespecial 25, 3) := by decide +kernel
theorem dJ2_newBytesLength_0f7a4_29 : decode cJ2_newBytesLength_0f7a4 29 = .ok (.ldc 26, 2) := by decide +kernel
theorem dJ2_newBytesLength_0f7a4_31 : decode cJ2_newBytesLength_0f7a4 31 = .ok (.invokevirtual 28, 3) := by decide +kernel
theorem dJ2_newBytesLength_0f7a4_34 : decode cJ2_newBytesLength_0f7a4 34 = .ok (.iload_n 0, 1) := by decide +kernel
theorem dJ2_newBytesLength_0f7a4_35 : decode cJ2_newBytesLength_0f7a4 35 = .ok (.invokevirtual 32, 3) := by decide +kernel
theorem dJ2_newBytesLength_0f7a4_38 : decode cJ2_newBytesLength_0f7a4 38 = .ok (.ldc 35, 2) := by decide +kernel
theorem dJ2_newBytesLength_0f7a4_40 : decode cJ2_newBytesLength_0f7a4 40 = .ok (.invokevirtual 28, 3) := by decide +kernel
theorem dJ2_newBytesLength_0f7a4_43 : decode cJ2_newBytesLength_0f7a4 43 = .ok (.ldc 20, 2) := by decide +kernel
theorem dJ2_newBytesLength_0f7a4_45 : decode cJ2_newBytesLength_0f7a4 45 = .ok (.invokevirtual 32, 3) := by decide +kernel
theorem dJ2_newBytesLength_0f7a4_48 : decode cJ2_newBytesLength_0f7a4 48 = .ok (.invokevirtual 37, 3) := by decide +kernel
theorem dJ2_newBytesLength_0f7a4_51 : decode cJ2_newBytesLength_0f7a4 51 = .ok (.invokespecial 41, 3) := by decide +kernel
theorem dJ2_newBytesLength_0f7a4_54 : decode cJ2_newBytesLength_0f7a4 54 = .ok (.athrow, 1) := by decide +kernel
theorem dJ2_newBytesLength_0f7a4_55 : decode cJ2_newBytesLength_0f7a4 55 = .ok (.iload_n 0, 1) := by decide +kernel
theorem dJ2_newBytesLength_0f7a4_56 : decode cJ2_newBytesLength_0f7a4 56 = .ok (.iconst 1, 1) := by decide +kernel
theorem dJ2_newBytesLength_0f7a4_57 : decode cJ2_newBytesLength_0f7a4 57 = .ok (.ishl, 1) := by decide +kernel
theorem dJ2_newBytesLength_0f7a4_58 : decode cJ2_newBytesLength_0f7a4 58 = .ok (.ireturn, 1) := by decide +kernel
theorem dJ2_putChar_b72d1_0 : decode cJ2_putChar_b72d1 0 = .ok (.getstatic 44, 3) := by decide +kernel
theorem dJ2_putChar_b72d1_3 : decode cJ2_putChar_b72d1 3 = .ok (.ifCond .ne 25, 3) := by decide +kernel
theorem dJ2_putChar_b72d1_6 : decode cJ2_putChar_b72d1 6 = .ok (.iload_n 1, 1) := by decide +kernel
theorem dJ2_putChar_b72d1_7 : decode cJ2_putChar_b72d1 7 = .ok (.ifCond .lt 11, 3) := by decide +kernel
theorem dJ2_putChar_b72d1_10 : decode cJ2_putChar_b72d1 10 = .ok (.iload_n 1, 1) := by decide +kernel
theorem dJ2_putChar_b72d1_11 : decode cJ2_putChar_b72d1 11 = .ok (.aload_n 0, 1) := by decide +kernel
theorem dJ2_putChar_b72d1_12 : decode cJ2_putChar_b72d1 12 = .ok (.invokestatic 48, 3) := by decide +kernel
theorem dJ2_putChar_b72d1_15 : decode cJ2_putChar_b72d1 15 = .ok (.if_icmp .lt 13, 3) := by decide +kernel
theorem dJ2_putChar_b72d1_18 : decode cJ2_putChar_b72d1 18 = .ok (.new 52, 3) := by decide +kernel
theorem dJ2_putChar_b72d1_21 : decode cJ2_putChar_b72d1 21 = .ok (.dup, 1) := by decide +kernel
theorem dJ2_putChar_b72d1_22 : decode cJ2_putChar_b72d1 22 = .ok (.ldc 54, 2) := by decide +kernel
theorem dJ2_putChar_b72d1_24 : decode cJ2_putChar_b72d1 24 = .ok (.invokespecial 56, 3) := by decide +kernel
theorem dJ2_putChar_b72d1_27 : decode cJ2_putChar_b72d1 27 = .ok (.athrow, 1) := by decide +kernel
theorem dJ2_putChar_b72d1_28 : decode cJ2_putChar_b72d1 28 = .ok (.iload_n 1, 1) := by decide +kernel
theorem dJ2_putChar_b72d1_29 : decode cJ2_putChar_b72d1 29 = .ok (.iconst 1, 1) := by decide +kernel
theorem dJ2_putChar_b72d1_30 : decode cJ2_putChar_b72d1 30 = .ok (.ishl, 1) := by decide +kernel
theorem dJ2_putChar_b72d1_31 : decode cJ2_putChar_b72d1 31 = .ok (.istore_n 1, 1) := by decide +kernel
theorem dJ2_putChar_b72d1_32 : decode cJ2_putChar_b72d1 32 = .ok (.aload_n 0, 1) := by decide +kernel
theorem dJ2_putChar_b72d1_33 : decode cJ2_putChar_b72d1 33 = .ok (.iload_n 1, 1) := by decide +kernel
theorem dJ2_putChar_b72d1_34 : decode cJ2_putChar_b72d1 34 = .ok (.iinc 1 1, 3) := by decide +kernel
theorem dJ2_putChar_b72d1_37 : decode cJ2_putChar_b72d1 37 = .ok (.iload_n 2, 1) := by decide +kernel
theorem dJ2_putChar_b72d1_38 : decode cJ2_putChar_b72d1 38 = .ok (.getstatic 59, 3) := by decide +kernel
theorem dJ2_putChar_b72d1_41 : decode cJ2_putChar_b72d1 41 = .ok (.ishr, 1) := by decide +kernel
theorem dJ2_putChar_b72d1_42 : decode cJ2_putChar_b72d1 42 = .ok (.i2b, 1) := by decide +kernel
theorem dJ2_putChar_b72d1_43 : decode cJ2_putChar_b72d1 43 = .ok (.bastore, 1) := by decide +kernel
theorem dJ2_putChar_b72d1_44 : decode cJ2_putChar_b72d1 44 = .ok (.aload_n 0, 1) := by decide +kernel
theorem dJ2_putChar_b72d1_45 : decode cJ2_putChar_b72d1 45 = .ok (.iload_n 1, 1) := by decide +kernel
theorem dJ2_putChar_b72d1_46 : decode cJ2_putChar_b72d1 46 = .ok (.iload_n 2, 1) := by decide +kernel
theorem dJ2_putChar_b72d1_47 : decode cJ2_putChar_b72d1 47 = .ok (.getstatic 63, 3) := by decide +kernel
theorem dJ2_putChar_b72d1_50 : decode cJ2_putChar_b72d1 50 = .ok (.ishr, 1) := by decide +kernel
theorem dJ2_putChar_b72d1_51 : decode cJ2_putChar_b72d1 51 = .ok (.i2b, 1) := by decide +kernel
theorem dJ2_putChar_b72d1_52 : decode cJ2_putChar_b72d1 52 = .ok (.bastore, 1) := by decide +kernel
theorem dJ2_putChar_b72d1_53 : decode cJ2_putChar_b72d1 53 = .ok (.return_, 1) := by decide +kernel
theorem dJ2_getChar_3b067_0 : decode cJ2_getChar_3b067 0 = .ok (.getstatic 44, 3) := by decide +kernel
theorem dJ2_getChar_3b067_3 : decode cJ2_getChar_3b067 3 = .ok (.ifCond .ne 25, 3) := by decide +kernel
theorem dJ2_getChar_3b067_6 : decode cJ2_getChar_3b067 6 = .ok (.iload_n 1, 1) := by decide +kernel
theorem dJ2_getChar_3b067_7 : decode cJ2_getChar_3b067 7 = .ok (.ifCond .lt 11, 3) := by decide +kernel
theorem dJ2_getChar_3b067_10 : decode cJ2_getChar_3b067 10 = .ok (.iload_n 1, 1) := by decide +kernel
theorem dJ2_getChar_3b067_11 : decode cJ2_getChar_3b067 11 = .ok (.aload_n 0, 1) := by decide +kernel
theorem dJ2_getChar_3b067_12 : decode cJ2_getChar_3b067 12 = .ok (.invokestatic 48, 3) := by decide +kernel
theorem dJ2_getChar_3b067_15 : decode cJ2_getChar_3b067 15 = .ok (.if_icmp .lt 13, 3) := by decide +kernel
theorem dJ2_getChar_3b067_18 : decode cJ2_getChar_3b067 18 = .ok (.new 52, 3) := by decide +kernel
theorem dJ2_getChar_3b067_21 : decode cJ2_getChar_3b067 21 = .ok (.dup, 1) := by decide +kernel
theorem dJ2_getChar_3b067_22 : decode cJ2_getChar_3b067 22 = .ok (.ldc 54, 2) := by decide +kernel
theorem dJ2_getChar_3b067_24 : decode cJ2_getChar_3b067 24 = .ok (.invokespecial 56, 3) := by decide +kernel
theorem dJ2_getChar_3b067_27 : decode cJ2_getChar_3b067 27 = .ok (.athrow, 1) := by decide +kernel
theorem dJ2_getChar_3b067_28 : decode cJ2_getChar_3b067 28 = .ok (.iload_n 1, 1) := by decide +kernel
theorem dJ2_getChar_3b067_29 : decode cJ2_getChar_3b067 29 = .ok (.iconst 1, 1) := by decide +kernel
theorem dJ2_getChar_3b067_30 : decode cJ2_getChar_3b067 30 = .ok (.ishl, 1) := by decide +kernel
theorem dJ2_getChar_3b067_31 : decode cJ2_getChar_3b067 31 = .ok (.istore_n 1, 1) := by decide +kernel
theorem dJ2_getChar_3b067_32 : decode cJ2_getChar_3b067 32 = .ok (.aload_n 0, 1) := by decide +kernel
theorem dJ2_getChar_3b067_33 : decode cJ2_getChar_3b067 33 = .ok (.iload_n 1, 1) := by decide +kernel
theorem dJ2_getChar_3b067_34 : decode cJ2_getChar_3b067 34 = .ok (.iinc 1 1, 3) := by decide +kernel
theorem dJ2_getChar_3b067_37 : decode cJ2_getChar_3b067 37 = .ok (.baload, 1) := by decide +kernel
theorem dJ2_getChar_3b067_38 : decode cJ2_getChar_3b067 38 = .ok (.sipush 255, 3) := by decide +kernel
theorem dJ2_getChar_3b067_41 : decode cJ2_getChar_3b067 41 = .ok (.iand, 1) := by decide +kernel
theorem dJ2_getChar_3b067_42 : decode cJ2_getChar_3b067 42 = .ok (.getstatic 59, 3) := by decide +kernel
theorem dJ2_getChar_3b067_45 : decode cJ2_getChar_3b067 45 = .ok (.ishl, 1) := by decide +kernel
theorem dJ2_getChar_3b067_46 : decode cJ2_getChar_3b067 46 = .ok (.aload_n 0, 1) := by decide +kernel
theorem dJ2_getChar_3b067_47 : decode cJ2_getChar_3b067 47 = .ok (.iload_n 1, 1) := by decide +kernel
theorem dJ2_getChar_3b067_48 : decode cJ2_getChar_3b067 48 = .ok (.baload, 1) := by decide +kernel
theorem dJ2_getChar_3b067_49 : decode cJ2_getChar_3b067 49 = .ok (.sipush 255, 3) := by decide +kernel
theorem dJ2_getChar_3b067_52 : decode cJ2_getChar_3b067 52 = .ok (.iand, 1) := by decide +kernel
theorem dJ2_getChar_3b067_53 : decode cJ2_getChar_3b067 53 = .ok (.getstatic 63, 3) := by decide +kernel
theorem dJ2_getChar_3b067_56 : decode cJ2_getChar_3b067 56 = .ok (.ishl, 1) := by decide +kernel
theorem dJ2_getChar_3b067_57 : decode cJ2_getChar_3b067 57 = .ok (.ior, 1) := by decide +kernel
theorem dJ2_getChar_3b067_58 : decode cJ2_getChar_3b067 58 = .ok (.i2c, 1) := by decide +kernel
theorem dJ2_getChar_3b067_59 : decode cJ2_getChar_3b067 59 = .ok (.ireturn, 1) := by decide +kernel
theorem dJ2_length_9d52b_0 : decode cJ2_length_9d52b 0 = .ok (.aload_n 0, 1) := by decide +kernel
theorem dJ2_length_9d52b_1 : decode cJ2_length_9d52b 1 = .ok (.arraylength, 1) := by decide +kernel
theorem dJ2_length_9d52b_2 : decode cJ2_length_9d52b 2 = .ok (.iconst 1, 1) := by decide +kernel
theorem dJ2_length_9d52b_3 : decode cJ2_length_9d52b 3 = .ok (.ishr, 1) := by decide +kernel
theorem dJ2_length_9d52b_4 : decode cJ2_length_9d52b 4 = .ok (.ireturn, 1) := by decide +kernel
theorem dJ2_coderFromArrayLen_85cad_0 : decode cJ2_coderFromArrayLen_85cad 0 = .ok (.iload_n 1, 1) := by decide +kernel
theorem dJ2_coderFromArrayLen_85cad_1 : decode cJ2_coderFromArrayLen_85cad 1 = .ok (.aload_n 0, 1) := by decide +kernel
theorem dJ2_coderFromArrayLen_85cad_2 : decode cJ2_coderFromArrayLen_85cad 2 = .ok (.arraylength, 1) := by decide +kernel
theorem dJ2_coderFromArrayLen_85cad_3 : decode cJ2_coderFromArrayLen_85cad 3 = .ok (.isub, 1) := by decide +kernel
theorem dJ2_coderFromArrayLen_85cad_4 : decode cJ2_coderFromArrayLen_85cad 4 = .ok (.bipush 31, 2) := by decide +kernel
theorem dJ2_coderFromArrayLen_85cad_6 : decode cJ2_coderFromArrayLen_85cad 6 = .ok (.iushr, 1) := by decide +kernel
theorem dJ2_coderFromArrayLen_85cad_7 : decode cJ2_coderFromArrayLen_85cad 7 = .ok (.i2b, 1) := by decide +kernel
theorem dJ2_coderFromArrayLen_85cad_8 : decode cJ2_coderFromArrayLen_85cad 8 = .ok (.ireturn, 1) := by decide +kernel
theorem dJ2_compress_39247_0 : decode cJ2_compress_39247 0 = .ok (.iload_n 2, 1) := by decide +kernel
theorem dJ2_compress_39247_1 : decode cJ2_compress_39247 1 = .ok (.newarray .byte, 2) := by decide +kernel
theorem dJ2_compress_39247_3 : decode cJ2_compress_39247 3 = .ok (.astore_n 3, 1) := by decide +kernel
theorem dJ2_compress_39247_4 : decode cJ2_compress_39247 4 = .ok (.aload_n 0, 1) := by decide +kernel
theorem dJ2_compress_39247_5 : decode cJ2_compress_39247 5 = .ok (.iload_n 1, 1) := by decide +kernel
theorem dJ2_compress_39247_6 : decode cJ2_compress_39247 6 = .ok (.aload_n 3, 1) := by decide +kernel
theorem dJ2_compress_39247_7 : decode cJ2_compress_39247 7 = .ok (.iconst 0, 1) := by decide +kernel
theorem dJ2_compress_39247_8 : decode cJ2_compress_39247 8 = .ok (.iload_n 2, 1) := by decide +kernel
theorem dJ2_compress_39247_9 : decode cJ2_compress_39247 9 = .ok (.invokestatic 123, 3) := by decide +kernel
theorem dJ2_compress_39247_12 : decode cJ2_compress_39247 12 = .ok (.istore 4, 2) := by decide +kernel
theorem dJ2_compress_39247_14 : decode cJ2_compress_39247 14 = .ok (.iload 4, 2) := by decide +kernel
theorem dJ2_compress_39247_16 : decode cJ2_compress_39247 16 = .ok (.iload_n 2, 1) := by decide +kernel
theorem dJ2_compress_39247_17 : decode cJ2_compress_39247 17 = .ok (.if_icmp .eq 47, 3) := by decide +kernel
theorem dJ2_compress_39247_20 : decode cJ2_compress_39247 20 = .ok (.aload_n 0, 1) := by decide +kernel
theorem dJ2_compress_39247_21 : decode cJ2_compress_39247 21 = .ok (.iload_n 1, 1) := by decide +kernel
theorem dJ2_compress_39247_22 : decode cJ2_compress_39247 22 = .ok (.iconst 1, 1) := by decide +kernel
theorem dJ2_compress_39247_23 : decode cJ2_compress_39247 23 = .ok (.ishl, 1) := by decide +kernel
theorem dJ2_compress_39247_24 : decode cJ2_compress_39247 24 = .ok (.iload_n 1, 1) := by decide +kernel
theorem dJ2_compress_39247_25 : decode cJ2_compress_39247 25 = .ok (.iload_n 2, 1) := by decide +kernel
theorem dJ2_compress_39247_26 : decode cJ2_compress_39247 26 = .ok (.iadd, 1) := by decide +kernel
theorem dJ2_compress_39247_27 : decode cJ2_compress_39247 27 = .ok (.invokestatic 11, 3) := by decide +kernel
theorem dJ2_compress_39247_30 : decode cJ2_compress_39247 30 = .ok (.invokestatic 126, 3) := by decide +kernel
theorem dJ2_compress_39247_33 : decode cJ2_compress_39247 33 = .ok (.astore 5, 2) := by decide +kernel
theorem dJ2_compress_39247_35 : decode cJ2_compress_39247 35 = .ok (.aload 5, 2) := by decide +kernel
theorem dJ2_compress_39247_37 : decode cJ2_compress_39247 37 = .ok (.iload 4, 2) := by decide +kernel
theorem dJ2_compress_39247_39 : decode cJ2_compress_39247 39 = .ok (.invokestatic 71, 3) := by decide +kernel
theorem dJ2_compress_39247_42 : decode cJ2_compress_39247 42 = .ok (.sipush 255, 3) := by decide +kernel
theorem dJ2_compress_39247_45 : decode cJ2_compress_39247 45 = .ok (.if_icmp .gt 16, 3) := by decide +kernel
theorem dJ2_compress_39247_48 : decode cJ2_compress_39247 48 = .ok (.aload 5, 2) := by decide +kernel
theorem dJ2_compress_39247_50 : decode cJ2_compress_39247 50 = .ok (.iconst 0, 1) := by decide +kernel
theorem dJ2_compress_39247_51 : decode cJ2_compress_39247 51 = .ok (.aload_n 3, 1) := by decide +kernel
theorem dJ2_compress_39247_52 : decode cJ2_compress_39247 52 = .ok (.iconst 0, 1) := by decide +kernel
theorem dJ2_compress_39247_53 : decode cJ2_compress_39247 53 = .ok (.iload_n 2, 1) := by decide +kernel
theorem dJ2_compress_39247_54 : decode cJ2_compress_39247 54 = .ok (.invokestatic 123, 3) := by decide +kernel
theorem dJ2_compress_39247_57 : decode cJ2_compress_39247 57 = .ok (.iload_n 2, 1) := by decide +kernel
theorem dJ2_compress_39247_58 : decode cJ2_compress_39247 58 = .ok (.if_icmp .eq 6, 3) := by decide +kernel
theorem dJ2_compress_39247_61 : decode cJ2_compress_39247 61 = .ok (.aload 5, 2) := by decide +kernel
theorem dJ2_compress_39247_63 : decode cJ2_compress_39247 63 = .ok (.areturn, 1) := by decide +kernel
theorem dJ2_compress_39247_64 : decode cJ2_compress_39247 64 = .ok (.aload_n 3, 1) := by decide +kernel
theorem dJ2_compress_39247_65 : decode cJ2_compress_39247 65 = .ok (.areturn, 1) := by decide +kernel
theorem dJ2_compress_5af95_0 : decode cJ2_compress_5af95 0 = .ok (.iload_n 1, 1) := by decide +kernel
theorem dJ2_compress_5af95_1 : decode cJ2_compress_5af95 1 = .ok (.iload 4, 2) := by decide +kernel
theorem dJ2_compress_5af95_3 : decode cJ2_compress_5af95 3 = .ok (.aload_n 0, 1) := by decide +kernel
theorem dJ2_compress_5af95_4 : decode cJ2_compress_5af95 4 = .ok (.invokestatic 173, 3) := by decide +kernel
theorem dJ2_compress_5af95_7 : decode cJ2_compress_5af95 7 = .ok (.iconst 0, 1) := by decide +kernel
theorem dJ2_compress_5af95_8 : decode cJ2_compress_5af95 8 = .ok (.istore 5, 2) := by decide +kernel
theorem dJ2_compress_5af95_10 : decode cJ2_compress_5af95 10 = .ok (.iload 5, 2) := by decide +kernel
theorem dJ2_compress_5af95_12 : decode cJ2_compress_5af95 12 = .ok (.iload 4, 2) := by decide +kernel
theorem dJ2_compress_5af95_14 : decode cJ2_compress_5af95 14 = .ok (.if_icmp .ge 39, 3) := by decide +kernel
theorem dJ2_compress_5af95_17 : decode cJ2_compress_5af95 17 = .ok (.aload_n 0, 1) := by decide +kernel
theorem dJ2_compress_5af95_18 : decode cJ2_compress_5af95 18 = .ok (.iload_n 1, 1) := by decide +kernel
theorem dJ2_compress_5af95_19 : decode cJ2_compress_5af95 19 = .ok (.invokestatic 71, 3) := by decide +kernel
theorem dJ2_compress_5af95_22 : decode cJ2_compress_5af95 22 = .ok (.istore 6, 2) := by decide +kernel
theorem dJ2_compress_5af95_24 : decode cJ2_compress_5af95 24 = .ok (.iload 6, 2) := by decide +kernel
theorem dJ2_compress_5af95_26 : decode cJ2_compress_5af95 26 = .ok (.sipush 255, 3) := by decide +kernel
theorem dJ2_compress_5af95_29 : decode cJ2_compress_5af95 29 = .ok (.if_icmp .le 6, 3) := by decide +kernel
theorem dJ2_compress_5af95_32 : decode cJ2_compress_5af95 32 = .ok (.iload 5, 2) := by decide +kernel
theorem dJ2_compress_5af95_34 : decode cJ2_compress_5af95 34 = .ok (.ireturn, 1) := by decide +kernel
theorem dJ2_compress_5af95_35 : decode cJ2_compress_5af95 35 = .ok (.aload_n 2, 1) := by decide +kernel
theorem dJ2_compress_5af95_36 : decode cJ2_compress_5af95 36 = .ok (.iload_n 3, 1) := by decide +kernel
theorem dJ2_compress_5af95_37 : decode cJ2_compress_5af95 37 = .ok (.iload 6, 2) := by decide +kernel
theorem dJ2_compress_5af95_39 : decode cJ2_compress_5af95 39 = .ok (.i2b, 1) := by decide +kernel
theorem dJ2_compress_5af95_40 : decode cJ2_compress_5af95 40 = .ok (.bastore, 1) := by decide +kernel
theorem dJ2_compress_5af95_41 : decode cJ2_compress_5af95 41 = .ok (.iinc 1 1, 3) := by decide +kernel
theorem dJ2_compress_5af95_44 : decode cJ2_compress_5af95 44 = .ok (.iinc 3 1, 3) := by decide +kernel
theorem dJ2_compress_5af95_47 : decode cJ2_compress_5af95 47 = .ok (.iinc 5 1, 3) := by decide +kernel
theorem dJ2_compress_5af95_50 : decode cJ2_compress_5af95 50 = .ok (.goto (-40), 3) := by decide +kernel
theorem dJ2_compress_5af95_53 : decode cJ2_compress_5af95 53 = .ok (.iload 4, 2) := by decide +kernel
theorem dJ2_compress_5af95_55 : decode cJ2_compress_5af95 55 = .ok (.ireturn, 1) := by decide +kernel
theorem dJ2_putCharSB_b72d1_0 : decode cJ2_putCharSB_b72d1 0 = .ok (.iload_n 1, 1) := by decide +kernel
theorem dJ2_putCharSB_b72d1_1 : decode cJ2_putCharSB_b72d1 1 = .ok (.aload_n 0, 1) := by decide +kernel
theorem dJ2_putCharSB_b72d1_2 : decode cJ2_putCharSB_b72d1 2 = .ok (.invokestatic 67, 3) := by decide +kernel
theorem dJ2_putCharSB_b72d1_5 : decode cJ2_putCharSB_b72d1 5 = .ok (.aload_n 0, 1) := by decide +kernel
theorem dJ2_putCharSB_b72d1_6 : decode cJ2_putCharSB_b72d1 6 = .ok (.iload_n 1, 1) := by decide +kernel
theorem dJ2_putCharSB_b72d1_7 : decode cJ2_putCharSB_b72d1 7 = .ok (.iload_n 2, 1) := by decide +kernel
theorem dJ2_putCharSB_b72d1_8 : decode cJ2_putCharSB_b72d1 8 = .ok (.invokestatic 111, 3) := by decide +kernel
theorem dJ2_putCharSB_b72d1_11 : decode cJ2_putCharSB_b72d1 11 = .ok (.return_, 1) := by decide +kernel
theorem dJ2_getChars_46870_0 : decode cJ2_getChars_46870 0 = .ok (.iload_n 1, 1) := by decide +kernel
theorem dJ2_getChars_46870_1 : decode cJ2_getChars_46870 1 = .ok (.iload_n 2, 1) := by decide +kernel
theorem dJ2_getChars_46870_2 : decode cJ2_getChars_46870 2 = .ok (.aload_n 3, 1) := by decide +kernel
theorem dJ2_getChars_46870_3 : decode cJ2_getChars_46870 3 = .ok (.invokestatic 96, 3) := by decide +kernel
theorem dJ2_getChars_46870_6 : decode cJ2_getChars_46870 6 = .ok (.iload_n 0, 1) := by decide +kernel
theorem dJ2_getChars_46870_7 : decode cJ2_getChars_46870 7 = .ok (.iload_n 2, 1) := by decide +kernel
theorem dJ2_getChars_46870_8 : decode cJ2_getChars_46870 8 = .ok (.aload_n 3, 1) := by decide +kernel
theorem dJ2_getChars_46870_9 : decode cJ2_getChars_46870 9 = .ok (.invokestatic 393, 3) := by decide +kernel
theorem dJ2_getChars_46870_12 : decode cJ2_getChars_46870 12 = .ok (.istore 4, 2) := by decide +kernel
theorem dJ2_getChars_46870_14 : decode cJ2_getChars_46870 14 = .ok (.getstatic 44, 3) := by decide +kernel
theorem dJ2_getChars_46870_17 : decode cJ2_getChars_46870 17 = .ok (.ifCond .ne 17, 3) := by decide +kernel
theorem dJ2_getChars_46870_20 : decode cJ2_getChars_46870 20 = .ok (.iload_n 1, 1) := by decide +kernel
theorem dJ2_getChars_46870_21 : decode cJ2_getChars_46870 21 = .ok (.iload 4, 2) := by decide +kernel
theorem dJ2_getChars_46870_23 : decode cJ2_getChars_46870 23 = .ok (.if_icmp .eq 11, 3) := by decide +kernel
theorem dJ2_getChars_46870_26 : decode cJ2_getChars_46870 26 = .ok (.new 52, 3) := by decide +kernel
theorem dJ2_getChars_46870_29 : decode cJ2_getChars_46870 29 = .ok (.dup, 1) := by decide +kernel
theorem dJ2_getChars_46870_30 : decode cJ2_getChars_46870 30 = .ok (.invokespecial 66, 3) := by decide +kernel
theorem dJ2_getChars_46870_33 : decode cJ2_getChars_46870 33 = .ok (.athrow, 1) := by decide +kernel
theorem dJ2_getChars_46870_34 : decode cJ2_getChars_46870 34 = .ok (.iload 4, 2) := by decide +kernel
theorem dJ2_getChars_46870_36 : decode cJ2_getChars_46870 36 = .ok (.ireturn, 1) := by decide +kernel
theorem dJ2_putCharsAt_cd4e5_0 : decode cJ2_putCharsAt_cd4e5 0 = .ok (.iload_n 1, 1) := by decide +kernel
theorem dJ2_putCharsAt_cd4e5_1 : decode cJ2_putCharsAt_cd4e5 1 = .ok (.iconst 4, 1) := by decide +kernel
theorem dJ2_putCharsAt_cd4e5_2 : decode cJ2_putCharsAt_cd4e5 2 = .ok (.iadd, 1) := by decide +kernel
theorem dJ2_putCharsAt_cd4e5_3 : decode cJ2_putCharsAt_cd4e5 3 = .ok (.istore 6, 2) := by decide +kernel
theorem dJ2_putCharsAt_cd4e5_5 : decode cJ2_putCharsAt_cd4e5 5 = .ok (.iload_n 1, 1) := by decide +kernel
theorem dJ2_putCharsAt_cd4e5_6 : decode cJ2_putCharsAt_cd4e5 6 = .ok (.iload 6, 2) := by decide +kernel
theorem dJ2_putCharsAt_cd4e5_8 : decode cJ2_putCharsAt_cd4e5 8 = .ok (.aload_n 0, 1) := by decide +kernel
theorem dJ2_putCharsAt_cd4e5_9 : decode cJ2_putCharsAt_cd4e5 9 = .ok (.invokestatic 96, 3) := by decide +kernel
theorem dJ2_putCharsAt_cd4e5_12 : decode cJ2_putCharsAt_cd4e5 12 = .ok (.aload_n 0, 1) := by decide +kernel
theorem dJ2_putCharsAt_cd4e5_13 : decode cJ2_putCharsAt_cd4e5 13 = .ok (.iload_n 1, 1) := by decide +kernel
theorem dJ2_putCharsAt_cd4e5_14 : decode cJ2_putCharsAt_cd4e5 14 = .ok (.iinc 1 1, 3) := by decide +kernel
theorem dJ2_putCharsAt_cd4e5_17 : decode cJ2_putCharsAt_cd4e5 17 = .ok (.iload_n 2, 1) := by decide +kernel
theorem dJ2_putCharsAt_cd4e5_18 : decode cJ2_putCharsAt_cd4e5 18 = .ok (.invokestatic 111, 3) := by decide +kernel
theorem dJ2_putCharsAt_cd4e5_21 : decode cJ2_putCharsAt_cd4e5 21 = .ok (.aload_n 0, 1) := by decide +kernel
theorem dJ2_putCharsAt_cd4e5_22 : decode cJ2_putCharsAt_cd4e5 22 = .ok (.iload_n 1, 1) := by decide +kernel
theorem dJ2_putCharsAt_cd4e5_23 : decode cJ2_putCharsAt_cd4e5 23 = .ok (.iinc 1 1, 3) := by decide +kernel
theorem dJ2_putCharsAt_cd4e5_26 : decode cJ2_putCharsAt_cd4e5 26 = .ok (.iload_n 3, 1) := by decide +kernel
theorem dJ2_putCharsAt_cd4e5_27 : decode cJ2_putCharsAt_cd4e5 27 = .ok (.invokestatic 111, 3) := by decide +kernel
theorem dJ2_putCharsAt_cd4e5_30 : decode cJ2_putCharsAt_cd4e5 30 = .ok (.aload_n 0, 1) := by decide +kernel
theorem dJ2_putCharsAt_cd4e5_31 : decode cJ2_putCharsAt_cd4e5 31 = .ok (.iload_n 1, 1) := by decide +kernel
theorem dJ2_putCharsAt_cd4e5_32 : decode cJ2_putCharsAt_cd4e5 32 = .ok (.iinc 1 1, 3) := by decide +kernel
theorem dJ2_putCharsAt_cd4e5_35 : decode cJ2_putCharsAt_cd4e5 35 = .ok (.iload 4, 2) := by decide +kernel
theorem dJ2_putCharsAt_cd4e5_37 : decode cJ2_putCharsAt_cd4e5 37 = .ok (.invokestatic 111, 3) := by decide +kernel
theorem dJ2_putCharsAt_cd4e5_40 : decode cJ2_putCharsAt_cd4e5 40 = .ok (.aload_n 0, 1) := by decide +kernel
theorem dJ2_putCharsAt_cd4e5_41 : decode cJ2_putCharsAt_cd4e5 41 = .ok (.iload_n 1, 1) := by decide +kernel
theorem dJ2_putCharsAt_cd4e5_42 : decode cJ2_putCharsAt_cd4e5 42 = .ok (.iinc 1 1, 3) := by decide +kernel
theorem dJ2_putCharsAt_cd4e5_45 : decode cJ2_putCharsAt_cd4e5 45 = .ok (.iload 5, 2) := by decide +kernel
theorem dJ2_putCharsAt_cd4e5_47 : decode cJ2_putCharsAt_cd4e5 47 = .ok (.invokestatic 111, 3) := by decide +kernel
theorem dJ2_putCharsAt_cd4e5_50 : decode cJ2_putCharsAt_cd4e5 50 = .ok (.getstatic 44, 3) := by decide +kernel
theorem dJ2_putCharsAt_cd4e5_53 : decode cJ2_putCharsAt_cd4e5 53 = .ok (.ifCond .ne 17, 3) := by decide +kernel
theorem dJ2_putCharsAt_cd4e5_56 : decode cJ2_putCharsAt_cd4e5 56 = .ok (.iload_n 1, 1) := by decide +kernel
theorem dJ2_putCharsAt_cd4e5_57 : decode cJ2_putCharsAt_cd4e5 57 = .ok (.iload 6, 2) := by decide +kernel
theorem dJ2_putCharsAt_cd4e5_59 : decode cJ2_putCharsAt_cd4e5 59 = .ok (.if_icmp .eq 11, 3) := by decide +kernel
theorem dJ2_putCharsAt_cd4e5_62 : decode cJ2_putCharsAt_cd4e5 62 = .ok (.new 52, 3) := by decide +kernel
theorem dJ2_putCharsAt_cd4e5_65 : decode cJ2_putCharsAt_cd4e5 65 = .ok (.dup, 1) := by decide +kernel
theorem dJ2_putCharsAt_cd4e5_66 : decode cJ2_putCharsAt_cd4e5 66 = .ok (.invokespecial 66, 3) := by decide +kernel
theorem dJ2_putCharsAt_cd4e5_69 : decode cJ2_putCharsAt_cd4e5 69 = .ok (.athrow, 1) := by decide +kernel
theorem dJ2_putCharsAt_cd4e5_70 : decode cJ2_putCharsAt_cd4e5 70 = .ok (.iload 6, 2) := by decide +kernel
theorem dJ2_putCharsAt_cd4e5_72 : decode cJ2_putCharsAt_cd4e5 72 = .ok (.ireturn, 1) := by decide +kernel
theorem dJ2_inflate_0e8fd_0 : decode cJ2_inflate_0e8fd 0 = .ok (.iload_n 3, 1) := by decide +kernel
theorem dJ2_inflate_0e8fd_1 : decode cJ2_inflate_0e8fd 1 = .ok (.iload 4, 2) := by decide +kernel
theorem dJ2_inflate_0e8fd_3 : decode cJ2_inflate_0e8fd 3 = .ok (.aload_n 2, 1) := by decide +kernel
theorem dJ2_inflate_0e8fd_4 : decode cJ2_inflate_0e8fd 4 = .ok (.invokestatic 173, 3) := by decide +kernel
theorem dJ2_inflate_0e8fd_7 : decode cJ2_inflate_0e8fd 7 = .ok (.iconst 0, 1) := by decide +kernel
theorem dJ2_inflate_0e8fd_8 : decode cJ2_inflate_0e8fd 8 = .ok (.istore 5, 2) := by decide +kernel
theorem dJ2_inflate_0e8fd_10 : decode cJ2_inflate_0e8fd 10 = .ok (.iload 5, 2) := by decide +kernel
theorem dJ2_inflate_0e8fd_12 : decode cJ2_inflate_0e8fd 12 = .ok (.iload 4, 2) := by decide +kernel
theorem dJ2_inflate_0e8fd_14 : decode cJ2_inflate_0e8fd 14 = .ok (.if_icmp .ge 27, 3) := by decide +kernel
theorem dJ2_inflate_0e8fd_17 : decode cJ2_inflate_0e8fd 17 = .ok (.aload_n 2, 1) := by decide +kernel
theorem dJ2_inflate_0e8fd_18 : decode cJ2_inflate_0e8fd 18 = .ok (.iload_n 3, 1) := by decide +kernel
theorem dJ2_inflate_0e8fd_19 : decode cJ2_inflate_0e8fd 19 = .ok (.iinc 3 1, 3) := by decide +kernel
theorem dJ2_inflate_0e8fd_22 : decode cJ2_inflate_0e8fd 22 = .ok (.aload_n 0, 1) := by decide +kernel
theorem dJ2_inflate_0e8fd_23 : decode cJ2_inflate_0e8fd 23 = .ok (.iload_n 1, 1) := by decide +kernel
theorem dJ2_inflate_0e8fd_24 : decode cJ2_inflate_0e8fd 24 = .ok (.iinc 1 1, 3) := by decide +kernel
theorem dJ2_inflate_0e8fd_27 : decode cJ2_inflate_0e8fd 27 = .ok (.baload, 1) := by decide +kernel
theorem dJ2_inflate_0e8fd_28 : decode cJ2_inflate_0e8fd 28 = .ok (.sipush 255, 3) := by decide +kernel
theorem dJ2_inflate_0e8fd_31 : decode cJ2_inflate_0e8fd 31 = .ok (.iand, 1) := by decide +kernel
theorem dJ2_inflate_0e8fd_32 : decode cJ2_inflate_0e8fd 32 = .ok (.invokestatic 111, 3) := by decide +kernel
theorem dJ2_inflate_0e8fd_35 : decode cJ2_inflate_0e8fd 35 = .ok (.iinc 5 1, 3) := by decide +kernel
theorem dJ2_inflate_0e8fd_38 : decode cJ2_inflate_0e8fd 38 = .ok (.goto (-28), 3) := by decide +kernel
theorem dJ2_inflate_0e8fd_41 : decode cJ2_inflate_0e8fd 41 = .ok (.return_, 1) := by decide +kernel
theorem dJ2_getChars_ba4f3_0 : decode cJ2_getChars_ba4f3 0 = .ok (.iload_n 1, 1) := by decide +kernel
theorem dJ2_getChars_ba4f3_1 : decode cJ2_getChars_ba4f3 1 = .ok (.istore 5, 2) := by decide +kernel
theorem dJ2_getChars_ba4f3_3 : decode cJ2_getChars_ba4f3 3 = .ok (.iload_n 0, 1) := by decide +kernel
theorem dJ2_getChars_ba4f3_4 : decode cJ2_getChars_ba4f3 4 = .ok (.ifCond .ge 7, 3) := by decide +kernel
theorem dJ2_getChars_ba4f3_7 : decode cJ2_getChars_ba4f3 7 = .ok (.iconst 1, 1) := by decide +kernel
theorem dJ2_getChars_ba4f3_8 : decode cJ2_getChars_ba4f3 8 = .ok (.goto 4, 3) := by decide +kernel
theorem dJ2_getChars_ba4f3_11 : decode cJ2_getChars_ba4f3 11 = .ok (.iconst 0, 1) := by decide +kernel
theorem dJ2_getChars_ba4f3_12 : decode cJ2_getChars_ba4f3 12 = .ok (.istore 6, 2) := by decide +kernel
theorem dJ2_getChars_ba4f3_14 : decode cJ2_getChars_ba4f3 14 = .ok (.iload 6, 2) := by decide +kernel
theorem dJ2_getChars_ba4f3_16 : decode cJ2_getChars_ba4f3 16 = .ok (.ifCond .ne 6, 3) := by decide +kernel
theorem dJ2_getChars_ba4f3_19 : decode cJ2_getChars_ba4f3 19 = .ok (.iload_n 0, 1) := by decide +kernel
theorem dJ2_getChars_ba4f3_20 : decode cJ2_getChars_ba4f3 20 = .ok (.ineg, 1) := by decide +kernel
theorem dJ2_getChars_ba4f3_21 : decode cJ2_getChars_ba4f3 21 = .ok (.istore_n 0, 1) := by decide +kernel
theorem dJ2_getChars_ba4f3_22 : decode cJ2_getChars_ba4f3 22 = .ok (.iload_n 0, 1) := by decide +kernel
theorem dJ2_getChars_ba4f3_23 : decode cJ2_getChars_ba4f3 23 = .ok (.bipush (-100), 2) := by decide +kernel
theorem dJ2_getChars_ba4f3_25 : decode cJ2_getChars_ba4f3 25 = .ok (.if_icmp .gt 51, 3) := by decide +kernel
theorem dJ2_getChars_ba4f3_28 : decode cJ2_getChars_ba4f3 28 = .ok (.iload_n 0, 1) := by decide +kernel
theorem dJ2_getChars_ba4f3_29 : decode cJ2_getChars_ba4f3 29 = .ok (.bipush 100, 2) := by decide +kernel
theorem dJ2_getChars_ba4f3_31 : decode cJ2_getChars_ba4f3 31 = .ok (.idiv, 1) := by decide +kernel
theorem dJ2_getChars_ba4f3_32 : decode cJ2_getChars_ba4f3 32 = .ok (.istore_n 3, 1) := by decide +kernel
theorem dJ2_getChars_ba4f3_33 : decode cJ2_getChars_ba4f3 33 = .ok (.iload_n 3, 1) := by decide +kernel
theorem dJ2_getChars_ba4f3_34 : decode cJ2_getChars_ba4f3 34 = .ok (.bipush 100, 2) := by decide +kernel
theorem dJ2_getChars_ba4f3_36 : decode cJ2_getChars_ba4f3 36 = .ok (.imul, 1) := by decide +kernel
theorem dJ2_getChars_ba4f3_37 : decode cJ2_getChars_ba4f3 37 = .ok (.iload_n 0, 1) := by decide +kernel
theorem dJ2_getChars_ba4f3_38 : decode cJ2_getChars_ba4f3 38 = .ok (.isub, 1) := by decide +kernel
theorem dJ2_getChars_ba4f3_39 : decode cJ2_getChars_ba4f3 39 = .ok (.istore 4, 2) := by decide +kernel
theorem dJ2_getChars_ba4f3_41 : decode cJ2_getChars_ba4f3 41 = .ok (.iload_n 3, 1) := by decide +kernel
theorem dJ2_getChars_ba4f3_42 : decode cJ2_getChars_ba4f3 42 = .ok (.istore_n 0, 1) := by decide +kernel
theorem dJ2_getChars_ba4f3_43 : decode cJ2_getChars_ba4f3 43 = .ok (.aload_n 2, 1) := by decide +kernel
theorem dJ2_getChars_ba4f3_44 : decode cJ2_getChars_ba4f3 44 = .ok (.iinc 5 (-1), 3) := by decide +kernel
theorem dJ2_getChars_ba4f3_47 : decode cJ2_getChars_ba4f3 47 = .ok (.iload 5, 2) := by decide +kernel
theorem dJ2_getChars_ba4f3_49 : decode cJ2_getChars_ba4f3 49 = .ok (.getstatic 403, 3) := by decide +kernel
theorem dJ2_getChars_ba4f3_52 : decode cJ2_getChars_ba4f3 52 = .ok (.iload 4, 2) := by decide +kernel
theorem dJ2_getChars_ba4f3_54 : decode cJ2_getChars_ba4f3 54 = .ok (.baload, 1) := by decide +kernel
theorem dJ2_getChars_ba4f3_55 : decode cJ2_getChars_ba4f3 55 = .ok (.invokestatic 111, 3) := by decide +kernel
theorem dJ2_getChars_ba4f3_58 : decode cJ2_getChars_ba4f3 58 = .ok (.aload_n 2, 1) := by decide +kernel
theorem dJ2_getChars_ba4f3_59 : decode cJ2_getChars_ba4f3 59 = .ok (.iinc 5 (-1), 3) := by decide +kernel
theorem dJ2_getChars_ba4f3_62 : decode cJ2_getChars_ba4f3 62 = .ok (.iload 5, 2) := by decide +kernel
theorem dJ2_getChars_ba4f3_64 : decode cJ2_getChars_ba4f3 64 = .ok (.getstatic 407, 3) := by decide +kernel
theorem dJ2_getChars_ba4f3_67 : decode cJ2_getChars_ba4f3 67 = .ok (.iload 4, 2) := by decide +kernel
theorem dJ2_getChars_ba4f3_69 : decode cJ2_getChars_ba4f3 69 = .ok (.baload, 1) := by decide +kernel
theorem dJ2_getChars_ba4f3_70 : decode cJ2_getChars_ba4f3 70 = .ok (.invokestatic 111, 3) := by decide +kernel
theorem dJ2_getChars_ba4f3_73 : decode cJ2_getChars_ba4f3 73 = .ok (.goto (-51), 3) := by decide +kernel
theorem dJ2_getChars_ba4f3_76 : decode cJ2_getChars_ba4f3 76 = .ok (.aload_n 2, 1) := by decide +kernel
theorem dJ2_getChars_ba4f3_77 : decode cJ2_getChars_ba4f3 77 = .ok (.iinc 5 (-1), 3) := by decide +kernel
theorem dJ2_getChars_ba4f3_80 : decode cJ2_getChars_ba4f3 80 = .ok (.iload 5, 2) := by decide +kernel
theorem dJ2_getChars_ba4f3_82 : decode cJ2_getChars_ba4f3 82 = .ok (.getstatic 403, 3) := by decide +kernel
theorem dJ2_getChars_ba4f3_85 : decode cJ2_getChars_ba4f3 85 = .ok (.iload_n 0, 1) := by decide +kernel
theorem dJ2_getChars_ba4f3_86 : decode cJ2_getChars_ba4f3 86 = .ok (.ineg, 1) := by decide +kernel
theorem dJ2_getChars_ba4f3_87 : decode cJ2_getChars_ba4f3 87 = .ok (.baload, 1) := by decide +kernel
theorem dJ2_getChars_ba4f3_88 : decode cJ2_getChars_ba4f3 88 = .ok (.invokestatic 111, 3) := by decide +kernel
theorem dJ2_getChars_ba4f3_91 : decode cJ2_getChars_ba4f3 91 = .ok (.iload_n 0, 1) := by decide +kernel
theorem dJ2_getChars_ba4f3_92 : decode cJ2_getChars_ba4f3 92 = .ok (.bipush (-9), 2) := by decide +kernel
theorem dJ2_getChars_ba4f3_94 : decode cJ2_getChars_ba4f3 94 = .ok (.if_icmp .ge 18, 3) := by decide +kernel
theorem dJ2_getChars_ba4f3_97 : decode cJ2_getChars_ba4f3 97 = .ok (.aload_n 2, 1) := by decide +kernel
theorem dJ2_getChars_ba4f3_98 : decode cJ2_getChars_ba4f3 98 = .ok (.iinc 5 (-1), 3) := by decide +kernel
theorem dJ2_getChars_ba4f3_101 : decode cJ2_getChars_ba4f3 101 = .ok (.iload 5, 2) := by decide +kernel
theorem dJ2_getChars_ba4f3_103 : decode cJ2_getChars_ba4f3 103 = .ok (.getstatic 407, 3) := by decide +kernel
theorem dJ2_getChars_ba4f3_106 : decode cJ2_getChars_ba4f3 106 = .ok (.iload_n 0, 1) := by decide +kernel
theorem dJ2_getChars_ba4f3_107 : decode cJ2_getChars_ba4f3 107 = .ok (.ineg, 1) := by decide +kernel
theorem dJ2_getChars_ba4f3_108 : decode cJ2_getChars_ba4f3 108 = .ok (.baload, 1) := by decide +kernel
theorem dJ2_getChars_ba4f3_109 : decode cJ2_getChars_ba4f3 109 = .ok (.invokestatic 111, 3) := by decide +kernel
theorem dJ2_getChars_ba4f3_112 : decode cJ2_getChars_ba4f3 112 = .ok (.iload 6, 2) := by decide +kernel
theorem dJ2_getChars_ba4f3_114 : decode cJ2_getChars_ba4f3 114 = .ok (.ifCond .eq 14, 3) := by decide +kernel
theorem dJ2_getChars_ba4f3_117 : decode cJ2_getChars_ba4f3 117 = .ok (.aload_n 2, 1) := by decide +kernel
theorem dJ2_getChars_ba4f3_118 : decode cJ2_getChars_ba4f3 118 = .ok (.iinc 5 (-1), 3) := by decide +kernel
theorem dJ2_getChars_ba4f3_121 : decode cJ2_getChars_ba4f3 121 = .ok (.iload 5, 2) := by decide +kernel
theorem dJ2_getChars_ba4f3_123 : decode cJ2_getChars_ba4f3 123 = .ok (.bipush 45, 2) := by decide +kernel
theorem dJ2_getChars_ba4f3_125 : decode cJ2_getChars_ba4f3 125 = .ok (.invokestatic 111, 3) := by decide +kernel
theorem dJ2_getChars_ba4f3_128 : decode cJ2_getChars_ba4f3 128 = .ok (.iload 5, 2) := by decide +kernel
theorem dJ2_getChars_ba4f3_130 : decode cJ2_getChars_ba4f3 130 = .ok (.ireturn, 1) := by decide +kernel
theorem dJ2_checkIndex_2214a_0 : decode cJ2_checkIndex_2214a 0 = .ok (.iload_n 0, 1) := by decide +kernel
theorem dJ2_checkIndex_2214a_1 : decode cJ2_checkIndex_2214a 1 = .ok (.aload_n 1, 1) := by decide +kernel
theorem dJ2_checkIndex_2214a_2 : decode cJ2_checkIndex_2214a 2 = .ok (.invokestatic 48, 3) := by decide +kernel
theorem dJ2_checkIndex_2214a_5 : decode cJ2_checkIndex_2214a 5 = .ok (.invokestatic 414, 3) := by decide +kernel
theorem dJ2_checkIndex_2214a_8 : decode cJ2_checkIndex_2214a 8 = .ok (.return_, 1) := by decide +kernel
theorem dJ2_checkBoundsBeginEnd_d044e_0 : decode cJ2_checkBoundsBeginEnd_d044e 0 = .ok (.iload_n 0, 1) := by decide +kernel
theorem dJ2_checkBoundsBeginEnd_d044e_1 : decode cJ2_checkBoundsBeginEnd_d044e 1 = .ok (.iload_n 1, 1) := by decide +kernel
theorem dJ2_checkBoundsBeginEnd_d044e_2 : decode cJ2_checkBoundsBeginEnd_d044e 2 = .ok (.aload_n 2, 1) := by decide +kernel
theorem dJ2_checkBoundsBeginEnd_d044e_3 : decode cJ2_checkBoundsBeginEnd_d044e 3 = .ok (.invokestatic 48, 3) := by decide +kernel
theorem dJ2_checkBoundsBeginEnd_d044e_6 : decode cJ2_checkBoundsBeginEnd_d044e 6 = .ok (.invokestatic 241, 3) := by decide +kernel
theorem dJ2_checkBoundsBeginEnd_d044e_9 : decode cJ2_checkBoundsBeginEnd_d044e 9 = .ok (.return_, 1) := by decide +kernel
theorem dJ2_checkBoundsOffCount_d044e_0 : decode cJ2_checkBoundsOffCount_d044e 0 = .ok (.iload_n 0, 1) := by decide +kernel
theorem dJ2_checkBoundsOffCount_d044e_1 : decode cJ2_checkBoundsOffCount_d044e 1 = .ok (.iload_n 1, 1) := by decide +kernel
theorem dJ2_checkBoundsOffCount_d044e_2 : decode cJ2_checkBoundsOffCount_d044e 2 = .ok (.aload_n 2, 1) := by decide +kernel
theorem dJ2_checkBoundsOffCount_d044e_3 : decode cJ2_checkBoundsOffCount_d044e 3 = .ok (.invokestatic 48, 3) := by decide +kernel
theorem dJ2_checkBoundsOffCount_d044e_6 : decode cJ2_checkBoundsOffCount_d044e 6 = .ok (.invokestatic 419, 3) := by decide +kernel
theorem dJ2_checkBoundsOffCount_d044e_9 : decode cJ2_checkBoundsOffCount_d044e 9 = .ok (.pop, 1) := by decide +kernel
theorem dJ2_checkBoundsOffCount_d044e_10 : decode cJ2_checkBoundsOffCount_d044e 10 = .ok (.return_, 1) := by decide +kernel
theorem dJxa1e45_init_da8c8_0 : decode cJxa1e45_init_da8c8 0 = .ok (.aload_n 0, 1) := by decide +kernel
theorem dJxa1e45_init_da8c8_1 : decode cJxa1e45_init_da8c8 1 = .ok (.invokespecial 1, 3) := by decide +kernel
theorem dJxa1e45_init_da8c8_4 : decode cJxa1e45_init_da8c8 4 = .ok (.return_, 1) := by decide +kernel
theorem dJxc12de_init_da8c8_0 : decode cJxc12de_init_da8c8 0 = .ok (.aload_n 0, 1) := by decide +kernel
theorem dJxc12de_init_da8c8_1 : decode cJxc12de_init_da8c8 1 = .ok (.invokespecial 1, 3) := by decide +kernel
theorem dJxc12de_init_da8c8_4 : decode cJxc12de_init_da8c8 4 = .ok (.aload_n 0, 1) := by decide +kernel
theorem dJxc12de_init_da8c8_5 : decode cJxc12de_init_da8c8 5 = .ok (.iconst 0, 1) := by decide +kernel
theorem dJxc12de_init_da8c8_6 : decode cJxc12de_init_da8c8 6 = .ok (.putfield 7, 3) := by decide +kernel
theorem dJxc12de_init_da8c8_9 : decode cJxc12de_init_da8c8 9 = .ok (.return_, 1) := by decide +kernel
theorem dJx4a65c_init_da8c8_0 : decode cJx4a65c_init_da8c8 0 = .ok (.aload_n 0, 1) := by decide +kernel
theorem dJx4a65c_init_da8c8_1 : decode cJx4a65c_init_da8c8 1 = .ok (.invokespecial 1, 3) := by decide +kernel
theorem dJx4a65c_init_da8c8_4 : decode cJx4a65c_init_da8c8 4 = .ok (.aload_n 0, 1) := by decide +kernel
theorem dJx4a65c_init_da8c8_5 : decode cJx4a65c_init_da8c8 5 = .ok (.getstatic 39, 3) := by decide +kernel
theorem dJx4a65c_init_da8c8_8 : decode cJx4a65c_init_da8c8 8 = .ok (.putfield 9, 3) := by decide +kernel
theorem dJx4a65c_init_da8c8_11 : decode cJx4a65c_init_da8c8 11 = .ok (.return_, 1) := by decide +kernel
theorem dJx4a65c_grow_92f84_0 : decode cJx4a65c_grow_92f84 0 = .ok (.aload_n 0, 1) := by decide +kernel
theorem dJx4a65c_grow_92f84_1 : decode cJx4a65c_grow_92f84 1 = .ok (.getfield 9, 3) := by decide +kernel
theorem dJx4a65c_grow_92f84_4 : decode cJx4a65c_grow_92f84 4 = .ok (.arraylength, 1) := by decide +kernel
theorem dJx4a65c_grow_92f84_5 : decode cJx4a65c_grow_92f84 5 = .ok (.istore_n 2, 1) := by decide +kernel
theorem dJx4a65c_grow_92f84_6 : decode cJx4a65c_grow_92f84 6 = .ok (.iload_n 2, 1) := by decide +kernel
theorem dJx4a65c_grow_92f84_7 : decode cJx4a65c_grow_92f84 7 = .ok (.ifCond .gt 13, 3) := by decide +kernel
theorem dJx4a65c_grow_92f84_10 : decode cJx4a65c_grow_92f84 10 = .ok (.aload_n 0, 1) := by decide +kernel
theorem dJx4a65c_grow_92f84_11 : decode cJx4a65c_grow_92f84 11 = .ok (.getfield 9, 3) := by decide +kernel
theorem dJx4a65c_grow_92f84_14 : decode cJx4a65c_grow_92f84 14 = .ok (.getstatic 39, 3) := by decide +kernel
theorem dJx4a65c_grow_92f84_17 : decode cJx4a65c_grow_92f84 17 = .ok (.if_acmp .eq 28, 3) := by decide +kernel
theorem dJx4a65c_grow_92f84_20 : decode cJx4a65c_grow_92f84 20 = .ok (.iload_n 2, 1) := by decide +kernel
theorem dJx4a65c_grow_92f84_21 : decode cJx4a65c_grow_92f84 21 = .ok (.iload_n 1, 1) := by decide +kernel
theorem dJx4a65c_grow_92f84_22 : decode cJx4a65c_grow_92f84 22 = .ok (.iload_n 2, 1) := by decide +kernel
theorem dJx4a65c_grow_92f84_23 : decode cJx4a65c_grow_92f84 23 = .ok (.isub, 1) := by decide +kernel
theorem dJx4a65c_grow_92f84_24 : decode cJx4a65c_grow_92f84 24 = .ok (.iload_n 2, 1) := by decide +kernel
theorem dJx4a65c_grow_92f84_25 : decode cJx4a65c_grow_92f84 25 = .ok (.iconst 1, 1) := by decide +kernel
theorem dJx4a65c_grow_92f84_26 : decode cJx4a65c_grow_92f84 26 = .ok (.ishr, 1) := by decide +kernel
theorem dJx4a65c_grow_92f84_27 : decode cJx4a65c_grow_92f84 27 = .ok (.invokestatic 73, 3) := by decide +kernel
theorem dJx4a65c_grow_92f84_30 : decode cJx4a65c_grow_92f84 30 = .ok (.istore_n 3, 1) := by decide +kernel
theorem dJx4a65c_grow_92f84_31 : decode cJx4a65c_grow_92f84 31 = .ok (.aload_n 0, 1) := by decide +kernel
theorem dJx4a65c_grow_92f84_32 : decode cJx4a65c_grow_92f84 32 = .ok (.aload_n 0, 1) := by decide +kernel
theorem dJx4a65c_grow_92f84_33 : decode cJx4a65c_grow_92f84 33 = .ok (.getfield 9, 3) := by decide +kernel
theorem dJx4a65c_grow_92f84_36 : decode cJx4a65c_grow_92f84 36 = .ok (.iload_n 3, 1) := by decide +kernel
theorem dJx4a65c_grow_92f84_37 : decode cJx4a65c_grow_92f84 37 = .ok (.invokestatic 66, 3) := by decide +kernel
theorem dJx4a65c_grow_92f84_40 : decode cJx4a65c_grow_92f84 40 = .ok (.dup_x1, 1) := by decide +kernel
theorem dJx4a65c_grow_92f84_41 : decode cJx4a65c_grow_92f84 41 = .ok (.putfield 9, 3) := by decide +kernel
theorem dJx4a65c_grow_92f84_44 : decode cJx4a65c_grow_92f84 44 = .ok (.areturn, 1) := by decide +kernel
theorem dJx4a65c_grow_92f84_45 : decode cJx4a65c_grow_92f84 45 = .ok (.aload_n 0, 1) := by decide +kernel
theorem dJx4a65c_grow_92f84_46 : decode cJx4a65c_grow_92f84 46 = .ok (.bipush 10, 2) := by decide +kernel
theorem dJx4a65c_grow_92f84_48 : decode cJx4a65c_grow_92f84 48 = .ok (.iload_n 1, 1) := by decide +kernel
theorem dJx4a65c_grow_92f84_49 : decode cJx4a65c_grow_92f84 49 = .ok (.invokestatic 79, 3) := by decide +kernel
theorem dJx4a65c_grow_92f84_52 : decode cJx4a65c_grow_92f84 52 = .ok (.anewarray 7, 3) := by decide +kernel
theorem dJx4a65c_grow_92f84_55 : decode cJx4a65c_grow_92f84 55 = .ok (.dup_x1, 1) := by decide +kernel
theorem dJx4a65c_grow_92f84_56 : decode cJx4a65c_grow_92f84 56 = .ok (.putfield 9, 3) := by decide +kernel
theorem dJx4a65c_grow_92f84_59 : decode cJx4a65c_grow_92f84 59 = .ok (.areturn, 1) := by decide +kernel
theorem dJx4a65c_grow_d5877_0 : decode cJx4a65c_grow_d5877 0 = .ok (.aload_n 0, 1) := by decide +kernel
theorem dJx4a65c_grow_d5877_1 : decode cJx4a65c_grow_d5877 1 = .ok (.aload_n 0, 1) := by decide +kernel
theorem dJx4a65c_grow_d5877_2 : decode cJx4a65c_grow_d5877 2 = .ok (.getfield 48, 3) := by decide +kernel
theorem dJx4a65c_grow_d5877_5 : decode cJx4a65c_grow_d5877 5 = .ok (.iconst 1, 1) := by decide +kernel
theorem dJx4a65c_grow_d5877_6 : decode cJx4a65c_grow_d5877 6 = .ok (.iadd, 1) := by decide +kernel
theorem dJx4a65c_grow_d5877_7 : decode cJx4a65c_grow_d5877 7 = .ok (.invokevirtual 69, 3) := by decide +kernel
theorem dJx4a65c_grow_d5877_10 : decode cJx4a65c_grow_d5877 10 = .ok (.areturn, 1) := by decide +kernel
theorem dJx4a65c_elementData_915e3_0 : decode cJx4a65c_elementData_915e3 0 = .ok (.aload_n 0, 1) := by decide +kernel
theorem dJx4a65c_elementData_915e3_1 : decode cJx4a65c_elementData_915e3 1 = .ok (.getfield 9, 3) := by decide +kernel
theorem dJx4a65c_elementData_915e3_4 : decode cJx4a65c_elementData_915e3 4 = .ok (.iload_n 1, 1) := by decide +kernel
theorem dJx4a65c_elementData_915e3_5 : decode cJx4a65c_elementData_915e3 5 = .ok (.aaload, 1) := by decide +kernel
theorem dJx4a65c_elementData_915e3_6 : decode cJx4a65c_elementData_915e3 6 = .ok (.areturn, 1) := by decide +kernel
theorem dJx4a65c_get_915e3_0 : decode cJx4a65c_get_915e3 0 = .ok (.iload_n 1, 1) := by decide +kernel
theorem dJx4a65c_get_915e3_1 : decode cJx4a65c_get_915e3 1 = .ok (.aload_n 0, 1) := by decide +kernel
theorem dJx4a65c_get_915e3_2 : decode cJx4a65c_get_915e3 2 = .ok (.getfield 48, 3) := by decide +kernel
theorem dJx4a65c_get_915e3_5 : decode cJx4a65c_get_915e3 5 = .ok (.invokestatic 118, 3) := by decide +kernel
theorem dJx4a65c_get_915e3_8 : decode cJx4a65c_get_915e3 8 = .ok (.pop, 1) := by decide +kernel
theorem dJx4a65c_get_915e3_9 : decode cJx4a65c_get_915e3 9 = .ok (.aload_n 0, 1) := by decide +kernel
theorem dJx4a65c_get_915e3_10 : decode cJx4a65c_get_915e3 10 = .ok (.iload_n 1, 1) := by decide +kernel
theorem dJx4a65c_get_915e3_11 : decode cJx4a65c_get_915e3 11 = .ok (.invokevirtual 123, 3) := by decide +kernel
theorem dJx4a65c_get_915e3_14 : decode cJx4a65c_get_915e3 14 = .ok (.areturn, 1) := by decide +kernel
theorem dJx4a65c_add_72be8_0 : decode cJx4a65c_add_72be8 0 = .ok (.iload_n 3, 1) := by decide +kernel
theorem dJx4a65c_add_72be8_1 : decode cJx4a65c_add_72be8 1 = .ok (.aload_n 2, 1) := by decide +kernel
theorem dJx4a65c_add_72be8_2 : decode cJx4a65c_add_72be8 2 = .ok (.arraylength, 1) := by decide +kernel
theorem dJx4a65c_add_72be8_3 : decode cJx4a65c_add_72be8 3 = .ok (.if_icmp .ne 8, 3) := by decide +kernel
theorem dJx4a65c_add_72be8_6 : decode cJx4a65c_add_72be8 6 = .ok (.aload_n 0, 1) := by decide +kernel
theorem dJx4a65c_add_72be8_7 : decode cJx4a65c_add_72be8 7 = .ok (.invokevirtual 129, 3) := by decide +kernel
theorem dJx4a65c_add_72be8_10 : decode cJx4a65c_add_72be8 10 = .ok (.astore_n 2, 1) := by decide +kernel
theorem dJx4a65c_add_72be8_11 : decode cJx4a65c_add_72be8 11 = .ok (.aload_n 2, 1) := by decide +kernel
theorem dJx4a65c_add_72be8_12 : decode cJx4a65c_add_72be8 12 = .ok (.iload_n 3, 1) := by decide +kernel
theorem dJx4a65c_add_72be8_13 : decode cJx4a65c_add_72be8 13 = .ok (.aload_n 1, 1) := by decide +kernel
theorem dJx4a65c_add_72be8_14 : decode cJx4a65c_add_72be8 14 = .ok (.aastore, 1) := by decide +kernel
theorem dJx4a65c_add_72be8_15 : decode cJx4a65c_add_72be8 15 = .ok (.aload_n 0, 1) := by decide +kernel
theorem dJx4a65c_add_72be8_16 : decode cJx4a65c_add_72be8 16 = .ok (.iload_n 3, 1) := by decide +kernel
theorem dJx4a65c_add_72be8_17 : decode cJx4a65c_add_72be8 17 = .ok (.iconst 1, 1) := by decide +kernel
theorem dJx4a65c_add_72be8_18 : decode cJx4a65c_add_72be8 18 = .ok (.iadd, 1) := by decide +kernel
theorem dJx4a65c_add_72be8_19 : decode cJx4a65c_add_72be8 19 = .ok (.putfield 48, 3) := by decide +kernel
theorem dJx4a65c_add_72be8_22 : decode cJx4a65c_add_72be8 22 = .ok (.return_, 1) := by decide +kernel
theorem dJx4a65c_add_9ea2d_0 : decode cJx4a65c_add_9ea2d 0 = .ok (.aload_n 0, 1) := by decide +kernel
theorem dJx4a65c_add_9ea2d_1 : decode cJx4a65c_add_9ea2d 1 = .ok (.dup, 1) := by decide +kernel
theorem dJx4a65c_add_9ea2d_2 : decode cJx4a65c_add_9ea2d 2 = .ok (.getfield 63, 3) := by decide +kernel
theorem dJx4a65c_add_9ea2d_5 : decode cJx4a65c_add_9ea2d 5 = .ok (.iconst 1, 1) := by decide +kernel
theorem dJx4a65c_add_9ea2d_6 : decode cJx4a65c_add_9ea2d 6 = .ok (.iadd, 1) := by decide +kernel
theorem dJx4a65c_add_9ea2d_7 : decode cJx4a65c_add_9ea2d 7 = .ok (.putfield 63, 3) := by decide +kernel
theorem dJx4a65c_add_9ea2d_10 : decode cJx4a65c_add_9ea2d 10 = .ok (.aload_n 0, 1) := by decide +kernel
theorem dJx4a65c_add_9ea2d_11 : decode cJx4a65c_add_9ea2d 11 = .ok (.aload_n 1, 1) := by decide +kernel
theorem dJx4a65c_add_9ea2d_12 : decode cJx4a65c_add_9ea2d 12 = .ok (.aload_n 0, 1) := by decide +kernel
theorem dJx4a65c_add_9ea2d_13 : decode cJx4a65c_add_9ea2d 13 = .ok (.getfield 9, 3) := by decide +kernel
theorem dJx4a65c_add_9ea2d_16 : decode cJx4a65c_add_9ea2d 16 = .ok (.aload_n 0, 1) := by decide +kernel
theorem dJx4a65c_add_9ea2d_17 : decode cJx4a65c_add_9ea2d 17 = .ok (.getfield 48, 3) := by decide +kernel
theorem dJx4a65c_add_9ea2d_20 : decode cJx4a65c_add_9ea2d 20 = .ok (.invokevirtual 131, 3) := by decide +kernel
theorem dJx4a65c_add_9ea2d_23 : decode cJx4a65c_add_9ea2d 23 = .ok (.iconst 1, 1) := by decide +kernel
theorem dJx4a65c_add_9ea2d_24 : decode cJx4a65c_add_9ea2d 24 = .ok (.ireturn, 1) := by decide +kernel
theorem dJ7_copyOf_1904c_0 : decode cJ7_copyOf_1904c 0 = .ok (.aload_n 0, 1) := by decide +kernel
theorem dJ7_copyOf_1904c_1 : decode cJ7_copyOf_1904c 1 = .ok (.iload_n 1, 1) := by decide +kernel
theorem dJ7_copyOf_1904c_2 : decode cJ7_copyOf_1904c 2 = .ok (.aload_n 0, 1) := by decide +kernel
theorem dJ7_copyOf_1904c_3 : decode cJ7_copyOf_1904c 3 = .ok (.invokevirtual 86, 3) := by decide +kernel
theorem dJ7_copyOf_1904c_6 : decode cJ7_copyOf_1904c 6 = .ok (.invokestatic 300, 3) := by decide +kernel
theorem dJ7_copyOf_1904c_9 : decode cJ7_copyOf_1904c 9 = .ok (.areturn, 1) := by decide +kernel
theorem dJ7_copyOf_6403c_0 : decode cJ7_copyOf_6403c 0 = .ok (.aload_n 2, 1) := by decide +kernel
theorem dJ7_copyOf_6403c_1 : decode cJ7_copyOf_6403c 1 = .ok (.ldc 110, 2) := by decide +kernel
theorem dJ7_copyOf_6403c_3 : decode cJ7_copyOf_6403c 3 = .ok (.if_acmp .ne 10, 3) := by decide +kernel
theorem dJ7_copyOf_6403c_6 : decode cJ7_copyOf_6403c 6 = .ok (.iload_n 1, 1) := by decide +kernel
theorem dJ7_copyOf_6403c_7 : decode cJ7_copyOf_6403c 7 = .ok (.anewarray 2, 3) := by decide +kernel
theorem dJ7_copyOf_6403c_10 : decode cJ7_copyOf_6403c 10 = .ok (.goto 14, 3) := by decide +kernel
theorem dJ7_copyOf_6403c_13 : decode cJ7_copyOf_6403c 13 = .ok (.aload_n 2, 1) := by decide +kernel
theorem dJ7_copyOf_6403c_14 : decode cJ7_copyOf_6403c 14 = .ok (.invokevirtual 90, 3) := by decide +kernel
theorem dJ7_copyOf_6403c_17 : decode cJ7_copyOf_6403c 17 = .ok (.iload_n 1, 1) := by decide +kernel
theorem dJ7_copyOf_6403c_18 : decode cJ7_copyOf_6403c 18 = .ok (.invokestatic 95, 3) := by decide +kernel
theorem dJ7_copyOf_6403c_21 : decode cJ7_copyOf_6403c 21 = .ok (.checkcast 110, 3) := by decide +kernel
theorem dJ7_copyOf_6403c_24 : decode cJ7_copyOf_6403c 24 = .ok (.astore_n 3, 1) := by decide +kernel
theorem dJ7_copyOf_6403c_25 : decode cJ7_copyOf_6403c 25 = .ok (.aload_n 0, 1) := by decide +kernel
theorem dJ7_copyOf_6403c_26 : decode cJ7_copyOf_6403c 26 = .ok (.iconst 0, 1) := by decide +kernel
theorem dJ7_copyOf_6403c_27 : decode cJ7_copyOf_6403c 27 = .ok (.aload_n 3, 1) := by decide +kernel
theorem dJ7_copyOf_6403c_28 : decode cJ7_copyOf_6403c 28 = .ok (.iconst 0, 1) := by decide +kernel
theorem dJ7_copyOf_6403c_29 : decode cJ7_copyOf_6403c 29 = .ok (.aload_n 0, 1) := by decide +kernel
theorem dJ7_copyOf_6403c_30 : decode cJ7_copyOf_6403c 30 = .ok (.arraylength, 1) := by decide +kernel
theorem dJ7_copyOf_6403c_31 : decode cJ7_copyOf_6403c 31 = .ok (.iload_n 1, 1) := by decide +kernel
theorem dJ7_copyOf_6403c_32 : decode cJ7_copyOf_6403c 32 = .ok (.invokestatic 304, 3) := by decide +kernel
theorem dJ7_copyOf_6403c_35 : decode cJ7_copyOf_6403c 35 = .ok (.invokestatic 150, 3) := by decide +kernel
theorem dJ7_copyOf_6403c_38 : decode cJ7_copyOf_6403c 38 = .ok (.aload_n 3, 1) := by decide +kernel
theorem dJ7_copyOf_6403c_39 : decode cJ7_copyOf_6403c 39 = .ok (.areturn, 1) := by decide +kernel
theorem dJ7_copyOf_9075b_0 : decode cJ7_copyOf_9075b 0 = .ok (.iload_n 1, 1) := by decide +kernel
theorem dJ7_copyOf_9075b_1 : decode cJ7_copyOf_9075b 1 = .ok (.aload_n 0, 1) := by decide +kernel
theorem dJ7_copyOf_9075b_2 : decode cJ7_copyOf_9075b 2 = .ok (.arraylength, 1) := by decide +kernel
theorem dJ7_copyOf_9075b_3 : decode cJ7_copyOf_9075b 3 = .ok (.if_icmp .ne 11, 3) := by decide +kernel
theorem dJ7_copyOf_9075b_6 : decode cJ7_copyOf_9075b 6 = .ok (.aload_n 0, 1) := by decide +kernel
theorem dJ7_copyOf_9075b_7 : decode cJ7_copyOf_9075b 7 = .ok (.invokevirtual 310, 3) := by decide +kernel
theorem dJ7_copyOf_9075b_10 : decode cJ7_copyOf_9075b 10 = .ok (.checkcast 311, 3) := by decide +kernel
theorem dJ7_copyOf_9075b_13 : decode cJ7_copyOf_9075b 13 = .ok (.areturn, 1) := by decide +kernel
theorem dJ7_copyOf_9075b_14 : decode cJ7_copyOf_9075b 14 = .ok (.iload_n 1, 1) := by decide +kernel
theorem dJ7_copyOf_9075b_15 : decode cJ7_copyOf_9075b 15 = .ok (.newarray .byte, 2) := by decide +kernel
theorem dJ7_copyOf_9075b_17 : decode cJ7_copyOf_9075b 17 = .ok (.astore_n 2, 1) := by decide +kernel
theorem dJ7_copyOf_9075b_18 : decode cJ7_copyOf_9075b 18 = .ok (.aload_n 0, 1) := by decide +kernel
theorem dJ7_copyOf_9075b_19 : decode cJ7_copyOf_9075b 19 = .ok (.iconst 0, 1) := by decide +kernel
theorem dJ7_copyOf_9075b_20 : decode cJ7_copyOf_9075b 20 = .ok (.aload_n 2, 1) := by decide +kernel
theorem dJ7_copyOf_9075b_21 : decode cJ7_copyOf_9075b 21 = .ok (.iconst 0, 1) := by decide +kernel
theorem dJ7_copyOf_9075b_22 : decode cJ7_copyOf_9075b 22 = .ok (.aload_n 0, 1) := by decide +kernel
theorem dJ7_copyOf_9075b_23 : decode cJ7_copyOf_9075b 23 = .ok (.arraylength, 1) := by decide +kernel
theorem dJ7_copyOf_9075b_24 : decode cJ7_copyOf_9075b 24 = .ok (.iload_n 1, 1) := by decide +kernel
theorem dJ7_copyOf_9075b_25 : decode cJ7_copyOf_9075b 25 = .ok (.invokestatic 304, 3) := by decide +kernel
theorem dJ7_copyOf_9075b_28 : decode cJ7_copyOf_9075b 28 = .ok (.invokestatic 150, 3) := by decide +kernel
theorem dJ7_copyOf_9075b_31 : decode cJ7_copyOf_9075b 31 = .ok (.aload_n 2, 1) := by decide +kernel
theorem dJ7_copyOf_9075b_32 : decode cJ7_copyOf_9075b 32 = .ok (.areturn, 1) := by decide +kernel
theorem dJ7_checkLength_df160_0 : decode cJ7_checkLength_df160 0 = .ok (.iload_n 1, 1) := by decide +kernel
theorem dJ7_checkLength_df160_1 : decode cJ7_checkLength_df160 1 = .ok (.iload_n 0, 1) := by decide +kernel
theorem dJ7_checkLength_df160_2 : decode cJ7_checkLength_df160 2 = .ok (.if_icmp .ge 35, 3) := by decide +kernel
theorem dJ7_checkLength_df160_5 : decode cJ7_checkLength_df160 5 = .ok (.new 43, 3) := by decide +kernel
theorem dJ7_checkLength_df160_8 : decode cJ7_checkLength_df160 8 = .ok (.dup, 1) := by decide +kernel
theorem dJ7_checkLength_df160_9 : decode cJ7_checkLength_df160 9 = .ok (.new 45, 3) := by decide +kernel
theorem dJ7_checkLength_df160_12 : decode cJ7_checkLength_df160 12 = .ok (.dup, 1) := by decide +kernel
theorem dJ7_checkLength_df160_13 : decode cJ7_checkLength_df160 13 = .ok (.invokespecial 47, 3) := by decide +kernel
theorem dJ7_checkLength_df160_16 : decode cJ7_checkLength_df160 16 = .ok (.iload_n 0, 1) := by decide +kernel
theorem dJ7_checkLength_df160_17 : decode cJ7_checkLength_df160 17 = .ok (.invokevirtual 54, 3) := by decide +kernel
theorem dJ7_checkLength_df160_20 : decode cJ7_checkLength_df160 20 = .ok (.ldc_w 337, 3) := by decide +kernel
theorem dJ7_checkLength_df160_23 : decode cJ7_checkLength_df160 23 = .ok (.invokevirtual 50, 3) := by decide +kernel
theorem dJ7_checkLength_df160_26 : decode cJ7_checkLength_df160 26 = .ok (.iload_n 1, 1) := by decide +kernel
theorem dJ7_checkLength_df160_27 : decode cJ7_checkLength_df160 27 = .ok (.invokevirtual 54, 3) := by decide +kernel
theorem dJ7_checkLength_df160_30 : decode cJ7_checkLength_df160 30 = .ok (.invokevirtual 61, 3) := by decide +kernel
theorem dJ7_checkLength_df160_33 : decode cJ7_checkLength_df160 33 = .ok (.invokespecial 65, 3) := by decide +kernel
theorem dJ7_checkLength_df160_36 : decode cJ7_checkLength_df160 36 = .ok (.athrow, 1) := by decide +kernel
theorem dJ7_checkLength_df160_37 : decode cJ7_checkLength_df160 37 = .ok (.return_, 1) := by decide +kernel
theorem dJ7_copyOfRange_39247_0 : decode cJ7_copyOfRange_39247 0 = .ok (.iload_n 1, 1) := by decide +kernel
theorem dJ7_copyOfRange_39247_1 : decode cJ7_copyOfRange_39247 1 = .ok (.ifCond .ne 9, 3) := by decide +kernel
theorem dJ7_copyOfRange_39247_4 : decode cJ7_copyOfRange_39247 4 = .ok (.iload_n 2, 1) := by decide +kernel
theorem dJ7_copyOfRange_39247_5 : decode cJ7_copyOfRange_39247 5 = .ok (.aload_n 0, 1) := by decide +kernel
theorem dJ7_copyOfRange_39247_6 : decode cJ7_copyOfRange_39247 6 = .ok (.arraylength, 1) := by decide +kernel
theorem dJ7_copyOfRange_39247_7 : decode cJ7_copyOfRange_39247 7 = .ok (.if_icmp .eq 10, 3) := by decide +kernel
theorem dJ7_copyOfRange_39247_10 : decode cJ7_copyOfRange_39247 10 = .ok (.aload_n 0, 1) := by decide +kernel
theorem dJ7_copyOfRange_39247_11 : decode cJ7_copyOfRange_39247 11 = .ok (.iload_n 1, 1) := by decide +kernel
theorem dJ7_copyOfRange_39247_12 : decode cJ7_copyOfRange_39247 12 = .ok (.iload_n 2, 1) := by decide +kernel
theorem dJ7_copyOfRange_39247_13 : decode cJ7_copyOfRange_39247 13 = .ok (.invokestatic 339, 3) := by decide +kernel
theorem dJ7_copyOfRange_39247_16 : decode cJ7_copyOfRange_39247 16 = .ok (.areturn, 1) := by decide +kernel
theorem dJ7_copyOfRange_39247_17 : decode cJ7_copyOfRange_39247 17 = .ok (.aload_n 0, 1) := by decide +kernel
theorem dJ7_copyOfRange_39247_18 : decode cJ7_copyOfRange_39247 18 = .ok (.invokevirtual 310, 3) := by decide +kernel
theorem dJ7_copyOfRange_39247_21 : decode cJ7_copyOfRange_39247 21 = .ok (.checkcast 311, 3) := by decide +kernel
theorem dJ7_copyOfRange_39247_24 : decode cJ7_copyOfRange_39247 24 = .ok (.areturn, 1) := by decide +kernel
theorem dJ7_copyOfRangeByte_39247_0 : decode cJ7_copyOfRangeByte_39247 0 = .ok (.iload_n 1, 1) := by decide +kernel
theorem dJ7_copyOfRangeByte_39247_1 : decode cJ7_copyOfRangeByte_39247 1 = .ok (.iload_n 2, 1) := by decide +kernel
theorem dJ7_copyOfRangeByte_39247_2 : decode cJ7_copyOfRangeByte_39247 2 = .ok (.invokestatic 343, 3) := by decide +kernel
theorem dJ7_copyOfRangeByte_39247_5 : decode cJ7_copyOfRangeByte_39247 5 = .ok (.iload_n 2, 1) := by decide +kernel
theorem dJ7_copyOfRangeByte_39247_6 : decode cJ7_copyOfRangeByte_39247 6 = .ok (.iload_n 1, 1) := by decide +kernel
theorem dJ7_copyOfRangeByte_39247_7 : decode cJ7_copyOfRangeByte_39247 7 = .ok (.isub, 1) := by decide +kernel
theorem dJ7_copyOfRangeByte_39247_8 : decode cJ7_copyOfRangeByte_39247 8 = .ok (.istore_n 3, 1) := by decide +kernel
theorem dJ7_copyOfRangeByte_39247_9 : decode cJ7_copyOfRangeByte_39247 9 = .ok (.iload_n 3, 1) := by decide +kernel
theorem dJ7_copyOfRangeByte_39247_10 : decode cJ7_copyOfRangeByte_39247 10 = .ok (.newarray .byte, 2) := by decide +kernel
theorem dJ7_copyOfRangeByte_39247_12 : decode cJ7_copyOfRangeByte_39247 12 = .ok (.astore 4, 2) := by decide +kernel
theorem dJ7_copyOfRangeByte_39247_14 : decode cJ7_copyOfRangeByte_39247 14 = .ok (.aload_n 0, 1) := by decide +kernel
theorem dJ7_copyOfRangeByte_39247_15 : decode cJ7_copyOfRangeByte_39247 15 = .ok (.iload_n 1, 1) := by decide +kernel
theorem dJ7_copyOfRangeByte_39247_16 : decode cJ7_copyOfRangeByte_39247 16 = .ok (.aload 4, 2) := by decide +kernel
theorem dJ7_copyOfRangeByte_39247_18 : decode cJ7_copyOfRangeByte_39247 18 = .ok (.iconst 0, 1) := by decide +kernel
theorem dJ7_copyOfRangeByte_39247_19 : decode cJ7_copyOfRangeByte_39247 19 = .ok (.aload_n 0, 1) := by decide +kernel
theorem dJ7_copyOfRangeByte_39247_20 : decode cJ7_copyOfRangeByte_39247 20 = .ok (.arraylength, 1) := by decide +kernel
theorem dJ7_copyOfRangeByte_39247_21 : decode cJ7_copyOfRangeByte_39247 21 = .ok (.iload_n 1, 1) := by decide +kernel
theorem dJ7_copyOfRangeByte_39247_22 : decode cJ7_copyOfRangeByte_39247 22 = .ok (.isub, 1) := by decide +kernel
theorem dJ7_copyOfRangeByte_39247_23 : decode cJ7_copyOfRangeByte_39247 23 = .ok (.iload_n 3, 1) := by decide +kernel
theorem dJ7_copyOfRangeByte_39247_24 : decode cJ7_copyOfRangeByte_39247 24 = .ok (.invokestatic 304, 3) := by decide +kernel
theorem dJ7_copyOfRangeByte_39247_27 : decode cJ7_copyOfRangeByte_39247 27 = .ok (.invokestatic 150, 3) := by decide +kernel
theorem dJ7_copyOfRangeByte_39247_30 : decode cJ7_copyOfRangeByte_39247 30 = .ok (.aload 4, 2) := by decide +kernel
theorem dJ7_copyOfRangeByte_39247_32 : decode cJ7_copyOfRangeByte_39247 32 = .ok (.areturn, 1) := by decide +kernel
theorem dJ15_checkIndex_7cf53_0 : decode cJ15_checkIndex_7cf53 0 = .ok (.iload_n 0, 1) := by decide +kernel
theorem dJ15_checkIndex_7cf53_1 : decode cJ15_checkIndex_7cf53 1 = .ok (.iload_n 1, 1) := by decide +kernel
theorem dJ15_checkIndex_7cf53_2 : decode cJ15_checkIndex_7cf53 2 = .ok (.aconst_null, 1) := by decide +kernel
theorem dJ15_checkIndex_7cf53_3 : decode cJ15_checkIndex_7cf53 3 = .ok (.invokestatic 105, 3) := by decide +kernel
theorem dJ15_checkIndex_7cf53_6 : decode cJ15_checkIndex_7cf53 6 = .ok (.ireturn, 1) := by decide +kernel
theorem dJ8_newLength_cabcc_0 : decode cJ8_newLength_cabcc 0 = .ok (.iload_n 0, 1) := by decide +kernel
theorem dJ8_newLength_cabcc_1 : decode cJ8_newLength_cabcc 1 = .ok (.iload_n 1, 1) := by decide +kernel
theorem dJ8_newLength_cabcc_2 : decode cJ8_newLength_cabcc 2 = .ok (.iload_n 2, 1) := by decide +kernel
theorem dJ8_newLength_cabcc_3 : decode cJ8_newLength_cabcc 3 = .ok (.invokestatic 194, 3) := by decide +kernel
theorem dJ8_newLength_cabcc_6 : decode cJ8_newLength_cabcc 6 = .ok (.iadd, 1) := by decide +kernel
theorem dJ8_newLength_cabcc_7 : decode cJ8_newLength_cabcc 7 = .ok (.istore_n 3, 1) := by decide +kernel
theorem dJ8_newLength_cabcc_8 : decode cJ8_newLength_cabcc 8 = .ok (.iconst 0, 1) := by decide +kernel
theorem dJ8_newLength_cabcc_9 : decode cJ8_newLength_cabcc 9 = .ok (.iload_n 3, 1) := by decide +kernel
theorem dJ8_newLength_cabcc_10 : decode cJ8_newLength_cabcc 10 = .ok (.if_icmp .ge 11, 3) := by decide +kernel
theorem dJ8_newLength_cabcc_13 : decode cJ8_newLength_cabcc 13 = .ok (.iload_n 3, 1) := by decide +kernel
theorem dJ8_newLength_cabcc_14 : decode cJ8_newLength_cabcc 14 = .ok (.ldc 200, 2) := by decide +kernel
theorem dJ8_newLength_cabcc_16 : decode cJ8_newLength_cabcc 16 = .ok (.if_icmp .gt 5, 3) := by decide +kernel
theorem dJ8_newLength_cabcc_19 : decode cJ8_newLength_cabcc 19 = .ok (.iload_n 3, 1) := by decide +kernel
theorem dJ8_newLength_cabcc_20 : decode cJ8_newLength_cabcc 20 = .ok (.ireturn, 1) := by decide +kernel
theorem dJ8_newLength_cabcc_21 : decode cJ8_newLength_cabcc 21 = .ok (.iload_n 0, 1) := by decide +kernel
theorem dJ8_newLength_cabcc_22 : decode cJ8_newLength_cabcc 22 = .ok (.iload_n 1, 1) := by decide +kernel
theorem dJ8_newLength_cabcc_23 : decode cJ8_newLength_cabcc 23 = .ok (.invokestatic 201, 3) := by decide +kernel
theorem dJ8_newLength_cabcc_26 : decode cJ8_newLength_cabcc 26 = .ok (.ireturn, 1) := by decide +kernel
theorem dJ8_hugeLength_7cf53_0 : decode cJ8_hugeLength_7cf53 0 = .ok (.iload_n 0, 1) := by decide +kernel
theorem dJ8_hugeLength_7cf53_1 : decode cJ8_hugeLength_7cf53 1 = .ok (.iload_n 1, 1) := by decide +kernel
theorem dJ8_hugeLength_7cf53_2 : decode cJ8_hugeLength_7cf53 2 = .ok (.iadd, 1) := by decide +kernel
theorem dJ8_hugeLength_7cf53_3 : decode cJ8_hugeLength_7cf53 3 = .ok (.istore_n 2, 1) := by decide +kernel
theorem dJ8_hugeLength_7cf53_4 : decode cJ8_hugeLength_7cf53 4 = .ok (.iload_n 2, 1) := by decide +kernel
theorem dJ8_hugeLength_7cf53_5 : decode cJ8_hugeLength_7cf53 5 = .ok (.ifCond .ge 44, 3) := by decide +kernel
theorem dJ8_hugeLength_7cf53_8 : decode cJ8_hugeLength_7cf53 8 = .ok (.new 204, 3) := by decide +kernel
theorem dJ8_hugeLength_7cf53_11 : decode cJ8_hugeLength_7cf53 11 = .ok (.dup, 1) := by decide +kernel
theorem dJ8_hugeLength_7cf53_12 : decode cJ8_hugeLength_7cf53 12 = .ok (.new 89, 3) := by decide +kernel
theorem dJ8_hugeLength_7cf53_15 : decode cJ8_hugeLength_7cf53 15 = .ok (.dup, 1) := by decide +kernel
theorem dJ8_hugeLength_7cf53_16 : decode cJ8_hugeLength_7cf53 16 = .ok (.invokespecial 91, 3) := by decide +kernel
theorem dJ8_hugeLength_7cf53_19 : decode cJ8_hugeLength_7cf53 19 = .ok (.ldc 206, 2) := by decide +kernel
theorem dJ8_hugeLength_7cf53_21 : decode cJ8_hugeLength_7cf53 21 = .ok (.invokevirtual 94, 3) := by decide +kernel
theorem dJ8_hugeLength_7cf53_24 : decode cJ8_hugeLength_7cf53 24 = .ok (.iload_n 0, 1) := by decide +kernel
theorem dJ8_hugeLength_7cf53_25 : decode cJ8_hugeLength_7cf53 25 = .ok (.invokevirtual 98, 3) := by decide +kernel
theorem dJ8_hugeLength_7cf53_28 : decode cJ8_hugeLength_7cf53 28 = .ok (.ldc 208, 2) := by decide +kernel
theorem dJ8_hugeLength_7cf53_30 : decode cJ8_hugeLength_7cf53 30 = .ok (.invokevirtual 94, 3) := by decide +kernel
theorem dJ8_hugeLength_7cf53_33 : decode cJ8_hugeLength_7cf53 33 = .ok (.iload_n 1, 1) := by decide +kernel
theorem dJ8_hugeLength_7cf53_34 : decode cJ8_hugeLength_7cf53 34 = .ok (.invokevirtual 98, 3) := by decide +kernel
theorem dJ8_hugeLength_7cf53_37 : decode cJ8_hugeLength_7cf53 37 = .ok (.ldc 210, 2) := by decide +kernel
theorem dJ8_hugeLength_7cf53_39 : decode cJ8_hugeLength_7cf53 39 = .ok (.invokevirtual 94, 3) := by decide +kernel
theorem dJ8_hugeLength_7cf53_42 : decode cJ8_hugeLength_7cf53 42 = .ok (.invokevirtual 101, 3) := by decide +kernel
theorem dJ8_hugeLength_7cf53_45 : decode cJ8_hugeLength_7cf53 45 = .ok (.invokespecial 212, 3) := by decide +kernel
theorem dJ8_hugeLength_7cf53_48 : decode cJ8_hugeLength_7cf53 48 = .ok (.athrow, 1) := by decide +kernel
theorem dJ8_hugeLength_7cf53_49 : decode cJ8_hugeLength_7cf53 49 = .ok (.iload_n 2, 1) := by decide +kernel
theorem dJ8_hugeLength_7cf53_50 : decode cJ8_hugeLength_7cf53 50 = .ok (.ldc 200, 2) := by decide +kernel
theorem dJ8_hugeLength_7cf53_52 : decode cJ8_hugeLength_7cf53 52 = .ok (.if_icmp .gt 6, 3) := by decide +kernel
theorem dJ8_hugeLength_7cf53_55 : decode cJ8_hugeLength_7cf53 55 = .ok (.ldc 200, 2) := by decide +kernel
theorem dJ8_hugeLength_7cf53_57 : decode cJ8_hugeLength_7cf53 57 = .ok (.ireturn, 1) := by decide +kernel
theorem dJ8_hugeLength_7cf53_58 : decode cJ8_hugeLength_7cf53 58 = .ok (.iload_n 2, 1) := by decide +kernel
theorem dJ8_hugeLength_7cf53_59 : decode cJ8_hugeLength_7cf53 59 = .ok (.ireturn, 1) := by decide +kernel
theorem dJ3_checkIndex_8e157_0 : decode cJ3_checkIndex_8e157 0 = .ok (.iload_n 0, 1) := by decide +kernel
theorem dJ3_checkIndex_8e157_1 : decode cJ3_checkIndex_8e157 1 = .ok (.ifCond .lt 8, 3) := by decide +kernel
theorem dJ3_checkIndex_8e157_4 : decode cJ3_checkIndex_8e157 4 = .ok (.iload_n 0, 1) := by decide +kernel
theorem dJ3_checkIndex_8e157_5 : decode cJ3_checkIndex_8e157 5 = .ok (.iload_n 1, 1) := by decide +kernel
theorem dJ3_checkIndex_8e157_6 : decode cJ3_checkIndex_8e157 6 = .ok (.if_icmp .lt 10, 3) := by decide +kernel
theorem dJ3_checkIndex_8e157_9 : decode cJ3_checkIndex_8e157 9 = .ok (.aload_n 2, 1) := by decide +kernel
theorem dJ3_checkIndex_8e157_10 : decode cJ3_checkIndex_8e157 10 = .ok (.iload_n 0, 1) := by decide +kernel
theorem dJ3_checkIndex_8e157_11 : decode cJ3_checkIndex_8e157 11 = .ok (.iload_n 1, 1) := by decide +kernel
theorem dJ3_checkIndex_8e157_12 : decode cJ3_checkIndex_8e157 12 = .ok (.invokestatic 95, 3) := by decide +kernel
theorem dJ3_checkIndex_8e157_15 : decode cJ3_checkIndex_8e157 15 = .ok (.athrow, 1) := by decide +kernel
theorem dJ3_checkIndex_8e157_16 : decode cJ3_checkIndex_8e157 16 = .ok (.iload_n 0, 1) := by decide +kernel
theorem dJ3_checkIndex_8e157_17 : decode cJ3_checkIndex_8e157 17 = .ok (.ireturn, 1) := by decide +kernel
theorem dJ3_checkFromToIndex_8c36e_0 : decode cJ3_checkFromToIndex_8c36e 0 = .ok (.iload_n 0, 1) := by decide +kernel
theorem dJ3_checkFromToIndex_8c36e_1 : decode cJ3_checkFromToIndex_8c36e 1 = .ok (.ifCond .lt 13, 3) := by decide +kernel
theorem dJ3_checkFromToIndex_8c36e_4 : decode cJ3_checkFromToIndex_8c36e 4 = .ok (.iload_n 0, 1) := by decide +kernel
theorem dJ3_checkFromToIndex_8c36e_5 : decode cJ3_checkFromToIndex_8c36e 5 = .ok (.iload_n 1, 1) := by decide +kernel
theorem dJ3_checkFromToIndex_8c36e_6 : decode cJ3_checkFromToIndex_8c36e 6 = .ok (.if_icmp .gt 8, 3) := by decide +kernel
theorem dJ3_checkFromToIndex_8c36e_9 : decode cJ3_checkFromToIndex_8c36e 9 = .ok (.iload_n 1, 1) := by decide +kernel
theorem dJ3_checkFromToIndex_8c36e_10 : decode cJ3_checkFromToIndex_8c36e 10 = .ok (.iload_n 2, 1) := by decide +kernel
theorem dJ3_checkFromToIndex_8c36e_11 : decode cJ3_checkFromToIndex_8c36e 11 = .ok (.if_icmp .le 11, 3) := by decide +kernel
theorem dJ3_checkFromToIndex_8c36e_14 : decode cJ3_checkFromToIndex_8c36e 14 = .ok (.aload_n 3, 1) := by decide +kernel
theorem dJ3_checkFromToIndex_8c36e_15 : decode cJ3_checkFromToIndex_8c36e 15 = .ok (.iload_n 0, 1) := by decide +kernel
theorem dJ3_checkFromToIndex_8c36e_16 : decode cJ3_checkFromToIndex_8c36e 16 = .ok (.iload_n 1, 1) := by decide +kernel
theorem dJ3_checkFromToIndex_8c36e_17 : decode cJ3_checkFromToIndex_8c36e 17 = .ok (.iload_n 2, 1) := by decide +kernel
theorem dJ3_checkFromToIndex_8c36e_18 : decode cJ3_checkFromToIndex_8c36e 18 = .ok (.invokestatic 99, 3) := by decide +kernel
theorem dJ3_checkFromToIndex_8c36e_21 : decode cJ3_checkFromToIndex_8c36e 21 = .ok (.athrow, 1) := by decide +kernel
theorem dJ3_checkFromToIndex_8c36e_22 : decode cJ3_checkFromToIndex_8c36e 22 = .ok (.iload_n 0, 1) := by decide +kernel
theorem dJ3_checkFromToIndex_8c36e_23 : decode cJ3_checkFromToIndex_8c36e 23 = .ok (.ireturn, 1) := by decide +kernel
theorem dJ3_checkFromIndexSize_8c36e_0 : decode cJ3_checkFromIndexSize_8c36e 0 = .ok (.iload_n 2, 1) := by decide +kernel
theorem dJ3_checkFromIndexSize_8c36e_1 : decode cJ3_checkFromIndexSize_8c36e 1 = .ok (.iload_n 0, 1) := by decide +kernel
theorem dJ3_checkFromIndexSize_8c36e_2 : decode cJ3_checkFromIndexSize_8c36e 2 = .ok (.ior, 1) := by decide +kernel
theorem dJ3_checkFromIndexSize_8c36e_3 : decode cJ3_checkFromIndexSize_8c36e 3 = .ok (.iload_n 1, 1) := by decide +kernel
theorem dJ3_checkFromIndexSize_8c36e_4 : decode cJ3_checkFromIndexSize_8c36e 4 = .ok (.ior, 1) := by decide +kernel
theorem dJ3_checkFromIndexSize_8c36e_5 : decode cJ3_checkFromIndexSize_8c36e 5 = .ok (.ifCond .lt 10, 3) := by decide +kernel
theorem dJ3_checkFromIndexSize_8c36e_8 : decode cJ3_checkFromIndexSize_8c36e 8 = .ok (.iload_n 1, 1) := by decide +kernel
theorem dJ3_checkFromIndexSize_8c36e_9 : decode cJ3_checkFromIndexSize_8c36e 9 = .ok (.iload_n 2, 1) := by decide +kernel
theorem dJ3_checkFromIndexSize_8c36e_10 : decode cJ3_checkFromIndexSize_8c36e 10 = .ok (.iload_n 0, 1) := by decide +kernel
theorem dJ3_checkFromIndexSize_8c36e_11 : decode cJ3_checkFromIndexSize_8c36e 11 = .ok (.isub, 1) := by decide +kernel
theorem dJ3_checkFromIndexSize_8c36e_12 : decode cJ3_checkFromIndexSize_8c36e 12 = .ok (.if_icmp .le 11, 3) := by decide +kernel
theorem dJ3_checkFromIndexSize_8c36e_15 : decode cJ3_checkFromIndexSize_8c36e 15 = .ok (.aload_n 3, 1) := by decide +kernel
theorem dJ3_checkFromIndexSize_8c36e_16 : decode cJ3_checkFromIndexSize_8c36e 16 = .ok (.iload_n 0, 1) := by decide +kernel
theorem dJ3_checkFromIndexSize_8c36e_17 : decode cJ3_checkFromIndexSize_8c36e 17 = .ok (.iload_n 1, 1) := by decide +kernel
theorem dJ3_checkFromIndexSize_8c36e_18 : decode cJ3_checkFromIndexSize_8c36e 18 = .ok (.iload_n 2, 1) := by decide +kernel
theorem dJ3_checkFromIndexSize_8c36e_19 : decode cJ3_checkFromIndexSize_8c36e 19 = .ok (.invokestatic 103, 3) := by decide +kernel
theorem dJ3_checkFromIndexSize_8c36e_22 : decode cJ3_checkFromIndexSize_8c36e 22 = .ok (.athrow, 1) := by decide +kernel
theorem dJ3_checkFromIndexSize_8c36e_23 : decode cJ3_checkFromIndexSize_8c36e 23 = .ok (.iload_n 0, 1) := by decide +kernel
theorem dJ3_checkFromIndexSize_8c36e_24 : decode cJ3_checkFromIndexSize_8c36e 24 = .ok (.ireturn, 1) := by decide +kernel
theorem dL_write_0 : decode cL_write 0 = .ok (.aload 4, 2) := by decide +kernel
theorem dL_write_2 : decode cL_write 2 = .ok (.aload_n 0, 1) := by decide +kernel
theorem dL_write_3 : decode cL_write 3 = .ok (.iload_n 1, 1) := by decide +kernel
theorem dL_write_4 : decode cL_write 4 = .ok (.lload_n 2, 1) := by decide +kernel
theorem dL_write_5 : decode cL_write 5 = .ok (.invokevirtual 7, 3) := by decide +kernel
theorem dL_write_8 : decode cL_write 8 = .ok (.i2l, 1) := by decide +kernel
theorem dL_write_9 : decode cL_write 9 = .ok (.putfield 13, 3) := by decide +kernel
theorem dL_write_12 : decode cL_write 12 = .ok (.goto 11, 3) := by decide +kernel
theorem dL_write_15 : decode cL_write 15 = .ok (.astore 5, 2) := by decide +kernel
theorem dL_write_17 : decode cL_write 17 = .ok (.iconst 1, 1) := by decide +kernel
theorem dL_write_18 : decode cL_write 18 = .ok (.ireturn, 1) := by decide +kernel
theorem dL_write_19 : decode cL_write 19 = .ok (.astore 5, 2) := by decide +kernel
theorem dL_write_21 : decode cL_write 21 = .ok (.iconst 2, 1) := by decide +kernel
theorem dL_write_22 : decode cL_write 22 = .ok (.ireturn, 1) := by decide +kernel
theorem dL_write_23 : decode cL_write 23 = .ok (.iconst 0, 1) := by decide +kernel
theorem dL_write_24 : decode cL_write 24 = .ok (.ireturn, 1) := by decide +kernel
theorem dL_stick_0 : decode cL_stick 0 = .ok (.aload 5, 2) := by decide +kernel
theorem dL_stick_2 : decode cL_stick 2 = .ok (.aload_n 0, 1) := by decide +kernel
theorem dL_stick_3 : decode cL_stick 3 = .ok (.iload_n 1, 1) := by decide +kernel
theorem dL_stick_4 : decode cL_stick 4 = .ok (.iload_n 2, 1) := by decide +kernel
theorem dL_stick_5 : decode cL_stick 5 = .ok (.iload_n 3, 1) := by decide +kernel
theorem dL_stick_6 : decode cL_stick 6 = .ok (.iload 4, 2) := by decide +kernel
theorem dL_stick_8 : decode cL_stick 8 = .ok (.invokevirtual 23, 3) := by decide +kernel
theorem dL_stick_11 : decode cL_stick 11 = .ok (.i2l, 1) := by decide +kernel
theorem dL_stick_12 : decode cL_stick 12 = .ok (.putfield 13, 3) := by decide +kernel
theorem dL_stick_15 : decode cL_stick 15 = .ok (.goto 11, 3) := by decide +kernel
theorem dL_stick_18 : decode cL_stick 18 = .ok (.astore 6, 2) := by decide +kernel
theorem dL_stick_20 : decode cL_stick 20 = .ok (.iconst 1, 1) := by decide +kernel
theorem dL_stick_21 : decode cL_stick 21 = .ok (.ireturn, 1) := by decide +kernel
theorem dL_stick_22 : decode cL_stick 22 = .ok (.astore 6, 2) := by decide +kernel
theorem dL_stick_24 : decode cL_stick 24 = .ok (.iconst 2, 1) := by decide +kernel
theorem dL_stick_25 : decode cL_stick 25 = .ok (.ireturn, 1) := by decide +kernel
theorem dL_stick_26 : decode cL_stick 26 = .ok (.iconst 0, 1) := by decide +kernel
theorem dL_stick_27 : decode cL_stick 27 = .ok (.ireturn, 1) := by decide +kernel
theorem dL_mad_0 : decode cL_mad 0 = .ok (.aload_n 3, 1) := by decide +kernel
theorem dL_mad_1 : decode cL_mad 1 = .ok (.aload_n 0, 1) := by decide +kernel
theorem dL_mad_2 : decode cL_mad 2 = .ok (.iload_n 1, 1) := by decide +kernel
theorem dL_mad_3 : decode cL_mad 3 = .ok (.iload_n 2, 1) := by decide +kernel
theorem dL_mad_4 : decode cL_mad 4 = .ok (.invokevirtual 27, 3) := by decide +kernel
theorem dL_mad_7 : decode cL_mad 7 = .ok (.i2l, 1) := by decide +kernel
theorem dL_mad_8 : decode cL_mad 8 = .ok (.putfield 13, 3) := by decide +kernel
theorem dL_mad_11 : decode cL_mad 11 = .ok (.goto 11, 3) := by decide +kernel
theorem dL_mad_14 : decode cL_mad 14 = .ok (.astore 4, 2) := by decide +kernel
theorem dL_mad_16 : decode cL_mad 16 = .ok (.iconst 1, 1) := by decide +kernel
theorem dL_mad_17 : decode cL_mad 17 = .ok (.ireturn, 1) := by decide +kernel
theorem dL_mad_18 : decode cL_mad 18 = .ok (.astore 4, 2) := by decide +kernel
theorem dL_mad_20 : decode cL_mad 20 = .ok (.iconst 2, 1) := by decide +kernel
theorem dL_mad_21 : decode cL_mad 21 = .ok (.ireturn, 1) := by decide +kernel
theorem dL_mad_22 : decode cL_mad 22 = .ok (.iconst 0, 1) := by decide +kernel
theorem dL_mad_23 : decode cL_mad 23 = .ok (.ireturn, 1) := by decide +kernel
theorem dL_ray_0 : decode cL_ray 0 = .ok (.aload 4, 2) := by decide +kernel
theorem dL_ray_2 : decode cL_ray 2 = .ok (.aload_n 0, 1) := by decide +kernel
theorem dL_ray_3 : decode cL_ray 3 = .ok (.iload_n 1, 1) := by decide +kernel
theorem dL_ray_4 : decode cL_ray 4 = .ok (.iload_n 2, 1) := by decide +kernel
theorem dL_ray_5 : decode cL_ray 5 = .ok (.iload_n 3, 1) := by decide +kernel
theorem dL_ray_6 : decode cL_ray 6 = .ok (.invokevirtual 31, 3) := by decide +kernel
theorem dL_ray_9 : decode cL_ray 9 = .ok (.i2l, 1) := by decide +kernel
theorem dL_ray_10 : decode cL_ray 10 = .ok (.putfield 13, 3) := by decide +kernel
theorem dL_ray_13 : decode cL_ray 13 = .ok (.goto 11, 3) := by decide +kernel
theorem dL_ray_16 : decode cL_ray 16 = .ok (.astore 5, 2) := by decide +kernel
theorem dL_ray_18 : decode cL_ray 18 = .ok (.iconst 1, 1) := by decide +kernel
theorem dL_ray_19 : decode cL_ray 19 = .ok (.ireturn, 1) := by decide +kernel
theorem dL_ray_20 : decode cL_ray 20 = .ok (.astore 5, 2) := by decide +kernel
theorem dL_ray_22 : decode cL_ray 22 = .ok (.iconst 2, 1) := by decide +kernel
theorem dL_ray_23 : decode cL_ray 23 = .ok (.ireturn, 1) := by decide +kernel
theorem dL_ray_24 : decode cL_ray 24 = .ok (.iconst 0, 1) := by decide +kernel
theorem dL_ray_25 : decode cL_ray 25 = .ok (.ireturn, 1) := by decide +kernel
theorem dL_erase_0 : decode cL_erase 0 = .ok (.aload_n 3, 1) := by decide +kernel
theorem dL_erase_1 : decode cL_erase 1 = .ok (.aload_n 0, 1) := by decide +kernel
theorem dL_erase_2 : decode cL_erase 2 = .ok (.iload_n 1, 1) := by decide +kernel
theorem dL_erase_3 : decode cL_erase 3 = .ok (.iload_n 2, 1) := by decide +kernel
theorem dL_erase_4 : decode cL_erase 4 = .ok (.invokevirtual 35, 3) := by decide +kernel
theorem dL_erase_7 : decode cL_erase 7 = .ok (.i2l, 1) := by decide +kernel
theorem dL_erase_8 : decode cL_erase 8 = .ok (.putfield 13, 3) := by decide +kernel
theorem dL_erase_11 : decode cL_erase 11 = .ok (.goto 11, 3) := by decide +kernel
theorem dL_erase_14 : decode cL_erase 14 = .ok (.astore 4, 2) := by decide +kernel
theorem dL_erase_16 : decode cL_erase 16 = .ok (.iconst 1, 1) := by decide +kernel
theorem dL_erase_17 : decode cL_erase 17 = .ok (.ireturn, 1) := by decide +kernel
theorem dL_erase_18 : decode cL_erase 18 = .ok (.astore 4, 2) := by decide +kernel
theorem dL_erase_20 : decode cL_erase 20 = .ok (.iconst 2, 1) := by decide +kernel
theorem dL_erase_21 : decode cL_erase 21 = .ok (.ireturn, 1) := by decide +kernel
theorem dL_erase_22 : decode cL_erase 22 = .ok (.iconst 0, 1) := by decide +kernel
theorem dL_erase_23 : decode cL_erase 23 = .ok (.ireturn, 1) := by decide +kernel
theorem dL_replace_0 : decode cL_replace 0 = .ok (.aload_n 2, 1) := by decide +kernel
theorem dL_replace_1 : decode cL_replace 1 = .ok (.aload_n 0, 1) := by decide +kernel
theorem dL_replace_2 : decode cL_replace 2 = .ok (.iload_n 1, 1) := by decide +kernel
theorem dL_replace_3 : decode cL_replace 3 = .ok (.invokevirtual 41, 3) := by decide +kernel
theorem dL_replace_6 : decode cL_replace 6 = .ok (.i2l, 1) := by decide +kernel
theorem dL_replace_7 : decode cL_replace 7 = .ok (.putfield 13, 3) := by decide +kernel
theorem dL_replace_10 : decode cL_replace 10 = .ok (.goto 9, 3) := by decide +kernel
theorem dL_replace_13 : decode cL_replace 13 = .ok (.astore_n 3, 1) := by decide +kernel
theorem dL_replace_14 : decode cL_replace 14 = .ok (.iconst 1, 1) := by decide +kernel
theorem dL_replace_15 : decode cL_replace 15 = .ok (.ireturn, 1) := by decide +kernel
theorem dL_replace_16 : decode cL_replace 16 = .ok (.astore_n 3, 1) := by decide +kernel
theorem dL_replace_17 : decode cL_replace 17 = .ok (.iconst 2, 1) := by decide +kernel
theorem dL_replace_18 : decode cL_replace 18 = .ok (.ireturn, 1) := by decide +kernel
theorem dL_replace_19 : decode cL_replace 19 = .ok (.iconst 0, 1) := by decide +kernel
theorem dL_replace_20 : decode cL_replace 20 = .ok (.ireturn, 1) := by decide +kernel
theorem dL_limit_0 : decode cL_limit 0 = .ok (.aload_n 2, 1) := by decide +kernel
theorem dL_limit_1 : decode cL_limit 1 = .ok (.aload_n 0, 1) := by decide +kernel
theorem dL_limit_2 : decode cL_limit 2 = .ok (.iload_n 1, 1) := by decide +kernel
theorem dL_limit_3 : decode cL_limit 3 = .ok (.invokevirtual 45, 3) := by decide +kernel
theorem dL_limit_6 : decode cL_limit 6 = .ok (.i2l, 1) := by decide +kernel
theorem dL_limit_7 : decode cL_limit 7 = .ok (.putfield 13, 3) := by decide +kernel
theorem dL_limit_10 : decode cL_limit 10 = .ok (.goto 6, 3) := by decide +kernel
theorem dL_limit_13 : decode cL_limit 13 = .ok (.astore_n 3, 1) := by decide +kernel
theorem dL_limit_14 : decode cL_limit 14 = .ok (.iconst 1, 1) := by decide +kernel
theorem dL_limit_15 : decode cL_limit 15 = .ok (.ireturn, 1) := by decide +kernel
theorem dL_limit_16 : decode cL_limit 16 = .ok (.iconst 0, 1) := by decide +kernel
theorem dL_limit_17 : decode cL_limit 17 = .ok (.ireturn, 1) := by decide +kernel
theorem dL_fetch_0 : decode cL_fetch 0 = .ok (.aload_n 2, 1) := by decide +kernel
theorem dL_fetch_1 : decode cL_fetch 1 = .ok (.aload_n 0, 1) := by decide +kernel
theorem dL_fetch_2 : decode cL_fetch 2 = .ok (.iload_n 1, 1) := by decide +kernel
theorem dL_fetch_3 : decode cL_fetch 3 = .ok (.invokevirtual 48, 3) := by decide +kernel
theorem dL_fetch_6 : decode cL_fetch 6 = .ok (.i2l, 1) := by decide +kernel
theorem dL_fetch_7 : decode cL_fetch 7 = .ok (.putfield 13, 3) := by decide +kernel
theorem dL_fetch_10 : decode cL_fetch 10 = .ok (.goto 6, 3) := by decide +kernel
theorem dL_fetch_13 : decode cL_fetch 13 = .ok (.astore_n 3, 1) := by decide +kernel
theorem dL_fetch_14 : decode cL_fetch 14 = .ok (.iconst 1, 1) := by decide +kernel
theorem dL_fetch_15 : decode cL_fetch 15 = .ok (.ireturn, 1) := by decide +kernel
theorem dL_fetch_16 : decode cL_fetch 16 = .ok (.iconst 0, 1) := by decide +kernel
theorem dL_fetch_17 : decode cL_fetch 17 = .ok (.ireturn, 1) := by decide +kernel
theorem dL_patrol_0 : decode cL_patrol 0 = .ok (.aload_n 2, 1) := by decide +kernel
theorem dL_patrol_1 : decode cL_patrol 1 = .ok (.aload_n 0, 1) := by decide +kernel
theorem dL_patrol_2 : decode cL_patrol 2 = .ok (.iload_n 1, 1) := by decide +kernel
theorem dL_patrol_3 : decode cL_patrol 3 = .ok (.invokevirtual 51, 3) := by decide +kernel
theorem dL_patrol_6 : decode cL_patrol 6 = .ok (.i2l, 1) := by decide +kernel
theorem dL_patrol_7 : decode cL_patrol 7 = .ok (.putfield 13, 3) := by decide +kernel
theorem dL_patrol_10 : decode cL_patrol 10 = .ok (.goto 6, 3) := by decide +kernel
theorem dL_patrol_13 : decode cL_patrol 13 = .ok (.astore_n 3, 1) := by decide +kernel
theorem dL_patrol_14 : decode cL_patrol 14 = .ok (.iconst 1, 1) := by decide +kernel
theorem dL_patrol_15 : decode cL_patrol 15 = .ok (.ireturn, 1) := by decide +kernel
theorem dL_patrol_16 : decode cL_patrol 16 = .ok (.iconst 0, 1) := by decide +kernel
theorem dL_patrol_17 : decode cL_patrol 17 = .ok (.ireturn, 1) := by decide +kernel
theorem dL_load_0 : decode cL_load 0 = .ok (.aload_n 2, 1) := by decide +kernel
theorem dL_load_1 : decode cL_load 1 = .ok (.aload_n 0, 1) := by decide +kernel
theorem dL_load_2 : decode cL_load 2 = .ok (.iload_n 1, 1) := by decide +kernel
theorem dL_load_3 : decode cL_load 3 = .ok (.invokevirtual 54, 3) := by decide +kernel
theorem dL_load_6 : decode cL_load 6 = .ok (.putfield 13, 3) := by decide +kernel
theorem dL_load_9 : decode cL_load 9 = .ok (.goto 6, 3) := by decide +kernel
theorem dL_load_12 : decode cL_load 12 = .ok (.astore_n 3, 1) := by decide +kernel
theorem dL_load_13 : decode cL_load 13 = .ok (.iconst 1, 1) := by decide +kernel
theorem dL_load_14 : decode cL_load 14 = .ok (.ireturn, 1) := by decide +kernel
theorem dL_load_15 : decode cL_load 15 = .ok (.iconst 0, 1) := by decide +kernel
theorem dL_load_16 : decode cL_load 16 = .ok (.ireturn, 1) := by decide +kernel
theorem dL_store_0 : decode cL_store 0 = .ok (.aload 4, 2) := by decide +kernel
theorem dL_store_2 : decode cL_store 2 = .ok (.aload_n 0, 1) := by decide +kernel
theorem dL_store_3 : decode cL_store 3 = .ok (.iload_n 1, 1) := by decide +kernel
theorem dL_store_4 : decode cL_store 4 = .ok (.lload_n 2, 1) := by decide +kernel
theorem dL_store_5 : decode cL_store 5 = .ok (.invokevirtual 58, 3) := by decide +kernel
theorem dL_store_8 : decode cL_store 8 = .ok (.i2l, 1) := by decide +kernel
theorem dL_store_9 : decode cL_store 9 = .ok (.putfield 13, 3) := by decide +kernel
theorem dL_store_12 : decode cL_store 12 = .ok (.goto 11, 3) := by decide +kernel
theorem dL_store_15 : decode cL_store 15 = .ok (.astore 5, 2) := by decide +kernel
theorem dL_store_17 : decode cL_store 17 = .ok (.iconst 1, 1) := by decide +kernel
theorem dL_store_18 : decode cL_store 18 = .ok (.ireturn, 1) := by decide +kernel
theorem dL_store_19 : decode cL_store 19 = .ok (.astore 5, 2) := by decide +kernel
theorem dL_store_21 : decode cL_store 21 = .ok (.iconst 2, 1) := by decide +kernel
theorem dL_store_22 : decode cL_store 22 = .ok (.ireturn, 1) := by decide +kernel
theorem dL_store_23 : decode cL_store 23 = .ok (.iconst 0, 1) := by decide +kernel
theorem dL_store_24 : decode cL_store 24 = .ok (.ireturn, 1) := by decide +kernel
theorem dL_times_0 : decode cL_times 0 = .ok (.aload_n 3, 1) := by decide +kernel
theorem dL_times_1 : decode cL_times 1 = .ok (.aload_n 0, 1) := by decide +kernel
theorem dL_times_2 : decode cL_times 2 = .ok (.iload_n 1, 1) := by decide +kernel
theorem dL_times_3 : decode cL_times 3 = .ok (.iload_n 2, 1) := by decide +kernel
theorem dL_times_4 : decode cL_times 4 = .ok (.invokevirtual 61, 3) := by decide +kernel
theorem dL_times_7 : decode cL_times 7 = .ok (.i2l, 1) := by decide +kernel
theorem dL_times_8 : decode cL_times 8 = .ok (.putfield 13, 3) := by decide +kernel
theorem dL_times_11 : decode cL_times 11 = .ok (.goto 7, 3) := by decide +kernel
theorem dL_times_14 : decode cL_times 14 = .ok (.astore 4, 2) := by decide +kernel
theorem dL_times_16 : decode cL_times 16 = .ok (.iconst 1, 1) := by decide +kernel
theorem dL_times_17 : decode cL_times 17 = .ok (.ireturn, 1) := by decide +kernel
theorem dL_times_18 : decode cL_times 18 = .ok (.iconst 0, 1) := by decide +kernel
theorem dL_times_19 : decode cL_times 19 = .ok (.ireturn, 1) := by decide +kernel
theorem dL_power_0 : decode cL_power 0 = .ok (.aload_n 2, 1) := by decide +kernel
theorem dL_power_1 : decode cL_power 1 = .ok (.aload_n 0, 1) := by decide +kernel
theorem dL_power_2 : decode cL_power 2 = .ok (.iload_n 1, 1) := by decide +kernel
theorem dL_power_3 : decode cL_power 3 = .ok (.invokevirtual 64, 3) := by decide +kernel
theorem dL_power_6 : decode cL_power 6 = .ok (.i2l, 1) := by decide +kernel
theorem dL_power_7 : decode cL_power 7 = .ok (.putfield 13, 3) := by decide +kernel
theorem dL_power_10 : decode cL_power 10 = .ok (.goto 6, 3) := by decide +kernel
theorem dL_power_13 : decode cL_power 13 = .ok (.astore_n 3, 1) := by decide +kernel
theorem dL_power_14 : decode cL_power 14 = .ok (.iconst 1, 1) := by decide +kernel
theorem dL_power_15 : decode cL_power 15 = .ok (.ireturn, 1) := by decide +kernel
theorem dL_power_16 : decode cL_power 16 = .ok (.iconst 0, 1) := by decide +kernel
theorem dL_power_17 : decode cL_power 17 = .ok (.ireturn, 1) := by decide +kernel
theorem dL_symbol_0 : decode cL_symbol 0 = .ok (.aload 4, 2) := by decide +kernel
theorem dL_symbol_2 : decode cL_symbol 2 = .ok (.aload_n 0, 1) := by decide +kernel
theorem dL_symbol_3 : decode cL_symbol 3 = .ok (.lload_n 1, 1) := by decide +kernel
theorem dL_symbol_4 : decode cL_symbol 4 = .ok (.iload_n 3, 1) := by decide +kernel
theorem dL_symbol_5 : decode cL_symbol 5 = .ok (.invokevirtual 67, 3) := by decide +kernel
theorem dL_symbol_8 : decode cL_symbol 8 = .ok (.i2l, 1) := by decide +kernel
theorem dL_symbol_9 : decode cL_symbol 9 = .ok (.putfield 13, 3) := by decide +kernel
theorem dL_symbol_12 : decode cL_symbol 12 = .ok (.goto 11, 3) := by decide +kernel
theorem dL_symbol_15 : decode cL_symbol 15 = .ok (.astore 5, 2) := by decide +kernel
theorem dL_symbol_17 : decode cL_symbol 17 = .ok (.iconst 1, 1) := by decide +kernel
theorem dL_symbol_18 : decode cL_symbol 18 = .ok (.ireturn, 1) := by decide +kernel
theorem dL_symbol_19 : decode cL_symbol 19 = .ok (.astore 5, 2) := by decide +kernel
theorem dL_symbol_21 : decode cL_symbol 21 = .ok (.iconst 2, 1) := by decide +kernel
theorem dL_symbol_22 : decode cL_symbol 22 = .ok (.ireturn, 1) := by decide +kernel
theorem dL_symbol_23 : decode cL_symbol 23 = .ok (.iconst 0, 1) := by decide +kernel
theorem dL_symbol_24 : decode cL_symbol 24 = .ok (.ireturn, 1) := by decide +kernel
theorem dL_fooled_0 : decode cL_fooled 0 = .ok (.aload 6, 2) := by decide +kernel
theorem dL_fooled_2 : decode cL_fooled 2 = .ok (.aload_n 0, 1) := by decide +kernel
theorem dL_fooled_3 : decode cL_fooled 3 = .ok (.iload_n 1, 1) := by decide +kernel
theorem dL_fooled_4 : decode cL_fooled 4 = .ok (.iload_n 2, 1) := by decide +kernel
theorem dL_fooled_5 : decode cL_fooled 5 = .ok (.iload_n 3, 1) := by decide +kernel
theorem dL_fooled_6 : decode cL_fooled 6 = .ok (.iload 4, 2) := by decide +kernel
theorem dL_fooled_8 : decode cL_fooled 8 = .ok (.iload 5, 2) := by decide +kernel
theorem dL_fooled_10 : decode cL_fooled 10 = .ok (.invokevirtual 71, 3) := by decide +kernel
theorem dL_fooled_13 : decode cL_fooled 13 = .ok (.i2l, 1) := by decide +kernel
theorem dL_fooled_14 : decode cL_fooled 14 = .ok (.putfield 13, 3) := by decide +kernel
theorem dL_fooled_17 : decode cL_fooled 17 = .ok (.goto 11, 3) := by decide +kernel
theorem dL_fooled_20 : decode cL_fooled 20 = .ok (.astore 7, 2) := by decide +kernel
theorem dL_fooled_22 : decode cL_fooled 22 = .ok (.iconst 1, 1) := by decide +kernel
theorem dL_fooled_23 : decode cL_fooled 23 = .ok (.ireturn, 1) := by decide +kernel
theorem dL_fooled_24 : decode cL_fooled 24 = .ok (.astore 7, 2) := by decide +kernel
theorem dL_fooled_26 : decode cL_fooled 26 = .ok (.iconst 2, 1) := by decide +kernel
theorem dL_fooled_27 : decode cL_fooled 27 = .ok (.ireturn, 1) := by decide +kernel
theorem dL_fooled_28 : decode cL_fooled 28 = .ok (.iconst 0, 1) := by decide +kernel
theorem dL_fooled_29 : decode cL_fooled 29 = .ok (.ireturn, 1) := by decide +kernel
theorem dL_seen_0 : decode cL_seen 0 = .ok (.aload_n 3, 1) := by decide +kernel
theorem dL_seen_1 : decode cL_seen 1 = .ok (.aload_n 0, 1) := by decide +kernel
theorem dL_seen_2 : decode cL_seen 2 = .ok (.iload_n 1, 1) := by decide +kernel
theorem dL_seen_3 : decode cL_seen 3 = .ok (.iload_n 2, 1) := by decide +kernel
theorem dL_seen_4 : decode cL_seen 4 = .ok (.invokevirtual 75, 3) := by decide +kernel
theorem dL_seen_7 : decode cL_seen 7 = .ok (.i2l, 1) := by decide +kernel
theorem dL_seen_8 : decode cL_seen 8 = .ok (.putfield 13, 3) := by decide +kernel
theorem dL_seen_11 : decode cL_seen 11 = .ok (.goto 7, 3) := by decide +kernel
theorem dL_seen_14 : decode cL_seen 14 = .ok (.astore 4, 2) := by decide +kernel
theorem dL_seen_16 : decode cL_seen 16 = .ok (.iconst 1, 1) := by decide +kernel
theorem dL_seen_17 : decode cL_seen 17 = .ok (.ireturn, 1) := by decide +kernel
theorem dL_seen_18 : decode cL_seen 18 = .ok (.iconst 0, 1) := by decide +kernel
theorem dL_seen_19 : decode cL_seen 19 = .ok (.ireturn, 1) := by decide +kernel
theorem dL_sum_0 : decode cL_sum 0 = .ok (.aload_n 3, 1) := by decide +kernel
theorem dL_sum_1 : decode cL_sum 1 = .ok (.aload_n 0, 1) := by decide +kernel
theorem dL_sum_2 : decode cL_sum 2 = .ok (.iload_n 1, 1) := by decide +kernel
theorem dL_sum_3 : decode cL_sum 3 = .ok (.iload_n 2, 1) := by decide +kernel
theorem dL_sum_4 : decode cL_sum 4 = .ok (.invokevirtual 78, 3) := by decide +kernel
theorem dL_sum_7 : decode cL_sum 7 = .ok (.i2l, 1) := by decide +kernel
theorem dL_sum_8 : decode cL_sum 8 = .ok (.putfield 13, 3) := by decide +kernel
theorem dL_sum_11 : decode cL_sum 11 = .ok (.goto 11, 3) := by decide +kernel
theorem dL_sum_14 : decode cL_sum 14 = .ok (.astore 4, 2) := by decide +kernel
theorem dL_sum_16 : decode cL_sum 16 = .ok (.iconst 1, 1) := by decide +kernel
theorem dL_sum_17 : decode cL_sum 17 = .ok (.ireturn, 1) := by decide +kernel
theorem dL_sum_18 : decode cL_sum 18 = .ok (.astore 4, 2) := by decide +kernel
theorem dL_sum_20 : decode cL_sum 20 = .ok (.iconst 2, 1) := by decide +kernel
theorem dL_sum_21 : decode cL_sum 21 = .ok (.ireturn, 1) := by decide +kernel
theorem dL_sum_22 : decode cL_sum 22 = .ok (.iconst 0, 1) := by decide +kernel
theorem dL_sum_23 : decode cL_sum 23 = .ok (.ireturn, 1) := by decide +kernel
theorem dL_mended_0 : decode cL_mended 0 = .ok (.aload_n 2, 1) := by decide +kernel
theorem dL_mended_1 : decode cL_mended 1 = .ok (.aload_n 0, 1) := by decide +kernel
theorem dL_mended_2 : decode cL_mended 2 = .ok (.iload_n 1, 1) := by decide +kernel
theorem dL_mended_3 : decode cL_mended 3 = .ok (.invokevirtual 81, 3) := by decide +kernel
theorem dL_mended_6 : decode cL_mended 6 = .ok (.i2l, 1) := by decide +kernel
theorem dL_mended_7 : decode cL_mended 7 = .ok (.putfield 13, 3) := by decide +kernel
theorem dL_mended_10 : decode cL_mended 10 = .ok (.goto 6, 3) := by decide +kernel
theorem dL_mended_13 : decode cL_mended 13 = .ok (.astore_n 3, 1) := by decide +kernel
theorem dL_mended_14 : decode cL_mended 14 = .ok (.iconst 1, 1) := by decide +kernel
theorem dL_mended_15 : decode cL_mended 15 = .ok (.ireturn, 1) := by decide +kernel
theorem dL_mended_16 : decode cL_mended 16 = .ok (.iconst 0, 1) := by decide +kernel
theorem dL_mended_17 : decode cL_mended 17 = .ok (.ireturn, 1) := by decide +kernel
theorem dL_data_0 : decode cL_data 0 = .ok (.aload_n 2, 1) := by decide +kernel
theorem dL_data_1 : decode cL_data 1 = .ok (.aload_n 0, 1) := by decide +kernel
theorem dL_data_2 : decode cL_data 2 = .ok (.iload_n 1, 1) := by decide +kernel
theorem dL_data_3 : decode cL_data 3 = .ok (.invokevirtual 84, 3) := by decide +kernel
theorem dL_data_6 : decode cL_data 6 = .ok (.putfield 13, 3) := by decide +kernel
theorem dL_data_9 : decode cL_data 9 = .ok (.goto 6, 3) := by decide +kernel
theorem dL_data_12 : decode cL_data 12 = .ok (.astore_n 3, 1) := by decide +kernel
theorem dL_data_13 : decode cL_data 13 = .ok (.iconst 1, 1) := by decide +kernel
theorem dL_data_14 : decode cL_data 14 = .ok (.ireturn, 1) := by decide +kernel
theorem dL_data_15 : decode cL_data 15 = .ok (.iconst 0, 1) := by decide +kernel
theorem dL_data_16 : decode cL_data 16 = .ok (.ireturn, 1) := by decide +kernel
theorem dL_ofChip_0 : decode cL_ofChip 0 = .ok (.aload_n 3, 1) := by decide +kernel
theorem dL_ofChip_1 : decode cL_ofChip 1 = .ok (.aload_n 0, 1) := by decide +kernel
theorem dL_ofChip_2 : decode cL_ofChip 2 = .ok (.iload_n 1, 1) := by decide +kernel
theorem dL_ofChip_3 : decode cL_ofChip 3 = .ok (.iload_n 2, 1) := by decide +kernel
theorem dL_ofChip_4 : decode cL_ofChip 4 = .ok (.invokevirtual 87, 3) := by decide +kernel
theorem dL_ofChip_7 : decode cL_ofChip 7 = .ok (.i2l, 1) := by decide +kernel
theorem dL_ofChip_8 : decode cL_ofChip 8 = .ok (.putfield 13, 3) := by decide +kernel
theorem dL_ofChip_11 : decode cL_ofChip 11 = .ok (.goto 11, 3) := by decide +kernel
theorem dL_ofChip_14 : decode cL_ofChip 14 = .ok (.astore 4, 2) := by decide +kernel
theorem dL_ofChip_16 : decode cL_ofChip 16 = .ok (.iconst 1, 1) := by decide +kernel
theorem dL_ofChip_17 : decode cL_ofChip 17 = .ok (.ireturn, 1) := by decide +kernel
theorem dL_ofChip_18 : decode cL_ofChip 18 = .ok (.astore 4, 2) := by decide +kernel
theorem dL_ofChip_20 : decode cL_ofChip 20 = .ok (.iconst 2, 1) := by decide +kernel
theorem dL_ofChip_21 : decode cL_ofChip 21 = .ok (.ireturn, 1) := by decide +kernel
theorem dL_ofChip_22 : decode cL_ofChip 22 = .ok (.iconst 0, 1) := by decide +kernel
theorem dL_ofChip_23 : decode cL_ofChip 23 = .ok (.ireturn, 1) := by decide +kernel
theorem dL_stored_0 : decode cL_stored 0 = .ok (.aload_n 3, 1) := by decide +kernel
theorem dL_stored_1 : decode cL_stored 1 = .ok (.aload_n 0, 1) := by decide +kernel
theorem dL_stored_2 : decode cL_stored 2 = .ok (.iload_n 1, 1) := by decide +kernel
theorem dL_stored_3 : decode cL_stored 3 = .ok (.iload_n 2, 1) := by decide +kernel
theorem dL_stored_4 : decode cL_stored 4 = .ok (.invokevirtual 90, 3) := by decide +kernel
theorem dL_stored_7 : decode cL_stored 7 = .ok (.i2l, 1) := by decide +kernel
theorem dL_stored_8 : decode cL_stored 8 = .ok (.putfield 13, 3) := by decide +kernel
theorem dL_stored_11 : decode cL_stored 11 = .ok (.goto 7, 3) := by decide +kernel
theorem dL_stored_14 : decode cL_stored 14 = .ok (.astore 4, 2) := by decide +kernel
theorem dL_stored_16 : decode cL_stored 16 = .ok (.iconst 1, 1) := by decide +kernel
theorem dL_stored_17 : decode cL_stored 17 = .ok (.ireturn, 1) := by decide +kernel
theorem dL_stored_18 : decode cL_stored 18 = .ok (.iconst 0, 1) := by decide +kernel
theorem dL_stored_19 : decode cL_stored 19 = .ok (.ireturn, 1) := by decide +kernel
theorem dL_ofFrame_0 : decode cL_ofFrame 0 = .ok (.aload_n 3, 1) := by decide +kernel
theorem dL_ofFrame_1 : decode cL_ofFrame 1 = .ok (.aload_n 0, 1) := by decide +kernel
theorem dL_ofFrame_2 : decode cL_ofFrame 2 = .ok (.iload_n 1, 1) := by decide +kernel
theorem dL_ofFrame_3 : decode cL_ofFrame 3 = .ok (.iload_n 2, 1) := by decide +kernel
theorem dL_ofFrame_4 : decode cL_ofFrame 4 = .ok (.invokevirtual 93, 3) := by decide +kernel
theorem dL_ofFrame_7 : decode cL_ofFrame 7 = .ok (.i2l, 1) := by decide +kernel
theorem dL_ofFrame_8 : decode cL_ofFrame 8 = .ok (.putfield 13, 3) := by decide +kernel
theorem dL_ofFrame_11 : decode cL_ofFrame 11 = .ok (.goto 11, 3) := by decide +kernel
theorem dL_ofFrame_14 : decode cL_ofFrame 14 = .ok (.astore 4, 2) := by decide +kernel
theorem dL_ofFrame_16 : decode cL_ofFrame 16 = .ok (.iconst 1, 1) := by decide +kernel
theorem dL_ofFrame_17 : decode cL_ofFrame 17 = .ok (.ireturn, 1) := by decide +kernel
theorem dL_ofFrame_18 : decode cL_ofFrame 18 = .ok (.astore 4, 2) := by decide +kernel
theorem dL_ofFrame_20 : decode cL_ofFrame 20 = .ok (.iconst 2, 1) := by decide +kernel
theorem dL_ofFrame_21 : decode cL_ofFrame 21 = .ok (.ireturn, 1) := by decide +kernel
theorem dL_ofFrame_22 : decode cL_ofFrame 22 = .ok (.iconst 0, 1) := by decide +kernel
theorem dL_ofFrame_23 : decode cL_ofFrame 23 = .ok (.ireturn, 1) := by decide +kernel
theorem dL_held_0 : decode cL_held 0 = .ok (.aload_n 2, 1) := by decide +kernel
theorem dL_held_1 : decode cL_held 1 = .ok (.aload_n 0, 1) := by decide +kernel
theorem dL_held_2 : decode cL_held 2 = .ok (.iload_n 1, 1) := by decide +kernel
theorem dL_held_3 : decode cL_held 3 = .ok (.invokevirtual 96, 3) := by decide +kernel
theorem dL_held_6 : decode cL_held 6 = .ok (.putfield 13, 3) := by decide +kernel
theorem dL_held_9 : decode cL_held 9 = .ok (.goto 6, 3) := by decide +kernel
theorem dL_held_12 : decode cL_held 12 = .ok (.astore_n 3, 1) := by decide +kernel
theorem dL_held_13 : decode cL_held 13 = .ok (.iconst 1, 1) := by decide +kernel
theorem dL_held_14 : decode cL_held 14 = .ok (.ireturn, 1) := by decide +kernel
theorem dL_held_15 : decode cL_held 15 = .ok (.iconst 0, 1) := by decide +kernel
theorem dL_held_16 : decode cL_held 16 = .ok (.ireturn, 1) := by decide +kernel
theorem dL_bank_0 : decode cL_bank 0 = .ok (.aload_n 2, 1) := by decide +kernel
theorem dL_bank_1 : decode cL_bank 1 = .ok (.aload_n 0, 1) := by decide +kernel
theorem dL_bank_2 : decode cL_bank 2 = .ok (.iload_n 1, 1) := by decide +kernel
theorem dL_bank_3 : decode cL_bank 3 = .ok (.invokevirtual 99, 3) := by decide +kernel
theorem dL_bank_6 : decode cL_bank 6 = .ok (.i2l, 1) := by decide +kernel
theorem dL_bank_7 : decode cL_bank 7 = .ok (.putfield 13, 3) := by decide +kernel
theorem dL_bank_10 : decode cL_bank 10 = .ok (.goto 6, 3) := by decide +kernel
theorem dL_bank_13 : decode cL_bank 13 = .ok (.astore_n 3, 1) := by decide +kernel
theorem dL_bank_14 : decode cL_bank 14 = .ok (.iconst 1, 1) := by decide +kernel
theorem dL_bank_15 : decode cL_bank 15 = .ok (.ireturn, 1) := by decide +kernel
theorem dL_bank_16 : decode cL_bank 16 = .ok (.iconst 0, 1) := by decide +kernel
theorem dL_bank_17 : decode cL_bank 17 = .ok (.ireturn, 1) := by decide +kernel
theorem dL_row_0 : decode cL_row 0 = .ok (.aload_n 2, 1) := by decide +kernel
theorem dL_row_1 : decode cL_row 1 = .ok (.aload_n 0, 1) := by decide +kernel
theorem dL_row_2 : decode cL_row 2 = .ok (.iload_n 1, 1) := by decide +kernel
theorem dL_row_3 : decode cL_row 3 = .ok (.invokevirtual 102, 3) := by decide +kernel
theorem dL_row_6 : decode cL_row 6 = .ok (.putfield 106, 3) := by decide +kernel
theorem dL_row_9 : decode cL_row 9 = .ok (.goto 6, 3) := by decide +kernel
theorem dL_row_12 : decode cL_row 12 = .ok (.astore_n 3, 1) := by decide +kernel
theorem dL_row_13 : decode cL_row 13 = .ok (.iconst 1, 1) := by decide +kernel
theorem dL_row_14 : decode cL_row 14 = .ok (.ireturn, 1) := by decide +kernel
theorem dL_row_15 : decode cL_row 15 = .ok (.iconst 0, 1) := by decide +kernel
theorem dL_row_16 : decode cL_row 16 = .ok (.ireturn, 1) := by decide +kernel
theorem dL_wouldMend_0 : decode cL_wouldMend 0 = .ok (.aload_n 3, 1) := by decide +kernel
theorem dL_wouldMend_1 : decode cL_wouldMend 1 = .ok (.aload_n 0, 1) := by decide +kernel
theorem dL_wouldMend_2 : decode cL_wouldMend 2 = .ok (.iload_n 1, 1) := by decide +kernel
theorem dL_wouldMend_3 : decode cL_wouldMend 3 = .ok (.iload_n 2, 1) := by decide +kernel
theorem dL_wouldMend_4 : decode cL_wouldMend 4 = .ok (.invokevirtual 110, 3) := by decide +kernel
theorem dL_wouldMend_7 : decode cL_wouldMend 7 = .ok (.i2l, 1) := by decide +kernel
theorem dL_wouldMend_8 : decode cL_wouldMend 8 = .ok (.putfield 13, 3) := by decide +kernel
theorem dL_wouldMend_11 : decode cL_wouldMend 11 = .ok (.goto 11, 3) := by decide +kernel
theorem dL_wouldMend_14 : decode cL_wouldMend 14 = .ok (.astore 4, 2) := by decide +kernel
theorem dL_wouldMend_16 : decode cL_wouldMend 16 = .ok (.iconst 1, 1) := by decide +kernel
theorem dL_wouldMend_17 : decode cL_wouldMend 17 = .ok (.ireturn, 1) := by decide +kernel
theorem dL_wouldMend_18 : decode cL_wouldMend 18 = .ok (.astore 4, 2) := by decide +kernel
theorem dL_wouldMend_20 : decode cL_wouldMend 20 = .ok (.iconst 2, 1) := by decide +kernel
theorem dL_wouldMend_21 : decode cL_wouldMend 21 = .ok (.ireturn, 1) := by decide +kernel
theorem dL_wouldMend_22 : decode cL_wouldMend 22 = .ok (.iconst 0, 1) := by decide +kernel
theorem dL_wouldMend_23 : decode cL_wouldMend 23 = .ok (.ireturn, 1) := by decide +kernel
theorem dL_spare_0 : decode cL_spare 0 = .ok (.aload_n 2, 1) := by decide +kernel
theorem dL_spare_1 : decode cL_spare 1 = .ok (.aload_n 0, 1) := by decide +kernel
theorem dL_spare_2 : decode cL_spare 2 = .ok (.iload_n 1, 1) := by decide +kernel
theorem dL_spare_3 : decode cL_spare 3 = .ok (.invokevirtual 113, 3) := by decide +kernel
theorem dL_spare_6 : decode cL_spare 6 = .ok (.i2l, 1) := by decide +kernel
theorem dL_spare_7 : decode cL_spare 7 = .ok (.putfield 13, 3) := by decide +kernel
theorem dL_spare_10 : decode cL_spare 10 = .ok (.goto 6, 3) := by decide +kernel
theorem dL_spare_13 : decode cL_spare 13 = .ok (.astore_n 3, 1) := by decide +kernel
theorem dL_spare_14 : decode cL_spare 14 = .ok (.iconst 1, 1) := by decide +kernel
theorem dL_spare_15 : decode cL_spare 15 = .ok (.ireturn, 1) := by decide +kernel
theorem dL_spare_16 : decode cL_spare 16 = .ok (.iconst 0, 1) := by decide +kernel
theorem dL_spare_17 : decode cL_spare 17 = .ok (.ireturn, 1) := by decide +kernel
theorem dL_wouldLose_0 : decode cL_wouldLose 0 = .ok (.aload_n 3, 1) := by decide +kernel
theorem dL_wouldLose_1 : decode cL_wouldLose 1 = .ok (.aload_n 0, 1) := by decide +kernel
theorem dL_wouldLose_2 : decode cL_wouldLose 2 = .ok (.iload_n 1, 1) := by decide +kernel
theorem dL_wouldLose_3 : decode cL_wouldLose 3 = .ok (.iload_n 2, 1) := by decide +kernel
theorem dL_wouldLose_4 : decode cL_wouldLose 4 = .ok (.invokevirtual 116, 3) := by decide +kernel
theorem dL_wouldLose_7 : decode cL_wouldLose 7 = .ok (.i2l, 1) := by decide +kernel
theorem dL_wouldLose_8 : decode cL_wouldLose 8 = .ok (.putfield 13, 3) := by decide +kernel
theorem dL_wouldLose_11 : decode cL_wouldLose 11 = .ok (.goto 11, 3) := by decide +kernel
theorem dL_wouldLose_14 : decode cL_wouldLose 14 = .ok (.astore 4, 2) := by decide +kernel
theorem dL_wouldLose_16 : decode cL_wouldLose 16 = .ok (.iconst 1, 1) := by decide +kernel
theorem dL_wouldLose_17 : decode cL_wouldLose 17 = .ok (.ireturn, 1) := by decide +kernel
theorem dL_wouldLose_18 : decode cL_wouldLose 18 = .ok (.astore 4, 2) := by decide +kernel
theorem dL_wouldLose_20 : decode cL_wouldLose 20 = .ok (.iconst 2, 1) := by decide +kernel
theorem dL_wouldLose_21 : decode cL_wouldLose 21 = .ok (.ireturn, 1) := by decide +kernel
theorem dL_wouldLose_22 : decode cL_wouldLose 22 = .ok (.iconst 0, 1) := by decide +kernel
theorem dL_wouldLose_23 : decode cL_wouldLose 23 = .ok (.ireturn, 1) := by decide +kernel
theorem dL_law_0 : decode cL_law 0 = .ok (.new 8, 3) := by decide +kernel
theorem dL_law_3 : decode cL_law 3 = .ok (.dup, 1) := by decide +kernel
theorem dL_law_4 : decode cL_law 4 = .ok (.invokespecial 119, 3) := by decide +kernel
theorem dL_law_7 : decode cL_law 7 = .ok (.astore_n 1, 1) := by decide +kernel
theorem dL_law_8 : decode cL_law 8 = .ok (.new 120, 3) := by decide +kernel
theorem dL_law_11 : decode cL_law 11 = .ok (.dup, 1) := by decide +kernel
theorem dL_law_12 : decode cL_law 12 = .ok (.invokespecial 122, 3) := by decide +kernel
theorem dL_law_15 : decode cL_law 15 = .ok (.astore_n 2, 1) := by decide +kernel
theorem dL_law_16 : decode cL_law 16 = .ok (.new 14, 3) := by decide +kernel
theorem dL_law_19 : decode cL_law 19 = .ok (.dup, 1) := by decide +kernel
theorem dL_law_20 : decode cL_law 20 = .ok (.invokespecial 123, 3) := by decide +kernel
theorem dL_law_23 : decode cL_law 23 = .ok (.astore_n 3, 1) := by decide +kernel
theorem dL_law_24 : decode cL_law 24 = .ok (.iconst 0, 1) := by decide +kernel
theorem dL_law_25 : decode cL_law 25 = .ok (.istore 4, 2) := by decide +kernel
theorem dL_law_27 : decode cL_law 27 = .ok (.iload 4, 2) := by decide +kernel
theorem dL_law_29 : decode cL_law 29 = .ok (.aload_n 0, 1) := by decide +kernel
theorem dL_law_30 : decode cL_law 30 = .ok (.arraylength, 1) := by decide +kernel
theorem dL_law_31 : decode cL_law 31 = .ok (.bipush 6, 2) := by decide +kernel
theorem dL_law_33 : decode cL_law 33 = .ok (.isub, 1) := by decide +kernel
theorem dL_law_34 : decode cL_law 34 = .ok (.if_icmp .gt 1391, 3) := by decide +kernel
theorem dL_law_37 : decode cL_law 37 = .ok (.aload_n 0, 1) := by decide +kernel
theorem dL_law_38 : decode cL_law 38 = .ok (.iload 4, 2) := by decide +kernel
theorem dL_law_40 : decode cL_law 40 = .ok (.iaload, 1) := by decide +kernel
theorem dL_law_41 : decode cL_law 41 = .ok (.bipush 63, 2) := by decide +kernel
theorem dL_law_43 : decode cL_law 43 = .ok (.iand, 1) := by decide +kernel
theorem dL_law_44 : decode cL_law 44 = .ok (.tableswitch 1375 0 32 #[148, 220, 284, 324, 376, 432, 460, 488, 516, 544, 572, 644, 657, 670, 710, 738, 810, 886, 926, 966, 994, 1022, 1062, 1102, 1142, 1170, 1198, 1226, 1266, 1294, 1334, 1349, 1362], 148) := by decide +kernel
theorem dL_law_192 : decode cL_law 192 = .ok (.aload_n 1, 1) := by decide +kernel
theorem dL_law_193 : decode cL_law 193 = .ok (.aload_n 0, 1) := by decide +kernel
theorem dL_law_194 : decode cL_law 194 = .ok (.iload 4, 2) := by decide +kernel
theorem dL_law_196 : decode cL_law 196 = .ok (.iconst 1, 1) := by decide +kernel
theorem dL_law_197 : decode cL_law 197 = .ok (.iadd, 1) := by decide +kernel
theorem dL_law_198 : decode cL_law 198 = .ok (.iaload, 1) := by decide +kernel
theorem dL_law_199 : decode cL_law 199 = .ok (.aload_n 0, 1) := by decide +kernel
theorem dL_law_200 : decode cL_law 200 = .ok (.iload 4, 2) := by decide +kernel
theorem dL_law_202 : decode cL_law 202 = .ok (.iconst 2, 1) := by decide +kernel
theorem dL_law_203 : decode cL_law 203 = .ok (.iadd, 1) := by decide +kernel
theorem dL_law_204 : decode cL_law 204 = .ok (.iaload, 1) := by decide +kernel
theorem dL_law_205 : decode cL_law 205 = .ok (.i2l, 1) := by decide +kernel
theorem dL_law_206 : decode cL_law 206 = .ok (.bipush 32, 2) := by decide +kernel
theorem dL_law_208 : decode cL_law 208 = .ok (.lshl, 1) := by decide +kernel
theorem dL_law_209 : decode cL_law 209 = .ok (.aload_n 0, 1) := by decide +kernel
theorem dL_law_210 : decode cL_law 210 = .ok (.iload 4, 2) := by decide +kernel
theorem dL_law_212 : decode cL_law 212 = .ok (.iconst 3, 1) := by decide +kernel
theorem dL_law_213 : decode cL_law 213 = .ok (.iadd, 1) := by decide +kernel
theorem dL_law_214 : decode cL_law 214 = .ok (.iaload, 1) := by decide +kernel
theorem dL_law_215 : decode cL_law 215 = .ok (.i2l, 1) := by decide +kernel
theorem dL_law_216 : decode cL_law 216 = .ok (.ldc2_w 124, 3) := by decide +kernel
theorem dL_law_219 : decode cL_law 219 = .ok (.land, 1) := by decide +kernel
theorem dL_law_220 : decode cL_law 220 = .ok (.lor, 1) := by decide +kernel
theorem dL_law_221 : decode cL_law 221 = .ok (.aload_n 3, 1) := by decide +kernel
theorem dL_law_222 : decode cL_law 222 = .ok (.invokestatic 126, 3) := by decide +kernel
theorem dL_law_225 : decode cL_law 225 = .ok (.istore 5, 2) := by decide +kernel
theorem dL_law_227 : decode cL_law 227 = .ok (.aload_n 2, 1) := by decide +kernel
theorem dL_law_228 : decode cL_law 228 = .ok (.aload_n 0, 1) := by decide +kernel
theorem dL_law_229 : decode cL_law 229 = .ok (.iload 4, 2) := by decide +kernel
theorem dL_law_231 : decode cL_law 231 = .ok (.iconst 1, 1) := by decide +kernel
theorem dL_law_232 : decode cL_law 232 = .ok (.iadd, 1) := by decide +kernel
theorem dL_law_233 : decode cL_law 233 = .ok (.iaload, 1) := by decide +kernel
theorem dL_law_234 : decode cL_law 234 = .ok (.aload_n 0, 1) := by decide +kernel
theorem dL_law_235 : decode cL_law 235 = .ok (.iload 4, 2) := by decide +kernel
theorem dL_law_237 : decode cL_law 237 = .ok (.iconst 2, 1) := by decide +kernel
theorem dL_law_238 : decode cL_law 238 = .ok (.iadd, 1) := by decide +kernel
theorem dL_law_239 : decode cL_law 239 = .ok (.iaload, 1) := by decide +kernel
theorem dL_law_240 : decode cL_law 240 = .ok (.i2l, 1) := by decide +kernel
theorem dL_law_241 : decode cL_law 241 = .ok (.bipush 32, 2) := by decide +kernel
theorem dL_law_243 : decode cL_law 243 = .ok (.lshl, 1) := by decide +kernel
theorem dL_law_244 : decode cL_law 244 = .ok (.aload_n 0, 1) := by decide +kernel
theorem dL_law_245 : decode cL_law 245 = .ok (.iload 4, 2) := by decide +kernel
theorem dL_law_247 : decode cL_law 247 = .ok (.iconst 3, 1) := by decide +kernel
theorem dL_law_248 : decode cL_law 248 = .ok (.iadd, 1) := by decide +kernel
theorem dL_law_249 : decode cL_law 249 = .ok (.iaload, 1) := by decide +kernel
theorem dL_law_250 : decode cL_law 250 = .ok (.i2l, 1) := by decide +kernel
theorem dL_law_251 : decode cL_law 251 = .ok (.ldc2_w 124, 3) := by decide +kernel
theorem dL_law_254 : decode cL_law 254 = .ok (.land, 1) := by decide +kernel
theorem dL_law_255 : decode cL_law 255 = .ok (.lor, 1) := by decide +kernel
theorem dL_law_256 : decode cL_law 256 = .ok (.invokevirtual 131, 3) := by decide +kernel
theorem dL_law_259 : decode cL_law 259 = .ok (.istore 6, 2) := by decide +kernel
theorem dL_law_261 : decode cL_law 261 = .ok (.goto 1158, 3) := by decide +kernel
theorem dL_law_264 : decode cL_law 264 = .ok (.aload_n 1, 1) := by decide +kernel
theorem dL_law_265 : decode cL_law 265 = .ok (.aload_n 0, 1) := by decide +kernel
theorem dL_law_266 : decode cL_law 266 = .ok (.iload 4, 2) := by decide +kernel
theorem dL_law_268 : decode cL_law 268 = .ok (.iconst 1, 1) := by decide +kernel
theorem dL_law_269 : decode cL_law 269 = .ok (.iadd, 1) := by decide +kernel
theorem dL_law_270 : decode cL_law 270 = .ok (.iaload, 1) := by decide +kernel
theorem dL_law_271 : decode cL_law 271 = .ok (.aload_n 0, 1) := by decide +kernel
theorem dL_law_272 : decode cL_law 272 = .ok (.iload 4, 2) := by decide +kernel
theorem dL_law_274 : decode cL_law 274 = .ok (.iconst 2, 1) := by decide +kernel
theorem dL_law_275 : decode cL_law 275 = .ok (.iadd, 1) := by decide +kernel
theorem dL_law_276 : decode cL_law 276 = .ok (.iaload, 1) := by decide +kernel
theorem dL_law_277 : decode cL_law 277 = .ok (.aload_n 0, 1) := by decide +kernel
theorem dL_law_278 : decode cL_law 278 = .ok (.iload 4, 2) := by decide +kernel
theorem dL_law_280 : decode cL_law 280 = .ok (.iconst 3, 1) := by decide +kernel
theorem dL_law_281 : decode cL_law 281 = .ok (.iadd, 1) := by decide +kernel
theorem dL_law_282 : decode cL_law 282 = .ok (.iaload, 1) := by decide +kernel
theorem dL_law_283 : decode cL_law 283 = .ok (.aload_n 0, 1) := by decide +kernel
theorem dL_law_284 : decode cL_law 284 = .ok (.iload 4, 2) := by decide +kernel
theorem dL_law_286 : decode cL_law 286 = .ok (.iconst 4, 1) := by decide +kernel
theorem dL_law_287 : decode cL_law 287 = .ok (.iadd, 1) := by decide +kernel
theorem dL_law_288 : decode cL_law 288 = .ok (.iaload, 1) := by decide +kernel
theorem dL_law_289 : decode cL_law 289 = .ok (.aload_n 3, 1) := by decide +kernel
theorem dL_law_290 : decode cL_law 290 = .ok (.invokestatic 132, 3) := by decide +kernel
theorem dL_law_293 : decode cL_law 293 = .ok (.istore 5, 2) := by decide +kernel
theorem dL_law_295 : decode cL_law 295 = .ok (.aload_n 2, 1) := by decide +kernel
theorem dL_law_296 : decode cL_law 296 = .ok (.aload_n 0, 1) := by decide +kernel
theorem dL_law_297 : decode cL_law 297 = .ok (.iload 4, 2) := by decide +kernel
theorem dL_law_299 : decode cL_law 299 = .ok (.iconst 1, 1) := by decide +kernel
theorem dL_law_300 : decode cL_law 300 = .ok (.iadd, 1) := by decide +kernel
theorem dL_law_301 : decode cL_law 301 = .ok (.iaload, 1) := by decide +kernel
theorem dL_law_302 : decode cL_law 302 = .ok (.aload_n 0, 1) := by decide +kernel
theorem dL_law_303 : decode cL_law 303 = .ok (.iload 4, 2) := by decide +kernel
theorem dL_law_305 : decode cL_law 305 = .ok (.iconst 2, 1) := by decide +kernel
theorem dL_law_306 : decode cL_law 306 = .ok (.iadd, 1) := by decide +kernel
theorem dL_law_307 : decode cL_law 307 = .ok (.iaload, 1) := by decide +kernel
theorem dL_law_308 : decode cL_law 308 = .ok (.aload_n 0, 1) := by decide +kernel
theorem dL_law_309 : decode cL_law 309 = .ok (.iload 4, 2) := by decide +kernel
theorem dL_law_311 : decode cL_law 311 = .ok (.iconst 3, 1) := by decide +kernel
theorem dL_law_312 : decode cL_law 312 = .ok (.iadd, 1) := by decide +kernel
theorem dL_law_313 : decode cL_law 313 = .ok (.iaload, 1) := by decide +kernel
theorem dL_law_314 : decode cL_law 314 = .ok (.aload_n 0, 1) := by decide +kernel
theorem dL_law_315 : decode cL_law 315 = .ok (.iload 4, 2) := by decide +kernel
theorem dL_law_317 : decode cL_law 317 = .ok (.iconst 4, 1) := by decide +kernel
theorem dL_law_318 : decode cL_law 318 = .ok (.iadd, 1) := by decide +kernel
theorem dL_law_319 : decode cL_law 319 = .ok (.iaload, 1) := by decide +kernel
theorem dL_law_320 : decode cL_law 320 = .ok (.invokevirtual 135, 3) := by decide +kernel
theorem dL_law_323 : decode cL_law 323 = .ok (.istore 6, 2) := by decide +kernel
theorem dL_law_325 : decode cL_law 325 = .ok (.goto 1094, 3) := by decide +kernel
theorem dL_law_328 : decode cL_law 328 = .ok (.aload_n 1, 1) := by decide +kernel
theorem dL_law_329 : decode cL_law 329 = .ok (.aload_n 0, 1) := by decide +kernel
theorem dL_law_330 : decode cL_law 330 = .ok (.iload 4, 2) := by decide +kernel
theorem dL_law_332 : decode cL_law 332 = .ok (.iconst 1, 1) := by decide +kernel
theorem dL_law_333 : decode cL_law 333 = .ok (.iadd, 1) := by decide +kernel
theorem dL_law_334 : decode cL_law 334 = .ok (.iaload, 1) := by decide +kernel
theorem dL_law_335 : decode cL_law 335 = .ok (.aload_n 0, 1) := by decide +kernel
theorem dL_law_336 : decode cL_law 336 = .ok (.iload 4, 2) := by decide +kernel
theorem dL_law_338 : decode cL_law 338 = .ok (.iconst 2, 1) := by decide +kernel
theorem dL_law_339 : decode cL_law 339 = .ok (.iadd, 1) := by decide +kernel
theorem dL_law_340 : decode cL_law 340 = .ok (.iaload, 1) := by decide +kernel
theorem dL_law_341 : decode cL_law 341 = .ok (.aload_n 3, 1) := by decide +kernel
theorem dL_law_342 : decode cL_law 342 = .ok (.invokestatic 136, 3) := by decide +kernel
theorem dL_law_345 : decode cL_law 345 = .ok (.istore 5, 2) := by decide +kernel
theorem dL_law_347 : decode cL_law 347 = .ok (.aload_n 2, 1) := by decide +kernel
theorem dL_law_348 : decode cL_law 348 = .ok (.aload_n 0, 1) := by decide +kernel
theorem dL_law_349 : decode cL_law 349 = .ok (.iload 4, 2) := by decide +kernel
theorem dL_law_351 : decode cL_law 351 = .ok (.iconst 1, 1) := by decide +kernel
theorem dL_law_352 : decode cL_law 352 = .ok (.iadd, 1) := by decide +kernel
theorem dL_law_353 : decode cL_law 353 = .ok (.iaload, 1) := by decide +kernel
theorem dL_law_354 : decode cL_law 354 = .ok (.aload_n 0, 1) := by decide +kernel
theorem dL_law_355 : decode cL_law 355 = .ok (.iload 4, 2) := by decide +kernel
theorem dL_law_357 : decode cL_law 357 = .ok (.iconst 2, 1) := by decide +kernel
theorem dL_law_358 : decode cL_law 358 = .ok (.iadd, 1) := by decide +kernel
theorem dL_law_359 : decode cL_law 359 = .ok (.iaload, 1) := by decide +kernel
theorem dL_law_360 : decode cL_law 360 = .ok (.invokevirtual 139, 3) := by decide +kernel
theorem dL_law_363 : decode cL_law 363 = .ok (.istore 6, 2) := by decide +kernel
theorem dL_law_365 : decode cL_law 365 = .ok (.goto 1054, 3) := by decide +kernel
theorem dL_law_368 : decode cL_law 368 = .ok (.aload_n 1, 1) := by decide +kernel
theorem dL_law_369 : decode cL_law 369 = .ok (.aload_n 0, 1) := by decide +kernel
theorem dL_law_370 : decode cL_law 370 = .ok (.iload 4, 2) := by decide +kernel
theorem dL_law_372 : decode cL_law 372 = .ok (.iconst 1, 1) := by decide +kernel
theorem dL_law_373 : decode cL_law 373 = .ok (.iadd, 1) := by decide +kernel
theorem dL_law_374 : decode cL_law 374 = .ok (.iaload, 1) := by decide +kernel
theorem dL_law_375 : decode cL_law 375 = .ok (.aload_n 0, 1) := by decide +kernel
theorem dL_law_376 : decode cL_law 376 = .ok (.iload 4, 2) := by decide +kernel
theorem dL_law_378 : decode cL_law 378 = .ok (.iconst 2, 1) := by decide +kernel
theorem dL_law_379 : decode cL_law 379 = .ok (.iadd, 1) := by decide +kernel
theorem dL_law_380 : decode cL_law 380 = .ok (.iaload, 1) := by decide +kernel
theorem dL_law_381 : decode cL_law 381 = .ok (.aload_n 0, 1) := by decide +kernel
theorem dL_law_382 : decode cL_law 382 = .ok (.iload 4, 2) := by decide +kernel
theorem dL_law_384 : decode cL_law 384 = .ok (.iconst 3, 1) := by decide +kernel
theorem dL_law_385 : decode cL_law 385 = .ok (.iadd, 1) := by decide +kernel
theorem dL_law_386 : decode cL_law 386 = .ok (.iaload, 1) := by decide +kernel
theorem dL_law_387 : decode cL_law 387 = .ok (.aload_n 3, 1) := by decide +kernel
theorem dL_law_388 : decode cL_law 388 = .ok (.invokestatic 140, 3) := by decide +kernel
theorem dL_law_391 : decode cL_law 391 = .ok (.istore 5, 2) := by decide +kernel
theorem dL_law_393 : decode cL_law 393 = .ok (.aload_n 2, 1) := by decide +kernel
theorem dL_law_394 : decode cL_law 394 = .ok (.aload_n 0, 1) := by decide +kernel
theorem dL_law_395 : decode cL_law 395 = .ok (.iload 4, 2) := by decide +kernel
theorem dL_law_397 : decode cL_law 397 = .ok (.iconst 1, 1) := by decide +kernel
theorem dL_law_398 : decode cL_law 398 = .ok (.iadd, 1) := by decide +kernel
theorem dL_law_399 : decode cL_law 399 = .ok (.iaload, 1) := by decide +kernel
theorem dL_law_400 : decode cL_law 400 = .ok (.aload_n 0, 1) := by decide +kernel
theorem dL_law_401 : decode cL_law 401 = .ok (.iload 4, 2) := by decide +kernel
theorem dL_law_403 : decode cL_law 403 = .ok (.iconst 2, 1) := by decide +kernel
theorem dL_law_404 : decode cL_law 404 = .ok (.iadd, 1) := by decide +kernel
theorem dL_law_405 : decode cL_law 405 = .ok (.iaload, 1) := by decide +kernel
theorem dL_law_406 : decode cL_law 406 = .ok (.aload_n 0, 1) := by decide +kernel
theorem dL_law_407 : decode cL_law 407 = .ok (.iload 4, 2) := by decide +kernel
theorem dL_law_409 : decode cL_law 409 = .ok (.iconst 3, 1) := by decide +kernel
theorem dL_law_410 : decode cL_law 410 = .ok (.iadd, 1) := by decide +kernel
theorem dL_law_411 : decode cL_law 411 = .ok (.iaload, 1) := by decide +kernel
theorem dL_law_412 : decode cL_law 412 = .ok (.invokevirtual 143, 3) := by decide +kernel
theorem dL_law_415 : decode cL_law 415 = .ok (.istore 6, 2) := by decide +kernel
theorem dL_law_417 : decode cL_law 417 = .ok (.goto 1002, 3) := by decide +kernel
theorem dL_law_420 : decode cL_law 420 = .ok (.aload_n 1, 1) := by decide +kernel
theorem dL_law_421 : decode cL_law 421 = .ok (.aload_n 0, 1) := by decide +kernel
theorem dL_law_422 : decode cL_law 422 = .ok (.iload 4, 2) := by decide +kernel
theorem dL_law_424 : decode cL_law 424 = .ok (.iconst 1, 1) := by decide +kernel
theorem dL_law_425 : decode cL_law 425 = .ok (.iadd, 1) := by decide +kernel
theorem dL_law_426 : decode cL_law 426 = .ok (.iaload, 1) := by decide +kernel
theorem dL_law_427 : decode cL_law 427 = .ok (.aload_n 0, 1) := by decide +kernel
theorem dL_law_428 : decode cL_law 428 = .ok (.iload 4, 2) := by decide +kernel
theorem dL_law_430 : decode cL_law 430 = .ok (.iconst 2, 1) := by decide +kernel
theorem dL_law_431 : decode cL_law 431 = .ok (.iadd, 1) := by decide +kernel
theorem dL_law_432 : decode cL_law 432 = .ok (.iaload, 1) := by decide +kernel
theorem dL_law_433 : decode cL_law 433 = .ok (.ifCond .eq 7, 3) := by decide +kernel
theorem dL_law_436 : decode cL_law 436 = .ok (.iconst 1, 1) := by decide +kernel
theorem dL_law_437 : decode cL_law 437 = .ok (.goto 4, 3) := by decide +kernel
theorem dL_law_440 : decode cL_law 440 = .ok (.iconst 0, 1) := by decide +kernel
theorem dL_law_441 : decode cL_law 441 = .ok (.aload_n 3, 1) := by decide +kernel
theorem dL_law_442 : decode cL_law 442 = .ok (.invokestatic 144, 3) := by decide +kernel
theorem dL_law_445 : decode cL_law 445 = .ok (.istore 5, 2) := by decide +kernel
theorem dL_law_447 : decode cL_law 447 = .ok (.aload_n 2, 1) := by decide +kernel
theorem dL_law_448 : decode cL_law 448 = .ok (.aload_n 0, 1) := by decide +kernel
theorem dL_law_449 : decode cL_law 449 = .ok (.iload 4, 2) := by decide +kernel
theorem dL_law_451 : decode cL_law 451 = .ok (.iconst 1, 1) := by decide +kernel
theorem dL_law_452 : decode cL_law 452 = .ok (.iadd, 1) := by decide +kernel
theorem dL_law_453 : decode cL_law 453 = .ok (.iaload, 1) := by decide +kernel
theorem dL_law_454 : decode cL_law 454 = .ok (.aload_n 0, 1) := by decide +kernel
theorem dL_law_455 : decode cL_law 455 = .ok (.iload 4, 2) := by decide +kernel
theorem dL_law_457 : decode cL_law 457 = .ok (.iconst 2, 1) := by decide +kernel
theorem dL_law_458 : decode cL_law 458 = .ok (.iadd, 1) := by decide +kernel
theorem dL_law_459 : decode cL_law 459 = .ok (.iaload, 1) := by decide +kernel
theorem dL_law_460 : decode cL_law 460 = .ok (.ifCond .eq 7, 3) := by decide +kernel
theorem dL_law_463 : decode cL_law 463 = .ok (.iconst 1, 1) := by decide +kernel
theorem dL_law_464 : decode cL_law 464 = .ok (.goto 4, 3) := by decide +kernel
theorem dL_law_467 : decode cL_law 467 = .ok (.iconst 0, 1) := by decide +kernel
theorem dL_law_468 : decode cL_law 468 = .ok (.invokevirtual 147, 3) := by decide +kernel
theorem dL_law_471 : decode cL_law 471 = .ok (.istore 6, 2) := by decide +kernel
theorem dL_law_473 : decode cL_law 473 = .ok (.goto 946, 3) := by decide +kernel
theorem dL_law_476 : decode cL_law 476 = .ok (.aload_n 1, 1) := by decide +kernel
theorem dL_law_477 : decode cL_law 477 = .ok (.aload_n 0, 1) := by decide +kernel
theorem dL_law_478 : decode cL_law 478 = .ok (.iload 4, 2) := by decide +kernel
theorem dL_law_480 : decode cL_law 480 = .ok (.iconst 1, 1) := by decide +kernel
theorem dL_law_481 : decode cL_law 481 = .ok (.iadd, 1) := by decide +kernel
theorem dL_law_482 : decode cL_law 482 = .ok (.iaload, 1) := by decide +kernel
theorem dL_law_483 : decode cL_law 483 = .ok (.aload_n 3, 1) := by decide +kernel
theorem dL_law_484 : decode cL_law 484 = .ok (.invokestatic 148, 3) := by decide +kernel
theorem dL_law_487 : decode cL_law 487 = .ok (.istore 5, 2) := by decide +kernel
theorem dL_law_489 : decode cL_law 489 = .ok (.aload_n 2, 1) := by decide +kernel
theorem dL_law_490 : decode cL_law 490 = .ok (.aload_n 0, 1) := by decide +kernel
theorem dL_law_491 : decode cL_law 491 = .ok (.iload 4, 2) := by decide +kernel
theorem dL_law_493 : decode cL_law 493 = .ok (.iconst 1, 1) := by decide +kernel
theorem dL_law_494 : decode cL_law 494 = .ok (.iadd, 1) := by decide +kernel
theorem dL_law_495 : decode cL_law 495 = .ok (.iaload, 1) := by decide +kernel
theorem dL_law_496 : decode cL_law 496 = .ok (.invokevirtual 151, 3) := by decide +kernel
theorem dL_law_499 : decode cL_law 499 = .ok (.istore 6, 2) := by decide +kernel
theorem dL_law_501 : decode cL_law 501 = .ok (.goto 918, 3) := by decide +kernel
theorem dL_law_504 : decode cL_law 504 = .ok (.aload_n 1, 1) := by decide +kernel
theorem dL_law_505 : decode cL_law 505 = .ok (.aload_n 0, 1) := by decide +kernel
theorem dL_law_506 : decode cL_law 506 = .ok (.iload 4, 2) := by decide +kernel
theorem dL_law_508 : decode cL_law 508 = .ok (.iconst 1, 1) := by decide +kernel
theorem dL_law_509 : decode cL_law 509 = .ok (.iadd, 1) := by decide +kernel
theorem dL_law_510 : decode cL_law 510 = .ok (.iaload, 1) := by decide +kernel
theorem dL_law_511 : decode cL_law 511 = .ok (.aload_n 3, 1) := by decide +kernel
theorem dL_law_512 : decode cL_law 512 = .ok (.invokestatic 152, 3) := by decide +kernel
theorem dL_law_515 : decode cL_law 515 = .ok (.istore 5, 2) := by decide +kernel
theorem dL_law_517 : decode cL_law 517 = .ok (.aload_n 2, 1) := by decide +kernel
theorem dL_law_518 : decode cL_law 518 = .ok (.aload_n 0, 1) := by decide +kernel
theorem dL_law_519 : decode cL_law 519 = .ok (.iload 4, 2) := by decide +kernel
theorem dL_law_521 : decode cL_law 521 = .ok (.iconst 1, 1) := by decide +kernel
theorem dL_law_522 : decode cL_law 522 = .ok (.iadd, 1) := by decide +kernel
theorem dL_law_523 : decode cL_law 523 = .ok (.iaload, 1) := by decide +kernel
theorem dL_law_524 : decode cL_law 524 = .ok (.invokevirtual 154, 3) := by decide +kernel
theorem dL_law_527 : decode cL_law 527 = .ok (.istore 6, 2) := by decide +kernel
theorem dL_law_529 : decode cL_law 529 = .ok (.goto 890, 3) := by decide +kernel
theorem dL_law_532 : decode cL_law 532 = .ok (.aload_n 1, 1) := by decide +kernel
theorem dL_law_533 : decode cL_law 533 = .ok (.aload_n 0, 1) := by decide +kernel
theorem dL_law_534 : decode cL_law 534 = .ok (.iload 4, 2) := by decide +kernel
theorem dL_law_536 : decode cL_law 536 = .ok (.iconst 1, 1) := by decide +kernel
theorem dL_law_537 : decode cL_law 537 = .ok (.iadd, 1) := by decide +kernel
theorem dL_law_538 : decode cL_law 538 = .ok (.iaload, 1) := by decide +kernel
theorem dL_law_539 : decode cL_law 539 = .ok (.aload_n 3, 1) := by decide +kernel
theorem dL_law_540 : decode cL_law 540 = .ok (.invokestatic 155, 3) := by decide +kernel
theorem dL_law_543 : decode cL_law 543 = .ok (.istore 5, 2) := by decide +kernel
theorem dL_law_545 : decode cL_law 545 = .ok (.aload_n 2, 1) := by decide +kernel
theorem dL_law_546 : decode cL_law 546 = .ok (.aload_n 0, 1) := by decide +kernel
theorem dL_law_547 : decode cL_law 547 = .ok (.iload 4, 2) := by decide +kernel
theorem dL_law_549 : decode cL_law 549 = .ok (.iconst 1, 1) := by decide +kernel
theorem dL_law_550 : decode cL_law 550 = .ok (.iadd, 1) := by decide +kernel
theorem dL_law_551 : decode cL_law 551 = .ok (.iaload, 1) := by decide +kernel
theorem dL_law_552 : decode cL_law 552 = .ok (.invokevirtual 157, 3) := by decide +kernel
theorem dL_law_555 : decode cL_law 555 = .ok (.istore 6, 2) := by decide +kernel
theorem dL_law_557 : decode cL_law 557 = .ok (.goto 862, 3) := by decide +kernel
theorem dL_law_560 : decode cL_law 560 = .ok (.aload_n 1, 1) := by decide +kernel
theorem dL_law_561 : decode cL_law 561 = .ok (.aload_n 0, 1) := by decide +kernel
theorem dL_law_562 : decode cL_law 562 = .ok (.iload 4, 2) := by decide +kernel
theorem dL_law_564 : decode cL_law 564 = .ok (.iconst 1, 1) := by decide +kernel
theorem dL_law_565 : decode cL_law 565 = .ok (.iadd, 1) := by decide +kernel
theorem dL_law_566 : decode cL_law 566 = .ok (.iaload, 1) := by decide +kernel
theorem dL_law_567 : decode cL_law 567 = .ok (.aload_n 3, 1) := by decide +kernel
theorem dL_law_568 : decode cL_law 568 = .ok (.invokestatic 158, 3) := by decide +kernel
theorem dL_law_571 : decode cL_law 571 = .ok (.istore 5, 2) := by decide +kernel
theorem dL_law_573 : decode cL_law 573 = .ok (.aload_n 2, 1) := by decide +kernel
theorem dL_law_574 : decode cL_law 574 = .ok (.aload_n 0, 1) := by decide +kernel
theorem dL_law_575 : decode cL_law 575 = .ok (.iload 4, 2) := by decide +kernel
theorem dL_law_577 : decode cL_law 577 = .ok (.iconst 1, 1) := by decide +kernel
theorem dL_law_578 : decode cL_law 578 = .ok (.iadd, 1) := by decide +kernel
theorem dL_law_579 : decode cL_law 579 = .ok (.iaload, 1) := by decide +kernel
theorem dL_law_580 : decode cL_law 580 = .ok (.invokevirtual 160, 3) := by decide +kernel
theorem dL_law_583 : decode cL_law 583 = .ok (.istore 6, 2) := by decide +kernel
theorem dL_law_585 : decode cL_law 585 = .ok (.goto 834, 3) := by decide +kernel
theorem dL_law_588 : decode cL_law 588 = .ok (.aload_n 1, 1) := by decide +kernel
theorem dL_law_589 : decode cL_law 589 = .ok (.aload_n 0, 1) := by decide +kernel
theorem dL_law_590 : decode cL_law 590 = .ok (.iload 4, 2) := by decide +kernel
theorem dL_law_592 : decode cL_law 592 = .ok (.iconst 1, 1) := by decide +kernel
theorem dL_law_593 : decode cL_law 593 = .ok (.iadd, 1) := by decide +kernel
theorem dL_law_594 : decode cL_law 594 = .ok (.iaload, 1) := by decide +kernel
theorem dL_law_595 : decode cL_law 595 = .ok (.aload_n 3, 1) := by decide +kernel
theorem dL_law_596 : decode cL_law 596 = .ok (.invokestatic 161, 3) := by decide +kernel
theorem dL_law_599 : decode cL_law 599 = .ok (.istore 5, 2) := by decide +kernel
theorem dL_law_601 : decode cL_law 601 = .ok (.aload_n 2, 1) := by decide +kernel
theorem dL_law_602 : decode cL_law 602 = .ok (.aload_n 0, 1) := by decide +kernel
theorem dL_law_603 : decode cL_law 603 = .ok (.iload 4, 2) := by decide +kernel
theorem dL_law_605 : decode cL_law 605 = .ok (.iconst 1, 1) := by decide +kernel
theorem dL_law_606 : decode cL_law 606 = .ok (.iadd, 1) := by decide +kernel
theorem dL_law_607 : decode cL_law 607 = .ok (.iaload, 1) := by decide +kernel
theorem dL_law_608 : decode cL_law 608 = .ok (.invokevirtual 163, 3) := by decide +kernel
theorem dL_law_611 : decode cL_law 611 = .ok (.lstore 6, 2) := by decide +kernel
theorem dL_law_613 : decode cL_law 613 = .ok (.goto 806, 3) := by decide +kernel
theorem dL_law_616 : decode cL_law 616 = .ok (.aload_n 1, 1) := by decide +kernel
theorem dL_law_617 : decode cL_law 617 = .ok (.aload_n 0, 1) := by decide +kernel
theorem dL_law_618 : decode cL_law 618 = .ok (.iload 4, 2) := by decide +kernel
theorem dL_law_620 : decode cL_law 620 = .ok (.iconst 1, 1) := by decide +kernel
theorem dL_law_621 : decode cL_law 621 = .ok (.iadd, 1) := by decide +kernel
theorem dL_law_622 : decode cL_law 622 = .ok (.iaload, 1) := by decide +kernel
theorem dL_law_623 : decode cL_law 623 = .ok (.aload_n 0, 1) := by decide +kernel
theorem dL_law_624 : decode cL_law 624 = .ok (.iload 4, 2) := by decide +kernel
theorem dL_law_626 : decode cL_law 626 = .ok (.iconst 2, 1) := by decide +kernel
theorem dL_law_627 : decode cL_law 627 = .ok (.iadd, 1) := by decide +kernel
theorem dL_law_628 : decode cL_law 628 = .ok (.iaload, 1) := by decide +kernel
theorem dL_law_629 : decode cL_law 629 = .ok (.i2l, 1) := by decide +kernel
theorem dL_law_630 : decode cL_law 630 = .ok (.bipush 32, 2) := by decide +kernel
theorem dL_law_632 : decode cL_law 632 = .ok (.lshl, 1) := by decide +kernel
theorem dL_law_633 : decode cL_law 633 = .ok (.aload_n 0, 1) := by decide +kernel
theorem dL_law_634 : decode cL_law 634 = .ok (.iload 4, 2) := by decide +kernel
theorem dL_law_636 : decode cL_law 636 = .ok (.iconst 3, 1) := by decide +kernel
theorem dL_law_637 : decode cL_law 637 = .ok (.iadd, 1) := by decide +kernel
theorem dL_law_638 : decode cL_law 638 = .ok (.iaload, 1) := by decide +kernel
theorem dL_law_639 : decode cL_law 639 = .ok (.i2l, 1) := by decide +kernel
theorem dL_law_640 : decode cL_law 640 = .ok (.ldc2_w 124, 3) := by decide +kernel
theorem dL_law_643 : decode cL_law 643 = .ok (.land, 1) := by decide +kernel
theorem dL_law_644 : decode cL_law 644 = .ok (.lor, 1) := by decide +kernel
theorem dL_law_645 : decode cL_law 645 = .ok (.aload_n 3, 1) := by decide +kernel
theorem dL_law_646 : decode cL_law 646 = .ok (.invokestatic 164, 3) := by decide +kernel
theorem dL_law_649 : decode cL_law 649 = .ok (.istore 5, 2) := by decide +kernel
theorem dL_law_651 : decode cL_law 651 = .ok (.aload_n 2, 1) := by decide +kernel
theorem dL_law_652 : decode cL_law 652 = .ok (.aload_n 0, 1) := by decide +kernel
theorem dL_law_653 : decode cL_law 653 = .ok (.iload 4, 2) := by decide +kernel
theorem dL_law_655 : decode cL_law 655 = .ok (.iconst 1, 1) := by decide +kernel
theorem dL_law_656 : decode cL_law 656 = .ok (.iadd, 1) := by decide +kernel
theorem dL_law_657 : decode cL_law 657 = .ok (.iaload, 1) := by decide +kernel
theorem dL_law_658 : decode cL_law 658 = .ok (.aload_n 0, 1) := by decide +kernel
theorem dL_law_659 : decode cL_law 659 = .ok (.iload 4, 2) := by decide +kernel
theorem dL_law_661 : decode cL_law 661 = .ok (.iconst 2, 1) := by decide +kernel
theorem dL_law_662 : decode cL_law 662 = .ok (.iadd, 1) := by decide +kernel
theorem dL_law_663 : decode cL_law 663 = .ok (.iaload, 1) := by decide +kernel
theorem dL_law_664 : decode cL_law 664 = .ok (.i2l, 1) := by decide +kernel
theorem dL_law_665 : decode cL_law 665 = .ok (.bipush 32, 2) := by decide +kernel
theorem dL_law_667 : decode cL_law 667 = .ok (.lshl, 1) := by decide +kernel
theorem dL_law_668 : decode cL_law 668 = .ok (.aload_n 0, 1) := by decide +kernel
theorem dL_law_669 : decode cL_law 669 = .ok (.iload 4, 2) := by decide +kernel
theorem dL_law_671 : decode cL_law 671 = .ok (.iconst 3, 1) := by decide +kernel
theorem dL_law_672 : decode cL_law 672 = .ok (.iadd, 1) := by decide +kernel
theorem dL_law_673 : decode cL_law 673 = .ok (.iaload, 1) := by decide +kernel
theorem dL_law_674 : decode cL_law 674 = .ok (.i2l, 1) := by decide +kernel
theorem dL_law_675 : decode cL_law 675 = .ok (.ldc2_w 124, 3) := by decide +kernel
theorem dL_law_678 : decode cL_law 678 = .ok (.land, 1) := by decide +kernel
theorem dL_law_679 : decode cL_law 679 = .ok (.lor, 1) := by decide +kernel
theorem dL_law_680 : decode cL_law 680 = .ok (.invokevirtual 166, 3) := by decide +kernel
theorem dL_law_683 : decode cL_law 683 = .ok (.istore 6, 2) := by decide +kernel
theorem dL_law_685 : decode cL_law 685 = .ok (.goto 734, 3) := by decide +kernel
theorem dL_law_688 : decode cL_law 688 = .ok (.aload_n 1, 1) := by decide +kernel
theorem dL_law_689 : decode cL_law 689 = .ok (.invokevirtual 167, 3) := by decide +kernel
theorem dL_law_692 : decode cL_law 692 = .ok (.pop, 1) := by decide +kernel
theorem dL_law_693 : decode cL_law 693 = .ok (.aload_n 2, 1) := by decide +kernel
theorem dL_law_694 : decode cL_law 694 = .ok (.invokevirtual 171, 3) := by decide +kernel
theorem dL_law_697 : decode cL_law 697 = .ok (.pop, 1) := by decide +kernel
theorem dL_law_698 : decode cL_law 698 = .ok (.goto 721, 3) := by decide +kernel
theorem dL_law_701 : decode cL_law 701 = .ok (.aload_n 1, 1) := by decide +kernel
theorem dL_law_702 : decode cL_law 702 = .ok (.invokevirtual 172, 3) := by decide +kernel
theorem dL_law_705 : decode cL_law 705 = .ok (.aload_n 2, 1) := by decide +kernel
theorem dL_law_706 : decode cL_law 706 = .ok (.invokevirtual 175, 3) := by decide +kernel
theorem dL_law_709 : decode cL_law 709 = .ok (.if_icmp .eq 710, 3) := by decide +kernel
theorem dL_law_712 : decode cL_law 712 = .ok (.iconst 0, 1) := by decide +kernel
theorem dL_law_713 : decode cL_law 713 = .ok (.ireturn, 1) := by decide +kernel
theorem dL_law_714 : decode cL_law 714 = .ok (.aload_n 1, 1) := by decide +kernel
theorem dL_law_715 : decode cL_law 715 = .ok (.aload_n 0, 1) := by decide +kernel
theorem dL_law_716 : decode cL_law 716 = .ok (.iload 4, 2) := by decide +kernel
theorem dL_law_718 : decode cL_law 718 = .ok (.iconst 1, 1) := by decide +kernel
theorem dL_law_719 : decode cL_law 719 = .ok (.iadd, 1) := by decide +kernel
theorem dL_law_720 : decode cL_law 720 = .ok (.iaload, 1) := by decide +kernel
theorem dL_law_721 : decode cL_law 721 = .ok (.aload_n 0, 1) := by decide +kernel
theorem dL_law_722 : decode cL_law 722 = .ok (.iload 4, 2) := by decide +kernel
theorem dL_law_724 : decode cL_law 724 = .ok (.iconst 2, 1) := by decide +kernel
theorem dL_law_725 : decode cL_law 725 = .ok (.iadd, 1) := by decide +kernel
theorem dL_law_726 : decode cL_law 726 = .ok (.iaload, 1) := by decide +kernel
theorem dL_law_727 : decode cL_law 727 = .ok (.aload_n 3, 1) := by decide +kernel
theorem dL_law_728 : decode cL_law 728 = .ok (.invokestatic 176, 3) := by decide +kernel
theorem dL_law_731 : decode cL_law 731 = .ok (.istore 5, 2) := by decide +kernel
theorem dL_law_733 : decode cL_law 733 = .ok (.aload_n 2, 1) := by decide +kernel
theorem dL_law_734 : decode cL_law 734 = .ok (.aload_n 0, 1) := by decide +kernel
theorem dL_law_735 : decode cL_law 735 = .ok (.iload 4, 2) := by decide +kernel
theorem dL_law_737 : decode cL_law 737 = .ok (.iconst 1, 1) := by decide +kernel
theorem dL_law_738 : decode cL_law 738 = .ok (.iadd, 1) := by decide +kernel
theorem dL_law_739 : decode cL_law 739 = .ok (.iaload, 1) := by decide +kernel
theorem dL_law_740 : decode cL_law 740 = .ok (.aload_n 0, 1) := by decide +kernel
theorem dL_law_741 : decode cL_law 741 = .ok (.iload 4, 2) := by decide +kernel
theorem dL_law_743 : decode cL_law 743 = .ok (.iconst 2, 1) := by decide +kernel
theorem dL_law_744 : decode cL_law 744 = .ok (.iadd, 1) := by decide +kernel
theorem dL_law_745 : decode cL_law 745 = .ok (.iaload, 1) := by decide +kernel
theorem dL_law_746 : decode cL_law 746 = .ok (.invokevirtual 178, 3) := by decide +kernel
theorem dL_law_749 : decode cL_law 749 = .ok (.istore 6, 2) := by decide +kernel
theorem dL_law_751 : decode cL_law 751 = .ok (.goto 668, 3) := by decide +kernel
theorem dL_law_754 : decode cL_law 754 = .ok (.aload_n 1, 1) := by decide +kernel
theorem dL_law_755 : decode cL_law 755 = .ok (.aload_n 0, 1) := by decide +kernel
theorem dL_law_756 : decode cL_law 756 = .ok (.iload 4, 2) := by decide +kernel
theorem dL_law_758 : decode cL_law 758 = .ok (.iconst 1, 1) := by decide +kernel
theorem dL_law_759 : decode cL_law 759 = .ok (.iadd, 1) := by decide +kernel
theorem dL_law_760 : decode cL_law 760 = .ok (.iaload, 1) := by decide +kernel
theorem dL_law_761 : decode cL_law 761 = .ok (.aload_n 3, 1) := by decide +kernel
theorem dL_law_762 : decode cL_law 762 = .ok (.invokestatic 179, 3) := by decide +kernel
theorem dL_law_765 : decode cL_law 765 = .ok (.istore 5, 2) := by decide +kernel
theorem dL_law_767 : decode cL_law 767 = .ok (.aload_n 2, 1) := by decide +kernel
theorem dL_law_768 : decode cL_law 768 = .ok (.aload_n 0, 1) := by decide +kernel
theorem dL_law_769 : decode cL_law 769 = .ok (.iload 4, 2) := by decide +kernel
theorem dL_law_771 : decode cL_law 771 = .ok (.iconst 1, 1) := by decide +kernel
theorem dL_law_772 : decode cL_law 772 = .ok (.iadd, 1) := by decide +kernel
theorem dL_law_773 : decode cL_law 773 = .ok (.iaload, 1) := by decide +kernel
theorem dL_law_774 : decode cL_law 774 = .ok (.invokevirtual 181, 3) := by decide +kernel
theorem dL_law_777 : decode cL_law 777 = .ok (.istore 6, 2) := by decide +kernel
theorem dL_law_779 : decode cL_law 779 = .ok (.goto 640, 3) := by decide +kernel
theorem dL_law_782 : decode cL_law 782 = .ok (.aload_n 1, 1) := by decide +kernel
theorem dL_law_783 : decode cL_law 783 = .ok (.aload_n 0, 1) := by decide +kernel
theorem dL_law_784 : decode cL_law 784 = .ok (.iload 4, 2) := by decide +kernel
theorem dL_law_786 : decode cL_law 786 = .ok (.iconst 1, 1) := by decide +kernel
theorem dL_law_787 : decode cL_law 787 = .ok (.iadd, 1) := by decide +kernel
theorem dL_law_788 : decode cL_law 788 = .ok (.iaload, 1) := by decide +kernel
theorem dL_law_789 : decode cL_law 789 = .ok (.i2l, 1) := by decide +kernel
theorem dL_law_790 : decode cL_law 790 = .ok (.bipush 32, 2) := by decide +kernel
theorem dL_law_792 : decode cL_law 792 = .ok (.lshl, 1) := by decide +kernel
theorem dL_law_793 : decode cL_law 793 = .ok (.aload_n 0, 1) := by decide +kernel
theorem dL_law_794 : decode cL_law 794 = .ok (.iload 4, 2) := by decide +kernel
theorem dL_law_796 : decode cL_law 796 = .ok (.iconst 2, 1) := by decide +kernel
theorem dL_law_797 : decode cL_law 797 = .ok (.iadd, 1) := by decide +kernel
theorem dL_law_798 : decode cL_law 798 = .ok (.iaload, 1) := by decide +kernel
theorem dL_law_799 : decode cL_law 799 = .ok (.i2l, 1) := by decide +kernel
theorem dL_law_800 : decode cL_law 800 = .ok (.ldc2_w 124, 3) := by decide +kernel
theorem dL_law_803 : decode cL_law 803 = .ok (.land, 1) := by decide +kernel
theorem dL_law_804 : decode cL_law 804 = .ok (.lor, 1) := by decide +kernel
theorem dL_law_805 : decode cL_law 805 = .ok (.aload_n 0, 1) := by decide +kernel
theorem dL_law_806 : decode cL_law 806 = .ok (.iload 4, 2) := by decide +kernel
theorem dL_law_808 : decode cL_law 808 = .ok (.iconst 3, 1) := by decide +kernel
theorem dL_law_809 : decode cL_law 809 = .ok (.iadd, 1) := by decide +kernel
theorem dL_law_810 : decode cL_law 810 = .ok (.iaload, 1) := by decide +kernel
theorem dL_law_811 : decode cL_law 811 = .ok (.aload_n 3, 1) := by decide +kernel
theorem dL_law_812 : decode cL_law 812 = .ok (.invokestatic 182, 3) := by decide +kernel
theorem dL_law_815 : decode cL_law 815 = .ok (.istore 5, 2) := by decide +kernel
theorem dL_law_817 : decode cL_law 817 = .ok (.aload_n 2, 1) := by decide +kernel
theorem dL_law_818 : decode cL_law 818 = .ok (.aload_n 0, 1) := by decide +kernel
theorem dL_law_819 : decode cL_law 819 = .ok (.iload 4, 2) := by decide +kernel
theorem dL_law_821 : decode cL_law 821 = .ok (.iconst 1, 1) := by decide +kernel
theorem dL_law_822 : decode cL_law 822 = .ok (.iadd, 1) := by decide +kernel
theorem dL_law_823 : decode cL_law 823 = .ok (.iaload, 1) := by decide +kernel
theorem dL_law_824 : decode cL_law 824 = .ok (.i2l, 1) := by decide +kernel
theorem dL_law_825 : decode cL_law 825 = .ok (.bipush 32, 2) := by decide +kernel
theorem dL_law_827 : decode cL_law 827 = .ok (.lshl, 1) := by decide +kernel
theorem dL_law_828 : decode cL_law 828 = .ok (.aload_n 0, 1) := by decide +kernel
theorem dL_law_829 : decode cL_law 829 = .ok (.iload 4, 2) := by decide +kernel
theorem dL_law_831 : decode cL_law 831 = .ok (.iconst 2, 1) := by decide +kernel
theorem dL_law_832 : decode cL_law 832 = .ok (.iadd, 1) := by decide +kernel
theorem dL_law_833 : decode cL_law 833 = .ok (.iaload, 1) := by decide +kernel
theorem dL_law_834 : decode cL_law 834 = .ok (.i2l, 1) := by decide +kernel
theorem dL_law_835 : decode cL_law 835 = .ok (.ldc2_w 124, 3) := by decide +kernel
theorem dL_law_838 : decode cL_law 838 = .ok (.land, 1) := by decide +kernel
theorem dL_law_839 : decode cL_law 839 = .ok (.lor, 1) := by decide +kernel
theorem dL_law_840 : decode cL_law 840 = .ok (.aload_n 0, 1) := by decide +kernel
theorem dL_law_841 : decode cL_law 841 = .ok (.iload 4, 2) := by decide +kernel
theorem dL_law_843 : decode cL_law 843 = .ok (.iconst 3, 1) := by decide +kernel
theorem dL_law_844 : decode cL_law 844 = .ok (.iadd, 1) := by decide +kernel
theorem dL_law_845 : decode cL_law 845 = .ok (.iaload, 1) := by decide +kernel
theorem dL_law_846 : decode cL_law 846 = .ok (.invokevirtual 185, 3) := by decide +kernel
theorem dL_law_849 : decode cL_law 849 = .ok (.istore 6, 2) := by decide +kernel
theorem dL_law_851 : decode cL_law 851 = .ok (.goto 568, 3) := by decide +kernel
theorem dL_law_854 : decode cL_law 854 = .ok (.aload_n 1, 1) := by decide +kernel
theorem dL_law_855 : decode cL_law 855 = .ok (.aload_n 0, 1) := by decide +kernel
theorem dL_law_856 : decode cL_law 856 = .ok (.iload 4, 2) := by decide +kernel
theorem dL_law_858 : decode cL_law 858 = .ok (.iconst 1, 1) := by decide +kernel
theorem dL_law_859 : decode cL_law 859 = .ok (.iadd, 1) := by decide +kernel
theorem dL_law_860 : decode cL_law 860 = .ok (.iaload, 1) := by decide +kernel
theorem dL_law_861 : decode cL_law 861 = .ok (.aload_n 0, 1) := by decide +kernel
theorem dL_law_862 : decode cL_law 862 = .ok (.iload 4, 2) := by decide +kernel
theorem dL_law_864 : decode cL_law 864 = .ok (.iconst 2, 1) := by decide +kernel
theorem dL_law_865 : decode cL_law 865 = .ok (.iadd, 1) := by decide +kernel
theorem dL_law_866 : decode cL_law 866 = .ok (.iaload, 1) := by decide +kernel
theorem dL_law_867 : decode cL_law 867 = .ok (.aload_n 0, 1) := by decide +kernel
theorem dL_law_868 : decode cL_law 868 = .ok (.iload 4, 2) := by decide +kernel
theorem dL_law_870 : decode cL_law 870 = .ok (.iconst 3, 1) := by decide +kernel
theorem dL_law_871 : decode cL_law 871 = .ok (.iadd, 1) := by decide +kernel
theorem dL_law_872 : decode cL_law 872 = .ok (.iaload, 1) := by decide +kernel
theorem dL_law_873 : decode cL_law 873 = .ok (.aload_n 0, 1) := by decide +kernel
theorem dL_law_874 : decode cL_law 874 = .ok (.iload 4, 2) := by decide +kernel
theorem dL_law_876 : decode cL_law 876 = .ok (.iconst 4, 1) := by decide +kernel
theorem dL_law_877 : decode cL_law 877 = .ok (.iadd, 1) := by decide +kernel
theorem dL_law_878 : decode cL_law 878 = .ok (.iaload, 1) := by decide +kernel
theorem dL_law_879 : decode cL_law 879 = .ok (.aload_n 0, 1) := by decide +kernel
theorem dL_law_880 : decode cL_law 880 = .ok (.iload 4, 2) := by decide +kernel
theorem dL_law_882 : decode cL_law 882 = .ok (.iconst 5, 1) := by decide +kernel
theorem dL_law_883 : decode cL_law 883 = .ok (.iadd, 1) := by decide +kernel
theorem dL_law_884 : decode cL_law 884 = .ok (.iaload, 1) := by decide +kernel
theorem dL_law_885 : decode cL_law 885 = .ok (.aload_n 3, 1) := by decide +kernel
theorem dL_law_886 : decode cL_law 886 = .ok (.invokestatic 186, 3) := by decide +kernel
theorem dL_law_889 : decode cL_law 889 = .ok (.istore 5, 2) := by decide +kernel
theorem dL_law_891 : decode cL_law 891 = .ok (.aload_n 2, 1) := by decide +kernel
theorem dL_law_892 : decode cL_law 892 = .ok (.aload_n 0, 1) := by decide +kernel
theorem dL_law_893 : decode cL_law 893 = .ok (.iload 4, 2) := by decide +kernel
theorem dL_law_895 : decode cL_law 895 = .ok (.iconst 1, 1) := by decide +kernel
theorem dL_law_896 : decode cL_law 896 = .ok (.iadd, 1) := by decide +kernel
theorem dL_law_897 : decode cL_law 897 = .ok (.iaload, 1) := by decide +kernel
theorem dL_law_898 : decode cL_law 898 = .ok (.aload_n 0, 1) := by decide +kernel
theorem dL_law_899 : decode cL_law 899 = .ok (.iload 4, 2) := by decide +kernel
theorem dL_law_901 : decode cL_law 901 = .ok (.iconst 2, 1) := by decide +kernel
theorem dL_law_902 : decode cL_law 902 = .ok (.iadd, 1) := by decide +kernel
theorem dL_law_903 : decode cL_law 903 = .ok (.iaload, 1) := by decide +kernel
theorem dL_law_904 : decode cL_law 904 = .ok (.aload_n 0, 1) := by decide +kernel
theorem dL_law_905 : decode cL_law 905 = .ok (.iload 4, 2) := by decide +kernel
theorem dL_law_907 : decode cL_law 907 = .ok (.iconst 3, 1) := by decide +kernel
theorem dL_law_908 : decode cL_law 908 = .ok (.iadd, 1) := by decide +kernel
theorem dL_law_909 : decode cL_law 909 = .ok (.iaload, 1) := by decide +kernel
theorem dL_law_910 : decode cL_law 910 = .ok (.aload_n 0, 1) := by decide +kernel
theorem dL_law_911 : decode cL_law 911 = .ok (.iload 4, 2) := by decide +kernel
theorem dL_law_913 : decode cL_law 913 = .ok (.iconst 4, 1) := by decide +kernel
theorem dL_law_914 : decode cL_law 914 = .ok (.iadd, 1) := by decide +kernel
theorem dL_law_915 : decode cL_law 915 = .ok (.iaload, 1) := by decide +kernel
theorem dL_law_916 : decode cL_law 916 = .ok (.aload_n 0, 1) := by decide +kernel
theorem dL_law_917 : decode cL_law 917 = .ok (.iload 4, 2) := by decide +kernel
theorem dL_law_919 : decode cL_law 919 = .ok (.iconst 5, 1) := by decide +kernel
theorem dL_law_920 : decode cL_law 920 = .ok (.iadd, 1) := by decide +kernel
theorem dL_law_921 : decode cL_law 921 = .ok (.iaload, 1) := by decide +kernel
theorem dL_law_922 : decode cL_law 922 = .ok (.invokevirtual 189, 3) := by decide +kernel
theorem dL_law_925 : decode cL_law 925 = .ok (.istore 6, 2) := by decide +kernel
theorem dL_law_927 : decode cL_law 927 = .ok (.goto 492, 3) := by decide +kernel
theorem dL_law_930 : decode cL_law 930 = .ok (.aload_n 1, 1) := by decide +kernel
theorem dL_law_931 : decode cL_law 931 = .ok (.aload_n 0, 1) := by decide +kernel
theorem dL_law_932 : decode cL_law 932 = .ok (.iload 4, 2) := by decide +kernel
theorem dL_law_934 : decode cL_law 934 = .ok (.iconst 1, 1) := by decide +kernel
theorem dL_law_935 : decode cL_law 935 = .ok (.iadd, 1) := by decide +kernel
theorem dL_law_936 : decode cL_law 936 = .ok (.iaload, 1) := by decide +kernel
theorem dL_law_937 : decode cL_law 937 = .ok (.aload_n 0, 1) := by decide +kernel
theorem dL_law_938 : decode cL_law 938 = .ok (.iload 4, 2) := by decide +kernel
theorem dL_law_940 : decode cL_law 940 = .ok (.iconst 2, 1) := by decide +kernel
theorem dL_law_941 : decode cL_law 941 = .ok (.iadd, 1) := by decide +kernel
theorem dL_law_942 : decode cL_law 942 = .ok (.iaload, 1) := by decide +kernel
theorem dL_law_943 : decode cL_law 943 = .ok (.aload_n 3, 1) := by decide +kernel
theorem dL_law_944 : decode cL_law 944 = .ok (.invokestatic 190, 3) := by decide +kernel
theorem dL_law_947 : decode cL_law 947 = .ok (.istore 5, 2) := by decide +kernel
theorem dL_law_949 : decode cL_law 949 = .ok (.aload_n 2, 1) := by decide +kernel
theorem dL_law_950 : decode cL_law 950 = .ok (.aload_n 0, 1) := by decide +kernel
theorem dL_law_951 : decode cL_law 951 = .ok (.iload 4, 2) := by decide +kernel
theorem dL_law_953 : decode cL_law 953 = .ok (.iconst 1, 1) := by decide +kernel
theorem dL_law_954 : decode cL_law 954 = .ok (.iadd, 1) := by decide +kernel
theorem dL_law_955 : decode cL_law 955 = .ok (.iaload, 1) := by decide +kernel
theorem dL_law_956 : decode cL_law 956 = .ok (.aload_n 0, 1) := by decide +kernel
theorem dL_law_957 : decode cL_law 957 = .ok (.iload 4, 2) := by decide +kernel
theorem dL_law_959 : decode cL_law 959 = .ok (.iconst 2, 1) := by decide +kernel
theorem dL_law_960 : decode cL_law 960 = .ok (.iadd, 1) := by decide +kernel
theorem dL_law_961 : decode cL_law 961 = .ok (.iaload, 1) := by decide +kernel
theorem dL_law_962 : decode cL_law 962 = .ok (.invokevirtual 192, 3) := by decide +kernel
theorem dL_law_965 : decode cL_law 965 = .ok (.istore 6, 2) := by decide +kernel
theorem dL_law_967 : decode cL_law 967 = .ok (.goto 452, 3) := by decide +kernel
theorem dL_law_970 : decode cL_law 970 = .ok (.aload_n 1, 1) := by decide +kernel
theorem dL_law_971 : decode cL_law 971 = .ok (.aload_n 0, 1) := by decide +kernel
theorem dL_law_972 : decode cL_law 972 = .ok (.iload 4, 2) := by decide +kernel
theorem dL_law_974 : decode cL_law 974 = .ok (.iconst 1, 1) := by decide +kernel
theorem dL_law_975 : decode cL_law 975 = .ok (.iadd, 1) := by decide +kernel
theorem dL_law_976 : decode cL_law 976 = .ok (.iaload, 1) := by decide +kernel
theorem dL_law_977 : decode cL_law 977 = .ok (.aload_n 0, 1) := by decide +kernel
theorem dL_law_978 : decode cL_law 978 = .ok (.iload 4, 2) := by decide +kernel
theorem dL_law_980 : decode cL_law 980 = .ok (.iconst 2, 1) := by decide +kernel
theorem dL_law_981 : decode cL_law 981 = .ok (.iadd, 1) := by decide +kernel
theorem dL_law_982 : decode cL_law 982 = .ok (.iaload, 1) := by decide +kernel
theorem dL_law_983 : decode cL_law 983 = .ok (.aload_n 3, 1) := by decide +kernel
theorem dL_law_984 : decode cL_law 984 = .ok (.invokestatic 193, 3) := by decide +kernel
theorem dL_law_987 : decode cL_law 987 = .ok (.istore 5, 2) := by decide +kernel
theorem dL_law_989 : decode cL_law 989 = .ok (.aload_n 2, 1) := by decide +kernel
theorem dL_law_990 : decode cL_law 990 = .ok (.aload_n 0, 1) := by decide +kernel
theorem dL_law_991 : decode cL_law 991 = .ok (.iload 4, 2) := by decide +kernel
theorem dL_law_993 : decode cL_law 993 = .ok (.iconst 1, 1) := by decide +kernel
theorem dL_law_994 : decode cL_law 994 = .ok (.iadd, 1) := by decide +kernel
theorem dL_law_995 : decode cL_law 995 = .ok (.iaload, 1) := by decide +kernel
theorem dL_law_996 : decode cL_law 996 = .ok (.aload_n 0, 1) := by decide +kernel
theorem dL_law_997 : decode cL_law 997 = .ok (.iload 4, 2) := by decide +kernel
theorem dL_law_999 : decode cL_law 999 = .ok (.iconst 2, 1) := by decide +kernel
theorem dL_law_1000 : decode cL_law 1000 = .ok (.iadd, 1) := by decide +kernel
theorem dL_law_1001 : decode cL_law 1001 = .ok (.iaload, 1) := by decide +kernel
theorem dL_law_1002 : decode cL_law 1002 = .ok (.invokevirtual 195, 3) := by decide +kernel
theorem dL_law_1005 : decode cL_law 1005 = .ok (.istore 6, 2) := by decide +kernel
theorem dL_law_1007 : decode cL_law 1007 = .ok (.goto 412, 3) := by decide +kernel
theorem dL_law_1010 : decode cL_law 1010 = .ok (.aload_n 1, 1) := by decide +kernel
theorem dL_law_1011 : decode cL_law 1011 = .ok (.aload_n 0, 1) := by decide +kernel
theorem dL_law_1012 : decode cL_law 1012 = .ok (.iload 4, 2) := by decide +kernel
theorem dL_law_1014 : decode cL_law 1014 = .ok (.iconst 1, 1) := by decide +kernel
theorem dL_law_1015 : decode cL_law 1015 = .ok (.iadd, 1) := by decide +kernel
theorem dL_law_1016 : decode cL_law 1016 = .ok (.iaload, 1) := by decide +kernel
theorem dL_law_1017 : decode cL_law 1017 = .ok (.aload_n 3, 1) := by decide +kernel
theorem dL_law_1018 : decode cL_law 1018 = .ok (.invokestatic 196, 3) := by decide +kernel
theorem dL_law_1021 : decode cL_law 1021 = .ok (.istore 5, 2) := by decide +kernel
theorem dL_law_1023 : decode cL_law 1023 = .ok (.aload_n 2, 1) := by decide +kernel
theorem dL_law_1024 : decode cL_law 1024 = .ok (.aload_n 0, 1) := by decide +kernel
theorem dL_law_1025 : decode cL_law 1025 = .ok (.iload 4, 2) := by decide +kernel
theorem dL_law_1027 : decode cL_law 1027 = .ok (.iconst 1, 1) := by decide +kernel
theorem dL_law_1028 : decode cL_law 1028 = .ok (.iadd, 1) := by decide +kernel
theorem dL_law_1029 : decode cL_law 1029 = .ok (.iaload, 1) := by decide +kernel
theorem dL_law_1030 : decode cL_law 1030 = .ok (.invokevirtual 198, 3) := by decide +kernel
theorem dL_law_1033 : decode cL_law 1033 = .ok (.istore 6, 2) := by decide +kernel
theorem dL_law_1035 : decode cL_law 1035 = .ok (.goto 384, 3) := by decide +kernel
theorem dL_law_1038 : decode cL_law 1038 = .ok (.aload_n 1, 1) := by decide +kernel
theorem dL_law_1039 : decode cL_law 1039 = .ok (.aload_n 0, 1) := by decide +kernel
theorem dL_law_1040 : decode cL_law 1040 = .ok (.iload 4, 2) := by decide +kernel
theorem dL_law_1042 : decode cL_law 1042 = .ok (.iconst 1, 1) := by decide +kernel
theorem dL_law_1043 : decode cL_law 1043 = .ok (.iadd, 1) := by decide +kernel
theorem dL_law_1044 : decode cL_law 1044 = .ok (.iaload, 1) := by decide +kernel
theorem dL_law_1045 : decode cL_law 1045 = .ok (.aload_n 3, 1) := by decide +kernel
theorem dL_law_1046 : decode cL_law 1046 = .ok (.invokestatic 199, 3) := by decide +kernel
theorem dL_law_1049 : decode cL_law 1049 = .ok (.istore 5, 2) := by decide +kernel
theorem dL_law_1051 : decode cL_law 1051 = .ok (.aload_n 2, 1) := by decide +kernel
theorem dL_law_1052 : decode cL_law 1052 = .ok (.aload_n 0, 1) := by decide +kernel
theorem dL_law_1053 : decode cL_law 1053 = .ok (.iload 4, 2) := by decide +kernel
theorem dL_law_1055 : decode cL_law 1055 = .ok (.iconst 1, 1) := by decide +kernel
theorem dL_law_1056 : decode cL_law 1056 = .ok (.iadd, 1) := by decide +kernel
theorem dL_law_1057 : decode cL_law 1057 = .ok (.iaload, 1) := by decide +kernel
theorem dL_law_1058 : decode cL_law 1058 = .ok (.invokevirtual 201, 3) := by decide +kernel
theorem dL_law_1061 : decode cL_law 1061 = .ok (.lstore 6, 2) := by decide +kernel
theorem dL_law_1063 : decode cL_law 1063 = .ok (.goto 356, 3) := by decide +kernel
theorem dL_law_1066 : decode cL_law 1066 = .ok (.aload_n 1, 1) := by decide +kernel
theorem dL_law_1067 : decode cL_law 1067 = .ok (.aload_n 0, 1) := by decide +kernel
theorem dL_law_1068 : decode cL_law 1068 = .ok (.iload 4, 2) := by decide +kernel
theorem dL_law_1070 : decode cL_law 1070 = .ok (.iconst 1, 1) := by decide +kernel
theorem dL_law_1071 : decode cL_law 1071 = .ok (.iadd, 1) := by decide +kernel
theorem dL_law_1072 : decode cL_law 1072 = .ok (.iaload, 1) := by decide +kernel
theorem dL_law_1073 : decode cL_law 1073 = .ok (.aload_n 0, 1) := by decide +kernel
theorem dL_law_1074 : decode cL_law 1074 = .ok (.iload 4, 2) := by decide +kernel
theorem dL_law_1076 : decode cL_law 1076 = .ok (.iconst 2, 1) := by decide +kernel
theorem dL_law_1077 : decode cL_law 1077 = .ok (.iadd, 1) := by decide +kernel
theorem dL_law_1078 : decode cL_law 1078 = .ok (.iaload, 1) := by decide +kernel
theorem dL_law_1079 : decode cL_law 1079 = .ok (.aload_n 3, 1) := by decide +kernel
theorem dL_law_1080 : decode cL_law 1080 = .ok (.invokestatic 202, 3) := by decide +kernel
theorem dL_law_1083 : decode cL_law 1083 = .ok (.istore 5, 2) := by decide +kernel
theorem dL_law_1085 : decode cL_law 1085 = .ok (.aload_n 2, 1) := by decide +kernel
theorem dL_law_1086 : decode cL_law 1086 = .ok (.aload_n 0, 1) := by decide +kernel
theorem dL_law_1087 : decode cL_law 1087 = .ok (.iload 4, 2) := by decide +kernel
theorem dL_law_1089 : decode cL_law 1089 = .ok (.iconst 1, 1) := by decide +kernel
theorem dL_law_1090 : decode cL_law 1090 = .ok (.iadd, 1) := by decide +kernel
theorem dL_law_1091 : decode cL_law 1091 = .ok (.iaload, 1) := by decide +kernel
theorem dL_law_1092 : decode cL_law 1092 = .ok (.aload_n 0, 1) := by decide +kernel
theorem dL_law_1093 : decode cL_law 1093 = .ok (.iload 4, 2) := by decide +kernel
theorem dL_law_1095 : decode cL_law 1095 = .ok (.iconst 2, 1) := by decide +kernel
theorem dL_law_1096 : decode cL_law 1096 = .ok (.iadd, 1) := by decide +kernel
theorem dL_law_1097 : decode cL_law 1097 = .ok (.iaload, 1) := by decide +kernel
theorem dL_law_1098 : decode cL_law 1098 = .ok (.invokevirtual 204, 3) := by decide +kernel
theorem dL_law_1101 : decode cL_law 1101 = .ok (.istore 6, 2) := by decide +kernel
theorem dL_law_1103 : decode cL_law 1103 = .ok (.goto 316, 3) := by decide +kernel
theorem dL_law_1106 : decode cL_law 1106 = .ok (.aload_n 1, 1) := by decide +kernel
theorem dL_law_1107 : decode cL_law 1107 = .ok (.aload_n 0, 1) := by decide +kernel
theorem dL_law_1108 : decode cL_law 1108 = .ok (.iload 4, 2) := by decide +kernel
theorem dL_law_1110 : decode cL_law 1110 = .ok (.iconst 1, 1) := by decide +kernel
theorem dL_law_1111 : decode cL_law 1111 = .ok (.iadd, 1) := by decide +kernel
theorem dL_law_1112 : decode cL_law 1112 = .ok (.iaload, 1) := by decide +kernel
theorem dL_law_1113 : decode cL_law 1113 = .ok (.aload_n 0, 1) := by decide +kernel
theorem dL_law_1114 : decode cL_law 1114 = .ok (.iload 4, 2) := by decide +kernel
theorem dL_law_1116 : decode cL_law 1116 = .ok (.iconst 2, 1) := by decide +kernel
theorem dL_law_1117 : decode cL_law 1117 = .ok (.iadd, 1) := by decide +kernel
theorem dL_law_1118 : decode cL_law 1118 = .ok (.iaload, 1) := by decide +kernel
theorem dL_law_1119 : decode cL_law 1119 = .ok (.aload_n 3, 1) := by decide +kernel
theorem dL_law_1120 : decode cL_law 1120 = .ok (.invokestatic 205, 3) := by decide +kernel
theorem dL_law_1123 : decode cL_law 1123 = .ok (.istore 5, 2) := by decide +kernel
theorem dL_law_1125 : decode cL_law 1125 = .ok (.aload_n 2, 1) := by decide +kernel
theorem dL_law_1126 : decode cL_law 1126 = .ok (.aload_n 0, 1) := by decide +kernel
theorem dL_law_1127 : decode cL_law 1127 = .ok (.iload 4, 2) := by decide +kernel
theorem dL_law_1129 : decode cL_law 1129 = .ok (.iconst 1, 1) := by decide +kernel
theorem dL_law_1130 : decode cL_law 1130 = .ok (.iadd, 1) := by decide +kernel
theorem dL_law_1131 : decode cL_law 1131 = .ok (.iaload, 1) := by decide +kernel
theorem dL_law_1132 : decode cL_law 1132 = .ok (.aload_n 0, 1) := by decide +kernel
theorem dL_law_1133 : decode cL_law 1133 = .ok (.iload 4, 2) := by decide +kernel
theorem dL_law_1135 : decode cL_law 1135 = .ok (.iconst 2, 1) := by decide +kernel
theorem dL_law_1136 : decode cL_law 1136 = .ok (.iadd, 1) := by decide +kernel
theorem dL_law_1137 : decode cL_law 1137 = .ok (.iaload, 1) := by decide +kernel
theorem dL_law_1138 : decode cL_law 1138 = .ok (.invokevirtual 207, 3) := by decide +kernel
theorem dL_law_1141 : decode cL_law 1141 = .ok (.istore 6, 2) := by decide +kernel
theorem dL_law_1143 : decode cL_law 1143 = .ok (.goto 276, 3) := by decide +kernel
theorem dL_law_1146 : decode cL_law 1146 = .ok (.aload_n 1, 1) := by decide +kernel
theorem dL_law_1147 : decode cL_law 1147 = .ok (.aload_n 0, 1) := by decide +kernel
theorem dL_law_1148 : decode cL_law 1148 = .ok (.iload 4, 2) := by decide +kernel
theorem dL_law_1150 : decode cL_law 1150 = .ok (.iconst 1, 1) := by decide +kernel
theorem dL_law_1151 : decode cL_law 1151 = .ok (.iadd, 1) := by decide +kernel
theorem dL_law_1152 : decode cL_law 1152 = .ok (.iaload, 1) := by decide +kernel
theorem dL_law_1153 : decode cL_law 1153 = .ok (.aload_n 0, 1) := by decide +kernel
theorem dL_law_1154 : decode cL_law 1154 = .ok (.iload 4, 2) := by decide +kernel
theorem dL_law_1156 : decode cL_law 1156 = .ok (.iconst 2, 1) := by decide +kernel
theorem dL_law_1157 : decode cL_law 1157 = .ok (.iadd, 1) := by decide +kernel
theorem dL_law_1158 : decode cL_law 1158 = .ok (.iaload, 1) := by decide +kernel
theorem dL_law_1159 : decode cL_law 1159 = .ok (.aload_n 3, 1) := by decide +kernel
theorem dL_law_1160 : decode cL_law 1160 = .ok (.invokestatic 208, 3) := by decide +kernel
theorem dL_law_1163 : decode cL_law 1163 = .ok (.istore 5, 2) := by decide +kernel
theorem dL_law_1165 : decode cL_law 1165 = .ok (.aload_n 2, 1) := by decide +kernel
theorem dL_law_1166 : decode cL_law 1166 = .ok (.aload_n 0, 1) := by decide +kernel
theorem dL_law_1167 : decode cL_law 1167 = .ok (.iload 4, 2) := by decide +kernel
theorem dL_law_1169 : decode cL_law 1169 = .ok (.iconst 1, 1) := by decide +kernel
theorem dL_law_1170 : decode cL_law 1170 = .ok (.iadd, 1) := by decide +kernel
theorem dL_law_1171 : decode cL_law 1171 = .ok (.iaload, 1) := by decide +kernel
theorem dL_law_1172 : decode cL_law 1172 = .ok (.aload_n 0, 1) := by decide +kernel
theorem dL_law_1173 : decode cL_law 1173 = .ok (.iload 4, 2) := by decide +kernel
theorem dL_law_1175 : decode cL_law 1175 = .ok (.iconst 2, 1) := by decide +kernel
theorem dL_law_1176 : decode cL_law 1176 = .ok (.iadd, 1) := by decide +kernel
theorem dL_law_1177 : decode cL_law 1177 = .ok (.iaload, 1) := by decide +kernel
theorem dL_law_1178 : decode cL_law 1178 = .ok (.invokevirtual 210, 3) := by decide +kernel
theorem dL_law_1181 : decode cL_law 1181 = .ok (.istore 6, 2) := by decide +kernel
theorem dL_law_1183 : decode cL_law 1183 = .ok (.goto 236, 3) := by decide +kernel
theorem dL_law_1186 : decode cL_law 1186 = .ok (.aload_n 1, 1) := by decide +kernel
theorem dL_law_1187 : decode cL_law 1187 = .ok (.aload_n 0, 1) := by decide +kernel
theorem dL_law_1188 : decode cL_law 1188 = .ok (.iload 4, 2) := by decide +kernel
theorem dL_law_1190 : decode cL_law 1190 = .ok (.iconst 1, 1) := by decide +kernel
theorem dL_law_1191 : decode cL_law 1191 = .ok (.iadd, 1) := by decide +kernel
theorem dL_law_1192 : decode cL_law 1192 = .ok (.iaload, 1) := by decide +kernel
theorem dL_law_1193 : decode cL_law 1193 = .ok (.aload_n 3, 1) := by decide +kernel
theorem dL_law_1194 : decode cL_law 1194 = .ok (.invokestatic 211, 3) := by decide +kernel
theorem dL_law_1197 : decode cL_law 1197 = .ok (.istore 5, 2) := by decide +kernel
theorem dL_law_1199 : decode cL_law 1199 = .ok (.aload_n 2, 1) := by decide +kernel
theorem dL_law_1200 : decode cL_law 1200 = .ok (.aload_n 0, 1) := by decide +kernel
theorem dL_law_1201 : decode cL_law 1201 = .ok (.iload 4, 2) := by decide +kernel
theorem dL_law_1203 : decode cL_law 1203 = .ok (.iconst 1, 1) := by decide +kernel
theorem dL_law_1204 : decode cL_law 1204 = .ok (.iadd, 1) := by decide +kernel
theorem dL_law_1205 : decode cL_law 1205 = .ok (.iaload, 1) := by decide +kernel
theorem dL_law_1206 : decode cL_law 1206 = .ok (.invokevirtual 213, 3) := by decide +kernel
theorem dL_law_1209 : decode cL_law 1209 = .ok (.lstore 6, 2) := by decide +kernel
theorem dL_law_1211 : decode cL_law 1211 = .ok (.goto 208, 3) := by decide +kernel
theorem dL_law_1214 : decode cL_law 1214 = .ok (.aload_n 1, 1) := by decide +kernel
theorem dL_law_1215 : decode cL_law 1215 = .ok (.aload_n 0, 1) := by decide +kernel
theorem dL_law_1216 : decode cL_law 1216 = .ok (.iload 4, 2) := by decide +kernel
theorem dL_law_1218 : decode cL_law 1218 = .ok (.iconst 1, 1) := by decide +kernel
theorem dL_law_1219 : decode cL_law 1219 = .ok (.iadd, 1) := by decide +kernel
theorem dL_law_1220 : decode cL_law 1220 = .ok (.iaload, 1) := by decide +kernel
theorem dL_law_1221 : decode cL_law 1221 = .ok (.aload_n 3, 1) := by decide +kernel
theorem dL_law_1222 : decode cL_law 1222 = .ok (.invokestatic 214, 3) := by decide +kernel
theorem dL_law_1225 : decode cL_law 1225 = .ok (.istore 5, 2) := by decide +kernel
theorem dL_law_1227 : decode cL_law 1227 = .ok (.aload_n 2, 1) := by decide +kernel
theorem dL_law_1228 : decode cL_law 1228 = .ok (.aload_n 0, 1) := by decide +kernel
theorem dL_law_1229 : decode cL_law 1229 = .ok (.iload 4, 2) := by decide +kernel
theorem dL_law_1231 : decode cL_law 1231 = .ok (.iconst 1, 1) := by decide +kernel
theorem dL_law_1232 : decode cL_law 1232 = .ok (.iadd, 1) := by decide +kernel
theorem dL_law_1233 : decode cL_law 1233 = .ok (.iaload, 1) := by decide +kernel
theorem dL_law_1234 : decode cL_law 1234 = .ok (.invokevirtual 216, 3) := by decide +kernel
theorem dL_law_1237 : decode cL_law 1237 = .ok (.istore 6, 2) := by decide +kernel
theorem dL_law_1239 : decode cL_law 1239 = .ok (.goto 180, 3) := by decide +kernel
theorem dL_law_1242 : decode cL_law 1242 = .ok (.aload_n 1, 1) := by decide +kernel
theorem dL_law_1243 : decode cL_law 1243 = .ok (.aload_n 0, 1) := by decide +kernel
theorem dL_law_1244 : decode cL_law 1244 = .ok (.iload 4, 2) := by decide +kernel
theorem dL_law_1246 : decode cL_law 1246 = .ok (.iconst 1, 1) := by decide +kernel
theorem dL_law_1247 : decode cL_law 1247 = .ok (.iadd, 1) := by decide +kernel
theorem dL_law_1248 : decode cL_law 1248 = .ok (.iaload, 1) := by decide +kernel
theorem dL_law_1249 : decode cL_law 1249 = .ok (.aload_n 3, 1) := by decide +kernel
theorem dL_law_1250 : decode cL_law 1250 = .ok (.invokestatic 217, 3) := by decide +kernel
theorem dL_law_1253 : decode cL_law 1253 = .ok (.istore 5, 2) := by decide +kernel
theorem dL_law_1255 : decode cL_law 1255 = .ok (.aload_n 2, 1) := by decide +kernel
theorem dL_law_1256 : decode cL_law 1256 = .ok (.aload_n 0, 1) := by decide +kernel
theorem dL_law_1257 : decode cL_law 1257 = .ok (.iload 4, 2) := by decide +kernel
theorem dL_law_1259 : decode cL_law 1259 = .ok (.iconst 1, 1) := by decide +kernel
theorem dL_law_1260 : decode cL_law 1260 = .ok (.iadd, 1) := by decide +kernel
theorem dL_law_1261 : decode cL_law 1261 = .ok (.iaload, 1) := by decide +kernel
theorem dL_law_1262 : decode cL_law 1262 = .ok (.invokevirtual 219, 3) := by decide +kernel
theorem dL_law_1265 : decode cL_law 1265 = .ok (.astore 6, 2) := by decide +kernel
theorem dL_law_1267 : decode cL_law 1267 = .ok (.goto 152, 3) := by decide +kernel
theorem dL_law_1270 : decode cL_law 1270 = .ok (.aload_n 1, 1) := by decide +kernel
theorem dL_law_1271 : decode cL_law 1271 = .ok (.aload_n 0, 1) := by decide +kernel
theorem dL_law_1272 : decode cL_law 1272 = .ok (.iload 4, 2) := by decide +kernel
theorem dL_law_1274 : decode cL_law 1274 = .ok (.iconst 1, 1) := by decide +kernel
theorem dL_law_1275 : decode cL_law 1275 = .ok (.iadd, 1) := by decide +kernel
theorem dL_law_1276 : decode cL_law 1276 = .ok (.iaload, 1) := by decide +kernel
theorem dL_law_1277 : decode cL_law 1277 = .ok (.aload_n 0, 1) := by decide +kernel
theorem dL_law_1278 : decode cL_law 1278 = .ok (.iload 4, 2) := by decide +kernel
theorem dL_law_1280 : decode cL_law 1280 = .ok (.iconst 2, 1) := by decide +kernel
theorem dL_law_1281 : decode cL_law 1281 = .ok (.iadd, 1) := by decide +kernel
theorem dL_law_1282 : decode cL_law 1282 = .ok (.iaload, 1) := by decide +kernel
theorem dL_law_1283 : decode cL_law 1283 = .ok (.aload_n 3, 1) := by decide +kernel
theorem dL_law_1284 : decode cL_law 1284 = .ok (.invokestatic 220, 3) := by decide +kernel
theorem dL_law_1287 : decode cL_law 1287 = .ok (.istore 5, 2) := by decide +kernel
theorem dL_law_1289 : decode cL_law 1289 = .ok (.aload_n 2, 1) := by decide +kernel
theorem dL_law_1290 : decode cL_law 1290 = .ok (.aload_n 0, 1) := by decide +kernel
theorem dL_law_1291 : decode cL_law 1291 = .ok (.iload 4, 2) := by decide +kernel
theorem dL_law_1293 : decode cL_law 1293 = .ok (.iconst 1, 1) := by decide +kernel
theorem dL_law_1294 : decode cL_law 1294 = .ok (.iadd, 1) := by decide +kernel
theorem dL_law_1295 : decode cL_law 1295 = .ok (.iaload, 1) := by decide +kernel
theorem dL_law_1296 : decode cL_law 1296 = .ok (.aload_n 0, 1) := by decide +kernel
theorem dL_law_1297 : decode cL_law 1297 = .ok (.iload 4, 2) := by decide +kernel
theorem dL_law_1299 : decode cL_law 1299 = .ok (.iconst 2, 1) := by decide +kernel
theorem dL_law_1300 : decode cL_law 1300 = .ok (.iadd, 1) := by decide +kernel
theorem dL_law_1301 : decode cL_law 1301 = .ok (.iaload, 1) := by decide +kernel
theorem dL_law_1302 : decode cL_law 1302 = .ok (.invokevirtual 222, 3) := by decide +kernel
theorem dL_law_1305 : decode cL_law 1305 = .ok (.istore 6, 2) := by decide +kernel
theorem dL_law_1307 : decode cL_law 1307 = .ok (.goto 112, 3) := by decide +kernel
theorem dL_law_1310 : decode cL_law 1310 = .ok (.aload_n 1, 1) := by decide +kernel
theorem dL_law_1311 : decode cL_law 1311 = .ok (.aload_n 0, 1) := by decide +kernel
theorem dL_law_1312 : decode cL_law 1312 = .ok (.iload 4, 2) := by decide +kernel
theorem dL_law_1314 : decode cL_law 1314 = .ok (.iconst 1, 1) := by decide +kernel
theorem dL_law_1315 : decode cL_law 1315 = .ok (.iadd, 1) := by decide +kernel
theorem dL_law_1316 : decode cL_law 1316 = .ok (.iaload, 1) := by decide +kernel
theorem dL_law_1317 : decode cL_law 1317 = .ok (.aload_n 3, 1) := by decide +kernel
theorem dL_law_1318 : decode cL_law 1318 = .ok (.invokestatic 223, 3) := by decide +kernel
theorem dL_law_1321 : decode cL_law 1321 = .ok (.istore 5, 2) := by decide +kernel
theorem dL_law_1323 : decode cL_law 1323 = .ok (.aload_n 2, 1) := by decide +kernel
theorem dL_law_1324 : decode cL_law 1324 = .ok (.aload_n 0, 1) := by decide +kernel
theorem dL_law_1325 : decode cL_law 1325 = .ok (.iload 4, 2) := by decide +kernel
theorem dL_law_1327 : decode cL_law 1327 = .ok (.iconst 1, 1) := by decide +kernel
theorem dL_law_1328 : decode cL_law 1328 = .ok (.iadd, 1) := by decide +kernel
theorem dL_law_1329 : decode cL_law 1329 = .ok (.iaload, 1) := by decide +kernel
theorem dL_law_1330 : decode cL_law 1330 = .ok (.invokevirtual 225, 3) := by decide +kernel
theorem dL_law_1333 : decode cL_law 1333 = .ok (.istore 6, 2) := by decide +kernel
theorem dL_law_1335 : decode cL_law 1335 = .ok (.goto 84, 3) := by decide +kernel
theorem dL_law_1338 : decode cL_law 1338 = .ok (.aload_n 1, 1) := by decide +kernel
theorem dL_law_1339 : decode cL_law 1339 = .ok (.aload_n 0, 1) := by decide +kernel
theorem dL_law_1340 : decode cL_law 1340 = .ok (.iload 4, 2) := by decide +kernel
theorem dL_law_1342 : decode cL_law 1342 = .ok (.iconst 1, 1) := by decide +kernel
theorem dL_law_1343 : decode cL_law 1343 = .ok (.iadd, 1) := by decide +kernel
theorem dL_law_1344 : decode cL_law 1344 = .ok (.iaload, 1) := by decide +kernel
theorem dL_law_1345 : decode cL_law 1345 = .ok (.aload_n 0, 1) := by decide +kernel
theorem dL_law_1346 : decode cL_law 1346 = .ok (.iload 4, 2) := by decide +kernel
theorem dL_law_1348 : decode cL_law 1348 = .ok (.iconst 2, 1) := by decide +kernel
theorem dL_law_1349 : decode cL_law 1349 = .ok (.iadd, 1) := by decide +kernel
theorem dL_law_1350 : decode cL_law 1350 = .ok (.iaload, 1) := by decide +kernel
theorem dL_law_1351 : decode cL_law 1351 = .ok (.aload_n 3, 1) := by decide +kernel
theorem dL_law_1352 : decode cL_law 1352 = .ok (.invokestatic 226, 3) := by decide +kernel
theorem dL_law_1355 : decode cL_law 1355 = .ok (.istore 5, 2) := by decide +kernel
theorem dL_law_1357 : decode cL_law 1357 = .ok (.aload_n 2, 1) := by decide +kernel
theorem dL_law_1358 : decode cL_law 1358 = .ok (.aload_n 0, 1) := by decide +kernel
theorem dL_law_1359 : decode cL_law 1359 = .ok (.iload 4, 2) := by decide +kernel
theorem dL_law_1361 : decode cL_law 1361 = .ok (.iconst 1, 1) := by decide +kernel
theorem dL_law_1362 : decode cL_law 1362 = .ok (.iadd, 1) := by decide +kernel
theorem dL_law_1363 : decode cL_law 1363 = .ok (.iaload, 1) := by decide +kernel
theorem dL_law_1364 : decode cL_law 1364 = .ok (.aload_n 0, 1) := by decide +kernel
theorem dL_law_1365 : decode cL_law 1365 = .ok (.iload 4, 2) := by decide +kernel
theorem dL_law_1367 : decode cL_law 1367 = .ok (.iconst 2, 1) := by decide +kernel
theorem dL_law_1368 : decode cL_law 1368 = .ok (.iadd, 1) := by decide +kernel
theorem dL_law_1369 : decode cL_law 1369 = .ok (.iaload, 1) := by decide +kernel
theorem dL_law_1370 : decode cL_law 1370 = .ok (.invokevirtual 228, 3) := by decide +kernel
theorem dL_law_1373 : decode cL_law 1373 = .ok (.istore 6, 2) := by decide +kernel
theorem dL_law_1375 : decode cL_law 1375 = .ok (.goto 44, 3) := by decide +kernel
theorem dL_law_1378 : decode cL_law 1378 = .ok (.aload_n 1, 1) := by decide +kernel
theorem dL_law_1379 : decode cL_law 1379 = .ok (.invokevirtual 229, 3) := by decide +kernel
theorem dL_law_1382 : decode cL_law 1382 = .ok (.dstore 5, 2) := by decide +kernel
theorem dL_law_1384 : decode cL_law 1384 = .ok (.aload_n 2, 1) := by decide +kernel
theorem dL_law_1385 : decode cL_law 1385 = .ok (.invokevirtual 233, 3) := by decide +kernel
theorem dL_law_1388 : decode cL_law 1388 = .ok (.dstore 7, 2) := by decide +kernel
theorem dL_law_1390 : decode cL_law 1390 = .ok (.goto 29, 3) := by decide +kernel
theorem dL_law_1393 : decode cL_law 1393 = .ok (.aload_n 1, 1) := by decide +kernel
theorem dL_law_1394 : decode cL_law 1394 = .ok (.invokevirtual 234, 3) := by decide +kernel
theorem dL_law_1397 : decode cL_law 1397 = .ok (.pop, 1) := by decide +kernel
theorem dL_law_1398 : decode cL_law 1398 = .ok (.aload_n 2, 1) := by decide +kernel
theorem dL_law_1399 : decode cL_law 1399 = .ok (.invokevirtual 238, 3) := by decide +kernel
theorem dL_law_1402 : decode cL_law 1402 = .ok (.pop, 1) := by decide +kernel
theorem dL_law_1403 : decode cL_law 1403 = .ok (.goto 16, 3) := by decide +kernel
theorem dL_law_1406 : decode cL_law 1406 = .ok (.aload_n 1, 1) := by decide +kernel
theorem dL_law_1407 : decode cL_law 1407 = .ok (.invokevirtual 239, 3) := by decide +kernel
theorem dL_law_1410 : decode cL_law 1410 = .ok (.pop2, 1) := by decide +kernel
theorem dL_law_1411 : decode cL_law 1411 = .ok (.aload_n 2, 1) := by decide +kernel
theorem dL_law_1412 : decode cL_law 1412 = .ok (.invokevirtual 243, 3) := by decide +kernel
theorem dL_law_1415 : decode cL_law 1415 = .ok (.pop2, 1) := by decide +kernel
theorem dL_law_1416 : decode cL_law 1416 = .ok (.goto 3, 3) := by decide +kernel
theorem dL_law_1419 : decode cL_law 1419 = .ok (.iinc 4 6, 3) := by decide +kernel
theorem dL_law_1422 : decode cL_law 1422 = .ok (.goto (-1395), 3) := by decide +kernel
theorem dL_law_1425 : decode cL_law 1425 = .ok (.iconst 1, 1) := by decide +kernel
theorem dL_law_1426 : decode cL_law 1426 = .ok (.ireturn, 1) := by decide +kernel
