theorem dX0_init_0 : decode mX0_init.2.1 0 = .ok (.aload_n 0, 1) := by decide +kernel
theorem dX0_init_1 : decode mX0_init.2.1 1 = .ok (.invokespecial 1, 3) := by decide +kernel
theorem dX0_init_4 : decode mX0_init.2.1 4 = .ok (.aload_n 0, 1) := by decide +kernel
theorem dX0_init_5 : decode mX0_init.2.1 5 = .ok (.iload_n 1, 1) := by decide +kernel
theorem dX0_init_6 : decode mX0_init.2.1 6 = .ok (.putfield 7, 3) := by decide +kernel
theorem dX0_init_9 : decode mX0_init.2.1 9 = .ok (.aload_n 0, 1) := by decide +kernel
theorem dX0_init_10 : decode mX0_init.2.1 10 = .ok (.iload_n 2, 1) := by decide +kernel
theorem dX0_init_11 : decode mX0_init.2.1 11 = .ok (.putfield 13, 3) := by decide +kernel
theorem dX0_init_14 : decode mX0_init.2.1 14 = .ok (.return_, 1) := by decide +kernel
theorem dX1_init_0 : decode mX1_init.2.1 0 = .ok (.aload_n 0, 1) := by decide +kernel
theorem dX1_init_1 : decode mX1_init.2.1 1 = .ok (.invokespecial 3, 3) := by decide +kernel
theorem dX1_init_4 : decode mX1_init.2.1 4 = .ok (.aload_n 0, 1) := by decide +kernel
theorem dX1_init_5 : decode mX1_init.2.1 5 = .ok (.bipush 6, 2) := by decide +kernel
theorem dX1_init_7 : decode mX1_init.2.1 7 = .ok (.anewarray 9, 3) := by decide +kernel
theorem dX1_init_10 : decode mX1_init.2.1 10 = .ok (.putfield 11, 3) := by decide +kernel
theorem dX1_init_13 : decode mX1_init.2.1 13 = .ok (.return_, 1) := by decide +kernel
theorem dX1_addRow_0 : decode mX1_addRow.2.1 0 = .ok (.iload_n 1, 1) := by decide +kernel
theorem dX1_addRow_1 : decode mX1_addRow.2.1 1 = .ok (.ifCond .lt 35, 3) := by decide +kernel
theorem dX1_addRow_4 : decode mX1_addRow.2.1 4 = .ok (.iload_n 1, 1) := by decide +kernel
theorem dX1_addRow_5 : decode mX1_addRow.2.1 5 = .ok (.aload_n 0, 1) := by decide +kernel
theorem dX1_addRow_6 : decode mX1_addRow.2.1 6 = .ok (.getfield 11, 3) := by decide +kernel
theorem dX1_addRow_9 : decode mX1_addRow.2.1 9 = .ok (.arraylength, 1) := by decide +kernel
theorem dX1_addRow_10 : decode mX1_addRow.2.1 10 = .ok (.if_icmp .ge 26, 3) := by decide +kernel
theorem dX1_addRow_13 : decode mX1_addRow.2.1 13 = .ok (.aload_n 0, 1) := by decide +kernel
theorem dX1_addRow_14 : decode mX1_addRow.2.1 14 = .ok (.getfield 11, 3) := by decide +kernel
theorem dX1_addRow_17 : decode mX1_addRow.2.1 17 = .ok (.iload_n 1, 1) := by decide +kernel
theorem dX1_addRow_18 : decode mX1_addRow.2.1 18 = .ok (.aload_n 2, 1) := by decide +kernel
theorem dX1_addRow_19 : decode mX1_addRow.2.1 19 = .ok (.invokevirtual 17, 3) := by decide +kernel
theorem dX1_addRow_22 : decode mX1_addRow.2.1 22 = .ok (.checkcast 9, 3) := by decide +kernel
theorem dX1_addRow_25 : decode mX1_addRow.2.1 25 = .ok (.aastore, 1) := by decide +kernel
theorem dX1_addRow_26 : decode mX1_addRow.2.1 26 = .ok (.aload_n 0, 1) := by decide +kernel
theorem dX1_addRow_27 : decode mX1_addRow.2.1 27 = .ok (.dup, 1) := by decide +kernel
theorem dX1_addRow_28 : decode mX1_addRow.2.1 28 = .ok (.getfield 21, 3) := by decide +kernel
theorem dX1_addRow_31 : decode mX1_addRow.2.1 31 = .ok (.iload_n 3, 1) := by decide +kernel
theorem dX1_addRow_32 : decode mX1_addRow.2.1 32 = .ok (.iadd, 1) := by decide +kernel
theorem dX1_addRow_33 : decode mX1_addRow.2.1 33 = .ok (.putfield 21, 3) := by decide +kernel
theorem dX1_addRow_36 : decode mX1_addRow.2.1 36 = .ok (.return_, 1) := by decide +kernel
theorem dX1_rowAt_0 : decode mX1_rowAt.2.1 0 = .ok (.iload_n 1, 1) := by decide +kernel
theorem dX1_rowAt_1 : decode mX1_rowAt.2.1 1 = .ok (.ifCond .lt 21, 3) := by decide +kernel
theorem dX1_rowAt_4 : decode mX1_rowAt.2.1 4 = .ok (.iload_n 1, 1) := by decide +kernel
theorem dX1_rowAt_5 : decode mX1_rowAt.2.1 5 = .ok (.aload_n 0, 1) := by decide +kernel
theorem dX1_rowAt_6 : decode mX1_rowAt.2.1 6 = .ok (.getfield 11, 3) := by decide +kernel
theorem dX1_rowAt_9 : decode mX1_rowAt.2.1 9 = .ok (.arraylength, 1) := by decide +kernel
theorem dX1_rowAt_10 : decode mX1_rowAt.2.1 10 = .ok (.if_icmp .ge 12, 3) := by decide +kernel
theorem dX1_rowAt_13 : decode mX1_rowAt.2.1 13 = .ok (.aload_n 0, 1) := by decide +kernel
theorem dX1_rowAt_14 : decode mX1_rowAt.2.1 14 = .ok (.getfield 11, 3) := by decide +kernel
theorem dX1_rowAt_17 : decode mX1_rowAt.2.1 17 = .ok (.iload_n 1, 1) := by decide +kernel
theorem dX1_rowAt_18 : decode mX1_rowAt.2.1 18 = .ok (.aaload, 1) := by decide +kernel
theorem dX1_rowAt_19 : decode mX1_rowAt.2.1 19 = .ok (.goto 4, 3) := by decide +kernel
theorem dX1_rowAt_22 : decode mX1_rowAt.2.1 22 = .ok (.aconst_null, 1) := by decide +kernel
theorem dX1_rowAt_23 : decode mX1_rowAt.2.1 23 = .ok (.areturn, 1) := by decide +kernel
theorem dX1_firstRow_0 : decode mX1_firstRow.2.1 0 = .ok (.iconst 0, 1) := by decide +kernel
theorem dX1_firstRow_1 : decode mX1_firstRow.2.1 1 = .ok (.istore_n 1, 1) := by decide +kernel
theorem dX1_firstRow_2 : decode mX1_firstRow.2.1 2 = .ok (.iload_n 1, 1) := by decide +kernel
theorem dX1_firstRow_3 : decode mX1_firstRow.2.1 3 = .ok (.aload_n 0, 1) := by decide +kernel
theorem dX1_firstRow_4 : decode mX1_firstRow.2.1 4 = .ok (.getfield 11, 3) := by decide +kernel
theorem dX1_firstRow_7 : decode mX1_firstRow.2.1 7 = .ok (.arraylength, 1) := by decide +kernel
theorem dX1_firstRow_8 : decode mX1_firstRow.2.1 8 = .ok (.if_icmp .ge 25, 3) := by decide +kernel
theorem dX1_firstRow_11 : decode mX1_firstRow.2.1 11 = .ok (.aload_n 0, 1) := by decide +kernel
theorem dX1_firstRow_12 : decode mX1_firstRow.2.1 12 = .ok (.getfield 11, 3) := by decide +kernel
theorem dX1_firstRow_15 : decode mX1_firstRow.2.1 15 = .ok (.iload_n 1, 1) := by decide +kernel
theorem dX1_firstRow_16 : decode mX1_firstRow.2.1 16 = .ok (.aaload, 1) := by decide +kernel
theorem dX1_firstRow_17 : decode mX1_firstRow.2.1 17 = .ok (.ifnull 10, 3) := by decide +kernel
theorem dX1_firstRow_20 : decode mX1_firstRow.2.1 20 = .ok (.aload_n 0, 1) := by decide +kernel
theorem dX1_firstRow_21 : decode mX1_firstRow.2.1 21 = .ok (.getfield 11, 3) := by decide +kernel
theorem dX1_firstRow_24 : decode mX1_firstRow.2.1 24 = .ok (.iload_n 1, 1) := by decide +kernel
theorem dX1_firstRow_25 : decode mX1_firstRow.2.1 25 = .ok (.aaload, 1) := by decide +kernel
theorem dX1_firstRow_26 : decode mX1_firstRow.2.1 26 = .ok (.areturn, 1) := by decide +kernel
theorem dX1_firstRow_27 : decode mX1_firstRow.2.1 27 = .ok (.iinc 1 1, 3) := by decide +kernel
theorem dX1_firstRow_30 : decode mX1_firstRow.2.1 30 = .ok (.goto (-28), 3) := by decide +kernel
theorem dX1_firstRow_33 : decode mX1_firstRow.2.1 33 = .ok (.aconst_null, 1) := by decide +kernel
theorem dX1_firstRow_34 : decode mX1_firstRow.2.1 34 = .ok (.areturn, 1) := by decide +kernel
theorem dX1_sameCounts_0 : decode mX1_sameCounts.2.1 0 = .ok (.iconst 0, 1) := by decide +kernel
theorem dX1_sameCounts_1 : decode mX1_sameCounts.2.1 1 = .ok (.istore_n 3, 1) := by decide +kernel
theorem dX1_sameCounts_2 : decode mX1_sameCounts.2.1 2 = .ok (.iconst 0, 1) := by decide +kernel
theorem dX1_sameCounts_3 : decode mX1_sameCounts.2.1 3 = .ok (.istore 4, 2) := by decide +kernel
theorem dX1_sameCounts_5 : decode mX1_sameCounts.2.1 5 = .ok (.aload_n 1, 1) := by decide +kernel
theorem dX1_sameCounts_6 : decode mX1_sameCounts.2.1 6 = .ok (.ifnull 66, 3) := by decide +kernel
theorem dX1_sameCounts_9 : decode mX1_sameCounts.2.1 9 = .ok (.iload 4, 2) := by decide +kernel
theorem dX1_sameCounts_11 : decode mX1_sameCounts.2.1 11 = .ok (.aload_n 0, 1) := by decide +kernel
theorem dX1_sameCounts_12 : decode mX1_sameCounts.2.1 12 = .ok (.getfield 11, 3) := by decide +kernel
theorem dX1_sameCounts_15 : decode mX1_sameCounts.2.1 15 = .ok (.arraylength, 1) := by decide +kernel
theorem dX1_sameCounts_16 : decode mX1_sameCounts.2.1 16 = .ok (.if_icmp .ge 56, 3) := by decide +kernel
theorem dX1_sameCounts_19 : decode mX1_sameCounts.2.1 19 = .ok (.aload_n 0, 1) := by decide +kernel
theorem dX1_sameCounts_20 : decode mX1_sameCounts.2.1 20 = .ok (.getfield 11, 3) := by decide +kernel
theorem dX1_sameCounts_23 : decode mX1_sameCounts.2.1 23 = .ok (.iload 4, 2) := by decide +kernel
theorem dX1_sameCounts_25 : decode mX1_sameCounts.2.1 25 = .ok (.aaload, 1) := by decide +kernel
theorem dX1_sameCounts_26 : decode mX1_sameCounts.2.1 26 = .ok (.ifnull 40, 3) := by decide +kernel
theorem dX1_sameCounts_29 : decode mX1_sameCounts.2.1 29 = .ok (.aload_n 1, 1) := by decide +kernel
theorem dX1_sameCounts_30 : decode mX1_sameCounts.2.1 30 = .ok (.getfield 11, 3) := by decide +kernel
theorem dX1_sameCounts_33 : decode mX1_sameCounts.2.1 33 = .ok (.iload 4, 2) := by decide +kernel
theorem dX1_sameCounts_35 : decode mX1_sameCounts.2.1 35 = .ok (.aaload, 1) := by decide +kernel
theorem dX1_sameCounts_36 : decode mX1_sameCounts.2.1 36 = .ok (.ifnull 30, 3) := by decide +kernel
theorem dX1_sameCounts_39 : decode mX1_sameCounts.2.1 39 = .ok (.iload_n 3, 1) := by decide +kernel
theorem dX1_sameCounts_40 : decode mX1_sameCounts.2.1 40 = .ok (.aload_n 0, 1) := by decide +kernel
theorem dX1_sameCounts_41 : decode mX1_sameCounts.2.1 41 = .ok (.getfield 11, 3) := by decide +kernel
theorem dX1_sameCounts_44 : decode mX1_sameCounts.2.1 44 = .ok (.iload 4, 2) := by decide +kernel
theorem dX1_sameCounts_46 : decode mX1_sameCounts.2.1 46 = .ok (.aaload, 1) := by decide +kernel
theorem dX1_sameCounts_47 : decode mX1_sameCounts.2.1 47 = .ok (.aload_n 1, 1) := by decide +kernel
theorem dX1_sameCounts_48 : decode mX1_sameCounts.2.1 48 = .ok (.getfield 11, 3) := by decide +kernel
theorem dX1_sameCounts_51 : decode mX1_sameCounts.2.1 51 = .ok (.iload 4, 2) := by decide +kernel
theorem dX1_sameCounts_53 : decode mX1_sameCounts.2.1 53 = .ok (.aaload, 1) := by decide +kernel
theorem dX1_sameCounts_54 : decode mX1_sameCounts.2.1 54 = .ok (.aload_n 2, 1) := by decide +kernel
theorem dX1_sameCounts_55 : decode mX1_sameCounts.2.1 55 = .ok (.iload 4, 2) := by decide +kernel
theorem dX1_sameCounts_57 : decode mX1_sameCounts.2.1 57 = .ok (.aaload, 1) := by decide +kernel
theorem dX1_sameCounts_58 : decode mX1_sameCounts.2.1 58 = .ok (.getfield 25, 3) := by decide +kernel
theorem dX1_sameCounts_61 : decode mX1_sameCounts.2.1 61 = .ok (.invokestatic 30, 3) := by decide +kernel
theorem dX1_sameCounts_64 : decode mX1_sameCounts.2.1 64 = .ok (.iadd, 1) := by decide +kernel
theorem dX1_sameCounts_65 : decode mX1_sameCounts.2.1 65 = .ok (.istore_n 3, 1) := by decide +kernel
theorem dX1_sameCounts_66 : decode mX1_sameCounts.2.1 66 = .ok (.iinc 4 1, 3) := by decide +kernel
theorem dX1_sameCounts_69 : decode mX1_sameCounts.2.1 69 = .ok (.goto (-64), 3) := by decide +kernel
theorem dX1_sameCounts_72 : decode mX1_sameCounts.2.1 72 = .ok (.iload_n 3, 1) := by decide +kernel
theorem dX1_sameCounts_73 : decode mX1_sameCounts.2.1 73 = .ok (.ireturn, 1) := by decide +kernel
theorem dX1_sameInRow_0 : decode mX1_sameInRow.2.1 0 = .ok (.iconst 0, 1) := by decide +kernel
theorem dX1_sameInRow_1 : decode mX1_sameInRow.2.1 1 = .ok (.istore_n 3, 1) := by decide +kernel
theorem dX1_sameInRow_2 : decode mX1_sameInRow.2.1 2 = .ok (.iconst 0, 1) := by decide +kernel
theorem dX1_sameInRow_3 : decode mX1_sameInRow.2.1 3 = .ok (.istore 4, 2) := by decide +kernel
theorem dX1_sameInRow_5 : decode mX1_sameInRow.2.1 5 = .ok (.iload 4, 2) := by decide +kernel
theorem dX1_sameInRow_7 : decode mX1_sameInRow.2.1 7 = .ok (.aload_n 0, 1) := by decide +kernel
theorem dX1_sameInRow_8 : decode mX1_sameInRow.2.1 8 = .ok (.arraylength, 1) := by decide +kernel
theorem dX1_sameInRow_9 : decode mX1_sameInRow.2.1 9 = .ok (.if_icmp .ge 39, 3) := by decide +kernel
theorem dX1_sameInRow_12 : decode mX1_sameInRow.2.1 12 = .ok (.iload 4, 2) := by decide +kernel
theorem dX1_sameInRow_14 : decode mX1_sameInRow.2.1 14 = .ok (.aload_n 1, 1) := by decide +kernel
theorem dX1_sameInRow_15 : decode mX1_sameInRow.2.1 15 = .ok (.arraylength, 1) := by decide +kernel
theorem dX1_sameInRow_16 : decode mX1_sameInRow.2.1 16 = .ok (.if_icmp .ge 32, 3) := by decide +kernel
theorem dX1_sameInRow_19 : decode mX1_sameInRow.2.1 19 = .ok (.iload_n 2, 1) := by decide +kernel
theorem dX1_sameInRow_20 : decode mX1_sameInRow.2.1 20 = .ok (.iload 4, 2) := by decide +kernel
theorem dX1_sameInRow_22 : decode mX1_sameInRow.2.1 22 = .ok (.invokestatic 34, 3) := by decide +kernel
theorem dX1_sameInRow_25 : decode mX1_sameInRow.2.1 25 = .ok (.ifCond .eq 17, 3) := by decide +kernel
theorem dX1_sameInRow_28 : decode mX1_sameInRow.2.1 28 = .ok (.aload_n 0, 1) := by decide +kernel
theorem dX1_sameInRow_29 : decode mX1_sameInRow.2.1 29 = .ok (.iload 4, 2) := by decide +kernel
theorem dX1_sameInRow_31 : decode mX1_sameInRow.2.1 31 = .ok (.iaload, 1) := by decide +kernel
theorem dX1_sameInRow_32 : decode mX1_sameInRow.2.1 32 = .ok (.aload_n 1, 1) := by decide +kernel
theorem dX1_sameInRow_33 : decode mX1_sameInRow.2.1 33 = .ok (.iload 4, 2) := by decide +kernel
theorem dX1_sameInRow_35 : decode mX1_sameInRow.2.1 35 = .ok (.iaload, 1) := by decide +kernel
theorem dX1_sameInRow_36 : decode mX1_sameInRow.2.1 36 = .ok (.if_icmp .ne 6, 3) := by decide +kernel
theorem dX1_sameInRow_39 : decode mX1_sameInRow.2.1 39 = .ok (.iinc 3 1, 3) := by decide +kernel
theorem dX1_sameInRow_42 : decode mX1_sameInRow.2.1 42 = .ok (.iinc 4 1, 3) := by decide +kernel
theorem dX1_sameInRow_45 : decode mX1_sameInRow.2.1 45 = .ok (.goto (-40), 3) := by decide +kernel
theorem dX1_sameInRow_48 : decode mX1_sameInRow.2.1 48 = .ok (.iload_n 3, 1) := by decide +kernel
theorem dX1_sameInRow_49 : decode mX1_sameInRow.2.1 49 = .ok (.ireturn, 1) := by decide +kernel
theorem dX2_init_0 : decode mX2_init.2.1 0 = .ok (.aload_n 0, 1) := by decide +kernel
theorem dX2_init_1 : decode mX2_init.2.1 1 = .ok (.invokespecial 3, 3) := by decide +kernel
theorem dX2_init_4 : decode mX2_init.2.1 4 = .ok (.aload_n 0, 1) := by decide +kernel
theorem dX2_init_5 : decode mX2_init.2.1 5 = .ok (.new 9, 3) := by decide +kernel
theorem dX2_init_8 : decode mX2_init.2.1 8 = .ok (.dup, 1) := by decide +kernel
theorem dX2_init_9 : decode mX2_init.2.1 9 = .ok (.invokespecial 11, 3) := by decide +kernel
theorem dX2_init_12 : decode mX2_init.2.1 12 = .ok (.putfield 12, 3) := by decide +kernel
theorem dX2_init_15 : decode mX2_init.2.1 15 = .ok (.aload_n 0, 1) := by decide +kernel
theorem dX2_init_16 : decode mX2_init.2.1 16 = .ok (.iconst (-1), 1) := by decide +kernel
theorem dX2_init_17 : decode mX2_init.2.1 17 = .ok (.putfield 18, 3) := by decide +kernel
theorem dX2_init_20 : decode mX2_init.2.1 20 = .ok (.aload_n 0, 1) := by decide +kernel
theorem dX2_init_21 : decode mX2_init.2.1 21 = .ok (.iconst (-1), 1) := by decide +kernel
theorem dX2_init_22 : decode mX2_init.2.1 22 = .ok (.putfield 22, 3) := by decide +kernel
theorem dX2_init_25 : decode mX2_init.2.1 25 = .ok (.aload_n 0, 1) := by decide +kernel
theorem dX2_init_26 : decode mX2_init.2.1 26 = .ok (.iload_n 1, 1) := by decide +kernel
theorem dX2_init_27 : decode mX2_init.2.1 27 = .ok (.putfield 25, 3) := by decide +kernel
theorem dX2_init_30 : decode mX2_init.2.1 30 = .ok (.aload_n 0, 1) := by decide +kernel
theorem dX2_init_31 : decode mX2_init.2.1 31 = .ok (.iload_n 2, 1) := by decide +kernel
theorem dX2_init_32 : decode mX2_init.2.1 32 = .ok (.putfield 28, 3) := by decide +kernel
theorem dX2_init_35 : decode mX2_init.2.1 35 = .ok (.aload_n 0, 1) := by decide +kernel
theorem dX2_init_36 : decode mX2_init.2.1 36 = .ok (.iload_n 3, 1) := by decide +kernel
theorem dX2_init_37 : decode mX2_init.2.1 37 = .ok (.putfield 31, 3) := by decide +kernel
theorem dX2_init_40 : decode mX2_init.2.1 40 = .ok (.aload_n 0, 1) := by decide +kernel
theorem dX2_init_41 : decode mX2_init.2.1 41 = .ok (.iload 4, 2) := by decide +kernel
theorem dX2_init_43 : decode mX2_init.2.1 43 = .ok (.putfield 34, 3) := by decide +kernel
theorem dX2_init_46 : decode mX2_init.2.1 46 = .ok (.aload_n 0, 1) := by decide +kernel
theorem dX2_init_47 : decode mX2_init.2.1 47 = .ok (.iload 5, 2) := by decide +kernel
theorem dX2_init_49 : decode mX2_init.2.1 49 = .ok (.putfield 37, 3) := by decide +kernel
theorem dX2_init_52 : decode mX2_init.2.1 52 = .ok (.aload_n 0, 1) := by decide +kernel
theorem dX2_init_53 : decode mX2_init.2.1 53 = .ok (.iload 6, 2) := by decide +kernel
theorem dX2_init_55 : decode mX2_init.2.1 55 = .ok (.putfield 40, 3) := by decide +kernel
theorem dX2_init_58 : decode mX2_init.2.1 58 = .ok (.aload_n 0, 1) := by decide +kernel
theorem dX2_init_59 : decode mX2_init.2.1 59 = .ok (.aload 7, 2) := by decide +kernel
theorem dX2_init_61 : decode mX2_init.2.1 61 = .ok (.putfield 43, 3) := by decide +kernel
theorem dX2_init_64 : decode mX2_init.2.1 64 = .ok (.return_, 1) := by decide +kernel
theorem dX2_isOnLineTo_0 : decode mX2_isOnLineTo.2.1 0 = .ok (.aload_n 0, 1) := by decide +kernel
theorem dX2_isOnLineTo_1 : decode mX2_isOnLineTo.2.1 1 = .ok (.getfield 47, 3) := by decide +kernel
theorem dX2_isOnLineTo_4 : decode mX2_isOnLineTo.2.1 4 = .ok (.iload_n 1, 1) := by decide +kernel
theorem dX2_isOnLineTo_5 : decode mX2_isOnLineTo.2.1 5 = .ok (.invokestatic 50, 3) := by decide +kernel
theorem dX2_isOnLineTo_8 : decode mX2_isOnLineTo.2.1 8 = .ok (.ireturn, 1) := by decide +kernel
theorem dX2_isGivenBy_0 : decode mX2_isGivenBy.2.1 0 = .ok (.aload_n 0, 1) := by decide +kernel
theorem dX2_isGivenBy_1 : decode mX2_isGivenBy.2.1 1 = .ok (.getfield 54, 3) := by decide +kernel
theorem dX2_isGivenBy_4 : decode mX2_isGivenBy.2.1 4 = .ok (.iload_n 1, 1) := by decide +kernel
theorem dX2_isGivenBy_5 : decode mX2_isGivenBy.2.1 5 = .ok (.invokestatic 50, 3) := by decide +kernel
theorem dX2_isGivenBy_8 : decode mX2_isGivenBy.2.1 8 = .ok (.ireturn, 1) := by decide +kernel
theorem dX2_needed_0 : decode mX2_needed.2.1 0 = .ok (.iload_n 1, 1) := by decide +kernel
theorem dX2_needed_1 : decode mX2_needed.2.1 1 = .ok (.aload_n 0, 1) := by decide +kernel
theorem dX2_needed_2 : decode mX2_needed.2.1 2 = .ok (.getfield 31, 3) := by decide +kernel
theorem dX2_needed_5 : decode mX2_needed.2.1 5 = .ok (.if_icmp .ne 18, 3) := by decide +kernel
theorem dX2_needed_8 : decode mX2_needed.2.1 8 = .ok (.iload_n 2, 1) := by decide +kernel
theorem dX2_needed_9 : decode mX2_needed.2.1 9 = .ok (.aload_n 0, 1) := by decide +kernel
theorem dX2_needed_10 : decode mX2_needed.2.1 10 = .ok (.getfield 34, 3) := by decide +kernel
theorem dX2_needed_13 : decode mX2_needed.2.1 13 = .ok (.if_icmp .ne 10, 3) := by decide +kernel
theorem dX2_needed_16 : decode mX2_needed.2.1 16 = .ok (.aload_n 0, 1) := by decide +kernel
theorem dX2_needed_17 : decode mX2_needed.2.1 17 = .ok (.getfield 37, 3) := by decide +kernel
theorem dX2_needed_20 : decode mX2_needed.2.1 20 = .ok (.iconst 1, 1) := by decide +kernel
theorem dX2_needed_21 : decode mX2_needed.2.1 21 = .ok (.isub, 1) := by decide +kernel
theorem dX2_needed_22 : decode mX2_needed.2.1 22 = .ok (.ireturn, 1) := by decide +kernel
theorem dX2_needed_23 : decode mX2_needed.2.1 23 = .ok (.iload_n 1, 1) := by decide +kernel
theorem dX2_needed_24 : decode mX2_needed.2.1 24 = .ok (.ifCond .lt 21, 3) := by decide +kernel
theorem dX2_needed_27 : decode mX2_needed.2.1 27 = .ok (.iload_n 1, 1) := by decide +kernel
theorem dX2_needed_28 : decode mX2_needed.2.1 28 = .ok (.bipush 6, 2) := by decide +kernel
theorem dX2_needed_30 : decode mX2_needed.2.1 30 = .ok (.if_icmp .ge 15, 3) := by decide +kernel
theorem dX2_needed_33 : decode mX2_needed.2.1 33 = .ok (.aload_n 0, 1) := by decide +kernel
theorem dX2_needed_34 : decode mX2_needed.2.1 34 = .ok (.getfield 43, 3) := by decide +kernel
theorem dX2_needed_37 : decode mX2_needed.2.1 37 = .ok (.getfield 57, 3) := by decide +kernel
theorem dX2_needed_40 : decode mX2_needed.2.1 40 = .ok (.iload_n 1, 1) := by decide +kernel
theorem dX2_needed_41 : decode mX2_needed.2.1 41 = .ok (.aaload, 1) := by decide +kernel
theorem dX2_needed_42 : decode mX2_needed.2.1 42 = .ok (.goto 4, 3) := by decide +kernel
theorem dX2_needed_45 : decode mX2_needed.2.1 45 = .ok (.aconst_null, 1) := by decide +kernel
theorem dX2_needed_46 : decode mX2_needed.2.1 46 = .ok (.astore_n 3, 1) := by decide +kernel
theorem dX2_needed_47 : decode mX2_needed.2.1 47 = .ok (.aload_n 3, 1) := by decide +kernel
theorem dX2_needed_48 : decode mX2_needed.2.1 48 = .ok (.ifnull 13, 3) := by decide +kernel
theorem dX2_needed_51 : decode mX2_needed.2.1 51 = .ok (.iload_n 2, 1) := by decide +kernel
theorem dX2_needed_52 : decode mX2_needed.2.1 52 = .ok (.ifCond .lt 9, 3) := by decide +kernel
theorem dX2_needed_55 : decode mX2_needed.2.1 55 = .ok (.iload_n 2, 1) := by decide +kernel
theorem dX2_needed_56 : decode mX2_needed.2.1 56 = .ok (.aload_n 3, 1) := by decide +kernel
theorem dX2_needed_57 : decode mX2_needed.2.1 57 = .ok (.arraylength, 1) := by decide +kernel
theorem dX2_needed_58 : decode mX2_needed.2.1 58 = .ok (.if_icmp .lt 7, 3) := by decide +kernel
theorem dX2_needed_61 : decode mX2_needed.2.1 61 = .ok (.iconst 0, 1) := by decide +kernel
theorem dX2_needed_62 : decode mX2_needed.2.1 62 = .ok (.goto 6, 3) := by decide +kernel
theorem dX2_needed_65 : decode mX2_needed.2.1 65 = .ok (.aload_n 3, 1) := by decide +kernel
theorem dX2_needed_66 : decode mX2_needed.2.1 66 = .ok (.iload_n 2, 1) := by decide +kernel
theorem dX2_needed_67 : decode mX2_needed.2.1 67 = .ok (.iaload, 1) := by decide +kernel
theorem dX2_needed_68 : decode mX2_needed.2.1 68 = .ok (.ireturn, 1) := by decide +kernel
theorem dX3_init_0 : decode mX3_init.2.1 0 = .ok (.aload_n 0, 1) := by decide +kernel
theorem dX3_init_1 : decode mX3_init.2.1 1 = .ok (.invokespecial 3, 3) := by decide +kernel
theorem dX3_init_4 : decode mX3_init.2.1 4 = .ok (.aload_n 0, 1) := by decide +kernel
theorem dX3_init_5 : decode mX3_init.2.1 5 = .ok (.bipush 6, 2) := by decide +kernel
theorem dX3_init_7 : decode mX3_init.2.1 7 = .ok (.bipush 8, 2) := by decide +kernel
theorem dX3_init_9 : decode mX3_init.2.1 9 = .ok (.multianewarray 9 2, 4) := by decide +kernel
theorem dX3_init_13 : decode mX3_init.2.1 13 = .ok (.putfield 11, 3) := by decide +kernel
theorem dX3_init_16 : decode mX3_init.2.1 16 = .ok (.aload_n 0, 1) := by decide +kernel
theorem dX3_init_17 : decode mX3_init.2.1 17 = .ok (.bipush 6, 2) := by decide +kernel
theorem dX3_init_19 : decode mX3_init.2.1 19 = .ok (.newarray .int, 2) := by decide +kernel
theorem dX3_init_21 : decode mX3_init.2.1 21 = .ok (.putfield 16, 3) := by decide +kernel
theorem dX3_init_24 : decode mX3_init.2.1 24 = .ok (.aload_n 0, 1) := by decide +kernel
theorem dX3_init_25 : decode mX3_init.2.1 25 = .ok (.bipush 6, 2) := by decide +kernel
theorem dX3_init_27 : decode mX3_init.2.1 27 = .ok (.newarray .int, 2) := by decide +kernel
theorem dX3_init_29 : decode mX3_init.2.1 29 = .ok (.putfield 20, 3) := by decide +kernel
theorem dX3_init_32 : decode mX3_init.2.1 32 = .ok (.aload_n 0, 1) := by decide +kernel
theorem dX3_init_33 : decode mX3_init.2.1 33 = .ok (.bipush 6, 2) := by decide +kernel
theorem dX3_init_35 : decode mX3_init.2.1 35 = .ok (.anewarray 23, 3) := by decide +kernel
theorem dX3_init_38 : decode mX3_init.2.1 38 = .ok (.putfield 25, 3) := by decide +kernel
theorem dX3_init_41 : decode mX3_init.2.1 41 = .ok (.aload_n 0, 1) := by decide +kernel
theorem dX3_init_42 : decode mX3_init.2.1 42 = .ok (.sipush 200, 3) := by decide +kernel
theorem dX3_init_45 : decode mX3_init.2.1 45 = .ok (.newarray .int, 2) := by decide +kernel
theorem dX3_init_47 : decode mX3_init.2.1 47 = .ok (.putfield 29, 3) := by decide +kernel
theorem dX3_init_50 : decode mX3_init.2.1 50 = .ok (.aload_n 0, 1) := by decide +kernel
theorem dX3_init_51 : decode mX3_init.2.1 51 = .ok (.sipush 200, 3) := by decide +kernel
theorem dX3_init_54 : decode mX3_init.2.1 54 = .ok (.anewarray 32, 3) := by decide +kernel
theorem dX3_init_57 : decode mX3_init.2.1 57 = .ok (.putfield 34, 3) := by decide +kernel
theorem dX3_init_60 : decode mX3_init.2.1 60 = .ok (.aload_n 0, 1) := by decide +kernel
theorem dX3_init_61 : decode mX3_init.2.1 61 = .ok (.bipush 40, 2) := by decide +kernel
theorem dX3_init_63 : decode mX3_init.2.1 63 = .ok (.anewarray 38, 3) := by decide +kernel
theorem dX3_init_66 : decode mX3_init.2.1 66 = .ok (.putfield 40, 3) := by decide +kernel
theorem dX3_init_69 : decode mX3_init.2.1 69 = .ok (.aload_n 0, 1) := by decide +kernel
theorem dX3_init_70 : decode mX3_init.2.1 70 = .ok (.new 44, 3) := by decide +kernel
theorem dX3_init_73 : decode mX3_init.2.1 73 = .ok (.dup, 1) := by decide +kernel
theorem dX3_init_74 : decode mX3_init.2.1 74 = .ok (.invokespecial 46, 3) := by decide +kernel
theorem dX3_init_77 : decode mX3_init.2.1 77 = .ok (.putfield 47, 3) := by decide +kernel
theorem dX3_init_80 : decode mX3_init.2.1 80 = .ok (.return_, 1) := by decide +kernel
theorem dX3_nextSerial_0 : decode mX3_nextSerial.2.1 0 = .ok (.aload_n 0, 1) := by decide +kernel
theorem dX3_nextSerial_1 : decode mX3_nextSerial.2.1 1 = .ok (.getfield 16, 3) := by decide +kernel
theorem dX3_nextSerial_4 : decode mX3_nextSerial.2.1 4 = .ok (.iload_n 1, 1) := by decide +kernel
theorem dX3_nextSerial_5 : decode mX3_nextSerial.2.1 5 = .ok (.dup2, 1) := by decide +kernel
theorem dX3_nextSerial_6 : decode mX3_nextSerial.2.1 6 = .ok (.iaload, 1) := by decide +kernel
theorem dX3_nextSerial_7 : decode mX3_nextSerial.2.1 7 = .ok (.iconst 1, 1) := by decide +kernel
theorem dX3_nextSerial_8 : decode mX3_nextSerial.2.1 8 = .ok (.iadd, 1) := by decide +kernel
theorem dX3_nextSerial_9 : decode mX3_nextSerial.2.1 9 = .ok (.iastore, 1) := by decide +kernel
theorem dX3_nextSerial_10 : decode mX3_nextSerial.2.1 10 = .ok (.aload_n 0, 1) := by decide +kernel
theorem dX3_nextSerial_11 : decode mX3_nextSerial.2.1 11 = .ok (.getfield 16, 3) := by decide +kernel
theorem dX3_nextSerial_14 : decode mX3_nextSerial.2.1 14 = .ok (.iload_n 1, 1) := by decide +kernel
theorem dX3_nextSerial_15 : decode mX3_nextSerial.2.1 15 = .ok (.iaload, 1) := by decide +kernel
theorem dX3_nextSerial_16 : decode mX3_nextSerial.2.1 16 = .ok (.ireturn, 1) := by decide +kernel
theorem dX3_hold_0 : decode mX3_hold.2.1 0 = .ok (.aload_n 0, 1) := by decide +kernel
theorem dX3_hold_1 : decode mX3_hold.2.1 1 = .ok (.getfield 51, 3) := by decide +kernel
theorem dX3_hold_4 : decode mX3_hold.2.1 4 = .ok (.aload_n 0, 1) := by decide +kernel
theorem dX3_hold_5 : decode mX3_hold.2.1 5 = .ok (.getfield 34, 3) := by decide +kernel
theorem dX3_hold_8 : decode mX3_hold.2.1 8 = .ok (.arraylength, 1) := by decide +kernel
theorem dX3_hold_9 : decode mX3_hold.2.1 9 = .ok (.if_icmp .lt 4, 3) := by decide +kernel
theorem dX3_hold_12 : decode mX3_hold.2.1 12 = .ok (.return_, 1) := by decide +kernel
theorem dX3_hold_13 : decode mX3_hold.2.1 13 = .ok (.aload_n 0, 1) := by decide +kernel
theorem dX3_hold_14 : decode mX3_hold.2.1 14 = .ok (.getfield 51, 3) := by decide +kernel
theorem dX3_hold_17 : decode mX3_hold.2.1 17 = .ok (.istore_n 2, 1) := by decide +kernel
theorem dX3_hold_18 : decode mX3_hold.2.1 18 = .ok (.iload_n 2, 1) := by decide +kernel
theorem dX3_hold_19 : decode mX3_hold.2.1 19 = .ok (.ifCond .le 41, 3) := by decide +kernel
theorem dX3_hold_22 : decode mX3_hold.2.1 22 = .ok (.aload_n 0, 1) := by decide +kernel
theorem dX3_hold_23 : decode mX3_hold.2.1 23 = .ok (.getfield 34, 3) := by decide +kernel
theorem dX3_hold_26 : decode mX3_hold.2.1 26 = .ok (.iload_n 2, 1) := by decide +kernel
theorem dX3_hold_27 : decode mX3_hold.2.1 27 = .ok (.iconst 1, 1) := by decide +kernel
theorem dX3_hold_28 : decode mX3_hold.2.1 28 = .ok (.isub, 1) := by decide +kernel
theorem dX3_hold_29 : decode mX3_hold.2.1 29 = .ok (.aaload, 1) := by decide +kernel
theorem dX3_hold_30 : decode mX3_hold.2.1 30 = .ok (.getfield 55, 3) := by decide +kernel
theorem dX3_hold_33 : decode mX3_hold.2.1 33 = .ok (.aload_n 1, 1) := by decide +kernel
theorem dX3_hold_34 : decode mX3_hold.2.1 34 = .ok (.getfield 55, 3) := by decide +kernel
theorem dX3_hold_37 : decode mX3_hold.2.1 37 = .ok (.if_icmp .le 23, 3) := by decide +kernel
theorem dX3_hold_40 : decode mX3_hold.2.1 40 = .ok (.aload_n 0, 1) := by decide +kernel
theorem dX3_hold_41 : decode mX3_hold.2.1 41 = .ok (.getfield 34, 3) := by decide +kernel
theorem dX3_hold_44 : decode mX3_hold.2.1 44 = .ok (.iload_n 2, 1) := by decide +kernel
theorem dX3_hold_45 : decode mX3_hold.2.1 45 = .ok (.aload_n 0, 1) := by decide +kernel
theorem dX3_hold_46 : decode mX3_hold.2.1 46 = .ok (.getfield 34, 3) := by decide +kernel
theorem dX3_hold_49 : decode mX3_hold.2.1 49 = .ok (.iload_n 2, 1) := by decide +kernel
theorem dX3_hold_50 : decode mX3_hold.2.1 50 = .ok (.iconst 1, 1) := by decide +kernel
theorem dX3_hold_51 : decode mX3_hold.2.1 51 = .ok (.isub, 1) := by decide +kernel
theorem dX3_hold_52 : decode mX3_hold.2.1 52 = .ok (.aaload, 1) := by decide +kernel
theorem dX3_hold_53 : decode mX3_hold.2.1 53 = .ok (.aastore, 1) := by decide +kernel
theorem dX3_hold_54 : decode mX3_hold.2.1 54 = .ok (.iinc 2 (-1), 3) := by decide +kernel
theorem dX3_hold_57 : decode mX3_hold.2.1 57 = .ok (.goto (-39), 3) := by decide +kernel
theorem dX3_hold_60 : decode mX3_hold.2.1 60 = .ok (.aload_n 0, 1) := by decide +kernel
theorem dX3_hold_61 : decode mX3_hold.2.1 61 = .ok (.getfield 34, 3) := by decide +kernel
theorem dX3_hold_64 : decode mX3_hold.2.1 64 = .ok (.iload_n 2, 1) := by decide +kernel
theorem dX3_hold_65 : decode mX3_hold.2.1 65 = .ok (.aload_n 1, 1) := by decide +kernel
theorem dX3_hold_66 : decode mX3_hold.2.1 66 = .ok (.aastore, 1) := by decide +kernel
theorem dX3_hold_67 : decode mX3_hold.2.1 67 = .ok (.aload_n 0, 1) := by decide +kernel
theorem dX3_hold_68 : decode mX3_hold.2.1 68 = .ok (.dup, 1) := by decide +kernel
theorem dX3_hold_69 : decode mX3_hold.2.1 69 = .ok (.getfield 51, 3) := by decide +kernel
theorem dX3_hold_72 : decode mX3_hold.2.1 72 = .ok (.iconst 1, 1) := by decide +kernel
theorem dX3_hold_73 : decode mX3_hold.2.1 73 = .ok (.iadd, 1) := by decide +kernel
theorem dX3_hold_74 : decode mX3_hold.2.1 74 = .ok (.putfield 51, 3) := by decide +kernel
theorem dX3_hold_77 : decode mX3_hold.2.1 77 = .ok (.aload_n 0, 1) := by decide +kernel
theorem dX3_hold_78 : decode mX3_hold.2.1 78 = .ok (.aload_n 1, 1) := by decide +kernel
theorem dX3_hold_79 : decode mX3_hold.2.1 79 = .ok (.invokevirtual 58, 3) := by decide +kernel
theorem dX3_hold_82 : decode mX3_hold.2.1 82 = .ok (.return_, 1) := by decide +kernel
theorem dX3_takeSlot_0 : decode mX3_takeSlot.2.1 0 = .ok (.iconst 0, 1) := by decide +kernel
theorem dX3_takeSlot_1 : decode mX3_takeSlot.2.1 1 = .ok (.istore_n 2, 1) := by decide +kernel
theorem dX3_takeSlot_2 : decode mX3_takeSlot.2.1 2 = .ok (.iload_n 2, 1) := by decide +kernel
theorem dX3_takeSlot_3 : decode mX3_takeSlot.2.1 3 = .ok (.aload_n 0, 1) := by decide +kernel
theorem dX3_takeSlot_4 : decode mX3_takeSlot.2.1 4 = .ok (.getfield 40, 3) := by decide +kernel
theorem dX3_takeSlot_7 : decode mX3_takeSlot.2.1 7 = .ok (.arraylength, 1) := by decide +kernel
theorem dX3_takeSlot_8 : decode mX3_takeSlot.2.1 8 = .ok (.if_icmp .ge 26, 3) := by decide +kernel
theorem dX3_takeSlot_11 : decode mX3_takeSlot.2.1 11 = .ok (.aload_n 0, 1) := by decide +kernel
theorem dX3_takeSlot_12 : decode mX3_takeSlot.2.1 12 = .ok (.getfield 40, 3) := by decide +kernel
theorem dX3_takeSlot_15 : decode mX3_takeSlot.2.1 15 = .ok (.iload_n 2, 1) := by decide +kernel
theorem dX3_takeSlot_16 : decode mX3_takeSlot.2.1 16 = .ok (.aaload, 1) := by decide +kernel
theorem dX3_takeSlot_17 : decode mX3_takeSlot.2.1 17 = .ok (.ifnonnull 11, 3) := by decide +kernel
theorem dX3_takeSlot_20 : decode mX3_takeSlot.2.1 20 = .ok (.aload_n 0, 1) := by decide +kernel
theorem dX3_takeSlot_21 : decode mX3_takeSlot.2.1 21 = .ok (.getfield 40, 3) := by decide +kernel
theorem dX3_takeSlot_24 : decode mX3_takeSlot.2.1 24 = .ok (.iload_n 2, 1) := by decide +kernel
theorem dX3_takeSlot_25 : decode mX3_takeSlot.2.1 25 = .ok (.aload_n 1, 1) := by decide +kernel
theorem dX3_takeSlot_26 : decode mX3_takeSlot.2.1 26 = .ok (.aastore, 1) := by decide +kernel
theorem dX3_takeSlot_27 : decode mX3_takeSlot.2.1 27 = .ok (.return_, 1) := by decide +kernel
theorem dX3_takeSlot_28 : decode mX3_takeSlot.2.1 28 = .ok (.iinc 2 1, 3) := by decide +kernel
theorem dX3_takeSlot_31 : decode mX3_takeSlot.2.1 31 = .ok (.goto (-29), 3) := by decide +kernel
theorem dX3_takeSlot_34 : decode mX3_takeSlot.2.1 34 = .ok (.return_, 1) := by decide +kernel
theorem dX3_release_0 : decode mX3_release.2.1 0 = .ok (.aload_n 0, 1) := by decide +kernel
theorem dX3_release_1 : decode mX3_release.2.1 1 = .ok (.aload_n 1, 1) := by decide +kernel
theorem dX3_release_2 : decode mX3_release.2.1 2 = .ok (.invokevirtual 62, 3) := by decide +kernel
theorem dX3_release_5 : decode mX3_release.2.1 5 = .ok (.aload_n 0, 1) := by decide +kernel
theorem dX3_release_6 : decode mX3_release.2.1 6 = .ok (.aload_n 1, 1) := by decide +kernel
theorem dX3_release_7 : decode mX3_release.2.1 7 = .ok (.invokevirtual 65, 3) := by decide +kernel
theorem dX3_release_10 : decode mX3_release.2.1 10 = .ok (.aload_n 0, 1) := by decide +kernel
theorem dX3_release_11 : decode mX3_release.2.1 11 = .ok (.getfield 11, 3) := by decide +kernel
theorem dX3_release_14 : decode mX3_release.2.1 14 = .ok (.aload_n 1, 1) := by decide +kernel
theorem dX3_release_15 : decode mX3_release.2.1 15 = .ok (.getfield 68, 3) := by decide +kernel
theorem dX3_release_18 : decode mX3_release.2.1 18 = .ok (.aaload, 1) := by decide +kernel
theorem dX3_release_19 : decode mX3_release.2.1 19 = .ok (.aload_n 1, 1) := by decide +kernel
theorem dX3_release_20 : decode mX3_release.2.1 20 = .ok (.getfield 71, 3) := by decide +kernel
theorem dX3_release_23 : decode mX3_release.2.1 23 = .ok (.dup2, 1) := by decide +kernel
theorem dX3_release_24 : decode mX3_release.2.1 24 = .ok (.iaload, 1) := by decide +kernel
theorem dX3_release_25 : decode mX3_release.2.1 25 = .ok (.iconst 1, 1) := by decide +kernel
theorem dX3_release_26 : decode mX3_release.2.1 26 = .ok (.iadd, 1) := by decide +kernel
theorem dX3_release_27 : decode mX3_release.2.1 27 = .ok (.iastore, 1) := by decide +kernel
theorem dX3_release_28 : decode mX3_release.2.1 28 = .ok (.aload_n 1, 1) := by decide +kernel
theorem dX3_release_29 : decode mX3_release.2.1 29 = .ok (.getfield 74, 3) := by decide +kernel
theorem dX3_release_32 : decode mX3_release.2.1 32 = .ok (.iconst 2, 1) := by decide +kernel
theorem dX3_release_33 : decode mX3_release.2.1 33 = .ok (.if_icmp .ne 16, 3) := by decide +kernel
theorem dX3_release_36 : decode mX3_release.2.1 36 = .ok (.aload_n 0, 1) := by decide +kernel
theorem dX3_release_37 : decode mX3_release.2.1 37 = .ok (.getfield 20, 3) := by decide +kernel
theorem dX3_release_40 : decode mX3_release.2.1 40 = .ok (.aload_n 1, 1) := by decide +kernel
theorem dX3_release_41 : decode mX3_release.2.1 41 = .ok (.getfield 68, 3) := by decide +kernel
theorem dX3_release_44 : decode mX3_release.2.1 44 = .ok (.dup2, 1) := by decide +kernel
theorem dX3_release_45 : decode mX3_release.2.1 45 = .ok (.iaload, 1) := by decide +kernel
theorem dX3_release_46 : decode mX3_release.2.1 46 = .ok (.iconst 1, 1) := by decide +kernel
theorem dX3_release_47 : decode mX3_release.2.1 47 = .ok (.iadd, 1) := by decide +kernel
theorem dX3_release_48 : decode mX3_release.2.1 48 = .ok (.iastore, 1) := by decide +kernel
theorem dX3_release_49 : decode mX3_release.2.1 49 = .ok (.aload_n 0, 1) := by decide +kernel
theorem dX3_release_50 : decode mX3_release.2.1 50 = .ok (.getfield 77, 3) := by decide +kernel
theorem dX3_release_53 : decode mX3_release.2.1 53 = .ok (.aload_n 0, 1) := by decide +kernel
theorem dX3_release_54 : decode mX3_release.2.1 54 = .ok (.getfield 29, 3) := by decide +kernel
theorem dX3_release_57 : decode mX3_release.2.1 57 = .ok (.arraylength, 1) := by decide +kernel
theorem dX3_release_58 : decode mX3_release.2.1 58 = .ok (.if_icmp .ge 26, 3) := by decide +kernel
theorem dX3_release_61 : decode mX3_release.2.1 61 = .ok (.aload_n 0, 1) := by decide +kernel
theorem dX3_release_62 : decode mX3_release.2.1 62 = .ok (.getfield 29, 3) := by decide +kernel
theorem dX3_release_65 : decode mX3_release.2.1 65 = .ok (.aload_n 0, 1) := by decide +kernel
theorem dX3_release_66 : decode mX3_release.2.1 66 = .ok (.getfield 77, 3) := by decide +kernel
theorem dX3_release_69 : decode mX3_release.2.1 69 = .ok (.aload_n 1, 1) := by decide +kernel
theorem dX3_release_70 : decode mX3_release.2.1 70 = .ok (.getfield 55, 3) := by decide +kernel
theorem dX3_release_73 : decode mX3_release.2.1 73 = .ok (.iastore, 1) := by decide +kernel
theorem dX3_release_74 : decode mX3_release.2.1 74 = .ok (.aload_n 0, 1) := by decide +kernel
theorem dX3_release_75 : decode mX3_release.2.1 75 = .ok (.dup, 1) := by decide +kernel
theorem dX3_release_76 : decode mX3_release.2.1 76 = .ok (.getfield 77, 3) := by decide +kernel
theorem dX3_release_79 : decode mX3_release.2.1 79 = .ok (.iconst 1, 1) := by decide +kernel
theorem dX3_release_80 : decode mX3_release.2.1 80 = .ok (.iadd, 1) := by decide +kernel
theorem dX3_release_81 : decode mX3_release.2.1 81 = .ok (.putfield 77, 3) := by decide +kernel
theorem dX3_release_84 : decode mX3_release.2.1 84 = .ok (.aload_n 0, 1) := by decide +kernel
theorem dX3_release_85 : decode mX3_release.2.1 85 = .ok (.getfield 47, 3) := by decide +kernel
theorem dX3_release_88 : decode mX3_release.2.1 88 = .ok (.aload_n 1, 1) := by decide +kernel
theorem dX3_release_89 : decode mX3_release.2.1 89 = .ok (.getfield 80, 3) := by decide +kernel
theorem dX3_release_92 : decode mX3_release.2.1 92 = .ok (.invokevirtual 83, 3) := by decide +kernel
theorem dX3_release_95 : decode mX3_release.2.1 95 = .ok (.aload_n 0, 1) := by decide +kernel
theorem dX3_release_96 : decode mX3_release.2.1 96 = .ok (.getfield 47, 3) := by decide +kernel
theorem dX3_release_99 : decode mX3_release.2.1 99 = .ok (.aload_n 1, 1) := by decide +kernel
theorem dX3_release_100 : decode mX3_release.2.1 100 = .ok (.getfield 55, 3) := by decide +kernel
theorem dX3_release_103 : decode mX3_release.2.1 103 = .ok (.invokevirtual 87, 3) := by decide +kernel
theorem dX3_release_106 : decode mX3_release.2.1 106 = .ok (.return_, 1) := by decide +kernel
theorem dX3_dropHeld_0 : decode mX3_dropHeld.2.1 0 = .ok (.iconst 0, 1) := by decide +kernel
theorem dX3_dropHeld_1 : decode mX3_dropHeld.2.1 1 = .ok (.istore_n 2, 1) := by decide +kernel
theorem dX3_dropHeld_2 : decode mX3_dropHeld.2.1 2 = .ok (.iconst 0, 1) := by decide +kernel
theorem dX3_dropHeld_3 : decode mX3_dropHeld.2.1 3 = .ok (.istore_n 3, 1) := by decide +kernel
theorem dX3_dropHeld_4 : decode mX3_dropHeld.2.1 4 = .ok (.iload_n 3, 1) := by decide +kernel
theorem dX3_dropHeld_5 : decode mX3_dropHeld.2.1 5 = .ok (.aload_n 0, 1) := by decide +kernel
theorem dX3_dropHeld_6 : decode mX3_dropHeld.2.1 6 = .ok (.getfield 51, 3) := by decide +kernel
theorem dX3_dropHeld_9 : decode mX3_dropHeld.2.1 9 = .ok (.if_icmp .ge 34, 3) := by decide +kernel
theorem dX3_dropHeld_12 : decode mX3_dropHeld.2.1 12 = .ok (.aload_n 0, 1) := by decide +kernel
theorem dX3_dropHeld_13 : decode mX3_dropHeld.2.1 13 = .ok (.getfield 34, 3) := by decide +kernel
theorem dX3_dropHeld_16 : decode mX3_dropHeld.2.1 16 = .ok (.iload_n 3, 1) := by decide +kernel
theorem dX3_dropHeld_17 : decode mX3_dropHeld.2.1 17 = .ok (.aaload, 1) := by decide +kernel
theorem dX3_dropHeld_18 : decode mX3_dropHeld.2.1 18 = .ok (.aload_n 1, 1) := by decide +kernel
theorem dX3_dropHeld_19 : decode mX3_dropHeld.2.1 19 = .ok (.if_acmp .eq 18, 3) := by decide +kernel
theorem dX3_dropHeld_22 : decode mX3_dropHeld.2.1 22 = .ok (.aload_n 0, 1) := by decide +kernel
theorem dX3_dropHeld_23 : decode mX3_dropHeld.2.1 23 = .ok (.getfield 34, 3) := by decide +kernel
theorem dX3_dropHeld_26 : decode mX3_dropHeld.2.1 26 = .ok (.iload_n 2, 1) := by decide +kernel
theorem dX3_dropHeld_27 : decode mX3_dropHeld.2.1 27 = .ok (.aload_n 0, 1) := by decide +kernel
theorem dX3_dropHeld_28 : decode mX3_dropHeld.2.1 28 = .ok (.getfield 34, 3) := by decide +kernel
theorem dX3_dropHeld_31 : decode mX3_dropHeld.2.1 31 = .ok (.iload_n 3, 1) := by decide +kernel
theorem dX3_dropHeld_32 : decode mX3_dropHeld.2.1 32 = .ok (.aaload, 1) := by decide +kernel
theorem dX3_dropHeld_33 : decode mX3_dropHeld.2.1 33 = .ok (.aastore, 1) := by decide +kernel
theorem dX3_dropHeld_34 : decode mX3_dropHeld.2.1 34 = .ok (.iinc 2 1, 3) := by decide +kernel
theorem dX3_dropHeld_37 : decode mX3_dropHeld.2.1 37 = .ok (.iinc 3 1, 3) := by decide +kernel
theorem dX3_dropHeld_40 : decode mX3_dropHeld.2.1 40 = .ok (.goto (-36), 3) := by decide +kernel
theorem dX3_dropHeld_43 : decode mX3_dropHeld.2.1 43 = .ok (.aload_n 0, 1) := by decide +kernel
theorem dX3_dropHeld_44 : decode mX3_dropHeld.2.1 44 = .ok (.iload_n 2, 1) := by decide +kernel
theorem dX3_dropHeld_45 : decode mX3_dropHeld.2.1 45 = .ok (.putfield 51, 3) := by decide +kernel
theorem dX3_dropHeld_48 : decode mX3_dropHeld.2.1 48 = .ok (.return_, 1) := by decide +kernel
theorem dX3_leaveSlot_0 : decode mX3_leaveSlot.2.1 0 = .ok (.iconst 0, 1) := by decide +kernel
theorem dX3_leaveSlot_1 : decode mX3_leaveSlot.2.1 1 = .ok (.istore_n 2, 1) := by decide +kernel
theorem dX3_leaveSlot_2 : decode mX3_leaveSlot.2.1 2 = .ok (.iload_n 2, 1) := by decide +kernel
theorem dX3_leaveSlot_3 : decode mX3_leaveSlot.2.1 3 = .ok (.aload_n 0, 1) := by decide +kernel
theorem dX3_leaveSlot_4 : decode mX3_leaveSlot.2.1 4 = .ok (.getfield 40, 3) := by decide +kernel
theorem dX3_leaveSlot_7 : decode mX3_leaveSlot.2.1 7 = .ok (.arraylength, 1) := by decide +kernel
theorem dX3_leaveSlot_8 : decode mX3_leaveSlot.2.1 8 = .ok (.if_icmp .ge 26, 3) := by decide +kernel
theorem dX3_leaveSlot_11 : decode mX3_leaveSlot.2.1 11 = .ok (.aload_n 0, 1) := by decide +kernel
theorem dX3_leaveSlot_12 : decode mX3_leaveSlot.2.1 12 = .ok (.getfield 40, 3) := by decide +kernel
theorem dX3_leaveSlot_15 : decode mX3_leaveSlot.2.1 15 = .ok (.iload_n 2, 1) := by decide +kernel
theorem dX3_leaveSlot_16 : decode mX3_leaveSlot.2.1 16 = .ok (.aaload, 1) := by decide +kernel
theorem dX3_leaveSlot_17 : decode mX3_leaveSlot.2.1 17 = .ok (.aload_n 1, 1) := by decide +kernel
theorem dX3_leaveSlot_18 : decode mX3_leaveSlot.2.1 18 = .ok (.if_acmp .ne 10, 3) := by decide +kernel
theorem dX3_leaveSlot_21 : decode mX3_leaveSlot.2.1 21 = .ok (.aload_n 0, 1) := by decide +kernel
theorem dX3_leaveSlot_22 : decode mX3_leaveSlot.2.1 22 = .ok (.getfield 40, 3) := by decide +kernel
theorem dX3_leaveSlot_25 : decode mX3_leaveSlot.2.1 25 = .ok (.iload_n 2, 1) := by decide +kernel
theorem dX3_leaveSlot_26 : decode mX3_leaveSlot.2.1 26 = .ok (.aconst_null, 1) := by decide +kernel
theorem dX3_leaveSlot_27 : decode mX3_leaveSlot.2.1 27 = .ok (.aastore, 1) := by decide +kernel
theorem dX3_leaveSlot_28 : decode mX3_leaveSlot.2.1 28 = .ok (.iinc 2 1, 3) := by decide +kernel
theorem dX3_leaveSlot_31 : decode mX3_leaveSlot.2.1 31 = .ok (.goto (-29), 3) := by decide +kernel
theorem dX3_leaveSlot_34 : decode mX3_leaveSlot.2.1 34 = .ok (.return_, 1) := by decide +kernel
theorem dX4_init_0 : decode mX4_init.2.1 0 = .ok (.aload_n 0, 1) := by decide +kernel
theorem dX4_init_1 : decode mX4_init.2.1 1 = .ok (.invokespecial 3, 3) := by decide +kernel
theorem dX4_init_4 : decode mX4_init.2.1 4 = .ok (.aload_n 0, 1) := by decide +kernel
theorem dX4_init_5 : decode mX4_init.2.1 5 = .ok (.iconst 4, 1) := by decide +kernel
theorem dX4_init_6 : decode mX4_init.2.1 6 = .ok (.newarray .long, 2) := by decide +kernel
theorem dX4_init_8 : decode mX4_init.2.1 8 = .ok (.putfield 11, 3) := by decide +kernel
theorem dX4_init_11 : decode mX4_init.2.1 11 = .ok (.return_, 1) := by decide +kernel
theorem dX4_add_0 : decode mX4_add.2.1 0 = .ok (.iload_n 1, 1) := by decide +kernel
theorem dX4_add_1 : decode mX4_add.2.1 1 = .ok (.ifCond .lt 28, 3) := by decide +kernel
theorem dX4_add_4 : decode mX4_add.2.1 4 = .ok (.iload_n 1, 1) := by decide +kernel
theorem dX4_add_5 : decode mX4_add.2.1 5 = .ok (.sipush 200, 3) := by decide +kernel
theorem dX4_add_8 : decode mX4_add.2.1 8 = .ok (.if_icmp .ge 21, 3) := by decide +kernel
theorem dX4_add_11 : decode mX4_add.2.1 11 = .ok (.aload_n 0, 1) := by decide +kernel
theorem dX4_add_12 : decode mX4_add.2.1 12 = .ok (.getfield 11, 3) := by decide +kernel
theorem dX4_add_15 : decode mX4_add.2.1 15 = .ok (.iload_n 1, 1) := by decide +kernel
theorem dX4_add_16 : decode mX4_add.2.1 16 = .ok (.bipush 64, 2) := by decide +kernel
theorem dX4_add_18 : decode mX4_add.2.1 18 = .ok (.idiv, 1) := by decide +kernel
theorem dX4_add_19 : decode mX4_add.2.1 19 = .ok (.dup2, 1) := by decide +kernel
theorem dX4_add_20 : decode mX4_add.2.1 20 = .ok (.laload, 1) := by decide +kernel
theorem dX4_add_21 : decode mX4_add.2.1 21 = .ok (.lconst 1, 1) := by decide +kernel
theorem dX4_add_22 : decode mX4_add.2.1 22 = .ok (.iload_n 1, 1) := by decide +kernel
theorem dX4_add_23 : decode mX4_add.2.1 23 = .ok (.bipush 64, 2) := by decide +kernel
theorem dX4_add_25 : decode mX4_add.2.1 25 = .ok (.irem, 1) := by decide +kernel
theorem dX4_add_26 : decode mX4_add.2.1 26 = .ok (.lshl, 1) := by decide +kernel
theorem dX4_add_27 : decode mX4_add.2.1 27 = .ok (.lor, 1) := by decide +kernel
theorem dX4_add_28 : decode mX4_add.2.1 28 = .ok (.lastore, 1) := by decide +kernel
theorem dX4_add_29 : decode mX4_add.2.1 29 = .ok (.return_, 1) := by decide +kernel
theorem dX4_addAll_0 : decode mX4_addAll.2.1 0 = .ok (.iconst 0, 1) := by decide +kernel
theorem dX4_addAll_1 : decode mX4_addAll.2.1 1 = .ok (.istore_n 2, 1) := by decide +kernel
theorem dX4_addAll_2 : decode mX4_addAll.2.1 2 = .ok (.iload_n 2, 1) := by decide +kernel
theorem dX4_addAll_3 : decode mX4_addAll.2.1 3 = .ok (.aload_n 0, 1) := by decide +kernel
theorem dX4_addAll_4 : decode mX4_addAll.2.1 4 = .ok (.getfield 11, 3) := by decide +kernel
theorem dX4_addAll_7 : decode mX4_addAll.2.1 7 = .ok (.arraylength, 1) := by decide +kernel
theorem dX4_addAll_8 : decode mX4_addAll.2.1 8 = .ok (.if_icmp .ge 24, 3) := by decide +kernel
theorem dX4_addAll_11 : decode mX4_addAll.2.1 11 = .ok (.aload_n 0, 1) := by decide +kernel
theorem dX4_addAll_12 : decode mX4_addAll.2.1 12 = .ok (.getfield 11, 3) := by decide +kernel
theorem dX4_addAll_15 : decode mX4_addAll.2.1 15 = .ok (.iload_n 2, 1) := by decide +kernel
theorem dX4_addAll_16 : decode mX4_addAll.2.1 16 = .ok (.dup2, 1) := by decide +kernel
theorem dX4_addAll_17 : decode mX4_addAll.2.1 17 = .ok (.laload, 1) := by decide +kernel
theorem dX4_addAll_18 : decode mX4_addAll.2.1 18 = .ok (.aload_n 1, 1) := by decide +kernel
theorem dX4_addAll_19 : decode mX4_addAll.2.1 19 = .ok (.getfield 11, 3) := by decide +kernel
theorem dX4_addAll_22 : decode mX4_addAll.2.1 22 = .ok (.iload_n 2, 1) := by decide +kernel
theorem dX4_addAll_23 : decode mX4_addAll.2.1 23 = .ok (.laload, 1) := by decide +kernel
theorem dX4_addAll_24 : decode mX4_addAll.2.1 24 = .ok (.lor, 1) := by decide +kernel
theorem dX4_addAll_25 : decode mX4_addAll.2.1 25 = .ok (.lastore, 1) := by decide +kernel
theorem dX4_addAll_26 : decode mX4_addAll.2.1 26 = .ok (.iinc 2 1, 3) := by decide +kernel
theorem dX4_addAll_29 : decode mX4_addAll.2.1 29 = .ok (.goto (-27), 3) := by decide +kernel
theorem dX4_addAll_32 : decode mX4_addAll.2.1 32 = .ok (.return_, 1) := by decide +kernel
theorem dX4_has_0 : decode mX4_has.2.1 0 = .ok (.iload_n 1, 1) := by decide +kernel
theorem dX4_has_1 : decode mX4_has.2.1 1 = .ok (.ifCond .lt 35, 3) := by decide +kernel
theorem dX4_has_4 : decode mX4_has.2.1 4 = .ok (.iload_n 1, 1) := by decide +kernel
theorem dX4_has_5 : decode mX4_has.2.1 5 = .ok (.sipush 200, 3) := by decide +kernel
theorem dX4_has_8 : decode mX4_has.2.1 8 = .ok (.if_icmp .ge 28, 3) := by decide +kernel
theorem dX4_has_11 : decode mX4_has.2.1 11 = .ok (.aload_n 0, 1) := by decide +kernel
theorem dX4_has_12 : decode mX4_has.2.1 12 = .ok (.getfield 11, 3) := by decide +kernel
theorem dX4_has_15 : decode mX4_has.2.1 15 = .ok (.iload_n 1, 1) := by decide +kernel
theorem dX4_has_16 : decode mX4_has.2.1 16 = .ok (.bipush 64, 2) := by decide +kernel
theorem dX4_has_18 : decode mX4_has.2.1 18 = .ok (.idiv, 1) := by decide +kernel
theorem dX4_has_19 : decode mX4_has.2.1 19 = .ok (.laload, 1) := by decide +kernel
theorem dX4_has_20 : decode mX4_has.2.1 20 = .ok (.iload_n 1, 1) := by decide +kernel
theorem dX4_has_21 : decode mX4_has.2.1 21 = .ok (.bipush 64, 2) := by decide +kernel
theorem dX4_has_23 : decode mX4_has.2.1 23 = .ok (.irem, 1) := by decide +kernel
theorem dX4_has_24 : decode mX4_has.2.1 24 = .ok (.lushr, 1) := by decide +kernel
theorem dX4_has_25 : decode mX4_has.2.1 25 = .ok (.lconst 1, 1) := by decide +kernel
theorem dX4_has_26 : decode mX4_has.2.1 26 = .ok (.land, 1) := by decide +kernel
theorem dX4_has_27 : decode mX4_has.2.1 27 = .ok (.lconst 0, 1) := by decide +kernel
theorem dX4_has_28 : decode mX4_has.2.1 28 = .ok (.lcmp, 1) := by decide +kernel
theorem dX4_has_29 : decode mX4_has.2.1 29 = .ok (.ifCond .eq 7, 3) := by decide +kernel
theorem dX4_has_32 : decode mX4_has.2.1 32 = .ok (.iconst 1, 1) := by decide +kernel
theorem dX4_has_33 : decode mX4_has.2.1 33 = .ok (.goto 4, 3) := by decide +kernel
theorem dX4_has_36 : decode mX4_has.2.1 36 = .ok (.iconst 0, 1) := by decide +kernel
theorem dX4_has_37 : decode mX4_has.2.1 37 = .ok (.ireturn, 1) := by decide +kernel
theorem dX4_size_0 : decode mX4_size.2.1 0 = .ok (.iconst 0, 1) := by decide +kernel
theorem dX4_size_1 : decode mX4_size.2.1 1 = .ok (.istore_n 1, 1) := by decide +kernel
theorem dX4_size_2 : decode mX4_size.2.1 2 = .ok (.iconst 0, 1) := by decide +kernel
theorem dX4_size_3 : decode mX4_size.2.1 3 = .ok (.istore_n 2, 1) := by decide +kernel
theorem dX4_size_4 : decode mX4_size.2.1 4 = .ok (.iload_n 2, 1) := by decide +kernel
theorem dX4_size_5 : decode mX4_size.2.1 5 = .ok (.aload_n 0, 1) := by decide +kernel
theorem dX4_size_6 : decode mX4_size.2.1 6 = .ok (.getfield 11, 3) := by decide +kernel
theorem dX4_size_9 : decode mX4_size.2.1 9 = .ok (.arraylength, 1) := by decide +kernel
theorem dX4_size_10 : decode mX4_size.2.1 10 = .ok (.if_icmp .ge 21, 3) := by decide +kernel
theorem dX4_size_13 : decode mX4_size.2.1 13 = .ok (.iload_n 1, 1) := by decide +kernel
theorem dX4_size_14 : decode mX4_size.2.1 14 = .ok (.aload_n 0, 1) := by decide +kernel
theorem dX4_size_15 : decode mX4_size.2.1 15 = .ok (.getfield 11, 3) := by decide +kernel
theorem dX4_size_18 : decode mX4_size.2.1 18 = .ok (.iload_n 2, 1) := by decide +kernel
theorem dX4_size_19 : decode mX4_size.2.1 19 = .ok (.laload, 1) := by decide +kernel
theorem dX4_size_20 : decode mX4_size.2.1 20 = .ok (.invokestatic 15, 3) := by decide +kernel
theorem dX4_size_23 : decode mX4_size.2.1 23 = .ok (.iadd, 1) := by decide +kernel
theorem dX4_size_24 : decode mX4_size.2.1 24 = .ok (.istore_n 1, 1) := by decide +kernel
theorem dX4_size_25 : decode mX4_size.2.1 25 = .ok (.iinc 2 1, 3) := by decide +kernel
theorem dX4_size_28 : decode mX4_size.2.1 28 = .ok (.goto (-24), 3) := by decide +kernel
theorem dX4_size_31 : decode mX4_size.2.1 31 = .ok (.iload_n 1, 1) := by decide +kernel
theorem dX4_size_32 : decode mX4_size.2.1 32 = .ok (.ireturn, 1) := by decide +kernel
theorem dX6_init_0 : decode mX6_init.2.1 0 = .ok (.aload_n 0, 1) := by decide +kernel
theorem dX6_init_1 : decode mX6_init.2.1 1 = .ok (.invokespecial 3, 3) := by decide +kernel
theorem dX6_init_4 : decode mX6_init.2.1 4 = .ok (.aload_n 0, 1) := by decide +kernel
theorem dX6_init_5 : decode mX6_init.2.1 5 = .ok (.bipush 60, 2) := by decide +kernel
theorem dX6_init_7 : decode mX6_init.2.1 7 = .ok (.newarray .int, 2) := by decide +kernel
theorem dX6_init_9 : decode mX6_init.2.1 9 = .ok (.putfield 9, 3) := by decide +kernel
theorem dX6_init_12 : decode mX6_init.2.1 12 = .ok (.return_, 1) := by decide +kernel
theorem dX6_restart_0 : decode mX6_restart.2.1 0 = .ok (.aload_n 0, 1) := by decide +kernel
theorem dX6_restart_1 : decode mX6_restart.2.1 1 = .ok (.iconst 0, 1) := by decide +kernel
theorem dX6_restart_2 : decode mX6_restart.2.1 2 = .ok (.putfield 15, 3) := by decide +kernel
theorem dX6_restart_5 : decode mX6_restart.2.1 5 = .ok (.return_, 1) := by decide +kernel
theorem dX6_begunCount_0 : decode mX6_begunCount.2.1 0 = .ok (.aload_n 0, 1) := by decide +kernel
theorem dX6_begunCount_1 : decode mX6_begunCount.2.1 1 = .ok (.getfield 15, 3) := by decide +kernel
theorem dX6_begunCount_4 : decode mX6_begunCount.2.1 4 = .ok (.ireturn, 1) := by decide +kernel
theorem dX6_begin_0 : decode mX6_begin.2.1 0 = .ok (.aload_n 0, 1) := by decide +kernel
theorem dX6_begin_1 : decode mX6_begin.2.1 1 = .ok (.getfield 15, 3) := by decide +kernel
theorem dX6_begin_4 : decode mX6_begin.2.1 4 = .ok (.aload_n 0, 1) := by decide +kernel
theorem dX6_begin_5 : decode mX6_begin.2.1 5 = .ok (.getfield 9, 3) := by decide +kernel
theorem dX6_begin_8 : decode mX6_begin.2.1 8 = .ok (.arraylength, 1) := by decide +kernel
theorem dX6_begin_9 : decode mX6_begin.2.1 9 = .ok (.if_icmp .ge 13, 3) := by decide +kernel
theorem dX6_begin_12 : decode mX6_begin.2.1 12 = .ok (.aload_n 0, 1) := by decide +kernel
theorem dX6_begin_13 : decode mX6_begin.2.1 13 = .ok (.getfield 9, 3) := by decide +kernel
theorem dX6_begin_16 : decode mX6_begin.2.1 16 = .ok (.aload_n 0, 1) := by decide +kernel
theorem dX6_begin_17 : decode mX6_begin.2.1 17 = .ok (.getfield 15, 3) := by decide +kernel
theorem dX6_begin_20 : decode mX6_begin.2.1 20 = .ok (.iload_n 1, 1) := by decide +kernel
theorem dX6_begin_21 : decode mX6_begin.2.1 21 = .ok (.iastore, 1) := by decide +kernel
theorem dX6_begin_22 : decode mX6_begin.2.1 22 = .ok (.aload_n 0, 1) := by decide +kernel
theorem dX6_begin_23 : decode mX6_begin.2.1 23 = .ok (.dup, 1) := by decide +kernel
theorem dX6_begin_24 : decode mX6_begin.2.1 24 = .ok (.getfield 15, 3) := by decide +kernel
theorem dX6_begin_27 : decode mX6_begin.2.1 27 = .ok (.iconst 1, 1) := by decide +kernel
theorem dX6_begin_28 : decode mX6_begin.2.1 28 = .ok (.iadd, 1) := by decide +kernel
theorem dX6_begin_29 : decode mX6_begin.2.1 29 = .ok (.putfield 15, 3) := by decide +kernel
theorem dX6_begin_32 : decode mX6_begin.2.1 32 = .ok (.return_, 1) := by decide +kernel
theorem dX6_bodyAt_0 : decode mX6_bodyAt.2.1 0 = .ok (.iload_n 1, 1) := by decide +kernel
theorem dX6_bodyAt_1 : decode mX6_bodyAt.2.1 1 = .ok (.ifCond .lt 29, 3) := by decide +kernel
theorem dX6_bodyAt_4 : decode mX6_bodyAt.2.1 4 = .ok (.iload_n 1, 1) := by decide +kernel
theorem dX6_bodyAt_5 : decode mX6_bodyAt.2.1 5 = .ok (.aload_n 0, 1) := by decide +kernel
theorem dX6_bodyAt_6 : decode mX6_bodyAt.2.1 6 = .ok (.getfield 15, 3) := by decide +kernel
theorem dX6_bodyAt_9 : decode mX6_bodyAt.2.1 9 = .ok (.if_icmp .ge 21, 3) := by decide +kernel
theorem dX6_bodyAt_12 : decode mX6_bodyAt.2.1 12 = .ok (.iload_n 1, 1) := by decide +kernel
theorem dX6_bodyAt_13 : decode mX6_bodyAt.2.1 13 = .ok (.aload_n 0, 1) := by decide +kernel
theorem dX6_bodyAt_14 : decode mX6_bodyAt.2.1 14 = .ok (.getfield 9, 3) := by decide +kernel
theorem dX6_bodyAt_17 : decode mX6_bodyAt.2.1 17 = .ok (.arraylength, 1) := by decide +kernel
theorem dX6_bodyAt_18 : decode mX6_bodyAt.2.1 18 = .ok (.if_icmp .ge 12, 3) := by decide +kernel
theorem dX6_bodyAt_21 : decode mX6_bodyAt.2.1 21 = .ok (.aload_n 0, 1) := by decide +kernel
theorem dX6_bodyAt_22 : decode mX6_bodyAt.2.1 22 = .ok (.getfield 9, 3) := by decide +kernel
theorem dX6_bodyAt_25 : decode mX6_bodyAt.2.1 25 = .ok (.iload_n 1, 1) := by decide +kernel
theorem dX6_bodyAt_26 : decode mX6_bodyAt.2.1 26 = .ok (.iaload, 1) := by decide +kernel
theorem dX6_bodyAt_27 : decode mX6_bodyAt.2.1 27 = .ok (.goto 4, 3) := by decide +kernel
theorem dX6_bodyAt_30 : decode mX6_bodyAt.2.1 30 = .ok (.iconst (-1), 1) := by decide +kernel
theorem dX6_bodyAt_31 : decode mX6_bodyAt.2.1 31 = .ok (.ireturn, 1) := by decide +kernel
theorem dJ6_bitCount_0f7a4_0 : decode mJ6_bitCount_0f7a4.2.1 0 = .ok (.iload_n 0, 1) := by decide +kernel
theorem dJ6_bitCount_0f7a4_1 : decode mJ6_bitCount_0f7a4.2.1 1 = .ok (.iload_n 0, 1) := by decide +kernel
theorem dJ6_bitCount_0f7a4_2 : decode mJ6_bitCount_0f7a4.2.1 2 = .ok (.iconst 1, 1) := by decide +kernel
theorem dJ6_bitCount_0f7a4_3 : decode mJ6_bitCount_0f7a4.2.1 3 = .ok (.iushr, 1) := by decide +kernel
theorem dJ6_bitCount_0f7a4_4 : decode mJ6_bitCount_0f7a4.2.1 4 = .ok (.ldc_w 265, 3) := by decide +kernel
theorem dJ6_bitCount_0f7a4_7 : decode mJ6_bitCount_0f7a4.2.1 7 = .ok (.iand, 1) := by decide +kernel
theorem dJ6_bitCount_0f7a4_8 : decode mJ6_bitCount_0f7a4.2.1 8 = .ok (.isub, 1) := by decide +kernel
theorem dJ6_bitCount_0f7a4_9 : decode mJ6_bitCount_0f7a4.2.1 9 = .ok (.istore_n 0, 1) := by decide +kernel
theorem dJ6_bitCount_0f7a4_10 : decode mJ6_bitCount_0f7a4.2.1 10 = .ok (.iload_n 0, 1) := by decide +kernel
theorem dJ6_bitCount_0f7a4_11 : decode mJ6_bitCount_0f7a4.2.1 11 = .ok (.ldc_w 266, 3) := by decide +kernel
theorem dJ6_bitCount_0f7a4_14 : decode mJ6_bitCount_0f7a4.2.1 14 = .ok (.iand, 1) := by decide +kernel
theorem dJ6_bitCount_0f7a4_15 : decode mJ6_bitCount_0f7a4.2.1 15 = .ok (.iload_n 0, 1) := by decide +kernel
theorem dJ6_bitCount_0f7a4_16 : decode mJ6_bitCount_0f7a4.2.1 16 = .ok (.iconst 2, 1) := by decide +kernel
theorem dJ6_bitCount_0f7a4_17 : decode mJ6_bitCount_0f7a4.2.1 17 = .ok (.iushr, 1) := by decide +kernel
theorem dJ6_bitCount_0f7a4_18 : decode mJ6_bitCount_0f7a4.2.1 18 = .ok (.ldc_w 266, 3) := by decide +kernel
theorem dJ6_bitCount_0f7a4_21 : decode mJ6_bitCount_0f7a4.2.1 21 = .ok (.iand, 1) := by decide +kernel
theorem dJ6_bitCount_0f7a4_22 : decode mJ6_bitCount_0f7a4.2.1 22 = .ok (.iadd, 1) := by decide +kernel
theorem dJ6_bitCount_0f7a4_23 : decode mJ6_bitCount_0f7a4.2.1 23 = .ok (.istore_n 0, 1) := by decide +kernel
theorem dJ6_bitCount_0f7a4_24 : decode mJ6_bitCount_0f7a4.2.1 24 = .ok (.iload_n 0, 1) := by decide +kernel
theorem dJ6_bitCount_0f7a4_25 : decode mJ6_bitCount_0f7a4.2.1 25 = .ok (.iload_n 0, 1) := by decide +kernel
theorem dJ6_bitCount_0f7a4_26 : decode mJ6_bitCount_0f7a4.2.1 26 = .ok (.iconst 4, 1) := by decide +kernel
theorem dJ6_bitCount_0f7a4_27 : decode mJ6_bitCount_0f7a4.2.1 27 = .ok (.iushr, 1) := by decide +kernel
theorem dJ6_bitCount_0f7a4_28 : decode mJ6_bitCount_0f7a4.2.1 28 = .ok (.iadd, 1) := by decide +kernel
theorem dJ6_bitCount_0f7a4_29 : decode mJ6_bitCount_0f7a4.2.1 29 = .ok (.ldc_w 267, 3) := by decide +kernel
theorem dJ6_bitCount_0f7a4_32 : decode mJ6_bitCount_0f7a4.2.1 32 = .ok (.iand, 1) := by decide +kernel
theorem dJ6_bitCount_0f7a4_33 : decode mJ6_bitCount_0f7a4.2.1 33 = .ok (.istore_n 0, 1) := by decide +kernel
theorem dJ6_bitCount_0f7a4_34 : decode mJ6_bitCount_0f7a4.2.1 34 = .ok (.iload_n 0, 1) := by decide +kernel
theorem dJ6_bitCount_0f7a4_35 : decode mJ6_bitCount_0f7a4.2.1 35 = .ok (.iload_n 0, 1) := by decide +kernel
theorem dJ6_bitCount_0f7a4_36 : decode mJ6_bitCount_0f7a4.2.1 36 = .ok (.bipush 8, 2) := by decide +kernel
theorem dJ6_bitCount_0f7a4_38 : decode mJ6_bitCount_0f7a4.2.1 38 = .ok (.iushr, 1) := by decide +kernel
theorem dJ6_bitCount_0f7a4_39 : decode mJ6_bitCount_0f7a4.2.1 39 = .ok (.iadd, 1) := by decide +kernel
theorem dJ6_bitCount_0f7a4_40 : decode mJ6_bitCount_0f7a4.2.1 40 = .ok (.istore_n 0, 1) := by decide +kernel
theorem dJ6_bitCount_0f7a4_41 : decode mJ6_bitCount_0f7a4.2.1 41 = .ok (.iload_n 0, 1) := by decide +kernel
theorem dJ6_bitCount_0f7a4_42 : decode mJ6_bitCount_0f7a4.2.1 42 = .ok (.iload_n 0, 1) := by decide +kernel
theorem dJ6_bitCount_0f7a4_43 : decode mJ6_bitCount_0f7a4.2.1 43 = .ok (.bipush 16, 2) := by decide +kernel
theorem dJ6_bitCount_0f7a4_45 : decode mJ6_bitCount_0f7a4.2.1 45 = .ok (.iushr, 1) := by decide +kernel
theorem dJ6_bitCount_0f7a4_46 : decode mJ6_bitCount_0f7a4.2.1 46 = .ok (.iadd, 1) := by decide +kernel
theorem dJ6_bitCount_0f7a4_47 : decode mJ6_bitCount_0f7a4.2.1 47 = .ok (.istore_n 0, 1) := by decide +kernel
theorem dJ6_bitCount_0f7a4_48 : decode mJ6_bitCount_0f7a4.2.1 48 = .ok (.iload_n 0, 1) := by decide +kernel
theorem dJ6_bitCount_0f7a4_49 : decode mJ6_bitCount_0f7a4.2.1 49 = .ok (.bipush 63, 2) := by decide +kernel
theorem dJ6_bitCount_0f7a4_51 : decode mJ6_bitCount_0f7a4.2.1 51 = .ok (.iand, 1) := by decide +kernel
theorem dJ6_bitCount_0f7a4_52 : decode mJ6_bitCount_0f7a4.2.1 52 = .ok (.ireturn, 1) := by decide +kernel
theorem dJ13_bitCount_95d88_0 : decode mJ13_bitCount_95d88.2.1 0 = .ok (.lload_n 0, 1) := by decide +kernel
theorem dJ13_bitCount_95d88_1 : decode mJ13_bitCount_95d88.2.1 1 = .ok (.lload_n 0, 1) := by decide +kernel
theorem dJ13_bitCount_95d88_2 : decode mJ13_bitCount_95d88.2.1 2 = .ok (.iconst 1, 1) := by decide +kernel
theorem dJ13_bitCount_95d88_3 : decode mJ13_bitCount_95d88.2.1 3 = .ok (.lushr, 1) := by decide +kernel
theorem dJ13_bitCount_95d88_4 : decode mJ13_bitCount_95d88.2.1 4 = .ok (.ldc2_w 314, 3) := by decide +kernel
theorem dJ13_bitCount_95d88_7 : decode mJ13_bitCount_95d88.2.1 7 = .ok (.land, 1) := by decide +kernel
theorem dJ13_bitCount_95d88_8 : decode mJ13_bitCount_95d88.2.1 8 = .ok (.lsub, 1) := by decide +kernel
theorem dJ13_bitCount_95d88_9 : decode mJ13_bitCount_95d88.2.1 9 = .ok (.lstore_n 0, 1) := by decide +kernel
theorem dJ13_bitCount_95d88_10 : decode mJ13_bitCount_95d88.2.1 10 = .ok (.lload_n 0, 1) := by decide +kernel
theorem dJ13_bitCount_95d88_11 : decode mJ13_bitCount_95d88.2.1 11 = .ok (.ldc2_w 316, 3) := by decide +kernel
theorem dJ13_bitCount_95d88_14 : decode mJ13_bitCount_95d88.2.1 14 = .ok (.land, 1) := by decide +kernel
theorem dJ13_bitCount_95d88_15 : decode mJ13_bitCount_95d88.2.1 15 = .ok (.lload_n 0, 1) := by decide +kernel
theorem dJ13_bitCount_95d88_16 : decode mJ13_bitCount_95d88.2.1 16 = .ok (.iconst 2, 1) := by decide +kernel
theorem dJ13_bitCount_95d88_17 : decode mJ13_bitCount_95d88.2.1 17 = .ok (.lushr, 1) := by decide +kernel
theorem dJ13_bitCount_95d88_18 : decode mJ13_bitCount_95d88.2.1 18 = .ok (.ldc2_w 316, 3) := by decide +kernel
theorem dJ13_bitCount_95d88_21 : decode mJ13_bitCount_95d88.2.1 21 = .ok (.land, 1) := by decide +kernel
theorem dJ13_bitCount_95d88_22 : decode mJ13_bitCount_95d88.2.1 22 = .ok (.ladd, 1) := by decide +kernel
theorem dJ13_bitCount_95d88_23 : decode mJ13_bitCount_95d88.2.1 23 = .ok (.lstore_n 0, 1) := by decide +kernel
theorem dJ13_bitCount_95d88_24 : decode mJ13_bitCount_95d88.2.1 24 = .ok (.lload_n 0, 1) := by decide +kernel
theorem dJ13_bitCount_95d88_25 : decode mJ13_bitCount_95d88.2.1 25 = .ok (.lload_n 0, 1) := by decide +kernel
theorem dJ13_bitCount_95d88_26 : decode mJ13_bitCount_95d88.2.1 26 = .ok (.iconst 4, 1) := by decide +kernel
theorem dJ13_bitCount_95d88_27 : decode mJ13_bitCount_95d88.2.1 27 = .ok (.lushr, 1) := by decide +kernel
theorem dJ13_bitCount_95d88_28 : decode mJ13_bitCount_95d88.2.1 28 = .ok (.ladd, 1) := by decide +kernel
theorem dJ13_bitCount_95d88_29 : decode mJ13_bitCount_95d88.2.1 29 = .ok (.ldc2_w 318, 3) := by decide +kernel
theorem dJ13_bitCount_95d88_32 : decode mJ13_bitCount_95d88.2.1 32 = .ok (.land, 1) := by decide +kernel
theorem dJ13_bitCount_95d88_33 : decode mJ13_bitCount_95d88.2.1 33 = .ok (.lstore_n 0, 1) := by decide +kernel
theorem dJ13_bitCount_95d88_34 : decode mJ13_bitCount_95d88.2.1 34 = .ok (.lload_n 0, 1) := by decide +kernel
theorem dJ13_bitCount_95d88_35 : decode mJ13_bitCount_95d88.2.1 35 = .ok (.lload_n 0, 1) := by decide +kernel
theorem dJ13_bitCount_95d88_36 : decode mJ13_bitCount_95d88.2.1 36 = .ok (.bipush 8, 2) := by decide +kernel
theorem dJ13_bitCount_95d88_38 : decode mJ13_bitCount_95d88.2.1 38 = .ok (.lushr, 1) := by decide +kernel
theorem dJ13_bitCount_95d88_39 : decode mJ13_bitCount_95d88.2.1 39 = .ok (.ladd, 1) := by decide +kernel
theorem dJ13_bitCount_95d88_40 : decode mJ13_bitCount_95d88.2.1 40 = .ok (.lstore_n 0, 1) := by decide +kernel
theorem dJ13_bitCount_95d88_41 : decode mJ13_bitCount_95d88.2.1 41 = .ok (.lload_n 0, 1) := by decide +kernel
theorem dJ13_bitCount_95d88_42 : decode mJ13_bitCount_95d88.2.1 42 = .ok (.lload_n 0, 1) := by decide +kernel
theorem dJ13_bitCount_95d88_43 : decode mJ13_bitCount_95d88.2.1 43 = .ok (.bipush 16, 2) := by decide +kernel
theorem dJ13_bitCount_95d88_45 : decode mJ13_bitCount_95d88.2.1 45 = .ok (.lushr, 1) := by decide +kernel
theorem dJ13_bitCount_95d88_46 : decode mJ13_bitCount_95d88.2.1 46 = .ok (.ladd, 1) := by decide +kernel
theorem dJ13_bitCount_95d88_47 : decode mJ13_bitCount_95d88.2.1 47 = .ok (.lstore_n 0, 1) := by decide +kernel
theorem dJ13_bitCount_95d88_48 : decode mJ13_bitCount_95d88.2.1 48 = .ok (.lload_n 0, 1) := by decide +kernel
theorem dJ13_bitCount_95d88_49 : decode mJ13_bitCount_95d88.2.1 49 = .ok (.lload_n 0, 1) := by decide +kernel
theorem dJ13_bitCount_95d88_50 : decode mJ13_bitCount_95d88.2.1 50 = .ok (.bipush 32, 2) := by decide +kernel
theorem dJ13_bitCount_95d88_52 : decode mJ13_bitCount_95d88.2.1 52 = .ok (.lushr, 1) := by decide +kernel
theorem dJ13_bitCount_95d88_53 : decode mJ13_bitCount_95d88.2.1 53 = .ok (.ladd, 1) := by decide +kernel
theorem dJ13_bitCount_95d88_54 : decode mJ13_bitCount_95d88.2.1 54 = .ok (.lstore_n 0, 1) := by decide +kernel
theorem dJ13_bitCount_95d88_55 : decode mJ13_bitCount_95d88.2.1 55 = .ok (.lload_n 0, 1) := by decide +kernel
theorem dJ13_bitCount_95d88_56 : decode mJ13_bitCount_95d88.2.1 56 = .ok (.l2i, 1) := by decide +kernel
theorem dJ13_bitCount_95d88_57 : decode mJ13_bitCount_95d88.2.1 57 = .ok (.bipush 127, 2) := by decide +kernel
theorem dJ13_bitCount_95d88_59 : decode mJ13_bitCount_95d88.2.1 59 = .ok (.iand, 1) := by decide +kernel
theorem dJ13_bitCount_95d88_60 : decode mJ13_bitCount_95d88.2.1 60 = .ok (.ireturn, 1) := by decide +kernel
theorem dJ9_floorMod_7cf53_0 : decode mJ9_floorMod_7cf53.2.1 0 = .ok (.iload_n 0, 1) := by decide +kernel
theorem dJ9_floorMod_7cf53_1 : decode mJ9_floorMod_7cf53.2.1 1 = .ok (.iload_n 1, 1) := by decide +kernel
theorem dJ9_floorMod_7cf53_2 : decode mJ9_floorMod_7cf53.2.1 2 = .ok (.irem, 1) := by decide +kernel
theorem dJ9_floorMod_7cf53_3 : decode mJ9_floorMod_7cf53.2.1 3 = .ok (.istore_n 2, 1) := by decide +kernel
theorem dJ9_floorMod_7cf53_4 : decode mJ9_floorMod_7cf53.2.1 4 = .ok (.iload_n 0, 1) := by decide +kernel
theorem dJ9_floorMod_7cf53_5 : decode mJ9_floorMod_7cf53.2.1 5 = .ok (.iload_n 1, 1) := by decide +kernel
theorem dJ9_floorMod_7cf53_6 : decode mJ9_floorMod_7cf53.2.1 6 = .ok (.ixor, 1) := by decide +kernel
theorem dJ9_floorMod_7cf53_7 : decode mJ9_floorMod_7cf53.2.1 7 = .ok (.ifCond .ge 11, 3) := by decide +kernel
theorem dJ9_floorMod_7cf53_10 : decode mJ9_floorMod_7cf53.2.1 10 = .ok (.iload_n 2, 1) := by decide +kernel
theorem dJ9_floorMod_7cf53_11 : decode mJ9_floorMod_7cf53.2.1 11 = .ok (.ifCond .eq 7, 3) := by decide +kernel
theorem dJ9_floorMod_7cf53_14 : decode mJ9_floorMod_7cf53.2.1 14 = .ok (.iload_n 2, 1) := by decide +kernel
theorem dJ9_floorMod_7cf53_15 : decode mJ9_floorMod_7cf53.2.1 15 = .ok (.iload_n 1, 1) := by decide +kernel
theorem dJ9_floorMod_7cf53_16 : decode mJ9_floorMod_7cf53.2.1 16 = .ok (.iadd, 1) := by decide +kernel
theorem dJ9_floorMod_7cf53_17 : decode mJ9_floorMod_7cf53.2.1 17 = .ok (.ireturn, 1) := by decide +kernel
theorem dJ9_floorMod_7cf53_18 : decode mJ9_floorMod_7cf53.2.1 18 = .ok (.iload_n 2, 1) := by decide +kernel
theorem dJ9_floorMod_7cf53_19 : decode mJ9_floorMod_7cf53.2.1 19 = .ok (.ireturn, 1) := by decide +kernel
