theorem dX5_blockAfter_9 : decode cX5_blockAfter 9 = .ok (.iload_n 2, 1) := by decide +kernel
theorem dX5_blockAfter_10 : decode cX5_blockAfter 10 = .ok (.sipush 200, 3) := by decide +kernel
theorem dX5_blockAfter_13 : decode cX5_blockAfter 13 = .ok (.if_icmp .le 13, 3) := by decide +kernel
theorem dX5_blockAfter_16 : decode cX5_blockAfter 16 = .ok (.new 95, 3) := by decide +kernel
theorem dX5_blockAfter_19 : decode cX5_blockAfter 19 = .ok (.dup, 1) := by decide +kernel
theorem dX5_blockAfter_20 : decode cX5_blockAfter 20 = .ok (.ldc 190, 2) := by decide +kernel
theorem dX5_blockAfter_22 : decode cX5_blockAfter 22 = .ok (.invokespecial 99, 3) := by decide +kernel
theorem dX5_blockAfter_25 : decode cX5_blockAfter 25 = .ok (.athrow, 1) := by decide +kernel
theorem dX5_blockAfter_26 : decode cX5_blockAfter 26 = .ok (.aload_n 0, 1) := by decide +kernel
theorem dX5_blockAfter_27 : decode cX5_blockAfter 27 = .ok (.getfield 16, 3) := by decide +kernel
theorem dX5_blockAfter_30 : decode cX5_blockAfter 30 = .ok (.aload_n 0, 1) := by decide +kernel
theorem dX5_blockAfter_31 : decode cX5_blockAfter 31 = .ok (.getfield 10, 3) := by decide +kernel
theorem dX5_blockAfter_34 : decode cX5_blockAfter 34 = .ok (.invokevirtual 69, 3) := by decide +kernel
theorem dX5_blockAfter_37 : decode cX5_blockAfter 37 = .ok (.aload_n 0, 1) := by decide +kernel
theorem dX5_blockAfter_38 : decode cX5_blockAfter 38 = .ok (.getfield 16, 3) := by decide +kernel
theorem dX5_blockAfter_41 : decode cX5_blockAfter 41 = .ok (.iload_n 2, 1) := by decide +kernel
theorem dX5_blockAfter_42 : decode cX5_blockAfter 42 = .ok (.invokevirtual 192, 3) := by decide +kernel
theorem dX5_blockAfter_45 : decode cX5_blockAfter 45 = .ok (.pop, 1) := by decide +kernel
theorem dX5_blockAfter_46 : decode cX5_blockAfter 46 = .ok (.aload_n 0, 1) := by decide +kernel
theorem dX5_blockAfter_47 : decode cX5_blockAfter 47 = .ok (.getfield 16, 3) := by decide +kernel
theorem dX5_blockAfter_50 : decode cX5_blockAfter 50 = .ok (.getfield 166, 3) := by decide +kernel
theorem dX5_blockAfter_53 : decode cX5_blockAfter 53 = .ok (.iload_n 1, 1) := by decide +kernel
theorem dX5_blockAfter_54 : decode cX5_blockAfter 54 = .ok (.iaload, 1) := by decide +kernel
theorem dX5_blockAfter_55 : decode cX5_blockAfter 55 = .ok (.ireturn, 1) := by decide +kernel
theorem dX5_ticksUntilWait_0 : decode cX5_ticksUntilWait 0 = .ok (.aload_n 0, 1) := by decide +kernel
theorem dX5_ticksUntilWait_1 : decode cX5_ticksUntilWait 1 = .ok (.iload_n 1, 1) := by decide +kernel
theorem dX5_ticksUntilWait_2 : decode cX5_ticksUntilWait 2 = .ok (.invokevirtual 163, 3) := by decide +kernel
theorem dX5_ticksUntilWait_5 : decode cX5_ticksUntilWait 5 = .ok (.aload_n 0, 1) := by decide +kernel
theorem dX5_ticksUntilWait_6 : decode cX5_ticksUntilWait 6 = .ok (.getfield 16, 3) := by decide +kernel
theorem dX5_ticksUntilWait_9 : decode cX5_ticksUntilWait 9 = .ok (.aload_n 0, 1) := by decide +kernel
theorem dX5_ticksUntilWait_10 : decode cX5_ticksUntilWait 10 = .ok (.getfield 10, 3) := by decide +kernel
theorem dX5_ticksUntilWait_13 : decode cX5_ticksUntilWait 13 = .ok (.invokevirtual 69, 3) := by decide +kernel
theorem dX5_ticksUntilWait_16 : decode cX5_ticksUntilWait 16 = .ok (.iconst 1, 1) := by decide +kernel
theorem dX5_ticksUntilWait_17 : decode cX5_ticksUntilWait 17 = .ok (.istore_n 2, 1) := by decide +kernel
theorem dX5_ticksUntilWait_18 : decode cX5_ticksUntilWait 18 = .ok (.iload_n 2, 1) := by decide +kernel
theorem dX5_ticksUntilWait_19 : decode cX5_ticksUntilWait 19 = .ok (.sipush 200, 3) := by decide +kernel
theorem dX5_ticksUntilWait_22 : decode cX5_ticksUntilWait 22 = .ok (.if_icmp .gt 41, 3) := by decide +kernel
theorem dX5_ticksUntilWait_25 : decode cX5_ticksUntilWait 25 = .ok (.aload_n 0, 1) := by decide +kernel
theorem dX5_ticksUntilWait_26 : decode cX5_ticksUntilWait 26 = .ok (.getfield 16, 3) := by decide +kernel
theorem dX5_ticksUntilWait_29 : decode cX5_ticksUntilWait 29 = .ok (.iconst 1, 1) := by decide +kernel
theorem dX5_ticksUntilWait_30 : decode cX5_ticksUntilWait 30 = .ok (.invokevirtual 192, 3) := by decide +kernel
theorem dX5_ticksUntilWait_33 : decode cX5_ticksUntilWait 33 = .ok (.pop, 1) := by decide +kernel
theorem dX5_ticksUntilWait_34 : decode cX5_ticksUntilWait 34 = .ok (.aload_n 0, 1) := by decide +kernel
theorem dX5_ticksUntilWait_35 : decode cX5_ticksUntilWait 35 = .ok (.getfield 16, 3) := by decide +kernel
theorem dX5_ticksUntilWait_38 : decode cX5_ticksUntilWait 38 = .ok (.getfield 181, 3) := by decide +kernel
theorem dX5_ticksUntilWait_41 : decode cX5_ticksUntilWait 41 = .ok (.iload_n 1, 1) := by decide +kernel
theorem dX5_ticksUntilWait_42 : decode cX5_ticksUntilWait 42 = .ok (.iaload, 1) := by decide +kernel
theorem dX5_ticksUntilWait_43 : decode cX5_ticksUntilWait 43 = .ok (.aload_n 0, 1) := by decide +kernel
theorem dX5_ticksUntilWait_44 : decode cX5_ticksUntilWait 44 = .ok (.getfield 10, 3) := by decide +kernel
theorem dX5_ticksUntilWait_47 : decode cX5_ticksUntilWait 47 = .ok (.getfield 181, 3) := by decide +kernel
theorem dX5_ticksUntilWait_50 : decode cX5_ticksUntilWait 50 = .ok (.iload_n 1, 1) := by decide +kernel
theorem dX5_ticksUntilWait_51 : decode cX5_ticksUntilWait 51 = .ok (.iaload, 1) := by decide +kernel
theorem dX5_ticksUntilWait_52 : decode cX5_ticksUntilWait 52 = .ok (.if_icmp .le 5, 3) := by decide +kernel
theorem dX5_ticksUntilWait_55 : decode cX5_ticksUntilWait 55 = .ok (.iload_n 2, 1) := by decide +kernel
theorem dX5_ticksUntilWait_56 : decode cX5_ticksUntilWait 56 = .ok (.ireturn, 1) := by decide +kernel
theorem dX5_ticksUntilWait_57 : decode cX5_ticksUntilWait 57 = .ok (.iinc 2 1, 3) := by decide +kernel
theorem dX5_ticksUntilWait_60 : decode cX5_ticksUntilWait 60 = .ok (.goto (-42), 3) := by decide +kernel
theorem dX5_ticksUntilWait_63 : decode cX5_ticksUntilWait 63 = .ok (.iconst (-1), 1) := by decide +kernel
theorem dX5_ticksUntilWait_64 : decode cX5_ticksUntilWait 64 = .ok (.ireturn, 1) := by decide +kernel
theorem dX5_totalWagons_0 : decode cX5_totalWagons 0 = .ok (.aload_n 0, 1) := by decide +kernel
theorem dX5_totalWagons_1 : decode cX5_totalWagons 1 = .ok (.getfield 10, 3) := by decide +kernel
theorem dX5_totalWagons_4 : decode cX5_totalWagons 4 = .ok (.invokevirtual 195, 3) := by decide +kernel
theorem dX5_totalWagons_7 : decode cX5_totalWagons 7 = .ok (.ireturn, 1) := by decide +kernel
theorem dX5_lostWagons_0 : decode cX5_lostWagons 0 = .ok (.aload_n 0, 1) := by decide +kernel
theorem dX5_lostWagons_1 : decode cX5_lostWagons 1 = .ok (.getfield 10, 3) := by decide +kernel
theorem dX5_lostWagons_4 : decode cX5_lostWagons 4 = .ok (.invokevirtual 198, 3) := by decide +kernel
theorem dX5_lostWagons_7 : decode cX5_lostWagons 7 = .ok (.ireturn, 1) := by decide +kernel
theorem dX5_removedWagons_0 : decode cX5_removedWagons 0 = .ok (.aload_n 0, 1) := by decide +kernel
theorem dX5_removedWagons_1 : decode cX5_removedWagons 1 = .ok (.getfield 10, 3) := by decide +kernel
theorem dX5_removedWagons_4 : decode cX5_removedWagons 4 = .ok (.getfield 201, 3) := by decide +kernel
theorem dX5_removedWagons_7 : decode cX5_removedWagons 7 = .ok (.ireturn, 1) := by decide +kernel
theorem dX5_sharedBlocks_0 : decode cX5_sharedBlocks 0 = .ok (.iconst 0, 1) := by decide +kernel
theorem dX5_sharedBlocks_1 : decode cX5_sharedBlocks 1 = .ok (.istore_n 1, 1) := by decide +kernel
theorem dX5_sharedBlocks_2 : decode cX5_sharedBlocks 2 = .ok (.iconst 0, 1) := by decide +kernel
theorem dX5_sharedBlocks_3 : decode cX5_sharedBlocks 3 = .ok (.istore_n 2, 1) := by decide +kernel
theorem dX5_sharedBlocks_4 : decode cX5_sharedBlocks 4 = .ok (.iload_n 2, 1) := by decide +kernel
theorem dX5_sharedBlocks_5 : decode cX5_sharedBlocks 5 = .ok (.aload_n 0, 1) := by decide +kernel
theorem dX5_sharedBlocks_6 : decode cX5_sharedBlocks 6 = .ok (.getfield 10, 3) := by decide +kernel
theorem dX5_sharedBlocks_9 : decode cX5_sharedBlocks 9 = .ok (.getfield 145, 3) := by decide +kernel
theorem dX5_sharedBlocks_12 : decode cX5_sharedBlocks 12 = .ok (.if_icmp .ge 46, 3) := by decide +kernel
theorem dX5_sharedBlocks_15 : decode cX5_sharedBlocks 15 = .ok (.iconst 0, 1) := by decide +kernel
theorem dX5_sharedBlocks_16 : decode cX5_sharedBlocks 16 = .ok (.istore_n 3, 1) := by decide +kernel
theorem dX5_sharedBlocks_17 : decode cX5_sharedBlocks 17 = .ok (.iload_n 3, 1) := by decide +kernel
theorem dX5_sharedBlocks_18 : decode cX5_sharedBlocks 18 = .ok (.iload_n 2, 1) := by decide +kernel
theorem dX5_sharedBlocks_19 : decode cX5_sharedBlocks 19 = .ok (.if_icmp .ge 33, 3) := by decide +kernel
theorem dX5_sharedBlocks_22 : decode cX5_sharedBlocks 22 = .ok (.aload_n 0, 1) := by decide +kernel
theorem dX5_sharedBlocks_23 : decode cX5_sharedBlocks 23 = .ok (.getfield 10, 3) := by decide +kernel
theorem dX5_sharedBlocks_26 : decode cX5_sharedBlocks 26 = .ok (.getfield 166, 3) := by decide +kernel
theorem dX5_sharedBlocks_29 : decode cX5_sharedBlocks 29 = .ok (.iload_n 3, 1) := by decide +kernel
theorem dX5_sharedBlocks_30 : decode cX5_sharedBlocks 30 = .ok (.iaload, 1) := by decide +kernel
theorem dX5_sharedBlocks_31 : decode cX5_sharedBlocks 31 = .ok (.aload_n 0, 1) := by decide +kernel
theorem dX5_sharedBlocks_32 : decode cX5_sharedBlocks 32 = .ok (.getfield 10, 3) := by decide +kernel
theorem dX5_sharedBlocks_35 : decode cX5_sharedBlocks 35 = .ok (.getfield 166, 3) := by decide +kernel
theorem dX5_sharedBlocks_38 : decode cX5_sharedBlocks 38 = .ok (.iload_n 2, 1) := by decide +kernel
theorem dX5_sharedBlocks_39 : decode cX5_sharedBlocks 39 = .ok (.iaload, 1) := by decide +kernel
theorem dX5_sharedBlocks_40 : decode cX5_sharedBlocks 40 = .ok (.if_icmp .ne 6, 3) := by decide +kernel
theorem dX5_sharedBlocks_43 : decode cX5_sharedBlocks 43 = .ok (.iinc 1 1, 3) := by decide +kernel
theorem dX5_sharedBlocks_46 : decode cX5_sharedBlocks 46 = .ok (.iinc 3 1, 3) := by decide +kernel
theorem dX5_sharedBlocks_49 : decode cX5_sharedBlocks 49 = .ok (.goto (-32), 3) := by decide +kernel
theorem dX5_sharedBlocks_52 : decode cX5_sharedBlocks 52 = .ok (.iinc 2 1, 3) := by decide +kernel
theorem dX5_sharedBlocks_55 : decode cX5_sharedBlocks 55 = .ok (.goto (-51), 3) := by decide +kernel
theorem dX5_sharedBlocks_58 : decode cX5_sharedBlocks 58 = .ok (.iload_n 1, 1) := by decide +kernel
theorem dX5_sharedBlocks_59 : decode cX5_sharedBlocks 59 = .ok (.ireturn, 1) := by decide +kernel
theorem dX5_wagonDifference_0 : decode cX5_wagonDifference 0 = .ok (.aload_n 0, 1) := by decide +kernel
theorem dX5_wagonDifference_1 : decode cX5_wagonDifference 1 = .ok (.getfield 10, 3) := by decide +kernel
theorem dX5_wagonDifference_4 : decode cX5_wagonDifference 4 = .ok (.invokevirtual 195, 3) := by decide +kernel
theorem dX5_wagonDifference_7 : decode cX5_wagonDifference 7 = .ok (.aload_n 0, 1) := by decide +kernel
theorem dX5_wagonDifference_8 : decode cX5_wagonDifference 8 = .ok (.getfield 10, 3) := by decide +kernel
theorem dX5_wagonDifference_11 : decode cX5_wagonDifference 11 = .ok (.invokevirtual 198, 3) := by decide +kernel
theorem dX5_wagonDifference_14 : decode cX5_wagonDifference 14 = .ok (.iadd, 1) := by decide +kernel
theorem dX5_wagonDifference_15 : decode cX5_wagonDifference 15 = .ok (.aload_n 0, 1) := by decide +kernel
theorem dX5_wagonDifference_16 : decode cX5_wagonDifference 16 = .ok (.getfield 10, 3) := by decide +kernel
theorem dX5_wagonDifference_19 : decode cX5_wagonDifference 19 = .ok (.getfield 201, 3) := by decide +kernel
theorem dX5_wagonDifference_22 : decode cX5_wagonDifference 22 = .ok (.iadd, 1) := by decide +kernel
theorem dX5_wagonDifference_23 : decode cX5_wagonDifference 23 = .ok (.istore_n 1, 1) := by decide +kernel
theorem dX5_wagonDifference_24 : decode cX5_wagonDifference 24 = .ok (.iload_n 1, 1) := by decide +kernel
theorem dX5_wagonDifference_25 : decode cX5_wagonDifference 25 = .ok (.aload_n 0, 1) := by decide +kernel
theorem dX5_wagonDifference_26 : decode cX5_wagonDifference 26 = .ok (.getfield 10, 3) := by decide +kernel
theorem dX5_wagonDifference_29 : decode cX5_wagonDifference 29 = .ok (.getfield 204, 3) := by decide +kernel
theorem dX5_wagonDifference_32 : decode cX5_wagonDifference 32 = .ok (.isub, 1) := by decide +kernel
theorem dX5_wagonDifference_33 : decode cX5_wagonDifference 33 = .ok (.invokestatic 207, 3) := by decide +kernel
theorem dX5_wagonDifference_36 : decode cX5_wagonDifference 36 = .ok (.ireturn, 1) := by decide +kernel
theorem dX5_meanDepth_0 : decode cX5_meanDepth 0 = .ok (.aload_n 0, 1) := by decide +kernel
theorem dX5_meanDepth_1 : decode cX5_meanDepth 1 = .ok (.getfield 10, 3) := by decide +kernel
theorem dX5_meanDepth_4 : decode cX5_meanDepth 4 = .ok (.getfield 107, 3) := by decide +kernel
theorem dX5_meanDepth_7 : decode cX5_meanDepth 7 = .ok (.ifCond .ne 5, 3) := by decide +kernel
theorem dX5_meanDepth_10 : decode cX5_meanDepth 10 = .ok (.dconst 0, 1) := by decide +kernel
theorem dX5_meanDepth_11 : decode cX5_meanDepth 11 = .ok (.dreturn, 1) := by decide +kernel
theorem dX5_meanDepth_12 : decode cX5_meanDepth 12 = .ok (.iconst 0, 1) := by decide +kernel
theorem dX5_meanDepth_13 : decode cX5_meanDepth 13 = .ok (.istore_n 1, 1) := by decide +kernel
theorem dX5_meanDepth_14 : decode cX5_meanDepth 14 = .ok (.iconst 0, 1) := by decide +kernel
theorem dX5_meanDepth_15 : decode cX5_meanDepth 15 = .ok (.istore_n 2, 1) := by decide +kernel
theorem dX5_meanDepth_16 : decode cX5_meanDepth 16 = .ok (.iload_n 2, 1) := by decide +kernel
theorem dX5_meanDepth_17 : decode cX5_meanDepth 17 = .ok (.aload_n 0, 1) := by decide +kernel
theorem dX5_meanDepth_18 : decode cX5_meanDepth 18 = .ok (.getfield 10, 3) := by decide +kernel
theorem dX5_meanDepth_21 : decode cX5_meanDepth 21 = .ok (.getfield 107, 3) := by decide +kernel
theorem dX5_meanDepth_24 : decode cX5_meanDepth 24 = .ok (.if_icmp .ge 21, 3) := by decide +kernel
theorem dX5_meanDepth_27 : decode cX5_meanDepth 27 = .ok (.iload_n 1, 1) := by decide +kernel
theorem dX5_meanDepth_28 : decode cX5_meanDepth 28 = .ok (.aload_n 0, 1) := by decide +kernel
theorem dX5_meanDepth_29 : decode cX5_meanDepth 29 = .ok (.getfield 10, 3) := by decide +kernel
theorem dX5_meanDepth_32 : decode cX5_meanDepth 32 = .ok (.getfield 125, 3) := by decide +kernel
theorem dX5_meanDepth_35 : decode cX5_meanDepth 35 = .ok (.iload_n 2, 1) := by decide +kernel
theorem dX5_meanDepth_36 : decode cX5_meanDepth 36 = .ok (.iaload, 1) := by decide +kernel
theorem dX5_meanDepth_37 : decode cX5_meanDepth 37 = .ok (.iadd, 1) := by decide +kernel
theorem dX5_meanDepth_38 : decode cX5_meanDepth 38 = .ok (.istore_n 1, 1) := by decide +kernel
theorem dX5_meanDepth_39 : decode cX5_meanDepth 39 = .ok (.iinc 2 1, 3) := by decide +kernel
theorem dX5_meanDepth_42 : decode cX5_meanDepth 42 = .ok (.goto (-26), 3) := by decide +kernel
theorem dX5_meanDepth_45 : decode cX5_meanDepth 45 = .ok (.iload_n 1, 1) := by decide +kernel
theorem dX5_meanDepth_46 : decode cX5_meanDepth 46 = .ok (.i2d, 1) := by decide +kernel
theorem dX5_meanDepth_47 : decode cX5_meanDepth 47 = .ok (.aload_n 0, 1) := by decide +kernel
theorem dX5_meanDepth_48 : decode cX5_meanDepth 48 = .ok (.getfield 10, 3) := by decide +kernel
theorem dX5_meanDepth_51 : decode cX5_meanDepth 51 = .ok (.getfield 107, 3) := by decide +kernel
theorem dX5_meanDepth_54 : decode cX5_meanDepth 54 = .ok (.i2d, 1) := by decide +kernel
theorem dX5_meanDepth_55 : decode cX5_meanDepth 55 = .ok (.ddiv, 1) := by decide +kernel
theorem dX5_meanDepth_56 : decode cX5_meanDepth 56 = .ok (.dreturn, 1) := by decide +kernel
theorem dX5_waitShare_0 : decode cX5_waitShare 0 = .ok (.aload_n 0, 1) := by decide +kernel
theorem dX5_waitShare_1 : decode cX5_waitShare 1 = .ok (.getfield 10, 3) := by decide +kernel
theorem dX5_waitShare_4 : decode cX5_waitShare 4 = .ok (.getfield 116, 3) := by decide +kernel
theorem dX5_waitShare_7 : decode cX5_waitShare 7 = .ok (.aload_n 0, 1) := by decide +kernel
theorem dX5_waitShare_8 : decode cX5_waitShare 8 = .ok (.getfield 10, 3) := by decide +kernel
theorem dX5_waitShare_11 : decode cX5_waitShare 11 = .ok (.getfield 145, 3) := by decide +kernel
theorem dX5_waitShare_14 : decode cX5_waitShare 14 = .ok (.imul, 1) := by decide +kernel
theorem dX5_waitShare_15 : decode cX5_waitShare 15 = .ok (.istore_n 1, 1) := by decide +kernel
theorem dX5_waitShare_16 : decode cX5_waitShare 16 = .ok (.iload_n 1, 1) := by decide +kernel
theorem dX5_waitShare_17 : decode cX5_waitShare 17 = .ok (.ifCond .ne 5, 3) := by decide +kernel
theorem dX5_waitShare_20 : decode cX5_waitShare 20 = .ok (.fconst 0, 1) := by decide +kernel
theorem dX5_waitShare_21 : decode cX5_waitShare 21 = .ok (.freturn, 1) := by decide +kernel
theorem dX5_waitShare_22 : decode cX5_waitShare 22 = .ok (.iconst 0, 1) := by decide +kernel
theorem dX5_waitShare_23 : decode cX5_waitShare 23 = .ok (.istore_n 2, 1) := by decide +kernel
theorem dX5_waitShare_24 : decode cX5_waitShare 24 = .ok (.iconst 0, 1) := by decide +kernel
theorem dX5_waitShare_25 : decode cX5_waitShare 25 = .ok (.istore_n 3, 1) := by decide +kernel
theorem dX5_waitShare_26 : decode cX5_waitShare 26 = .ok (.iload_n 3, 1) := by decide +kernel
theorem dX5_waitShare_27 : decode cX5_waitShare 27 = .ok (.aload_n 0, 1) := by decide +kernel
theorem dX5_waitShare_28 : decode cX5_waitShare 28 = .ok (.getfield 10, 3) := by decide +kernel
theorem dX5_waitShare_31 : decode cX5_waitShare 31 = .ok (.getfield 145, 3) := by decide +kernel
theorem dX5_waitShare_34 : decode cX5_waitShare 34 = .ok (.if_icmp .ge 21, 3) := by decide +kernel
theorem dX5_waitShare_37 : decode cX5_waitShare 37 = .ok (.iload_n 2, 1) := by decide +kernel
theorem dX5_waitShare_38 : decode cX5_waitShare 38 = .ok (.aload_n 0, 1) := by decide +kernel
theorem dX5_waitShare_39 : decode cX5_waitShare 39 = .ok (.getfield 10, 3) := by decide +kernel
theorem dX5_waitShare_42 : decode cX5_waitShare 42 = .ok (.getfield 181, 3) := by decide +kernel
theorem dX5_waitShare_45 : decode cX5_waitShare 45 = .ok (.iload_n 3, 1) := by decide +kernel
theorem dX5_waitShare_46 : decode cX5_waitShare 46 = .ok (.iaload, 1) := by decide +kernel
theorem dX5_waitShare_47 : decode cX5_waitShare 47 = .ok (.iadd, 1) := by decide +kernel
theorem dX5_waitShare_48 : decode cX5_waitShare 48 = .ok (.istore_n 2, 1) := by decide +kernel
theorem dX5_waitShare_49 : decode cX5_waitShare 49 = .ok (.iinc 3 1, 3) := by decide +kernel
theorem dX5_waitShare_52 : decode cX5_waitShare 52 = .ok (.goto (-26), 3) := by decide +kernel
theorem dX5_waitShare_55 : decode cX5_waitShare 55 = .ok (.iload_n 2, 1) := by decide +kernel
theorem dX5_waitShare_56 : decode cX5_waitShare 56 = .ok (.i2f, 1) := by decide +kernel
theorem dX5_waitShare_57 : decode cX5_waitShare 57 = .ok (.iload_n 1, 1) := by decide +kernel
theorem dX5_waitShare_58 : decode cX5_waitShare 58 = .ok (.i2f, 1) := by decide +kernel
theorem dX5_waitShare_59 : decode cX5_waitShare 59 = .ok (.fdiv, 1) := by decide +kernel
theorem dX5_waitShare_60 : decode cX5_waitShare 60 = .ok (.freturn, 1) := by decide +kernel
theorem dX5_advance_0 : decode cX5_advance 0 = .ok (.iload_n 1, 1) := by decide +kernel
theorem dX5_advance_1 : decode cX5_advance 1 = .ok (.iconst 1, 1) := by decide +kernel
theorem dX5_advance_2 : decode cX5_advance 2 = .ok (.if_icmp .lt 9, 3) := by decide +kernel
theorem dX5_advance_5 : decode cX5_advance 5 = .ok (.iload_n 1, 1) := by decide +kernel
theorem dX5_advance_6 : decode cX5_advance 6 = .ok (.bipush 99, 2) := by decide +kernel
theorem dX5_advance_8 : decode cX5_advance 8 = .ok (.if_icmp .le 13, 3) := by decide +kernel
theorem dX5_advance_11 : decode cX5_advance 11 = .ok (.new 95, 3) := by decide +kernel
theorem dX5_advance_14 : decode cX5_advance 14 = .ok (.dup, 1) := by decide +kernel
theorem dX5_advance_15 : decode cX5_advance 15 = .ok (.ldc 190, 2) := by decide +kernel
theorem dX5_advance_17 : decode cX5_advance 17 = .ok (.invokespecial 99, 3) := by decide +kernel
theorem dX5_advance_20 : decode cX5_advance 20 = .ok (.athrow, 1) := by decide +kernel
theorem dX5_advance_21 : decode cX5_advance 21 = .ok (.iload_n 1, 1) := by decide +kernel
theorem dX5_advance_22 : decode cX5_advance 22 = .ok (.sipush 9999, 3) := by decide +kernel
theorem dX5_advance_25 : decode cX5_advance 25 = .ok (.aload_n 0, 1) := by decide +kernel
theorem dX5_advance_26 : decode cX5_advance 26 = .ok (.getfield 10, 3) := by decide +kernel
theorem dX5_advance_29 : decode cX5_advance 29 = .ok (.getfield 116, 3) := by decide +kernel
theorem dX5_advance_32 : decode cX5_advance 32 = .ok (.isub, 1) := by decide +kernel
theorem dX5_advance_33 : decode cX5_advance 33 = .ok (.if_icmp .le 13, 3) := by decide +kernel
theorem dX5_advance_36 : decode cX5_advance 36 = .ok (.new 76, 3) := by decide +kernel
theorem dX5_advance_39 : decode cX5_advance 39 = .ok (.dup, 1) := by decide +kernel
theorem dX5_advance_40 : decode cX5_advance 40 = .ok (.ldc 212, 2) := by decide +kernel
theorem dX5_advance_42 : decode cX5_advance 42 = .ok (.invokespecial 80, 3) := by decide +kernel
theorem dX5_advance_45 : decode cX5_advance 45 = .ok (.athrow, 1) := by decide +kernel
theorem dX5_advance_46 : decode cX5_advance 46 = .ok (.aload_n 0, 1) := by decide +kernel
theorem dX5_advance_47 : decode cX5_advance 47 = .ok (.getfield 22, 3) := by decide +kernel
theorem dX5_advance_50 : decode cX5_advance 50 = .ok (.aload_n 0, 1) := by decide +kernel
theorem dX5_advance_51 : decode cX5_advance 51 = .ok (.getfield 10, 3) := by decide +kernel
theorem dX5_advance_54 : decode cX5_advance 54 = .ok (.invokevirtual 214, 3) := by decide +kernel
theorem dX5_advance_57 : decode cX5_advance 57 = .ok (.aload_n 0, 1) := by decide +kernel
theorem dX5_advance_58 : decode cX5_advance 58 = .ok (.getfield 10, 3) := by decide +kernel
theorem dX5_advance_61 : decode cX5_advance 61 = .ok (.iload_n 1, 1) := by decide +kernel
theorem dX5_advance_62 : decode cX5_advance 62 = .ok (.invokevirtual 192, 3) := by decide +kernel
theorem dX5_advance_65 : decode cX5_advance 65 = .ok (.ireturn, 1) := by decide +kernel
theorem dX5_pull_0 : decode cX5_pull 0 = .ok (.aload_n 0, 1) := by decide +kernel
theorem dX5_pull_1 : decode cX5_pull 1 = .ok (.iload_n 1, 1) := by decide +kernel
theorem dX5_pull_2 : decode cX5_pull 2 = .ok (.invokevirtual 119, 3) := by decide +kernel
theorem dX5_pull_5 : decode cX5_pull 5 = .ok (.aload_n 0, 1) := by decide +kernel
theorem dX5_pull_6 : decode cX5_pull 6 = .ok (.getfield 10, 3) := by decide +kernel
theorem dX5_pull_9 : decode cX5_pull 9 = .ok (.iload_n 1, 1) := by decide +kernel
theorem dX5_pull_10 : decode cX5_pull 10 = .ok (.invokevirtual 152, 3) := by decide +kernel
theorem dX5_pull_13 : decode cX5_pull 13 = .ok (.ifCond .eq 13, 3) := by decide +kernel
theorem dX5_pull_16 : decode cX5_pull 16 = .ok (.new 76, 3) := by decide +kernel
theorem dX5_pull_19 : decode cX5_pull 19 = .ok (.dup, 1) := by decide +kernel
theorem dX5_pull_20 : decode cX5_pull 20 = .ok (.ldc 217, 2) := by decide +kernel
theorem dX5_pull_22 : decode cX5_pull 22 = .ok (.invokespecial 80, 3) := by decide +kernel
theorem dX5_pull_25 : decode cX5_pull 25 = .ok (.athrow, 1) := by decide +kernel
theorem dX5_pull_26 : decode cX5_pull 26 = .ok (.aload_n 0, 1) := by decide +kernel
theorem dX5_pull_27 : decode cX5_pull 27 = .ok (.getfield 22, 3) := by decide +kernel
theorem dX5_pull_30 : decode cX5_pull 30 = .ok (.aload_n 0, 1) := by decide +kernel
theorem dX5_pull_31 : decode cX5_pull 31 = .ok (.getfield 10, 3) := by decide +kernel
theorem dX5_pull_34 : decode cX5_pull 34 = .ok (.invokevirtual 214, 3) := by decide +kernel
theorem dX5_pull_37 : decode cX5_pull 37 = .ok (.aload_n 0, 1) := by decide +kernel
theorem dX5_pull_38 : decode cX5_pull 38 = .ok (.getfield 10, 3) := by decide +kernel
theorem dX5_pull_41 : decode cX5_pull 41 = .ok (.getfield 135, 3) := by decide +kernel
theorem dX5_pull_44 : decode cX5_pull 44 = .ok (.iload_n 1, 1) := by decide +kernel
theorem dX5_pull_45 : decode cX5_pull 45 = .ok (.iconst 1, 1) := by decide +kernel
theorem dX5_pull_46 : decode cX5_pull 46 = .ok (.bastore, 1) := by decide +kernel
theorem dX5_pull_47 : decode cX5_pull 47 = .ok (.aload_n 0, 1) := by decide +kernel
theorem dX5_pull_48 : decode cX5_pull 48 = .ok (.getfield 10, 3) := by decide +kernel
theorem dX5_pull_51 : decode cX5_pull 51 = .ok (.invokevirtual 219, 3) := by decide +kernel
theorem dX5_pull_54 : decode cX5_pull 54 = .ok (.ireturn, 1) := by decide +kernel
theorem dX5_setDanger_0 : decode cX5_setDanger 0 = .ok (.aload_n 0, 1) := by decide +kernel
theorem dX5_setDanger_1 : decode cX5_setDanger 1 = .ok (.iload_n 1, 1) := by decide +kernel
theorem dX5_setDanger_2 : decode cX5_setDanger 2 = .ok (.invokevirtual 119, 3) := by decide +kernel
theorem dX5_setDanger_5 : decode cX5_setDanger 5 = .ok (.aload_n 0, 1) := by decide +kernel
theorem dX5_setDanger_6 : decode cX5_setDanger 6 = .ok (.getfield 10, 3) := by decide +kernel
theorem dX5_setDanger_9 : decode cX5_setDanger 9 = .ok (.getfield 135, 3) := by decide +kernel
theorem dX5_setDanger_12 : decode cX5_setDanger 12 = .ok (.iload_n 1, 1) := by decide +kernel
theorem dX5_setDanger_13 : decode cX5_setDanger 13 = .ok (.baload, 1) := by decide +kernel
theorem dX5_setDanger_14 : decode cX5_setDanger 14 = .ok (.ifCond .ne 13, 3) := by decide +kernel
theorem dX5_setDanger_17 : decode cX5_setDanger 17 = .ok (.new 76, 3) := by decide +kernel
theorem dX5_setDanger_20 : decode cX5_setDanger 20 = .ok (.dup, 1) := by decide +kernel
theorem dX5_setDanger_21 : decode cX5_setDanger 21 = .ok (.ldc 222, 2) := by decide +kernel
theorem dX5_setDanger_23 : decode cX5_setDanger 23 = .ok (.invokespecial 80, 3) := by decide +kernel
theorem dX5_setDanger_26 : decode cX5_setDanger 26 = .ok (.athrow, 1) := by decide +kernel
theorem dX5_setDanger_27 : decode cX5_setDanger 27 = .ok (.aload_n 0, 1) := by decide +kernel
theorem dX5_setDanger_28 : decode cX5_setDanger 28 = .ok (.getfield 22, 3) := by decide +kernel
theorem dX5_setDanger_31 : decode cX5_setDanger 31 = .ok (.aload_n 0, 1) := by decide +kernel
theorem dX5_setDanger_32 : decode cX5_setDanger 32 = .ok (.getfield 10, 3) := by decide +kernel
theorem dX5_setDanger_35 : decode cX5_setDanger 35 = .ok (.invokevirtual 214, 3) := by decide +kernel
theorem dX5_setDanger_38 : decode cX5_setDanger 38 = .ok (.aload_n 0, 1) := by decide +kernel
theorem dX5_setDanger_39 : decode cX5_setDanger 39 = .ok (.getfield 10, 3) := by decide +kernel
theorem dX5_setDanger_42 : decode cX5_setDanger 42 = .ok (.getfield 135, 3) := by decide +kernel
theorem dX5_setDanger_45 : decode cX5_setDanger 45 = .ok (.iload_n 1, 1) := by decide +kernel
theorem dX5_setDanger_46 : decode cX5_setDanger 46 = .ok (.iconst 0, 1) := by decide +kernel
theorem dX5_setDanger_47 : decode cX5_setDanger 47 = .ok (.bastore, 1) := by decide +kernel
theorem dX5_setDanger_48 : decode cX5_setDanger 48 = .ok (.aload_n 0, 1) := by decide +kernel
theorem dX5_setDanger_49 : decode cX5_setDanger 49 = .ok (.getfield 10, 3) := by decide +kernel
theorem dX5_setDanger_52 : decode cX5_setDanger 52 = .ok (.invokevirtual 219, 3) := by decide +kernel
theorem dX5_setDanger_55 : decode cX5_setDanger 55 = .ok (.ireturn, 1) := by decide +kernel
theorem dX5_repair_0 : decode cX5_repair 0 = .ok (.aload_n 0, 1) := by decide +kernel
theorem dX5_repair_1 : decode cX5_repair 1 = .ok (.iload_n 1, 1) := by decide +kernel
theorem dX5_repair_2 : decode cX5_repair 2 = .ok (.invokevirtual 119, 3) := by decide +kernel
theorem dX5_repair_5 : decode cX5_repair 5 = .ok (.aload_n 0, 1) := by decide +kernel
theorem dX5_repair_6 : decode cX5_repair 6 = .ok (.getfield 10, 3) := by decide +kernel
theorem dX5_repair_9 : decode cX5_repair 9 = .ok (.getfield 139, 3) := by decide +kernel
theorem dX5_repair_12 : decode cX5_repair 12 = .ok (.iload_n 1, 1) := by decide +kernel
theorem dX5_repair_13 : decode cX5_repair 13 = .ok (.iaload, 1) := by decide +kernel
theorem dX5_repair_14 : decode cX5_repair 14 = .ok (.iconst (-1), 1) := by decide +kernel
theorem dX5_repair_15 : decode cX5_repair 15 = .ok (.if_icmp .eq 13, 3) := by decide +kernel
theorem dX5_repair_18 : decode cX5_repair 18 = .ok (.new 76, 3) := by decide +kernel
theorem dX5_repair_21 : decode cX5_repair 21 = .ok (.dup, 1) := by decide +kernel
theorem dX5_repair_22 : decode cX5_repair 22 = .ok (.ldc 224, 2) := by decide +kernel
theorem dX5_repair_24 : decode cX5_repair 24 = .ok (.invokespecial 80, 3) := by decide +kernel
theorem dX5_repair_27 : decode cX5_repair 27 = .ok (.athrow, 1) := by decide +kernel
theorem dX5_repair_28 : decode cX5_repair 28 = .ok (.aload_n 0, 1) := by decide +kernel
theorem dX5_repair_29 : decode cX5_repair 29 = .ok (.getfield 22, 3) := by decide +kernel
theorem dX5_repair_32 : decode cX5_repair 32 = .ok (.aload_n 0, 1) := by decide +kernel
theorem dX5_repair_33 : decode cX5_repair 33 = .ok (.getfield 10, 3) := by decide +kernel
theorem dX5_repair_36 : decode cX5_repair 36 = .ok (.invokevirtual 214, 3) := by decide +kernel
theorem dX5_repair_39 : decode cX5_repair 39 = .ok (.aload_n 0, 1) := by decide +kernel
theorem dX5_repair_40 : decode cX5_repair 40 = .ok (.getfield 10, 3) := by decide +kernel
theorem dX5_repair_43 : decode cX5_repair 43 = .ok (.getfield 125, 3) := by decide +kernel
theorem dX5_repair_46 : decode cX5_repair 46 = .ok (.iload_n 1, 1) := by decide +kernel
theorem dX5_repair_47 : decode cX5_repair 47 = .ok (.iaload, 1) := by decide +kernel
theorem dX5_repair_48 : decode cX5_repair 48 = .ok (.istore_n 2, 1) := by decide +kernel
theorem dX5_repair_49 : decode cX5_repair 49 = .ok (.aload_n 0, 1) := by decide +kernel
theorem dX5_repair_50 : decode cX5_repair 50 = .ok (.getfield 10, 3) := by decide +kernel
theorem dX5_repair_53 : decode cX5_repair 53 = .ok (.getfield 125, 3) := by decide +kernel
theorem dX5_repair_56 : decode cX5_repair 56 = .ok (.iload_n 1, 1) := by decide +kernel
theorem dX5_repair_57 : decode cX5_repair 57 = .ok (.iconst 0, 1) := by decide +kernel
theorem dX5_repair_58 : decode cX5_repair 58 = .ok (.iastore, 1) := by decide +kernel
theorem dX5_repair_59 : decode cX5_repair 59 = .ok (.iload_n 2, 1) := by decide +kernel
theorem dX5_repair_60 : decode cX5_repair 60 = .ok (.ireturn, 1) := by decide +kernel
theorem dX5_removeWagons_0 : decode cX5_removeWagons 0 = .ok (.aload_n 0, 1) := by decide +kernel
theorem dX5_removeWagons_1 : decode cX5_removeWagons 1 = .ok (.iload_n 1, 1) := by decide +kernel
theorem dX5_removeWagons_2 : decode cX5_removeWagons 2 = .ok (.invokevirtual 119, 3) := by decide +kernel
theorem dX5_removeWagons_5 : decode cX5_removeWagons 5 = .ok (.aload_n 0, 1) := by decide +kernel
theorem dX5_removeWagons_6 : decode cX5_removeWagons 6 = .ok (.getfield 22, 3) := by decide +kernel
theorem dX5_removeWagons_9 : decode cX5_removeWagons 9 = .ok (.aload_n 0, 1) := by decide +kernel
theorem dX5_removeWagons_10 : decode cX5_removeWagons 10 = .ok (.getfield 10, 3) := by decide +kernel
theorem dX5_removeWagons_13 : decode cX5_removeWagons 13 = .ok (.invokevirtual 214, 3) := by decide +kernel
theorem dX5_removeWagons_16 : decode cX5_removeWagons 16 = .ok (.aload_n 0, 1) := by decide +kernel
theorem dX5_removeWagons_17 : decode cX5_removeWagons 17 = .ok (.getfield 10, 3) := by decide +kernel
theorem dX5_removeWagons_20 : decode cX5_removeWagons 20 = .ok (.getfield 142, 3) := by decide +kernel
theorem dX5_removeWagons_23 : decode cX5_removeWagons 23 = .ok (.iload_n 1, 1) := by decide +kernel
theorem dX5_removeWagons_24 : decode cX5_removeWagons 24 = .ok (.iaload, 1) := by decide +kernel
theorem dX5_removeWagons_25 : decode cX5_removeWagons 25 = .ok (.istore_n 2, 1) := by decide +kernel
theorem dX5_removeWagons_26 : decode cX5_removeWagons 26 = .ok (.aload_n 0, 1) := by decide +kernel
theorem dX5_removeWagons_27 : decode cX5_removeWagons 27 = .ok (.getfield 10, 3) := by decide +kernel
theorem dX5_removeWagons_30 : decode cX5_removeWagons 30 = .ok (.getfield 142, 3) := by decide +kernel
theorem dX5_removeWagons_33 : decode cX5_removeWagons 33 = .ok (.iload_n 1, 1) := by decide +kernel
theorem dX5_removeWagons_34 : decode cX5_removeWagons 34 = .ok (.iconst 0, 1) := by decide +kernel
theorem dX5_removeWagons_35 : decode cX5_removeWagons 35 = .ok (.iastore, 1) := by decide +kernel
theorem dX5_removeWagons_36 : decode cX5_removeWagons 36 = .ok (.aload_n 0, 1) := by decide +kernel
theorem dX5_removeWagons_37 : decode cX5_removeWagons 37 = .ok (.getfield 10, 3) := by decide +kernel
theorem dX5_removeWagons_40 : decode cX5_removeWagons 40 = .ok (.dup, 1) := by decide +kernel
theorem dX5_removeWagons_41 : decode cX5_removeWagons 41 = .ok (.getfield 201, 3) := by decide +kernel
theorem dX5_removeWagons_44 : decode cX5_removeWagons 44 = .ok (.iload_n 2, 1) := by decide +kernel
theorem dX5_removeWagons_45 : decode cX5_removeWagons 45 = .ok (.iadd, 1) := by decide +kernel
theorem dX5_removeWagons_46 : decode cX5_removeWagons 46 = .ok (.putfield 201, 3) := by decide +kernel
theorem dX5_removeWagons_49 : decode cX5_removeWagons 49 = .ok (.iload_n 2, 1) := by decide +kernel
theorem dX5_removeWagons_50 : decode cX5_removeWagons 50 = .ok (.ireturn, 1) := by decide +kernel
theorem dX5_addWagons_0 : decode cX5_addWagons 0 = .ok (.aload_n 0, 1) := by decide +kernel
theorem dX5_addWagons_1 : decode cX5_addWagons 1 = .ok (.iload_n 1, 1) := by decide +kernel
theorem dX5_addWagons_2 : decode cX5_addWagons 2 = .ok (.invokevirtual 163, 3) := by decide +kernel
theorem dX5_addWagons_5 : decode cX5_addWagons 5 = .ok (.iload_n 2, 1) := by decide +kernel
theorem dX5_addWagons_6 : decode cX5_addWagons 6 = .ok (.iconst 1, 1) := by decide +kernel
theorem dX5_addWagons_7 : decode cX5_addWagons 7 = .ok (.if_icmp .lt 9, 3) := by decide +kernel
theorem dX5_addWagons_10 : decode cX5_addWagons 10 = .ok (.iload_n 2, 1) := by decide +kernel
theorem dX5_addWagons_11 : decode cX5_addWagons 11 = .ok (.bipush 11, 2) := by decide +kernel
theorem dX5_addWagons_13 : decode cX5_addWagons 13 = .ok (.if_icmp .le 13, 3) := by decide +kernel
theorem dX5_addWagons_16 : decode cX5_addWagons 16 = .ok (.new 95, 3) := by decide +kernel
theorem dX5_addWagons_19 : decode cX5_addWagons 19 = .ok (.dup, 1) := by decide +kernel
theorem dX5_addWagons_20 : decode cX5_addWagons 20 = .ok (.ldc 226, 2) := by decide +kernel
theorem dX5_addWagons_22 : decode cX5_addWagons 22 = .ok (.invokespecial 99, 3) := by decide +kernel
theorem dX5_addWagons_25 : decode cX5_addWagons 25 = .ok (.athrow, 1) := by decide +kernel
theorem dX5_addWagons_26 : decode cX5_addWagons 26 = .ok (.aload_n 0, 1) := by decide +kernel
theorem dX5_addWagons_27 : decode cX5_addWagons 27 = .ok (.getfield 10, 3) := by decide +kernel
theorem dX5_addWagons_30 : decode cX5_addWagons 30 = .ok (.getfield 172, 3) := by decide +kernel
theorem dX5_addWagons_33 : decode cX5_addWagons 33 = .ok (.iload_n 1, 1) := by decide +kernel
theorem dX5_addWagons_34 : decode cX5_addWagons 34 = .ok (.iaload, 1) := by decide +kernel
theorem dX5_addWagons_35 : decode cX5_addWagons 35 = .ok (.iload_n 2, 1) := by decide +kernel
theorem dX5_addWagons_36 : decode cX5_addWagons 36 = .ok (.iadd, 1) := by decide +kernel
theorem dX5_addWagons_37 : decode cX5_addWagons 37 = .ok (.bipush 12, 2) := by decide +kernel
theorem dX5_addWagons_39 : decode cX5_addWagons 39 = .ok (.if_icmp .le 13, 3) := by decide +kernel
theorem dX5_addWagons_42 : decode cX5_addWagons 42 = .ok (.new 76, 3) := by decide +kernel
theorem dX5_addWagons_45 : decode cX5_addWagons 45 = .ok (.dup, 1) := by decide +kernel
theorem dX5_addWagons_46 : decode cX5_addWagons 46 = .ok (.ldc 228, 2) := by decide +kernel
theorem dX5_addWagons_48 : decode cX5_addWagons 48 = .ok (.invokespecial 80, 3) := by decide +kernel
theorem dX5_addWagons_51 : decode cX5_addWagons 51 = .ok (.athrow, 1) := by decide +kernel
theorem dX5_addWagons_52 : decode cX5_addWagons 52 = .ok (.aload_n 0, 1) := by decide +kernel
theorem dX5_addWagons_53 : decode cX5_addWagons 53 = .ok (.getfield 22, 3) := by decide +kernel
theorem dX5_addWagons_56 : decode cX5_addWagons 56 = .ok (.aload_n 0, 1) := by decide +kernel
theorem dX5_addWagons_57 : decode cX5_addWagons 57 = .ok (.getfield 10, 3) := by decide +kernel
theorem dX5_addWagons_60 : decode cX5_addWagons 60 = .ok (.invokevirtual 214, 3) := by decide +kernel
theorem dX5_addWagons_63 : decode cX5_addWagons 63 = .ok (.aload_n 0, 1) := by decide +kernel
theorem dX5_addWagons_64 : decode cX5_addWagons 64 = .ok (.getfield 10, 3) := by decide +kernel
theorem dX5_addWagons_67 : decode cX5_addWagons 67 = .ok (.getfield 172, 3) := by decide +kernel
theorem dX5_addWagons_70 : decode cX5_addWagons 70 = .ok (.iload_n 1, 1) := by decide +kernel
theorem dX5_addWagons_71 : decode cX5_addWagons 71 = .ok (.dup2, 1) := by decide +kernel
theorem dX5_addWagons_72 : decode cX5_addWagons 72 = .ok (.iaload, 1) := by decide +kernel
theorem dX5_addWagons_73 : decode cX5_addWagons 73 = .ok (.iload_n 2, 1) := by decide +kernel
theorem dX5_addWagons_74 : decode cX5_addWagons 74 = .ok (.iadd, 1) := by decide +kernel
theorem dX5_addWagons_75 : decode cX5_addWagons 75 = .ok (.iastore, 1) := by decide +kernel
theorem dX5_addWagons_76 : decode cX5_addWagons 76 = .ok (.aload_n 0, 1) := by decide +kernel
theorem dX5_addWagons_77 : decode cX5_addWagons 77 = .ok (.getfield 10, 3) := by decide +kernel
theorem dX5_addWagons_80 : decode cX5_addWagons 80 = .ok (.dup, 1) := by decide +kernel
theorem dX5_addWagons_81 : decode cX5_addWagons 81 = .ok (.getfield 204, 3) := by decide +kernel
theorem dX5_addWagons_84 : decode cX5_addWagons 84 = .ok (.iload_n 2, 1) := by decide +kernel
theorem dX5_addWagons_85 : decode cX5_addWagons 85 = .ok (.iadd, 1) := by decide +kernel
theorem dX5_addWagons_86 : decode cX5_addWagons 86 = .ok (.putfield 204, 3) := by decide +kernel
theorem dX5_addWagons_89 : decode cX5_addWagons 89 = .ok (.aload_n 0, 1) := by decide +kernel
theorem dX5_addWagons_90 : decode cX5_addWagons 90 = .ok (.getfield 10, 3) := by decide +kernel
theorem dX5_addWagons_93 : decode cX5_addWagons 93 = .ok (.getfield 172, 3) := by decide +kernel
theorem dX5_addWagons_96 : decode cX5_addWagons 96 = .ok (.iload_n 1, 1) := by decide +kernel
theorem dX5_addWagons_97 : decode cX5_addWagons 97 = .ok (.iaload, 1) := by decide +kernel
theorem dX5_addWagons_98 : decode cX5_addWagons 98 = .ok (.ireturn, 1) := by decide +kernel
theorem dX5_setTopSpeed_0 : decode cX5_setTopSpeed 0 = .ok (.aload_n 0, 1) := by decide +kernel
theorem dX5_setTopSpeed_1 : decode cX5_setTopSpeed 1 = .ok (.iload_n 1, 1) := by decide +kernel
theorem dX5_setTopSpeed_2 : decode cX5_setTopSpeed 2 = .ok (.invokevirtual 163, 3) := by decide +kernel
theorem dX5_setTopSpeed_5 : decode cX5_setTopSpeed 5 = .ok (.iload_n 2, 1) := by decide +kernel
theorem dX5_setTopSpeed_6 : decode cX5_setTopSpeed 6 = .ok (.iconst 1, 1) := by decide +kernel
theorem dX5_setTopSpeed_7 : decode cX5_setTopSpeed 7 = .ok (.if_icmp .lt 8, 3) := by decide +kernel
theorem dX5_setTopSpeed_10 : decode cX5_setTopSpeed 10 = .ok (.iload_n 2, 1) := by decide +kernel
theorem dX5_setTopSpeed_11 : decode cX5_setTopSpeed 11 = .ok (.iconst 5, 1) := by decide +kernel
theorem dX5_setTopSpeed_12 : decode cX5_setTopSpeed 12 = .ok (.if_icmp .le 13, 3) := by decide +kernel
theorem dX5_setTopSpeed_15 : decode cX5_setTopSpeed 15 = .ok (.new 95, 3) := by decide +kernel
theorem dX5_setTopSpeed_18 : decode cX5_setTopSpeed 18 = .ok (.dup, 1) := by decide +kernel
theorem dX5_setTopSpeed_19 : decode cX5_setTopSpeed 19 = .ok (.ldc 230, 2) := by decide +kernel
theorem dX5_setTopSpeed_21 : decode cX5_setTopSpeed 21 = .ok (.invokespecial 99, 3) := by decide +kernel
theorem dX5_setTopSpeed_24 : decode cX5_setTopSpeed 24 = .ok (.athrow, 1) := by decide +kernel
theorem dX5_setTopSpeed_25 : decode cX5_setTopSpeed 25 = .ok (.aload_n 0, 1) := by decide +kernel
theorem dX5_setTopSpeed_26 : decode cX5_setTopSpeed 26 = .ok (.getfield 22, 3) := by decide +kernel
theorem dX5_setTopSpeed_29 : decode cX5_setTopSpeed 29 = .ok (.aload_n 0, 1) := by decide +kernel
theorem dX5_setTopSpeed_30 : decode cX5_setTopSpeed 30 = .ok (.getfield 10, 3) := by decide +kernel
theorem dX5_setTopSpeed_33 : decode cX5_setTopSpeed 33 = .ok (.invokevirtual 214, 3) := by decide +kernel
theorem dX5_setTopSpeed_36 : decode cX5_setTopSpeed 36 = .ok (.aload_n 0, 1) := by decide +kernel
theorem dX5_setTopSpeed_37 : decode cX5_setTopSpeed 37 = .ok (.getfield 10, 3) := by decide +kernel
theorem dX5_setTopSpeed_40 : decode cX5_setTopSpeed 40 = .ok (.getfield 175, 3) := by decide +kernel
theorem dX5_setTopSpeed_43 : decode cX5_setTopSpeed 43 = .ok (.iload_n 1, 1) := by decide +kernel
theorem dX5_setTopSpeed_44 : decode cX5_setTopSpeed 44 = .ok (.iaload, 1) := by decide +kernel
theorem dX5_setTopSpeed_45 : decode cX5_setTopSpeed 45 = .ok (.istore_n 3, 1) := by decide +kernel
theorem dX5_setTopSpeed_46 : decode cX5_setTopSpeed 46 = .ok (.aload_n 0, 1) := by decide +kernel
theorem dX5_setTopSpeed_47 : decode cX5_setTopSpeed 47 = .ok (.getfield 10, 3) := by decide +kernel
theorem dX5_setTopSpeed_50 : decode cX5_setTopSpeed 50 = .ok (.getfield 175, 3) := by decide +kernel
theorem dX5_setTopSpeed_53 : decode cX5_setTopSpeed 53 = .ok (.iload_n 1, 1) := by decide +kernel
theorem dX5_setTopSpeed_54 : decode cX5_setTopSpeed 54 = .ok (.iload_n 2, 1) := by decide +kernel
theorem dX5_setTopSpeed_55 : decode cX5_setTopSpeed 55 = .ok (.iastore, 1) := by decide +kernel
theorem dX5_setTopSpeed_56 : decode cX5_setTopSpeed 56 = .ok (.iload_n 3, 1) := by decide +kernel
theorem dX5_setTopSpeed_57 : decode cX5_setTopSpeed 57 = .ok (.ireturn, 1) := by decide +kernel
theorem dX5_restore_0 : decode cX5_restore 0 = .ok (.aload_n 0, 1) := by decide +kernel
theorem dX5_restore_1 : decode cX5_restore 1 = .ok (.iload_n 1, 1) := by decide +kernel
theorem dX5_restore_2 : decode cX5_restore 2 = .ok (.invokevirtual 232, 3) := by decide +kernel
theorem dX5_restore_5 : decode cX5_restore 5 = .ok (.aload_n 0, 1) := by decide +kernel
theorem dX5_restore_6 : decode cX5_restore 6 = .ok (.iload_n 1, 1) := by decide +kernel
theorem dX5_restore_7 : decode cX5_restore 7 = .ok (.invokevirtual 235, 3) := by decide +kernel
theorem dX5_restore_10 : decode cX5_restore 10 = .ok (.astore_n 2, 1) := by decide +kernel
theorem dX5_restore_11 : decode cX5_restore 11 = .ok (.aload_n 2, 1) := by decide +kernel
theorem dX5_restore_12 : decode cX5_restore 12 = .ok (.getfield 103, 3) := by decide +kernel
theorem dX5_restore_15 : decode cX5_restore 15 = .ok (.ifCond .ne 13, 3) := by decide +kernel
theorem dX5_restore_18 : decode cX5_restore 18 = .ok (.new 76, 3) := by decide +kernel
theorem dX5_restore_21 : decode cX5_restore 21 = .ok (.dup, 1) := by decide +kernel
theorem dX5_restore_22 : decode cX5_restore 22 = .ok (.ldc 239, 2) := by decide +kernel
theorem dX5_restore_24 : decode cX5_restore 24 = .ok (.invokespecial 80, 3) := by decide +kernel
theorem dX5_restore_27 : decode cX5_restore 27 = .ok (.athrow, 1) := by decide +kernel
theorem dX5_restore_28 : decode cX5_restore 28 = .ok (.aload_n 0, 1) := by decide +kernel
theorem dX5_restore_29 : decode cX5_restore 29 = .ok (.getfield 22, 3) := by decide +kernel
theorem dX5_restore_32 : decode cX5_restore 32 = .ok (.aload_n 0, 1) := by decide +kernel
theorem dX5_restore_33 : decode cX5_restore 33 = .ok (.getfield 10, 3) := by decide +kernel
theorem dX5_restore_36 : decode cX5_restore 36 = .ok (.invokevirtual 214, 3) := by decide +kernel
theorem dX5_restore_39 : decode cX5_restore 39 = .ok (.aload_n 0, 1) := by decide +kernel
theorem dX5_restore_40 : decode cX5_restore 40 = .ok (.getfield 10, 3) := by decide +kernel
theorem dX5_restore_43 : decode cX5_restore 43 = .ok (.aload_n 2, 1) := by decide +kernel
theorem dX5_restore_44 : decode cX5_restore 44 = .ok (.getfield 241, 3) := by decide +kernel
theorem dX5_restore_47 : decode cX5_restore 47 = .ok (.invokevirtual 69, 3) := by decide +kernel
theorem dX5_restore_50 : decode cX5_restore 50 = .ok (.aload_n 0, 1) := by decide +kernel
theorem dX5_restore_51 : decode cX5_restore 51 = .ok (.getfield 10, 3) := by decide +kernel
theorem dX5_restore_54 : decode cX5_restore 54 = .ok (.getfield 116, 3) := by decide +kernel
theorem dX5_restore_57 : decode cX5_restore 57 = .ok (.ireturn, 1) := by decide +kernel
theorem dX5_undo_0 : decode cX5_undo 0 = .ok (.aload_n 0, 1) := by decide +kernel
theorem dX5_undo_1 : decode cX5_undo 1 = .ok (.getfield 22, 3) := by decide +kernel
theorem dX5_undo_4 : decode cX5_undo 4 = .ok (.getfield 244, 3) := by decide +kernel
theorem dX5_undo_7 : decode cX5_undo 7 = .ok (.ifCond .ne 13, 3) := by decide +kernel
theorem dX5_undo_10 : decode cX5_undo 10 = .ok (.new 76, 3) := by decide +kernel
theorem dX5_undo_13 : decode cX5_undo 13 = .ok (.dup, 1) := by decide +kernel
theorem dX5_undo_14 : decode cX5_undo 14 = .ok (.ldc 247, 2) := by decide +kernel
theorem dX5_undo_16 : decode cX5_undo 16 = .ok (.invokespecial 80, 3) := by decide +kernel
theorem dX5_undo_19 : decode cX5_undo 19 = .ok (.athrow, 1) := by decide +kernel
theorem dX5_undo_20 : decode cX5_undo 20 = .ok (.aload_n 0, 1) := by decide +kernel
theorem dX5_undo_21 : decode cX5_undo 21 = .ok (.getfield 22, 3) := by decide +kernel
theorem dX5_undo_24 : decode cX5_undo 24 = .ok (.aload_n 0, 1) := by decide +kernel
theorem dX5_undo_25 : decode cX5_undo 25 = .ok (.getfield 10, 3) := by decide +kernel
theorem dX5_undo_28 : decode cX5_undo 28 = .ok (.invokevirtual 249, 3) := by decide +kernel
theorem dX5_undo_31 : decode cX5_undo 31 = .ok (.aload_n 0, 1) := by decide +kernel
theorem dX5_undo_32 : decode cX5_undo 32 = .ok (.getfield 22, 3) := by decide +kernel
theorem dX5_undo_35 : decode cX5_undo 35 = .ok (.getfield 244, 3) := by decide +kernel
theorem dX5_undo_38 : decode cX5_undo 38 = .ok (.ireturn, 1) := by decide +kernel
theorem dX5_save_0 : decode cX5_save 0 = .ok (.aload_n 0, 1) := by decide +kernel
theorem dX5_save_1 : decode cX5_save 1 = .ok (.iload_n 1, 1) := by decide +kernel
theorem dX5_save_2 : decode cX5_save 2 = .ok (.invokevirtual 232, 3) := by decide +kernel
theorem dX5_save_5 : decode cX5_save 5 = .ok (.aload_n 0, 1) := by decide +kernel
theorem dX5_save_6 : decode cX5_save 6 = .ok (.iload_n 1, 1) := by decide +kernel
theorem dX5_save_7 : decode cX5_save 7 = .ok (.invokevirtual 235, 3) := by decide +kernel
theorem dX5_save_10 : decode cX5_save 10 = .ok (.astore_n 2, 1) := by decide +kernel
theorem dX5_save_11 : decode cX5_save 11 = .ok (.aload_n 2, 1) := by decide +kernel
theorem dX5_save_12 : decode cX5_save 12 = .ok (.getfield 241, 3) := by decide +kernel
theorem dX5_save_15 : decode cX5_save 15 = .ok (.aload_n 0, 1) := by decide +kernel
theorem dX5_save_16 : decode cX5_save 16 = .ok (.getfield 10, 3) := by decide +kernel
theorem dX5_save_19 : decode cX5_save 19 = .ok (.invokevirtual 69, 3) := by decide +kernel
theorem dX5_save_22 : decode cX5_save 22 = .ok (.aload_n 2, 1) := by decide +kernel
theorem dX5_save_23 : decode cX5_save 23 = .ok (.iconst 1, 1) := by decide +kernel
theorem dX5_save_24 : decode cX5_save 24 = .ok (.putfield 103, 3) := by decide +kernel
theorem dX5_save_27 : decode cX5_save 27 = .ok (.aload_n 0, 1) := by decide +kernel
theorem dX5_save_28 : decode cX5_save 28 = .ok (.getfield 10, 3) := by decide +kernel
theorem dX5_save_31 : decode cX5_save 31 = .ok (.getfield 116, 3) := by decide +kernel
theorem dX5_save_34 : decode cX5_save 34 = .ok (.ireturn, 1) := by decide +kernel
theorem dX5_requireBlock_0 : decode cX5_requireBlock 0 = .ok (.iload_n 1, 1) := by decide +kernel
theorem dX5_requireBlock_1 : decode cX5_requireBlock 1 = .ok (.ifCond .lt 14, 3) := by decide +kernel
theorem dX5_requireBlock_4 : decode cX5_requireBlock 4 = .ok (.iload_n 1, 1) := by decide +kernel
theorem dX5_requireBlock_5 : decode cX5_requireBlock 5 = .ok (.aload_n 0, 1) := by decide +kernel
theorem dX5_requireBlock_6 : decode cX5_requireBlock 6 = .ok (.getfield 10, 3) := by decide +kernel
theorem dX5_requireBlock_9 : decode cX5_requireBlock 9 = .ok (.getfield 107, 3) := by decide +kernel
theorem dX5_requireBlock_12 : decode cX5_requireBlock 12 = .ok (.if_icmp .lt 14, 3) := by decide +kernel
theorem dX5_requireBlock_15 : decode cX5_requireBlock 15 = .ok (.new 90, 3) := by decide +kernel
theorem dX5_requireBlock_18 : decode cX5_requireBlock 18 = .ok (.dup, 1) := by decide +kernel
theorem dX5_requireBlock_19 : decode cX5_requireBlock 19 = .ok (.ldc_w 266, 3) := by decide +kernel
theorem dX5_requireBlock_22 : decode cX5_requireBlock 22 = .ok (.invokespecial 94, 3) := by decide +kernel
theorem dX5_requireBlock_25 : decode cX5_requireBlock 25 = .ok (.athrow, 1) := by decide +kernel
theorem dX5_requireBlock_26 : decode cX5_requireBlock 26 = .ok (.return_, 1) := by decide +kernel
theorem dX5_requireTrain_0 : decode cX5_requireTrain 0 = .ok (.iload_n 1, 1) := by decide +kernel
theorem dX5_requireTrain_1 : decode cX5_requireTrain 1 = .ok (.ifCond .lt 14, 3) := by decide +kernel
theorem dX5_requireTrain_4 : decode cX5_requireTrain 4 = .ok (.iload_n 1, 1) := by decide +kernel
theorem dX5_requireTrain_5 : decode cX5_requireTrain 5 = .ok (.aload_n 0, 1) := by decide +kernel
theorem dX5_requireTrain_6 : decode cX5_requireTrain 6 = .ok (.getfield 10, 3) := by decide +kernel
theorem dX5_requireTrain_9 : decode cX5_requireTrain 9 = .ok (.getfield 145, 3) := by decide +kernel
theorem dX5_requireTrain_12 : decode cX5_requireTrain 12 = .ok (.if_icmp .lt 14, 3) := by decide +kernel
theorem dX5_requireTrain_15 : decode cX5_requireTrain 15 = .ok (.new 90, 3) := by decide +kernel
theorem dX5_requireTrain_18 : decode cX5_requireTrain 18 = .ok (.dup, 1) := by decide +kernel
theorem dX5_requireTrain_19 : decode cX5_requireTrain 19 = .ok (.ldc_w 268, 3) := by decide +kernel
theorem dX5_requireTrain_22 : decode cX5_requireTrain 22 = .ok (.invokespecial 94, 3) := by decide +kernel
theorem dX5_requireTrain_25 : decode cX5_requireTrain 25 = .ok (.athrow, 1) := by decide +kernel
theorem dX5_requireTrain_26 : decode cX5_requireTrain 26 = .ok (.return_, 1) := by decide +kernel
theorem dX5_requireSlot_0 : decode cX5_requireSlot 0 = .ok (.iload_n 1, 1) := by decide +kernel
theorem dX5_requireSlot_1 : decode cX5_requireSlot 1 = .ok (.ifCond .eq 19, 3) := by decide +kernel
theorem dX5_requireSlot_4 : decode cX5_requireSlot 4 = .ok (.iload_n 1, 1) := by decide +kernel
theorem dX5_requireSlot_5 : decode cX5_requireSlot 5 = .ok (.iconst 1, 1) := by decide +kernel
theorem dX5_requireSlot_6 : decode cX5_requireSlot 6 = .ok (.if_icmp .eq 14, 3) := by decide +kernel
theorem dX5_requireSlot_9 : decode cX5_requireSlot 9 = .ok (.new 90, 3) := by decide +kernel
theorem dX5_requireSlot_12 : decode cX5_requireSlot 12 = .ok (.dup, 1) := by decide +kernel
theorem dX5_requireSlot_13 : decode cX5_requireSlot 13 = .ok (.ldc_w 270, 3) := by decide +kernel
theorem dX5_requireSlot_16 : decode cX5_requireSlot 16 = .ok (.invokespecial 94, 3) := by decide +kernel
theorem dX5_requireSlot_19 : decode cX5_requireSlot 19 = .ok (.athrow, 1) := by decide +kernel
theorem dX5_requireSlot_20 : decode cX5_requireSlot 20 = .ok (.return_, 1) := by decide +kernel
theorem dX5_slotFor_0 : decode cX5_slotFor 0 = .ok (.iload_n 1, 1) := by decide +kernel
theorem dX5_slotFor_1 : decode cX5_slotFor 1 = .ok (.ifCond .ne 10, 3) := by decide +kernel
theorem dX5_slotFor_4 : decode cX5_slotFor 4 = .ok (.aload_n 0, 1) := by decide +kernel
theorem dX5_slotFor_5 : decode cX5_slotFor 5 = .ok (.getfield 29, 3) := by decide +kernel
theorem dX5_slotFor_8 : decode cX5_slotFor 8 = .ok (.goto 7, 3) := by decide +kernel
theorem dX5_slotFor_11 : decode cX5_slotFor 11 = .ok (.aload_n 0, 1) := by decide +kernel
theorem dX5_slotFor_12 : decode cX5_slotFor 12 = .ok (.getfield 33, 3) := by decide +kernel
theorem dX5_slotFor_15 : decode cX5_slotFor 15 = .ok (.areturn, 1) := by decide +kernel
