theorem dX6_topSpeedOf_10 : decode cX6_topSpeedOf 10 = .ok (.invokevirtual 183, 3) := by decide +kernel
theorem dX6_topSpeedOf_13 : decode cX6_topSpeedOf 13 = .ok (.ireturn, 1) := by decide +kernel
theorem dX6_topSpeedOf_14 : decode cX6_topSpeedOf 14 = .ok (.aload_n 0, 1) := by decide +kernel
theorem dX6_topSpeedOf_15 : decode cX6_topSpeedOf 15 = .ok (.aload_n 0, 1) := by decide +kernel
theorem dX6_topSpeedOf_16 : decode cX6_topSpeedOf 16 = .ok (.getfield 13, 3) := by decide +kernel
theorem dX6_topSpeedOf_19 : decode cX6_topSpeedOf 19 = .ok (.iload_n 1, 1) := by decide +kernel
theorem dX6_topSpeedOf_20 : decode cX6_topSpeedOf 20 = .ok (.invokestatic 58, 3) := by decide +kernel
theorem dX6_topSpeedOf_23 : decode cX6_topSpeedOf 23 = .ok (.iconst 1, 1) := by decide +kernel
theorem dX6_topSpeedOf_24 : decode cX6_topSpeedOf 24 = .ok (.iadd, 1) := by decide +kernel
theorem dX6_topSpeedOf_25 : decode cX6_topSpeedOf 25 = .ok (.iaload, 1) := by decide +kernel
theorem dX6_topSpeedOf_26 : decode cX6_topSpeedOf 26 = .ok (.invokevirtual 189, 3) := by decide +kernel
theorem dX6_topSpeedOf_29 : decode cX6_topSpeedOf 29 = .ok (.ireturn, 1) := by decide +kernel
theorem dX6_speedOf_0 : decode cX6_speedOf 0 = .ok (.aload_n 0, 1) := by decide +kernel
theorem dX6_speedOf_1 : decode cX6_speedOf 1 = .ok (.iload_n 1, 1) := by decide +kernel
theorem dX6_speedOf_2 : decode cX6_speedOf 2 = .ok (.invokevirtual 221, 3) := by decide +kernel
theorem dX6_speedOf_5 : decode cX6_speedOf 5 = .ok (.ifCond .ne 9, 3) := by decide +kernel
theorem dX6_speedOf_8 : decode cX6_speedOf 8 = .ok (.aload_n 0, 1) := by decide +kernel
theorem dX6_speedOf_9 : decode cX6_speedOf 9 = .ok (.iconst 1, 1) := by decide +kernel
theorem dX6_speedOf_10 : decode cX6_speedOf 10 = .ok (.invokevirtual 183, 3) := by decide +kernel
theorem dX6_speedOf_13 : decode cX6_speedOf 13 = .ok (.ireturn, 1) := by decide +kernel
theorem dX6_speedOf_14 : decode cX6_speedOf 14 = .ok (.aload_n 0, 1) := by decide +kernel
theorem dX6_speedOf_15 : decode cX6_speedOf 15 = .ok (.aload_n 0, 1) := by decide +kernel
theorem dX6_speedOf_16 : decode cX6_speedOf 16 = .ok (.iload_n 1, 1) := by decide +kernel
theorem dX6_speedOf_17 : decode cX6_speedOf 17 = .ok (.invokevirtual 71, 3) := by decide +kernel
theorem dX6_speedOf_20 : decode cX6_speedOf 20 = .ok (.invokevirtual 189, 3) := by decide +kernel
theorem dX6_speedOf_23 : decode cX6_speedOf 23 = .ok (.ireturn, 1) := by decide +kernel
theorem dX6_waitsOf_0 : decode cX6_waitsOf 0 = .ok (.aload_n 0, 1) := by decide +kernel
theorem dX6_waitsOf_1 : decode cX6_waitsOf 1 = .ok (.iload_n 1, 1) := by decide +kernel
theorem dX6_waitsOf_2 : decode cX6_waitsOf 2 = .ok (.invokevirtual 221, 3) := by decide +kernel
theorem dX6_waitsOf_5 : decode cX6_waitsOf 5 = .ok (.ifCond .ne 9, 3) := by decide +kernel
theorem dX6_waitsOf_8 : decode cX6_waitsOf 8 = .ok (.aload_n 0, 1) := by decide +kernel
theorem dX6_waitsOf_9 : decode cX6_waitsOf 9 = .ok (.iconst 1, 1) := by decide +kernel
theorem dX6_waitsOf_10 : decode cX6_waitsOf 10 = .ok (.invokevirtual 183, 3) := by decide +kernel
theorem dX6_waitsOf_13 : decode cX6_waitsOf 13 = .ok (.ireturn, 1) := by decide +kernel
theorem dX6_waitsOf_14 : decode cX6_waitsOf 14 = .ok (.aload_n 0, 1) := by decide +kernel
theorem dX6_waitsOf_15 : decode cX6_waitsOf 15 = .ok (.aload_n 0, 1) := by decide +kernel
theorem dX6_waitsOf_16 : decode cX6_waitsOf 16 = .ok (.getfield 13, 3) := by decide +kernel
theorem dX6_waitsOf_19 : decode cX6_waitsOf 19 = .ok (.iload_n 1, 1) := by decide +kernel
theorem dX6_waitsOf_20 : decode cX6_waitsOf 20 = .ok (.invokestatic 58, 3) := by decide +kernel
theorem dX6_waitsOf_23 : decode cX6_waitsOf 23 = .ok (.iconst 4, 1) := by decide +kernel
theorem dX6_waitsOf_24 : decode cX6_waitsOf 24 = .ok (.iadd, 1) := by decide +kernel
theorem dX6_waitsOf_25 : decode cX6_waitsOf 25 = .ok (.iaload, 1) := by decide +kernel
theorem dX6_waitsOf_26 : decode cX6_waitsOf 26 = .ok (.invokevirtual 189, 3) := by decide +kernel
theorem dX6_waitsOf_29 : decode cX6_waitsOf 29 = .ok (.ireturn, 1) := by decide +kernel
theorem dX6_passages_0 : decode cX6_passages 0 = .ok (.aload_n 0, 1) := by decide +kernel
theorem dX6_passages_1 : decode cX6_passages 1 = .ok (.iload_n 1, 1) := by decide +kernel
theorem dX6_passages_2 : decode cX6_passages 2 = .ok (.invokevirtual 221, 3) := by decide +kernel
theorem dX6_passages_5 : decode cX6_passages 5 = .ok (.ifCond .eq 11, 3) := by decide +kernel
theorem dX6_passages_8 : decode cX6_passages 8 = .ok (.aload_n 0, 1) := by decide +kernel
theorem dX6_passages_9 : decode cX6_passages 9 = .ok (.iload_n 2, 1) := by decide +kernel
theorem dX6_passages_10 : decode cX6_passages 10 = .ok (.invokevirtual 207, 3) := by decide +kernel
theorem dX6_passages_13 : decode cX6_passages 13 = .ok (.ifCond .ne 9, 3) := by decide +kernel
theorem dX6_passages_16 : decode cX6_passages 16 = .ok (.aload_n 0, 1) := by decide +kernel
theorem dX6_passages_17 : decode cX6_passages 17 = .ok (.iconst 1, 1) := by decide +kernel
theorem dX6_passages_18 : decode cX6_passages 18 = .ok (.invokevirtual 183, 3) := by decide +kernel
theorem dX6_passages_21 : decode cX6_passages 21 = .ok (.ireturn, 1) := by decide +kernel
theorem dX6_passages_22 : decode cX6_passages 22 = .ok (.aload_n 0, 1) := by decide +kernel
theorem dX6_passages_23 : decode cX6_passages 23 = .ok (.aload_n 0, 1) := by decide +kernel
theorem dX6_passages_24 : decode cX6_passages 24 = .ok (.getfield 13, 3) := by decide +kernel
theorem dX6_passages_27 : decode cX6_passages 27 = .ok (.iload_n 1, 1) := by decide +kernel
theorem dX6_passages_28 : decode cX6_passages 28 = .ok (.iload_n 2, 1) := by decide +kernel
theorem dX6_passages_29 : decode cX6_passages 29 = .ok (.invokestatic 74, 3) := by decide +kernel
theorem dX6_passages_32 : decode cX6_passages 32 = .ok (.iaload, 1) := by decide +kernel
theorem dX6_passages_33 : decode cX6_passages 33 = .ok (.invokevirtual 189, 3) := by decide +kernel
theorem dX6_passages_36 : decode cX6_passages 36 = .ok (.ireturn, 1) := by decide +kernel
theorem dX6_differentPassages_0 : decode cX6_differentPassages 0 = .ok (.iconst 0, 1) := by decide +kernel
theorem dX6_differentPassages_1 : decode cX6_differentPassages 1 = .ok (.istore_n 1, 1) := by decide +kernel
theorem dX6_differentPassages_2 : decode cX6_differentPassages 2 = .ok (.iconst 0, 1) := by decide +kernel
theorem dX6_differentPassages_3 : decode cX6_differentPassages 3 = .ok (.istore_n 2, 1) := by decide +kernel
theorem dX6_differentPassages_4 : decode cX6_differentPassages 4 = .ok (.iload_n 2, 1) := by decide +kernel
theorem dX6_differentPassages_5 : decode cX6_differentPassages 5 = .ok (.aload_n 0, 1) := by decide +kernel
theorem dX6_differentPassages_6 : decode cX6_differentPassages 6 = .ok (.getfield 13, 3) := by decide +kernel
theorem dX6_differentPassages_9 : decode cX6_differentPassages 9 = .ok (.iconst 2, 1) := by decide +kernel
theorem dX6_differentPassages_10 : decode cX6_differentPassages 10 = .ok (.iaload, 1) := by decide +kernel
theorem dX6_differentPassages_11 : decode cX6_differentPassages 11 = .ok (.if_icmp .ge 43, 3) := by decide +kernel
theorem dX6_differentPassages_14 : decode cX6_differentPassages 14 = .ok (.iconst 0, 1) := by decide +kernel
theorem dX6_differentPassages_15 : decode cX6_differentPassages 15 = .ok (.istore_n 3, 1) := by decide +kernel
theorem dX6_differentPassages_16 : decode cX6_differentPassages 16 = .ok (.iload_n 3, 1) := by decide +kernel
theorem dX6_differentPassages_17 : decode cX6_differentPassages 17 = .ok (.aload_n 0, 1) := by decide +kernel
theorem dX6_differentPassages_18 : decode cX6_differentPassages 18 = .ok (.getfield 13, 3) := by decide +kernel
theorem dX6_differentPassages_21 : decode cX6_differentPassages 21 = .ok (.iconst 1, 1) := by decide +kernel
theorem dX6_differentPassages_22 : decode cX6_differentPassages 22 = .ok (.iaload, 1) := by decide +kernel
theorem dX6_differentPassages_23 : decode cX6_differentPassages 23 = .ok (.if_icmp .ge 25, 3) := by decide +kernel
theorem dX6_differentPassages_26 : decode cX6_differentPassages 26 = .ok (.aload_n 0, 1) := by decide +kernel
theorem dX6_differentPassages_27 : decode cX6_differentPassages 27 = .ok (.getfield 13, 3) := by decide +kernel
theorem dX6_differentPassages_30 : decode cX6_differentPassages 30 = .ok (.iload_n 2, 1) := by decide +kernel
theorem dX6_differentPassages_31 : decode cX6_differentPassages 31 = .ok (.iload_n 3, 1) := by decide +kernel
theorem dX6_differentPassages_32 : decode cX6_differentPassages 32 = .ok (.invokestatic 74, 3) := by decide +kernel
theorem dX6_differentPassages_35 : decode cX6_differentPassages 35 = .ok (.iaload, 1) := by decide +kernel
theorem dX6_differentPassages_36 : decode cX6_differentPassages 36 = .ok (.ifCond .le 6, 3) := by decide +kernel
theorem dX6_differentPassages_39 : decode cX6_differentPassages 39 = .ok (.iinc 1 1, 3) := by decide +kernel
theorem dX6_differentPassages_42 : decode cX6_differentPassages 42 = .ok (.iinc 3 1, 3) := by decide +kernel
theorem dX6_differentPassages_45 : decode cX6_differentPassages 45 = .ok (.goto (-29), 3) := by decide +kernel
theorem dX6_differentPassages_48 : decode cX6_differentPassages 48 = .ok (.iinc 2 1, 3) := by decide +kernel
theorem dX6_differentPassages_51 : decode cX6_differentPassages 51 = .ok (.goto (-47), 3) := by decide +kernel
theorem dX6_differentPassages_54 : decode cX6_differentPassages 54 = .ok (.aload_n 0, 1) := by decide +kernel
theorem dX6_differentPassages_55 : decode cX6_differentPassages 55 = .ok (.iload_n 1, 1) := by decide +kernel
theorem dX6_differentPassages_56 : decode cX6_differentPassages 56 = .ok (.invokevirtual 189, 3) := by decide +kernel
theorem dX6_differentPassages_59 : decode cX6_differentPassages 59 = .ok (.ireturn, 1) := by decide +kernel
theorem dX6_ticksToEnd_0 : decode cX6_ticksToEnd 0 = .ok (.aload_n 0, 1) := by decide +kernel
theorem dX6_ticksToEnd_1 : decode cX6_ticksToEnd 1 = .ok (.iload_n 1, 1) := by decide +kernel
theorem dX6_ticksToEnd_2 : decode cX6_ticksToEnd 2 = .ok (.invokevirtual 221, 3) := by decide +kernel
theorem dX6_ticksToEnd_5 : decode cX6_ticksToEnd 5 = .ok (.ifCond .ne 9, 3) := by decide +kernel
theorem dX6_ticksToEnd_8 : decode cX6_ticksToEnd 8 = .ok (.aload_n 0, 1) := by decide +kernel
theorem dX6_ticksToEnd_9 : decode cX6_ticksToEnd 9 = .ok (.iconst 1, 1) := by decide +kernel
theorem dX6_ticksToEnd_10 : decode cX6_ticksToEnd 10 = .ok (.invokevirtual 183, 3) := by decide +kernel
theorem dX6_ticksToEnd_13 : decode cX6_ticksToEnd 13 = .ok (.ireturn, 1) := by decide +kernel
theorem dX6_ticksToEnd_14 : decode cX6_ticksToEnd 14 = .ok (.aload_n 0, 1) := by decide +kernel
theorem dX6_ticksToEnd_15 : decode cX6_ticksToEnd 15 = .ok (.getfield 13, 3) := by decide +kernel
theorem dX6_ticksToEnd_18 : decode cX6_ticksToEnd 18 = .ok (.aload_n 0, 1) := by decide +kernel
theorem dX6_ticksToEnd_19 : decode cX6_ticksToEnd 19 = .ok (.getfield 13, 3) := by decide +kernel
theorem dX6_ticksToEnd_22 : decode cX6_ticksToEnd 22 = .ok (.iload_n 1, 1) := by decide +kernel
theorem dX6_ticksToEnd_23 : decode cX6_ticksToEnd 23 = .ok (.invokestatic 58, 3) := by decide +kernel
theorem dX6_ticksToEnd_26 : decode cX6_ticksToEnd 26 = .ok (.iconst 2, 1) := by decide +kernel
theorem dX6_ticksToEnd_27 : decode cX6_ticksToEnd 27 = .ok (.iadd, 1) := by decide +kernel
theorem dX6_ticksToEnd_28 : decode cX6_ticksToEnd 28 = .ok (.iaload, 1) := by decide +kernel
theorem dX6_ticksToEnd_29 : decode cX6_ticksToEnd 29 = .ok (.invokestatic 44, 3) := by decide +kernel
theorem dX6_ticksToEnd_32 : decode cX6_ticksToEnd 32 = .ok (.iconst 0, 1) := by decide +kernel
theorem dX6_ticksToEnd_33 : decode cX6_ticksToEnd 33 = .ok (.iadd, 1) := by decide +kernel
theorem dX6_ticksToEnd_34 : decode cX6_ticksToEnd 34 = .ok (.iaload, 1) := by decide +kernel
theorem dX6_ticksToEnd_35 : decode cX6_ticksToEnd 35 = .ok (.aload_n 0, 1) := by decide +kernel
theorem dX6_ticksToEnd_36 : decode cX6_ticksToEnd 36 = .ok (.getfield 13, 3) := by decide +kernel
theorem dX6_ticksToEnd_39 : decode cX6_ticksToEnd 39 = .ok (.iload_n 1, 1) := by decide +kernel
theorem dX6_ticksToEnd_40 : decode cX6_ticksToEnd 40 = .ok (.invokestatic 58, 3) := by decide +kernel
theorem dX6_ticksToEnd_43 : decode cX6_ticksToEnd 43 = .ok (.iconst 3, 1) := by decide +kernel
theorem dX6_ticksToEnd_44 : decode cX6_ticksToEnd 44 = .ok (.iadd, 1) := by decide +kernel
theorem dX6_ticksToEnd_45 : decode cX6_ticksToEnd 45 = .ok (.iaload, 1) := by decide +kernel
theorem dX6_ticksToEnd_46 : decode cX6_ticksToEnd 46 = .ok (.isub, 1) := by decide +kernel
theorem dX6_ticksToEnd_47 : decode cX6_ticksToEnd 47 = .ok (.istore_n 2, 1) := by decide +kernel
theorem dX6_ticksToEnd_48 : decode cX6_ticksToEnd 48 = .ok (.aload_n 0, 1) := by decide +kernel
theorem dX6_ticksToEnd_49 : decode cX6_ticksToEnd 49 = .ok (.iload_n 2, 1) := by decide +kernel
theorem dX6_ticksToEnd_50 : decode cX6_ticksToEnd 50 = .ok (.aload_n 0, 1) := by decide +kernel
theorem dX6_ticksToEnd_51 : decode cX6_ticksToEnd 51 = .ok (.iload_n 1, 1) := by decide +kernel
theorem dX6_ticksToEnd_52 : decode cX6_ticksToEnd 52 = .ok (.invokevirtual 71, 3) := by decide +kernel
theorem dX6_ticksToEnd_55 : decode cX6_ticksToEnd 55 = .ok (.iadd, 1) := by decide +kernel
theorem dX6_ticksToEnd_56 : decode cX6_ticksToEnd 56 = .ok (.iconst 1, 1) := by decide +kernel
theorem dX6_ticksToEnd_57 : decode cX6_ticksToEnd 57 = .ok (.isub, 1) := by decide +kernel
theorem dX6_ticksToEnd_58 : decode cX6_ticksToEnd 58 = .ok (.aload_n 0, 1) := by decide +kernel
theorem dX6_ticksToEnd_59 : decode cX6_ticksToEnd 59 = .ok (.iload_n 1, 1) := by decide +kernel
theorem dX6_ticksToEnd_60 : decode cX6_ticksToEnd 60 = .ok (.invokevirtual 71, 3) := by decide +kernel
theorem dX6_ticksToEnd_63 : decode cX6_ticksToEnd 63 = .ok (.idiv, 1) := by decide +kernel
theorem dX6_ticksToEnd_64 : decode cX6_ticksToEnd 64 = .ok (.invokevirtual 189, 3) := by decide +kernel
theorem dX6_ticksToEnd_67 : decode cX6_ticksToEnd 67 = .ok (.ireturn, 1) := by decide +kernel
theorem dX6_trainAhead_0 : decode cX6_trainAhead 0 = .ok (.aload_n 0, 1) := by decide +kernel
theorem dX6_trainAhead_1 : decode cX6_trainAhead 1 = .ok (.iload_n 1, 1) := by decide +kernel
theorem dX6_trainAhead_2 : decode cX6_trainAhead 2 = .ok (.invokevirtual 221, 3) := by decide +kernel
theorem dX6_trainAhead_5 : decode cX6_trainAhead 5 = .ok (.ifCond .ne 9, 3) := by decide +kernel
theorem dX6_trainAhead_8 : decode cX6_trainAhead 8 = .ok (.aload_n 0, 1) := by decide +kernel
theorem dX6_trainAhead_9 : decode cX6_trainAhead 9 = .ok (.iconst 1, 1) := by decide +kernel
theorem dX6_trainAhead_10 : decode cX6_trainAhead 10 = .ok (.invokevirtual 183, 3) := by decide +kernel
theorem dX6_trainAhead_13 : decode cX6_trainAhead 13 = .ok (.ireturn, 1) := by decide +kernel
theorem dX6_trainAhead_14 : decode cX6_trainAhead 14 = .ok (.aload_n 0, 1) := by decide +kernel
theorem dX6_trainAhead_15 : decode cX6_trainAhead 15 = .ok (.aload_n 0, 1) := by decide +kernel
theorem dX6_trainAhead_16 : decode cX6_trainAhead 16 = .ok (.getfield 13, 3) := by decide +kernel
theorem dX6_trainAhead_19 : decode cX6_trainAhead 19 = .ok (.iload_n 1, 1) := by decide +kernel
theorem dX6_trainAhead_20 : decode cX6_trainAhead 20 = .ok (.invokestatic 58, 3) := by decide +kernel
theorem dX6_trainAhead_23 : decode cX6_trainAhead 23 = .ok (.iconst 2, 1) := by decide +kernel
theorem dX6_trainAhead_24 : decode cX6_trainAhead 24 = .ok (.iadd, 1) := by decide +kernel
theorem dX6_trainAhead_25 : decode cX6_trainAhead 25 = .ok (.iaload, 1) := by decide +kernel
theorem dX6_trainAhead_26 : decode cX6_trainAhead 26 = .ok (.invokevirtual 64, 3) := by decide +kernel
theorem dX6_trainAhead_29 : decode cX6_trainAhead 29 = .ok (.istore_n 2, 1) := by decide +kernel
theorem dX6_trainAhead_30 : decode cX6_trainAhead 30 = .ok (.aload_n 0, 1) := by decide +kernel
theorem dX6_trainAhead_31 : decode cX6_trainAhead 31 = .ok (.iload_n 2, 1) := by decide +kernel
theorem dX6_trainAhead_32 : decode cX6_trainAhead 32 = .ok (.invokevirtual 61, 3) := by decide +kernel
theorem dX6_trainAhead_35 : decode cX6_trainAhead 35 = .ok (.iconst (-1), 1) := by decide +kernel
theorem dX6_trainAhead_36 : decode cX6_trainAhead 36 = .ok (.if_icmp .ne 12, 3) := by decide +kernel
theorem dX6_trainAhead_39 : decode cX6_trainAhead 39 = .ok (.aload_n 0, 1) := by decide +kernel
theorem dX6_trainAhead_40 : decode cX6_trainAhead 40 = .ok (.iload_n 2, 1) := by decide +kernel
theorem dX6_trainAhead_41 : decode cX6_trainAhead 41 = .ok (.invokevirtual 64, 3) := by decide +kernel
theorem dX6_trainAhead_44 : decode cX6_trainAhead 44 = .ok (.istore_n 2, 1) := by decide +kernel
theorem dX6_trainAhead_45 : decode cX6_trainAhead 45 = .ok (.goto (-15), 3) := by decide +kernel
theorem dX6_trainAhead_48 : decode cX6_trainAhead 48 = .ok (.aload_n 0, 1) := by decide +kernel
theorem dX6_trainAhead_49 : decode cX6_trainAhead 49 = .ok (.iload_n 2, 1) := by decide +kernel
theorem dX6_trainAhead_50 : decode cX6_trainAhead 50 = .ok (.invokevirtual 61, 3) := by decide +kernel
theorem dX6_trainAhead_53 : decode cX6_trainAhead 53 = .ok (.istore_n 3, 1) := by decide +kernel
theorem dX6_trainAhead_54 : decode cX6_trainAhead 54 = .ok (.iload_n 3, 1) := by decide +kernel
theorem dX6_trainAhead_55 : decode cX6_trainAhead 55 = .ok (.iload_n 1, 1) := by decide +kernel
theorem dX6_trainAhead_56 : decode cX6_trainAhead 56 = .ok (.if_icmp .ne 9, 3) := by decide +kernel
theorem dX6_trainAhead_59 : decode cX6_trainAhead 59 = .ok (.aload_n 0, 1) := by decide +kernel
theorem dX6_trainAhead_60 : decode cX6_trainAhead 60 = .ok (.iconst (-1), 1) := by decide +kernel
theorem dX6_trainAhead_61 : decode cX6_trainAhead 61 = .ok (.invokevirtual 189, 3) := by decide +kernel
theorem dX6_trainAhead_64 : decode cX6_trainAhead 64 = .ok (.ireturn, 1) := by decide +kernel
theorem dX6_trainAhead_65 : decode cX6_trainAhead 65 = .ok (.aload_n 0, 1) := by decide +kernel
theorem dX6_trainAhead_66 : decode cX6_trainAhead 66 = .ok (.iload_n 3, 1) := by decide +kernel
theorem dX6_trainAhead_67 : decode cX6_trainAhead 67 = .ok (.invokevirtual 189, 3) := by decide +kernel
theorem dX6_trainAhead_70 : decode cX6_trainAhead 70 = .ok (.ireturn, 1) := by decide +kernel
theorem dX6_clearBlocksAhead_0 : decode cX6_clearBlocksAhead 0 = .ok (.aload_n 0, 1) := by decide +kernel
theorem dX6_clearBlocksAhead_1 : decode cX6_clearBlocksAhead 1 = .ok (.iload_n 1, 1) := by decide +kernel
theorem dX6_clearBlocksAhead_2 : decode cX6_clearBlocksAhead 2 = .ok (.invokevirtual 221, 3) := by decide +kernel
theorem dX6_clearBlocksAhead_5 : decode cX6_clearBlocksAhead 5 = .ok (.ifCond .ne 9, 3) := by decide +kernel
theorem dX6_clearBlocksAhead_8 : decode cX6_clearBlocksAhead 8 = .ok (.aload_n 0, 1) := by decide +kernel
theorem dX6_clearBlocksAhead_9 : decode cX6_clearBlocksAhead 9 = .ok (.iconst 1, 1) := by decide +kernel
theorem dX6_clearBlocksAhead_10 : decode cX6_clearBlocksAhead 10 = .ok (.invokevirtual 183, 3) := by decide +kernel
theorem dX6_clearBlocksAhead_13 : decode cX6_clearBlocksAhead 13 = .ok (.ireturn, 1) := by decide +kernel
theorem dX6_clearBlocksAhead_14 : decode cX6_clearBlocksAhead 14 = .ok (.iconst 0, 1) := by decide +kernel
theorem dX6_clearBlocksAhead_15 : decode cX6_clearBlocksAhead 15 = .ok (.istore_n 2, 1) := by decide +kernel
theorem dX6_clearBlocksAhead_16 : decode cX6_clearBlocksAhead 16 = .ok (.aload_n 0, 1) := by decide +kernel
theorem dX6_clearBlocksAhead_17 : decode cX6_clearBlocksAhead 17 = .ok (.aload_n 0, 1) := by decide +kernel
theorem dX6_clearBlocksAhead_18 : decode cX6_clearBlocksAhead 18 = .ok (.getfield 13, 3) := by decide +kernel
theorem dX6_clearBlocksAhead_21 : decode cX6_clearBlocksAhead 21 = .ok (.iload_n 1, 1) := by decide +kernel
theorem dX6_clearBlocksAhead_22 : decode cX6_clearBlocksAhead 22 = .ok (.invokestatic 58, 3) := by decide +kernel
theorem dX6_clearBlocksAhead_25 : decode cX6_clearBlocksAhead 25 = .ok (.iconst 2, 1) := by decide +kernel
theorem dX6_clearBlocksAhead_26 : decode cX6_clearBlocksAhead 26 = .ok (.iadd, 1) := by decide +kernel
theorem dX6_clearBlocksAhead_27 : decode cX6_clearBlocksAhead 27 = .ok (.iaload, 1) := by decide +kernel
theorem dX6_clearBlocksAhead_28 : decode cX6_clearBlocksAhead 28 = .ok (.invokevirtual 64, 3) := by decide +kernel
theorem dX6_clearBlocksAhead_31 : decode cX6_clearBlocksAhead 31 = .ok (.istore_n 3, 1) := by decide +kernel
theorem dX6_clearBlocksAhead_32 : decode cX6_clearBlocksAhead 32 = .ok (.aload_n 0, 1) := by decide +kernel
theorem dX6_clearBlocksAhead_33 : decode cX6_clearBlocksAhead 33 = .ok (.iload_n 3, 1) := by decide +kernel
theorem dX6_clearBlocksAhead_34 : decode cX6_clearBlocksAhead 34 = .ok (.invokevirtual 67, 3) := by decide +kernel
theorem dX6_clearBlocksAhead_37 : decode cX6_clearBlocksAhead 37 = .ok (.ifCond .ne 15, 3) := by decide +kernel
theorem dX6_clearBlocksAhead_40 : decode cX6_clearBlocksAhead 40 = .ok (.aload_n 0, 1) := by decide +kernel
theorem dX6_clearBlocksAhead_41 : decode cX6_clearBlocksAhead 41 = .ok (.iload_n 3, 1) := by decide +kernel
theorem dX6_clearBlocksAhead_42 : decode cX6_clearBlocksAhead 42 = .ok (.invokevirtual 64, 3) := by decide +kernel
theorem dX6_clearBlocksAhead_45 : decode cX6_clearBlocksAhead 45 = .ok (.istore_n 3, 1) := by decide +kernel
theorem dX6_clearBlocksAhead_46 : decode cX6_clearBlocksAhead 46 = .ok (.iinc 2 1, 3) := by decide +kernel
theorem dX6_clearBlocksAhead_49 : decode cX6_clearBlocksAhead 49 = .ok (.goto (-17), 3) := by decide +kernel
theorem dX6_clearBlocksAhead_52 : decode cX6_clearBlocksAhead 52 = .ok (.aload_n 0, 1) := by decide +kernel
theorem dX6_clearBlocksAhead_53 : decode cX6_clearBlocksAhead 53 = .ok (.iload_n 2, 1) := by decide +kernel
theorem dX6_clearBlocksAhead_54 : decode cX6_clearBlocksAhead 54 = .ok (.invokevirtual 189, 3) := by decide +kernel
theorem dX6_clearBlocksAhead_57 : decode cX6_clearBlocksAhead 57 = .ok (.ireturn, 1) := by decide +kernel
theorem dX6_canEnter_0 : decode cX6_canEnter 0 = .ok (.aload_n 0, 1) := by decide +kernel
theorem dX6_canEnter_1 : decode cX6_canEnter 1 = .ok (.iload_n 1, 1) := by decide +kernel
theorem dX6_canEnter_2 : decode cX6_canEnter 2 = .ok (.invokevirtual 221, 3) := by decide +kernel
theorem dX6_canEnter_5 : decode cX6_canEnter 5 = .ok (.ifCond .ne 8, 3) := by decide +kernel
theorem dX6_canEnter_8 : decode cX6_canEnter 8 = .ok (.aload_n 0, 1) := by decide +kernel
theorem dX6_canEnter_9 : decode cX6_canEnter 9 = .ok (.invokevirtual 210, 3) := by decide +kernel
theorem dX6_canEnter_12 : decode cX6_canEnter 12 = .ok (.ireturn, 1) := by decide +kernel
theorem dX6_canEnter_13 : decode cX6_canEnter 13 = .ok (.aload_n 0, 1) := by decide +kernel
theorem dX6_canEnter_14 : decode cX6_canEnter 14 = .ok (.aload_n 0, 1) := by decide +kernel
theorem dX6_canEnter_15 : decode cX6_canEnter 15 = .ok (.iload_n 1, 1) := by decide +kernel
theorem dX6_canEnter_16 : decode cX6_canEnter 16 = .ok (.invokevirtual 81, 3) := by decide +kernel
theorem dX6_canEnter_19 : decode cX6_canEnter 19 = .ok (.invokevirtual 214, 3) := by decide +kernel
theorem dX6_canEnter_22 : decode cX6_canEnter 22 = .ok (.ireturn, 1) := by decide +kernel
theorem dX6_blockAfter_0 : decode cX6_blockAfter 0 = .ok (.aload_n 0, 1) := by decide +kernel
theorem dX6_blockAfter_1 : decode cX6_blockAfter 1 = .ok (.iload_n 1, 1) := by decide +kernel
theorem dX6_blockAfter_2 : decode cX6_blockAfter 2 = .ok (.invokevirtual 221, 3) := by decide +kernel
theorem dX6_blockAfter_5 : decode cX6_blockAfter 5 = .ok (.ifCond .ne 9, 3) := by decide +kernel
theorem dX6_blockAfter_8 : decode cX6_blockAfter 8 = .ok (.aload_n 0, 1) := by decide +kernel
theorem dX6_blockAfter_9 : decode cX6_blockAfter 9 = .ok (.iconst 1, 1) := by decide +kernel
theorem dX6_blockAfter_10 : decode cX6_blockAfter 10 = .ok (.invokevirtual 183, 3) := by decide +kernel
theorem dX6_blockAfter_13 : decode cX6_blockAfter 13 = .ok (.ireturn, 1) := by decide +kernel
theorem dX6_blockAfter_14 : decode cX6_blockAfter 14 = .ok (.iload_n 2, 1) := by decide +kernel
theorem dX6_blockAfter_15 : decode cX6_blockAfter 15 = .ok (.iconst 0, 1) := by decide +kernel
theorem dX6_blockAfter_16 : decode cX6_blockAfter 16 = .ok (.sipush 200, 3) := by decide +kernel
theorem dX6_blockAfter_19 : decode cX6_blockAfter 19 = .ok (.invokestatic 54, 3) := by decide +kernel
theorem dX6_blockAfter_22 : decode cX6_blockAfter 22 = .ok (.ifCond .ne 9, 3) := by decide +kernel
theorem dX6_blockAfter_25 : decode cX6_blockAfter 25 = .ok (.aload_n 0, 1) := by decide +kernel
theorem dX6_blockAfter_26 : decode cX6_blockAfter 26 = .ok (.iconst 2, 1) := by decide +kernel
theorem dX6_blockAfter_27 : decode cX6_blockAfter 27 = .ok (.invokevirtual 183, 3) := by decide +kernel
theorem dX6_blockAfter_30 : decode cX6_blockAfter 30 = .ok (.ireturn, 1) := by decide +kernel
theorem dX6_blockAfter_31 : decode cX6_blockAfter 31 = .ok (.aload_n 0, 1) := by decide +kernel
theorem dX6_blockAfter_32 : decode cX6_blockAfter 32 = .ok (.invokevirtual 192, 3) := by decide +kernel
theorem dX6_blockAfter_35 : decode cX6_blockAfter 35 = .ok (.aload_n 0, 1) := by decide +kernel
theorem dX6_blockAfter_36 : decode cX6_blockAfter 36 = .ok (.iload_n 2, 1) := by decide +kernel
theorem dX6_blockAfter_37 : decode cX6_blockAfter 37 = .ok (.invokevirtual 48, 3) := by decide +kernel
theorem dX6_blockAfter_40 : decode cX6_blockAfter 40 = .ok (.istore_n 3, 1) := by decide +kernel
theorem dX6_blockAfter_41 : decode cX6_blockAfter 41 = .ok (.aload_n 0, 1) := by decide +kernel
theorem dX6_blockAfter_42 : decode cX6_blockAfter 42 = .ok (.getfield 13, 3) := by decide +kernel
theorem dX6_blockAfter_45 : decode cX6_blockAfter 45 = .ok (.iload_n 1, 1) := by decide +kernel
theorem dX6_blockAfter_46 : decode cX6_blockAfter 46 = .ok (.invokestatic 58, 3) := by decide +kernel
theorem dX6_blockAfter_49 : decode cX6_blockAfter 49 = .ok (.iconst 2, 1) := by decide +kernel
theorem dX6_blockAfter_50 : decode cX6_blockAfter 50 = .ok (.iadd, 1) := by decide +kernel
theorem dX6_blockAfter_51 : decode cX6_blockAfter 51 = .ok (.iaload, 1) := by decide +kernel
theorem dX6_blockAfter_52 : decode cX6_blockAfter 52 = .ok (.istore 4, 2) := by decide +kernel
theorem dX6_blockAfter_54 : decode cX6_blockAfter 54 = .ok (.aload_n 0, 1) := by decide +kernel
theorem dX6_blockAfter_55 : decode cX6_blockAfter 55 = .ok (.invokevirtual 201, 3) := by decide +kernel
theorem dX6_blockAfter_58 : decode cX6_blockAfter 58 = .ok (.aload_n 0, 1) := by decide +kernel
theorem dX6_blockAfter_59 : decode cX6_blockAfter 59 = .ok (.iload 4, 2) := by decide +kernel
theorem dX6_blockAfter_61 : decode cX6_blockAfter 61 = .ok (.invokevirtual 189, 3) := by decide +kernel
theorem dX6_blockAfter_64 : decode cX6_blockAfter 64 = .ok (.ireturn, 1) := by decide +kernel
theorem dX6_ticksUntilWait_0 : decode cX6_ticksUntilWait 0 = .ok (.aload_n 0, 1) := by decide +kernel
theorem dX6_ticksUntilWait_1 : decode cX6_ticksUntilWait 1 = .ok (.iload_n 1, 1) := by decide +kernel
theorem dX6_ticksUntilWait_2 : decode cX6_ticksUntilWait 2 = .ok (.invokevirtual 221, 3) := by decide +kernel
theorem dX6_ticksUntilWait_5 : decode cX6_ticksUntilWait 5 = .ok (.ifCond .ne 9, 3) := by decide +kernel
theorem dX6_ticksUntilWait_8 : decode cX6_ticksUntilWait 8 = .ok (.aload_n 0, 1) := by decide +kernel
theorem dX6_ticksUntilWait_9 : decode cX6_ticksUntilWait 9 = .ok (.iconst 1, 1) := by decide +kernel
theorem dX6_ticksUntilWait_10 : decode cX6_ticksUntilWait 10 = .ok (.invokevirtual 183, 3) := by decide +kernel
theorem dX6_ticksUntilWait_13 : decode cX6_ticksUntilWait 13 = .ok (.ireturn, 1) := by decide +kernel
theorem dX6_ticksUntilWait_14 : decode cX6_ticksUntilWait 14 = .ok (.aload_n 0, 1) := by decide +kernel
theorem dX6_ticksUntilWait_15 : decode cX6_ticksUntilWait 15 = .ok (.invokevirtual 192, 3) := by decide +kernel
theorem dX6_ticksUntilWait_18 : decode cX6_ticksUntilWait 18 = .ok (.aload_n 0, 1) := by decide +kernel
theorem dX6_ticksUntilWait_19 : decode cX6_ticksUntilWait 19 = .ok (.getfield 13, 3) := by decide +kernel
theorem dX6_ticksUntilWait_22 : decode cX6_ticksUntilWait 22 = .ok (.iload_n 1, 1) := by decide +kernel
theorem dX6_ticksUntilWait_23 : decode cX6_ticksUntilWait 23 = .ok (.invokestatic 58, 3) := by decide +kernel
theorem dX6_ticksUntilWait_26 : decode cX6_ticksUntilWait 26 = .ok (.iconst 4, 1) := by decide +kernel
theorem dX6_ticksUntilWait_27 : decode cX6_ticksUntilWait 27 = .ok (.iadd, 1) := by decide +kernel
theorem dX6_ticksUntilWait_28 : decode cX6_ticksUntilWait 28 = .ok (.iaload, 1) := by decide +kernel
theorem dX6_ticksUntilWait_29 : decode cX6_ticksUntilWait 29 = .ok (.istore_n 2, 1) := by decide +kernel
theorem dX6_ticksUntilWait_30 : decode cX6_ticksUntilWait 30 = .ok (.iconst 0, 1) := by decide +kernel
theorem dX6_ticksUntilWait_31 : decode cX6_ticksUntilWait 31 = .ok (.istore_n 3, 1) := by decide +kernel
theorem dX6_ticksUntilWait_32 : decode cX6_ticksUntilWait 32 = .ok (.aload_n 0, 1) := by decide +kernel
theorem dX6_ticksUntilWait_33 : decode cX6_ticksUntilWait 33 = .ok (.getfield 13, 3) := by decide +kernel
theorem dX6_ticksUntilWait_36 : decode cX6_ticksUntilWait 36 = .ok (.iload_n 1, 1) := by decide +kernel
theorem dX6_ticksUntilWait_37 : decode cX6_ticksUntilWait 37 = .ok (.invokestatic 58, 3) := by decide +kernel
theorem dX6_ticksUntilWait_40 : decode cX6_ticksUntilWait 40 = .ok (.iconst 4, 1) := by decide +kernel
theorem dX6_ticksUntilWait_41 : decode cX6_ticksUntilWait 41 = .ok (.iadd, 1) := by decide +kernel
theorem dX6_ticksUntilWait_42 : decode cX6_ticksUntilWait 42 = .ok (.iaload, 1) := by decide +kernel
theorem dX6_ticksUntilWait_43 : decode cX6_ticksUntilWait 43 = .ok (.iload_n 2, 1) := by decide +kernel
theorem dX6_ticksUntilWait_44 : decode cX6_ticksUntilWait 44 = .ok (.if_icmp .ne 22, 3) := by decide +kernel
theorem dX6_ticksUntilWait_47 : decode cX6_ticksUntilWait 47 = .ok (.iload_n 3, 1) := by decide +kernel
theorem dX6_ticksUntilWait_48 : decode cX6_ticksUntilWait 48 = .ok (.sipush 200, 3) := by decide +kernel
theorem dX6_ticksUntilWait_51 : decode cX6_ticksUntilWait 51 = .ok (.if_icmp .ge 15, 3) := by decide +kernel
theorem dX6_ticksUntilWait_54 : decode cX6_ticksUntilWait 54 = .ok (.aload_n 0, 1) := by decide +kernel
theorem dX6_ticksUntilWait_55 : decode cX6_ticksUntilWait 55 = .ok (.invokevirtual 91, 3) := by decide +kernel
theorem dX6_ticksUntilWait_58 : decode cX6_ticksUntilWait 58 = .ok (.istore 4, 2) := by decide +kernel
theorem dX6_ticksUntilWait_60 : decode cX6_ticksUntilWait 60 = .ok (.iinc 3 1, 3) := by decide +kernel
theorem dX6_ticksUntilWait_63 : decode cX6_ticksUntilWait 63 = .ok (.goto (-31), 3) := by decide +kernel
theorem dX6_ticksUntilWait_66 : decode cX6_ticksUntilWait 66 = .ok (.aload_n 0, 1) := by decide +kernel
theorem dX6_ticksUntilWait_67 : decode cX6_ticksUntilWait 67 = .ok (.getfield 13, 3) := by decide +kernel
theorem dX6_ticksUntilWait_70 : decode cX6_ticksUntilWait 70 = .ok (.iload_n 1, 1) := by decide +kernel
theorem dX6_ticksUntilWait_71 : decode cX6_ticksUntilWait 71 = .ok (.invokestatic 58, 3) := by decide +kernel
theorem dX6_ticksUntilWait_74 : decode cX6_ticksUntilWait 74 = .ok (.iconst 4, 1) := by decide +kernel
theorem dX6_ticksUntilWait_75 : decode cX6_ticksUntilWait 75 = .ok (.iadd, 1) := by decide +kernel
theorem dX6_ticksUntilWait_76 : decode cX6_ticksUntilWait 76 = .ok (.iaload, 1) := by decide +kernel
theorem dX6_ticksUntilWait_77 : decode cX6_ticksUntilWait 77 = .ok (.iload_n 2, 1) := by decide +kernel
theorem dX6_ticksUntilWait_78 : decode cX6_ticksUntilWait 78 = .ok (.if_icmp .le 7, 3) := by decide +kernel
theorem dX6_ticksUntilWait_81 : decode cX6_ticksUntilWait 81 = .ok (.iconst 1, 1) := by decide +kernel
theorem dX6_ticksUntilWait_82 : decode cX6_ticksUntilWait 82 = .ok (.goto 4, 3) := by decide +kernel
theorem dX6_ticksUntilWait_85 : decode cX6_ticksUntilWait 85 = .ok (.iconst 0, 1) := by decide +kernel
theorem dX6_ticksUntilWait_86 : decode cX6_ticksUntilWait 86 = .ok (.istore 4, 2) := by decide +kernel
theorem dX6_ticksUntilWait_88 : decode cX6_ticksUntilWait 88 = .ok (.aload_n 0, 1) := by decide +kernel
theorem dX6_ticksUntilWait_89 : decode cX6_ticksUntilWait 89 = .ok (.invokevirtual 201, 3) := by decide +kernel
theorem dX6_ticksUntilWait_92 : decode cX6_ticksUntilWait 92 = .ok (.iload 4, 2) := by decide +kernel
theorem dX6_ticksUntilWait_94 : decode cX6_ticksUntilWait 94 = .ok (.ifCond .ne 9, 3) := by decide +kernel
theorem dX6_ticksUntilWait_97 : decode cX6_ticksUntilWait 97 = .ok (.aload_n 0, 1) := by decide +kernel
theorem dX6_ticksUntilWait_98 : decode cX6_ticksUntilWait 98 = .ok (.iconst (-1), 1) := by decide +kernel
theorem dX6_ticksUntilWait_99 : decode cX6_ticksUntilWait 99 = .ok (.invokevirtual 189, 3) := by decide +kernel
theorem dX6_ticksUntilWait_102 : decode cX6_ticksUntilWait 102 = .ok (.ireturn, 1) := by decide +kernel
theorem dX6_ticksUntilWait_103 : decode cX6_ticksUntilWait 103 = .ok (.aload_n 0, 1) := by decide +kernel
theorem dX6_ticksUntilWait_104 : decode cX6_ticksUntilWait 104 = .ok (.iload_n 3, 1) := by decide +kernel
theorem dX6_ticksUntilWait_105 : decode cX6_ticksUntilWait 105 = .ok (.invokevirtual 189, 3) := by decide +kernel
theorem dX6_ticksUntilWait_108 : decode cX6_ticksUntilWait 108 = .ok (.ireturn, 1) := by decide +kernel
theorem dX6_ofAllTrains_0 : decode cX6_ofAllTrains 0 = .ok (.iconst 0, 1) := by decide +kernel
theorem dX6_ofAllTrains_1 : decode cX6_ofAllTrains 1 = .ok (.istore_n 2, 1) := by decide +kernel
theorem dX6_ofAllTrains_2 : decode cX6_ofAllTrains 2 = .ok (.iconst 0, 1) := by decide +kernel
theorem dX6_ofAllTrains_3 : decode cX6_ofAllTrains 3 = .ok (.istore_n 3, 1) := by decide +kernel
theorem dX6_ofAllTrains_4 : decode cX6_ofAllTrains 4 = .ok (.iload_n 3, 1) := by decide +kernel
theorem dX6_ofAllTrains_5 : decode cX6_ofAllTrains 5 = .ok (.aload_n 0, 1) := by decide +kernel
theorem dX6_ofAllTrains_6 : decode cX6_ofAllTrains 6 = .ok (.getfield 13, 3) := by decide +kernel
theorem dX6_ofAllTrains_9 : decode cX6_ofAllTrains 9 = .ok (.iconst 2, 1) := by decide +kernel
theorem dX6_ofAllTrains_10 : decode cX6_ofAllTrains 10 = .ok (.iaload, 1) := by decide +kernel
theorem dX6_ofAllTrains_11 : decode cX6_ofAllTrains 11 = .ok (.if_icmp .ge 23, 3) := by decide +kernel
theorem dX6_ofAllTrains_14 : decode cX6_ofAllTrains 14 = .ok (.iload_n 2, 1) := by decide +kernel
theorem dX6_ofAllTrains_15 : decode cX6_ofAllTrains 15 = .ok (.aload_n 0, 1) := by decide +kernel
theorem dX6_ofAllTrains_16 : decode cX6_ofAllTrains 16 = .ok (.getfield 13, 3) := by decide +kernel
theorem dX6_ofAllTrains_19 : decode cX6_ofAllTrains 19 = .ok (.iload_n 3, 1) := by decide +kernel
theorem dX6_ofAllTrains_20 : decode cX6_ofAllTrains 20 = .ok (.invokestatic 58, 3) := by decide +kernel
theorem dX6_ofAllTrains_23 : decode cX6_ofAllTrains 23 = .ok (.iload_n 1, 1) := by decide +kernel
theorem dX6_ofAllTrains_24 : decode cX6_ofAllTrains 24 = .ok (.iadd, 1) := by decide +kernel
theorem dX6_ofAllTrains_25 : decode cX6_ofAllTrains 25 = .ok (.iaload, 1) := by decide +kernel
theorem dX6_ofAllTrains_26 : decode cX6_ofAllTrains 26 = .ok (.iadd, 1) := by decide +kernel
theorem dX6_ofAllTrains_27 : decode cX6_ofAllTrains 27 = .ok (.istore_n 2, 1) := by decide +kernel
theorem dX6_ofAllTrains_28 : decode cX6_ofAllTrains 28 = .ok (.iinc 3 1, 3) := by decide +kernel
theorem dX6_ofAllTrains_31 : decode cX6_ofAllTrains 31 = .ok (.goto (-27), 3) := by decide +kernel
theorem dX6_ofAllTrains_34 : decode cX6_ofAllTrains 34 = .ok (.iload_n 2, 1) := by decide +kernel
theorem dX6_ofAllTrains_35 : decode cX6_ofAllTrains 35 = .ok (.ireturn, 1) := by decide +kernel
theorem dX6_ofAllBlocks_0 : decode cX6_ofAllBlocks 0 = .ok (.iconst 0, 1) := by decide +kernel
theorem dX6_ofAllBlocks_1 : decode cX6_ofAllBlocks 1 = .ok (.istore_n 2, 1) := by decide +kernel
theorem dX6_ofAllBlocks_2 : decode cX6_ofAllBlocks 2 = .ok (.iconst 0, 1) := by decide +kernel
theorem dX6_ofAllBlocks_3 : decode cX6_ofAllBlocks 3 = .ok (.istore_n 3, 1) := by decide +kernel
theorem dX6_ofAllBlocks_4 : decode cX6_ofAllBlocks 4 = .ok (.iload_n 3, 1) := by decide +kernel
theorem dX6_ofAllBlocks_5 : decode cX6_ofAllBlocks 5 = .ok (.aload_n 0, 1) := by decide +kernel
theorem dX6_ofAllBlocks_6 : decode cX6_ofAllBlocks 6 = .ok (.getfield 13, 3) := by decide +kernel
theorem dX6_ofAllBlocks_9 : decode cX6_ofAllBlocks 9 = .ok (.iconst 1, 1) := by decide +kernel
theorem dX6_ofAllBlocks_10 : decode cX6_ofAllBlocks 10 = .ok (.iaload, 1) := by decide +kernel
theorem dX6_ofAllBlocks_11 : decode cX6_ofAllBlocks 11 = .ok (.if_icmp .ge 23, 3) := by decide +kernel
theorem dX6_ofAllBlocks_14 : decode cX6_ofAllBlocks 14 = .ok (.iload_n 2, 1) := by decide +kernel
theorem dX6_ofAllBlocks_15 : decode cX6_ofAllBlocks 15 = .ok (.aload_n 0, 1) := by decide +kernel
theorem dX6_ofAllBlocks_16 : decode cX6_ofAllBlocks 16 = .ok (.getfield 13, 3) := by decide +kernel
theorem dX6_ofAllBlocks_19 : decode cX6_ofAllBlocks 19 = .ok (.iload_n 3, 1) := by decide +kernel
theorem dX6_ofAllBlocks_20 : decode cX6_ofAllBlocks 20 = .ok (.invokestatic 44, 3) := by decide +kernel
theorem dX6_ofAllBlocks_23 : decode cX6_ofAllBlocks 23 = .ok (.iload_n 1, 1) := by decide +kernel
theorem dX6_ofAllBlocks_24 : decode cX6_ofAllBlocks 24 = .ok (.iadd, 1) := by decide +kernel
theorem dX6_ofAllBlocks_25 : decode cX6_ofAllBlocks 25 = .ok (.iaload, 1) := by decide +kernel
theorem dX6_ofAllBlocks_26 : decode cX6_ofAllBlocks 26 = .ok (.iadd, 1) := by decide +kernel
theorem dX6_ofAllBlocks_27 : decode cX6_ofAllBlocks 27 = .ok (.istore_n 2, 1) := by decide +kernel
theorem dX6_ofAllBlocks_28 : decode cX6_ofAllBlocks 28 = .ok (.iinc 3 1, 3) := by decide +kernel
theorem dX6_ofAllBlocks_31 : decode cX6_ofAllBlocks 31 = .ok (.goto (-27), 3) := by decide +kernel
theorem dX6_ofAllBlocks_34 : decode cX6_ofAllBlocks 34 = .ok (.iload_n 2, 1) := by decide +kernel
theorem dX6_ofAllBlocks_35 : decode cX6_ofAllBlocks 35 = .ok (.ireturn, 1) := by decide +kernel
theorem dX6_totalWagons_0 : decode cX6_totalWagons 0 = .ok (.aload_n 0, 1) := by decide +kernel
theorem dX6_totalWagons_1 : decode cX6_totalWagons 1 = .ok (.aload_n 0, 1) := by decide +kernel
theorem dX6_totalWagons_2 : decode cX6_totalWagons 2 = .ok (.iconst 0, 1) := by decide +kernel
theorem dX6_totalWagons_3 : decode cX6_totalWagons 3 = .ok (.invokevirtual 224, 3) := by decide +kernel
theorem dX6_totalWagons_6 : decode cX6_totalWagons 6 = .ok (.invokevirtual 189, 3) := by decide +kernel
theorem dX6_totalWagons_9 : decode cX6_totalWagons 9 = .ok (.ireturn, 1) := by decide +kernel
theorem dX6_lostWagons_0 : decode cX6_lostWagons 0 = .ok (.aload_n 0, 1) := by decide +kernel
theorem dX6_lostWagons_1 : decode cX6_lostWagons 1 = .ok (.aload_n 0, 1) := by decide +kernel
theorem dX6_lostWagons_2 : decode cX6_lostWagons 2 = .ok (.iconst 5, 1) := by decide +kernel
theorem dX6_lostWagons_3 : decode cX6_lostWagons 3 = .ok (.invokevirtual 227, 3) := by decide +kernel
theorem dX6_lostWagons_6 : decode cX6_lostWagons 6 = .ok (.invokevirtual 189, 3) := by decide +kernel
theorem dX6_lostWagons_9 : decode cX6_lostWagons 9 = .ok (.ireturn, 1) := by decide +kernel
theorem dX6_removedWagons_0 : decode cX6_removedWagons 0 = .ok (.aload_n 0, 1) := by decide +kernel
theorem dX6_removedWagons_1 : decode cX6_removedWagons 1 = .ok (.aload_n 0, 1) := by decide +kernel
theorem dX6_removedWagons_2 : decode cX6_removedWagons 2 = .ok (.getfield 13, 3) := by decide +kernel
theorem dX6_removedWagons_5 : decode cX6_removedWagons 5 = .ok (.iconst 3, 1) := by decide +kernel
theorem dX6_removedWagons_6 : decode cX6_removedWagons 6 = .ok (.iaload, 1) := by decide +kernel
theorem dX6_removedWagons_7 : decode cX6_removedWagons 7 = .ok (.invokevirtual 189, 3) := by decide +kernel
theorem dX6_removedWagons_10 : decode cX6_removedWagons 10 = .ok (.ireturn, 1) := by decide +kernel
theorem dX6_sharedBlocks_0 : decode cX6_sharedBlocks 0 = .ok (.iconst 0, 1) := by decide +kernel
theorem dX6_sharedBlocks_1 : decode cX6_sharedBlocks 1 = .ok (.istore_n 1, 1) := by decide +kernel
theorem dX6_sharedBlocks_2 : decode cX6_sharedBlocks 2 = .ok (.iconst 0, 1) := by decide +kernel
theorem dX6_sharedBlocks_3 : decode cX6_sharedBlocks 3 = .ok (.istore_n 2, 1) := by decide +kernel
theorem dX6_sharedBlocks_4 : decode cX6_sharedBlocks 4 = .ok (.iload_n 2, 1) := by decide +kernel
theorem dX6_sharedBlocks_5 : decode cX6_sharedBlocks 5 = .ok (.aload_n 0, 1) := by decide +kernel
theorem dX6_sharedBlocks_6 : decode cX6_sharedBlocks 6 = .ok (.getfield 13, 3) := by decide +kernel
theorem dX6_sharedBlocks_9 : decode cX6_sharedBlocks 9 = .ok (.iconst 2, 1) := by decide +kernel
theorem dX6_sharedBlocks_10 : decode cX6_sharedBlocks 10 = .ok (.iaload, 1) := by decide +kernel
theorem dX6_sharedBlocks_11 : decode cX6_sharedBlocks 11 = .ok (.if_icmp .ge 50, 3) := by decide +kernel
theorem dX6_sharedBlocks_14 : decode cX6_sharedBlocks 14 = .ok (.iconst 0, 1) := by decide +kernel
theorem dX6_sharedBlocks_15 : decode cX6_sharedBlocks 15 = .ok (.istore_n 3, 1) := by decide +kernel
theorem dX6_sharedBlocks_16 : decode cX6_sharedBlocks 16 = .ok (.iload_n 3, 1) := by decide +kernel
theorem dX6_sharedBlocks_17 : decode cX6_sharedBlocks 17 = .ok (.iload_n 2, 1) := by decide +kernel
theorem dX6_sharedBlocks_18 : decode cX6_sharedBlocks 18 = .ok (.if_icmp .ge 37, 3) := by decide +kernel
theorem dX6_sharedBlocks_21 : decode cX6_sharedBlocks 21 = .ok (.aload_n 0, 1) := by decide +kernel
theorem dX6_sharedBlocks_22 : decode cX6_sharedBlocks 22 = .ok (.getfield 13, 3) := by decide +kernel
theorem dX6_sharedBlocks_25 : decode cX6_sharedBlocks 25 = .ok (.iload_n 2, 1) := by decide +kernel
theorem dX6_sharedBlocks_26 : decode cX6_sharedBlocks 26 = .ok (.invokestatic 58, 3) := by decide +kernel
theorem dX6_sharedBlocks_29 : decode cX6_sharedBlocks 29 = .ok (.iconst 2, 1) := by decide +kernel
theorem dX6_sharedBlocks_30 : decode cX6_sharedBlocks 30 = .ok (.iadd, 1) := by decide +kernel
theorem dX6_sharedBlocks_31 : decode cX6_sharedBlocks 31 = .ok (.iaload, 1) := by decide +kernel
theorem dX6_sharedBlocks_32 : decode cX6_sharedBlocks 32 = .ok (.aload_n 0, 1) := by decide +kernel
theorem dX6_sharedBlocks_33 : decode cX6_sharedBlocks 33 = .ok (.getfield 13, 3) := by decide +kernel
theorem dX6_sharedBlocks_36 : decode cX6_sharedBlocks 36 = .ok (.iload_n 3, 1) := by decide +kernel
theorem dX6_sharedBlocks_37 : decode cX6_sharedBlocks 37 = .ok (.invokestatic 58, 3) := by decide +kernel
theorem dX6_sharedBlocks_40 : decode cX6_sharedBlocks 40 = .ok (.iconst 2, 1) := by decide +kernel
theorem dX6_sharedBlocks_41 : decode cX6_sharedBlocks 41 = .ok (.iadd, 1) := by decide +kernel
theorem dX6_sharedBlocks_42 : decode cX6_sharedBlocks 42 = .ok (.iaload, 1) := by decide +kernel
theorem dX6_sharedBlocks_43 : decode cX6_sharedBlocks 43 = .ok (.if_icmp .ne 6, 3) := by decide +kernel
theorem dX6_sharedBlocks_46 : decode cX6_sharedBlocks 46 = .ok (.iinc 1 1, 3) := by decide +kernel
theorem dX6_sharedBlocks_49 : decode cX6_sharedBlocks 49 = .ok (.iinc 3 1, 3) := by decide +kernel
theorem dX6_sharedBlocks_52 : decode cX6_sharedBlocks 52 = .ok (.goto (-36), 3) := by decide +kernel
theorem dX6_sharedBlocks_55 : decode cX6_sharedBlocks 55 = .ok (.iinc 2 1, 3) := by decide +kernel
theorem dX6_sharedBlocks_58 : decode cX6_sharedBlocks 58 = .ok (.goto (-54), 3) := by decide +kernel
theorem dX6_sharedBlocks_61 : decode cX6_sharedBlocks 61 = .ok (.aload_n 0, 1) := by decide +kernel
theorem dX6_sharedBlocks_62 : decode cX6_sharedBlocks 62 = .ok (.iload_n 1, 1) := by decide +kernel
theorem dX6_sharedBlocks_63 : decode cX6_sharedBlocks 63 = .ok (.invokevirtual 189, 3) := by decide +kernel
theorem dX6_sharedBlocks_66 : decode cX6_sharedBlocks 66 = .ok (.ireturn, 1) := by decide +kernel
theorem dX6_wagonDifference_0 : decode cX6_wagonDifference 0 = .ok (.aload_n 0, 1) := by decide +kernel
theorem dX6_wagonDifference_1 : decode cX6_wagonDifference 1 = .ok (.aload_n 0, 1) := by decide +kernel
theorem dX6_wagonDifference_2 : decode cX6_wagonDifference 2 = .ok (.iconst 0, 1) := by decide +kernel
theorem dX6_wagonDifference_3 : decode cX6_wagonDifference 3 = .ok (.invokevirtual 224, 3) := by decide +kernel
theorem dX6_wagonDifference_6 : decode cX6_wagonDifference 6 = .ok (.aload_n 0, 1) := by decide +kernel
theorem dX6_wagonDifference_7 : decode cX6_wagonDifference 7 = .ok (.iconst 5, 1) := by decide +kernel
theorem dX6_wagonDifference_8 : decode cX6_wagonDifference 8 = .ok (.invokevirtual 227, 3) := by decide +kernel
theorem dX6_wagonDifference_11 : decode cX6_wagonDifference 11 = .ok (.iadd, 1) := by decide +kernel
theorem dX6_wagonDifference_12 : decode cX6_wagonDifference 12 = .ok (.aload_n 0, 1) := by decide +kernel
theorem dX6_wagonDifference_13 : decode cX6_wagonDifference 13 = .ok (.getfield 13, 3) := by decide +kernel
theorem dX6_wagonDifference_16 : decode cX6_wagonDifference 16 = .ok (.iconst 3, 1) := by decide +kernel
theorem dX6_wagonDifference_17 : decode cX6_wagonDifference 17 = .ok (.iaload, 1) := by decide +kernel
theorem dX6_wagonDifference_18 : decode cX6_wagonDifference 18 = .ok (.iadd, 1) := by decide +kernel
theorem dX6_wagonDifference_19 : decode cX6_wagonDifference 19 = .ok (.aload_n 0, 1) := by decide +kernel
theorem dX6_wagonDifference_20 : decode cX6_wagonDifference 20 = .ok (.getfield 13, 3) := by decide +kernel
theorem dX6_wagonDifference_23 : decode cX6_wagonDifference 23 = .ok (.iconst 4, 1) := by decide +kernel
theorem dX6_wagonDifference_24 : decode cX6_wagonDifference 24 = .ok (.iaload, 1) := by decide +kernel
theorem dX6_wagonDifference_25 : decode cX6_wagonDifference 25 = .ok (.isub, 1) := by decide +kernel
theorem dX6_wagonDifference_26 : decode cX6_wagonDifference 26 = .ok (.invokestatic 230, 3) := by decide +kernel
theorem dX6_wagonDifference_29 : decode cX6_wagonDifference 29 = .ok (.invokevirtual 189, 3) := by decide +kernel
theorem dX6_wagonDifference_32 : decode cX6_wagonDifference 32 = .ok (.ireturn, 1) := by decide +kernel
theorem dX6_meanDepth_0 : decode cX6_meanDepth 0 = .ok (.aload_n 0, 1) := by decide +kernel
theorem dX6_meanDepth_1 : decode cX6_meanDepth 1 = .ok (.iconst 0, 1) := by decide +kernel
theorem dX6_meanDepth_2 : decode cX6_meanDepth 2 = .ok (.putfield 51, 3) := by decide +kernel
theorem dX6_meanDepth_5 : decode cX6_meanDepth 5 = .ok (.aload_n 0, 1) := by decide +kernel
theorem dX6_meanDepth_6 : decode cX6_meanDepth 6 = .ok (.getfield 13, 3) := by decide +kernel
theorem dX6_meanDepth_9 : decode cX6_meanDepth 9 = .ok (.iconst 1, 1) := by decide +kernel
theorem dX6_meanDepth_10 : decode cX6_meanDepth 10 = .ok (.iaload, 1) := by decide +kernel
theorem dX6_meanDepth_11 : decode cX6_meanDepth 11 = .ok (.ifCond .ne 5, 3) := by decide +kernel
theorem dX6_meanDepth_14 : decode cX6_meanDepth 14 = .ok (.dconst 0, 1) := by decide +kernel
theorem dX6_meanDepth_15 : decode cX6_meanDepth 15 = .ok (.dreturn, 1) := by decide +kernel
theorem dX6_meanDepth_16 : decode cX6_meanDepth 16 = .ok (.aload_n 0, 1) := by decide +kernel
theorem dX6_meanDepth_17 : decode cX6_meanDepth 17 = .ok (.iconst 1, 1) := by decide +kernel
theorem dX6_meanDepth_18 : decode cX6_meanDepth 18 = .ok (.invokevirtual 227, 3) := by decide +kernel
theorem dX6_meanDepth_21 : decode cX6_meanDepth 21 = .ok (.i2d, 1) := by decide +kernel
theorem dX6_meanDepth_22 : decode cX6_meanDepth 22 = .ok (.aload_n 0, 1) := by decide +kernel
theorem dX6_meanDepth_23 : decode cX6_meanDepth 23 = .ok (.getfield 13, 3) := by decide +kernel
theorem dX6_meanDepth_26 : decode cX6_meanDepth 26 = .ok (.iconst 1, 1) := by decide +kernel
theorem dX6_meanDepth_27 : decode cX6_meanDepth 27 = .ok (.iaload, 1) := by decide +kernel
theorem dX6_meanDepth_28 : decode cX6_meanDepth 28 = .ok (.i2d, 1) := by decide +kernel
theorem dX6_meanDepth_29 : decode cX6_meanDepth 29 = .ok (.ddiv, 1) := by decide +kernel
theorem dX6_meanDepth_30 : decode cX6_meanDepth 30 = .ok (.dreturn, 1) := by decide +kernel
theorem dX6_waitShare_0 : decode cX6_waitShare 0 = .ok (.aload_n 0, 1) := by decide +kernel
theorem dX6_waitShare_1 : decode cX6_waitShare 1 = .ok (.iconst 0, 1) := by decide +kernel
theorem dX6_waitShare_2 : decode cX6_waitShare 2 = .ok (.putfield 51, 3) := by decide +kernel
theorem dX6_waitShare_5 : decode cX6_waitShare 5 = .ok (.aload_n 0, 1) := by decide +kernel
theorem dX6_waitShare_6 : decode cX6_waitShare 6 = .ok (.getfield 13, 3) := by decide +kernel
theorem dX6_waitShare_9 : decode cX6_waitShare 9 = .ok (.iconst 0, 1) := by decide +kernel
theorem dX6_waitShare_10 : decode cX6_waitShare 10 = .ok (.iaload, 1) := by decide +kernel
theorem dX6_waitShare_11 : decode cX6_waitShare 11 = .ok (.aload_n 0, 1) := by decide +kernel
theorem dX6_waitShare_12 : decode cX6_waitShare 12 = .ok (.getfield 13, 3) := by decide +kernel
theorem dX6_waitShare_15 : decode cX6_waitShare 15 = .ok (.iconst 2, 1) := by decide +kernel
theorem dX6_waitShare_16 : decode cX6_waitShare 16 = .ok (.iaload, 1) := by decide +kernel
theorem dX6_waitShare_17 : decode cX6_waitShare 17 = .ok (.imul, 1) := by decide +kernel
theorem dX6_waitShare_18 : decode cX6_waitShare 18 = .ok (.istore_n 1, 1) := by decide +kernel
theorem dX6_waitShare_19 : decode cX6_waitShare 19 = .ok (.iload_n 1, 1) := by decide +kernel
theorem dX6_waitShare_20 : decode cX6_waitShare 20 = .ok (.ifCond .ne 5, 3) := by decide +kernel
theorem dX6_waitShare_23 : decode cX6_waitShare 23 = .ok (.fconst 0, 1) := by decide +kernel
theorem dX6_waitShare_24 : decode cX6_waitShare 24 = .ok (.freturn, 1) := by decide +kernel
theorem dX6_waitShare_25 : decode cX6_waitShare 25 = .ok (.aload_n 0, 1) := by decide +kernel
theorem dX6_waitShare_26 : decode cX6_waitShare 26 = .ok (.iconst 4, 1) := by decide +kernel
theorem dX6_waitShare_27 : decode cX6_waitShare 27 = .ok (.invokevirtual 224, 3) := by decide +kernel
theorem dX6_waitShare_30 : decode cX6_waitShare 30 = .ok (.i2f, 1) := by decide +kernel
theorem dX6_waitShare_31 : decode cX6_waitShare 31 = .ok (.iload_n 1, 1) := by decide +kernel
theorem dX6_waitShare_32 : decode cX6_waitShare 32 = .ok (.i2f, 1) := by decide +kernel
theorem dX6_waitShare_33 : decode cX6_waitShare 33 = .ok (.fdiv, 1) := by decide +kernel
theorem dX6_waitShare_34 : decode cX6_waitShare 34 = .ok (.freturn, 1) := by decide +kernel
theorem dX6_advance_0 : decode cX6_advance 0 = .ok (.iload_n 1, 1) := by decide +kernel
theorem dX6_advance_1 : decode cX6_advance 1 = .ok (.iconst 1, 1) := by decide +kernel
theorem dX6_advance_2 : decode cX6_advance 2 = .ok (.bipush 99, 2) := by decide +kernel
theorem dX6_advance_4 : decode cX6_advance 4 = .ok (.invokestatic 54, 3) := by decide +kernel
theorem dX6_advance_7 : decode cX6_advance 7 = .ok (.ifCond .ne 9, 3) := by decide +kernel
theorem dX6_advance_10 : decode cX6_advance 10 = .ok (.aload_n 0, 1) := by decide +kernel
theorem dX6_advance_11 : decode cX6_advance 11 = .ok (.iconst 1, 1) := by decide +kernel
theorem dX6_advance_12 : decode cX6_advance 12 = .ok (.invokevirtual 183, 3) := by decide +kernel
theorem dX6_advance_15 : decode cX6_advance 15 = .ok (.ireturn, 1) := by decide +kernel
theorem dX6_advance_16 : decode cX6_advance 16 = .ok (.aload_n 0, 1) := by decide +kernel
theorem dX6_advance_17 : decode cX6_advance 17 = .ok (.getfield 13, 3) := by decide +kernel
theorem dX6_advance_20 : decode cX6_advance 20 = .ok (.iconst 0, 1) := by decide +kernel
theorem dX6_advance_21 : decode cX6_advance 21 = .ok (.iaload, 1) := by decide +kernel
theorem dX6_advance_22 : decode cX6_advance 22 = .ok (.iload_n 1, 1) := by decide +kernel
theorem dX6_advance_23 : decode cX6_advance 23 = .ok (.iadd, 1) := by decide +kernel
theorem dX6_advance_24 : decode cX6_advance 24 = .ok (.sipush 9999, 3) := by decide +kernel
theorem dX6_advance_27 : decode cX6_advance 27 = .ok (.if_icmp .le 9, 3) := by decide +kernel
theorem dX6_advance_30 : decode cX6_advance 30 = .ok (.aload_n 0, 1) := by decide +kernel
theorem dX6_advance_31 : decode cX6_advance 31 = .ok (.iconst 2, 1) := by decide +kernel
theorem dX6_advance_32 : decode cX6_advance 32 = .ok (.invokevirtual 183, 3) := by decide +kernel
theorem dX6_advance_35 : decode cX6_advance 35 = .ok (.ireturn, 1) := by decide +kernel
theorem dX6_advance_36 : decode cX6_advance 36 = .ok (.aload_n 0, 1) := by decide +kernel
theorem dX6_advance_37 : decode cX6_advance 37 = .ok (.invokevirtual 233, 3) := by decide +kernel
theorem dX6_advance_40 : decode cX6_advance 40 = .ok (.aload_n 0, 1) := by decide +kernel
theorem dX6_advance_41 : decode cX6_advance 41 = .ok (.aload_n 0, 1) := by decide +kernel
theorem dX6_advance_42 : decode cX6_advance 42 = .ok (.iload_n 1, 1) := by decide +kernel
theorem dX6_advance_43 : decode cX6_advance 43 = .ok (.invokevirtual 48, 3) := by decide +kernel
theorem dX6_advance_46 : decode cX6_advance 46 = .ok (.invokevirtual 189, 3) := by decide +kernel
theorem dX6_advance_49 : decode cX6_advance 49 = .ok (.ireturn, 1) := by decide +kernel
theorem dX6_pull_0 : decode cX6_pull 0 = .ok (.aload_n 0, 1) := by decide +kernel
theorem dX6_pull_1 : decode cX6_pull 1 = .ok (.iload_n 1, 1) := by decide +kernel
theorem dX6_pull_2 : decode cX6_pull 2 = .ok (.invokevirtual 207, 3) := by decide +kernel
theorem dX6_pull_5 : decode cX6_pull 5 = .ok (.ifCond .ne 9, 3) := by decide +kernel
theorem dX6_pull_8 : decode cX6_pull 8 = .ok (.aload_n 0, 1) := by decide +kernel
theorem dX6_pull_9 : decode cX6_pull 9 = .ok (.iconst 1, 1) := by decide +kernel
theorem dX6_pull_10 : decode cX6_pull 10 = .ok (.invokevirtual 183, 3) := by decide +kernel
theorem dX6_pull_13 : decode cX6_pull 13 = .ok (.ireturn, 1) := by decide +kernel
theorem dX6_pull_14 : decode cX6_pull 14 = .ok (.aload_n 0, 1) := by decide +kernel
theorem dX6_pull_15 : decode cX6_pull 15 = .ok (.iload_n 1, 1) := by decide +kernel
theorem dX6_pull_16 : decode cX6_pull 16 = .ok (.invokevirtual 156, 3) := by decide +kernel
theorem dX6_pull_19 : decode cX6_pull 19 = .ok (.ifCond .eq 9, 3) := by decide +kernel
theorem dX6_pull_22 : decode cX6_pull 22 = .ok (.aload_n 0, 1) := by decide +kernel
theorem dX6_pull_23 : decode cX6_pull 23 = .ok (.iconst 2, 1) := by decide +kernel
theorem dX6_pull_24 : decode cX6_pull 24 = .ok (.invokevirtual 183, 3) := by decide +kernel
theorem dX6_pull_27 : decode cX6_pull 27 = .ok (.ireturn, 1) := by decide +kernel
theorem dX6_pull_28 : decode cX6_pull 28 = .ok (.aload_n 0, 1) := by decide +kernel
theorem dX6_pull_29 : decode cX6_pull 29 = .ok (.invokevirtual 233, 3) := by decide +kernel
theorem dX6_pull_32 : decode cX6_pull 32 = .ok (.aload_n 0, 1) := by decide +kernel
theorem dX6_pull_33 : decode cX6_pull 33 = .ok (.getfield 13, 3) := by decide +kernel
theorem dX6_pull_36 : decode cX6_pull 36 = .ok (.iload_n 1, 1) := by decide +kernel
theorem dX6_pull_37 : decode cX6_pull 37 = .ok (.invokestatic 44, 3) := by decide +kernel
theorem dX6_pull_40 : decode cX6_pull 40 = .ok (.iconst 4, 1) := by decide +kernel
theorem dX6_pull_41 : decode cX6_pull 41 = .ok (.iadd, 1) := by decide +kernel
theorem dX6_pull_42 : decode cX6_pull 42 = .ok (.iconst 1, 1) := by decide +kernel
theorem dX6_pull_43 : decode cX6_pull 43 = .ok (.iastore, 1) := by decide +kernel
theorem dX6_pull_44 : decode cX6_pull 44 = .ok (.aload_n 0, 1) := by decide +kernel
theorem dX6_pull_45 : decode cX6_pull 45 = .ok (.aload_n 0, 1) := by decide +kernel
theorem dX6_pull_46 : decode cX6_pull 46 = .ok (.invokevirtual 236, 3) := by decide +kernel
theorem dX6_pull_49 : decode cX6_pull 49 = .ok (.invokevirtual 189, 3) := by decide +kernel
theorem dX6_pull_52 : decode cX6_pull 52 = .ok (.ireturn, 1) := by decide +kernel
theorem dX6_setDanger_0 : decode cX6_setDanger 0 = .ok (.aload_n 0, 1) := by decide +kernel
theorem dX6_setDanger_1 : decode cX6_setDanger 1 = .ok (.iload_n 1, 1) := by decide +kernel
theorem dX6_setDanger_2 : decode cX6_setDanger 2 = .ok (.invokevirtual 207, 3) := by decide +kernel
theorem dX6_setDanger_5 : decode cX6_setDanger 5 = .ok (.ifCond .ne 9, 3) := by decide +kernel
theorem dX6_setDanger_8 : decode cX6_setDanger 8 = .ok (.aload_n 0, 1) := by decide +kernel
theorem dX6_setDanger_9 : decode cX6_setDanger 9 = .ok (.iconst 1, 1) := by decide +kernel
theorem dX6_setDanger_10 : decode cX6_setDanger 10 = .ok (.invokevirtual 183, 3) := by decide +kernel
theorem dX6_setDanger_13 : decode cX6_setDanger 13 = .ok (.ireturn, 1) := by decide +kernel
theorem dX6_setDanger_14 : decode cX6_setDanger 14 = .ok (.aload_n 0, 1) := by decide +kernel
theorem dX6_setDanger_15 : decode cX6_setDanger 15 = .ok (.getfield 13, 3) := by decide +kernel
theorem dX6_setDanger_18 : decode cX6_setDanger 18 = .ok (.iload_n 1, 1) := by decide +kernel
theorem dX6_setDanger_19 : decode cX6_setDanger 19 = .ok (.invokestatic 44, 3) := by decide +kernel
theorem dX6_setDanger_22 : decode cX6_setDanger 22 = .ok (.iconst 4, 1) := by decide +kernel
theorem dX6_setDanger_23 : decode cX6_setDanger 23 = .ok (.iadd, 1) := by decide +kernel
theorem dX6_setDanger_24 : decode cX6_setDanger 24 = .ok (.iaload, 1) := by decide +kernel
theorem dX6_setDanger_25 : decode cX6_setDanger 25 = .ok (.ifCond .ne 9, 3) := by decide +kernel
theorem dX6_setDanger_28 : decode cX6_setDanger 28 = .ok (.aload_n 0, 1) := by decide +kernel
theorem dX6_setDanger_29 : decode cX6_setDanger 29 = .ok (.iconst 2, 1) := by decide +kernel
theorem dX6_setDanger_30 : decode cX6_setDanger 30 = .ok (.invokevirtual 183, 3) := by decide +kernel
theorem dX6_setDanger_33 : decode cX6_setDanger 33 = .ok (.ireturn, 1) := by decide +kernel
theorem dX6_setDanger_34 : decode cX6_setDanger 34 = .ok (.aload_n 0, 1) := by decide +kernel
theorem dX6_setDanger_35 : decode cX6_setDanger 35 = .ok (.invokevirtual 233, 3) := by decide +kernel
theorem dX6_setDanger_38 : decode cX6_setDanger 38 = .ok (.aload_n 0, 1) := by decide +kernel
theorem dX6_setDanger_39 : decode cX6_setDanger 39 = .ok (.getfield 13, 3) := by decide +kernel
theorem dX6_setDanger_42 : decode cX6_setDanger 42 = .ok (.iload_n 1, 1) := by decide +kernel
theorem dX6_setDanger_43 : decode cX6_setDanger 43 = .ok (.invokestatic 44, 3) := by decide +kernel
theorem dX6_setDanger_46 : decode cX6_setDanger 46 = .ok (.iconst 4, 1) := by decide +kernel
theorem dX6_setDanger_47 : decode cX6_setDanger 47 = .ok (.iadd, 1) := by decide +kernel
theorem dX6_setDanger_48 : decode cX6_setDanger 48 = .ok (.iconst 0, 1) := by decide +kernel
theorem dX6_setDanger_49 : decode cX6_setDanger 49 = .ok (.iastore, 1) := by decide +kernel
theorem dX6_setDanger_50 : decode cX6_setDanger 50 = .ok (.aload_n 0, 1) := by decide +kernel
theorem dX6_setDanger_51 : decode cX6_setDanger 51 = .ok (.aload_n 0, 1) := by decide +kernel
theorem dX6_setDanger_52 : decode cX6_setDanger 52 = .ok (.invokevirtual 236, 3) := by decide +kernel
theorem dX6_setDanger_55 : decode cX6_setDanger 55 = .ok (.invokevirtual 189, 3) := by decide +kernel
theorem dX6_setDanger_58 : decode cX6_setDanger 58 = .ok (.ireturn, 1) := by decide +kernel
theorem dX6_repair_0 : decode cX6_repair 0 = .ok (.aload_n 0, 1) := by decide +kernel
theorem dX6_repair_1 : decode cX6_repair 1 = .ok (.iload_n 1, 1) := by decide +kernel
theorem dX6_repair_2 : decode cX6_repair 2 = .ok (.invokevirtual 207, 3) := by decide +kernel
theorem dX6_repair_5 : decode cX6_repair 5 = .ok (.ifCond .ne 9, 3) := by decide +kernel
theorem dX6_repair_8 : decode cX6_repair 8 = .ok (.aload_n 0, 1) := by decide +kernel
theorem dX6_repair_9 : decode cX6_repair 9 = .ok (.iconst 1, 1) := by decide +kernel
theorem dX6_repair_10 : decode cX6_repair 10 = .ok (.invokevirtual 183, 3) := by decide +kernel
theorem dX6_repair_13 : decode cX6_repair 13 = .ok (.ireturn, 1) := by decide +kernel
theorem dX6_repair_14 : decode cX6_repair 14 = .ok (.aload_n 0, 1) := by decide +kernel
theorem dX6_repair_15 : decode cX6_repair 15 = .ok (.iload_n 1, 1) := by decide +kernel
theorem dX6_repair_16 : decode cX6_repair 16 = .ok (.invokevirtual 61, 3) := by decide +kernel
theorem dX6_repair_19 : decode cX6_repair 19 = .ok (.iconst (-1), 1) := by decide +kernel
theorem dX6_repair_20 : decode cX6_repair 20 = .ok (.if_icmp .eq 9, 3) := by decide +kernel
theorem dX6_repair_23 : decode cX6_repair 23 = .ok (.aload_n 0, 1) := by decide +kernel
theorem dX6_repair_24 : decode cX6_repair 24 = .ok (.iconst 2, 1) := by decide +kernel
theorem dX6_repair_25 : decode cX6_repair 25 = .ok (.invokevirtual 183, 3) := by decide +kernel
theorem dX6_repair_28 : decode cX6_repair 28 = .ok (.ireturn, 1) := by decide +kernel
theorem dX6_repair_29 : decode cX6_repair 29 = .ok (.aload_n 0, 1) := by decide +kernel
theorem dX6_repair_30 : decode cX6_repair 30 = .ok (.invokevirtual 233, 3) := by decide +kernel
theorem dX6_repair_33 : decode cX6_repair 33 = .ok (.aload_n 0, 1) := by decide +kernel
theorem dX6_repair_34 : decode cX6_repair 34 = .ok (.getfield 13, 3) := by decide +kernel
theorem dX6_repair_37 : decode cX6_repair 37 = .ok (.iload_n 1, 1) := by decide +kernel
theorem dX6_repair_38 : decode cX6_repair 38 = .ok (.invokestatic 44, 3) := by decide +kernel
theorem dX6_repair_41 : decode cX6_repair 41 = .ok (.iconst 1, 1) := by decide +kernel
theorem dX6_repair_42 : decode cX6_repair 42 = .ok (.iadd, 1) := by decide +kernel
theorem dX6_repair_43 : decode cX6_repair 43 = .ok (.iaload, 1) := by decide +kernel
theorem dX6_repair_44 : decode cX6_repair 44 = .ok (.istore_n 2, 1) := by decide +kernel
theorem dX6_repair_45 : decode cX6_repair 45 = .ok (.aload_n 0, 1) := by decide +kernel
theorem dX6_repair_46 : decode cX6_repair 46 = .ok (.getfield 13, 3) := by decide +kernel
theorem dX6_repair_49 : decode cX6_repair 49 = .ok (.iload_n 1, 1) := by decide +kernel
theorem dX6_repair_50 : decode cX6_repair 50 = .ok (.invokestatic 44, 3) := by decide +kernel
theorem dX6_repair_53 : decode cX6_repair 53 = .ok (.iconst 1, 1) := by decide +kernel
theorem dX6_repair_54 : decode cX6_repair 54 = .ok (.iadd, 1) := by decide +kernel
theorem dX6_repair_55 : decode cX6_repair 55 = .ok (.iconst 0, 1) := by decide +kernel
theorem dX6_repair_56 : decode cX6_repair 56 = .ok (.iastore, 1) := by decide +kernel
theorem dX6_repair_57 : decode cX6_repair 57 = .ok (.aload_n 0, 1) := by decide +kernel
theorem dX6_repair_58 : decode cX6_repair 58 = .ok (.iload_n 2, 1) := by decide +kernel
theorem dX6_repair_59 : decode cX6_repair 59 = .ok (.invokevirtual 189, 3) := by decide +kernel
theorem dX6_repair_62 : decode cX6_repair 62 = .ok (.ireturn, 1) := by decide +kernel
theorem dX6_removeWagons_0 : decode cX6_removeWagons 0 = .ok (.aload_n 0, 1) := by decide +kernel
theorem dX6_removeWagons_1 : decode cX6_removeWagons 1 = .ok (.iload_n 1, 1) := by decide +kernel
theorem dX6_removeWagons_2 : decode cX6_removeWagons 2 = .ok (.invokevirtual 207, 3) := by decide +kernel
theorem dX6_removeWagons_5 : decode cX6_removeWagons 5 = .ok (.ifCond .ne 9, 3) := by decide +kernel
theorem dX6_removeWagons_8 : decode cX6_removeWagons 8 = .ok (.aload_n 0, 1) := by decide +kernel
theorem dX6_removeWagons_9 : decode cX6_removeWagons 9 = .ok (.iconst 1, 1) := by decide +kernel
theorem dX6_removeWagons_10 : decode cX6_removeWagons 10 = .ok (.invokevirtual 183, 3) := by decide +kernel
theorem dX6_removeWagons_13 : decode cX6_removeWagons 13 = .ok (.ireturn, 1) := by decide +kernel
theorem dX6_removeWagons_14 : decode cX6_removeWagons 14 = .ok (.aload_n 0, 1) := by decide +kernel
theorem dX6_removeWagons_15 : decode cX6_removeWagons 15 = .ok (.invokevirtual 233, 3) := by decide +kernel
theorem dX6_removeWagons_18 : decode cX6_removeWagons 18 = .ok (.aload_n 0, 1) := by decide +kernel
theorem dX6_removeWagons_19 : decode cX6_removeWagons 19 = .ok (.getfield 13, 3) := by decide +kernel
theorem dX6_removeWagons_22 : decode cX6_removeWagons 22 = .ok (.iload_n 1, 1) := by decide +kernel
theorem dX6_removeWagons_23 : decode cX6_removeWagons 23 = .ok (.invokestatic 44, 3) := by decide +kernel
theorem dX6_removeWagons_26 : decode cX6_removeWagons 26 = .ok (.iconst 5, 1) := by decide +kernel
theorem dX6_removeWagons_27 : decode cX6_removeWagons 27 = .ok (.iadd, 1) := by decide +kernel
theorem dX6_removeWagons_28 : decode cX6_removeWagons 28 = .ok (.iaload, 1) := by decide +kernel
theorem dX6_removeWagons_29 : decode cX6_removeWagons 29 = .ok (.istore_n 2, 1) := by decide +kernel
theorem dX6_removeWagons_30 : decode cX6_removeWagons 30 = .ok (.aload_n 0, 1) := by decide +kernel
theorem dX6_removeWagons_31 : decode cX6_removeWagons 31 = .ok (.getfield 13, 3) := by decide +kernel
theorem dX6_removeWagons_34 : decode cX6_removeWagons 34 = .ok (.iload_n 1, 1) := by decide +kernel
theorem dX6_removeWagons_35 : decode cX6_removeWagons 35 = .ok (.invokestatic 44, 3) := by decide +kernel
theorem dX6_removeWagons_38 : decode cX6_removeWagons 38 = .ok (.iconst 5, 1) := by decide +kernel
theorem dX6_removeWagons_39 : decode cX6_removeWagons 39 = .ok (.iadd, 1) := by decide +kernel
theorem dX6_removeWagons_40 : decode cX6_removeWagons 40 = .ok (.iconst 0, 1) := by decide +kernel
theorem dX6_removeWagons_41 : decode cX6_removeWagons 41 = .ok (.iastore, 1) := by decide +kernel
theorem dX6_removeWagons_42 : decode cX6_removeWagons 42 = .ok (.aload_n 0, 1) := by decide +kernel
theorem dX6_removeWagons_43 : decode cX6_removeWagons 43 = .ok (.getfield 13, 3) := by decide +kernel
theorem dX6_removeWagons_46 : decode cX6_removeWagons 46 = .ok (.iconst 3, 1) := by decide +kernel
theorem dX6_removeWagons_47 : decode cX6_removeWagons 47 = .ok (.dup2, 1) := by decide +kernel
theorem dX6_removeWagons_48 : decode cX6_removeWagons 48 = .ok (.iaload, 1) := by decide +kernel
theorem dX6_removeWagons_49 : decode cX6_removeWagons 49 = .ok (.iload_n 2, 1) := by decide +kernel
theorem dX6_removeWagons_50 : decode cX6_removeWagons 50 = .ok (.iadd, 1) := by decide +kernel
theorem dX6_removeWagons_51 : decode cX6_removeWagons 51 = .ok (.iastore, 1) := by decide +kernel
theorem dX6_removeWagons_52 : decode cX6_removeWagons 52 = .ok (.aload_n 0, 1) := by decide +kernel
theorem dX6_removeWagons_53 : decode cX6_removeWagons 53 = .ok (.iload_n 2, 1) := by decide +kernel
theorem dX6_removeWagons_54 : decode cX6_removeWagons 54 = .ok (.invokevirtual 189, 3) := by decide +kernel
theorem dX6_removeWagons_57 : decode cX6_removeWagons 57 = .ok (.ireturn, 1) := by decide +kernel
theorem dX6_addWagons_0 : decode cX6_addWagons 0 = .ok (.aload_n 0, 1) := by decide +kernel
theorem dX6_addWagons_1 : decode cX6_addWagons 1 = .ok (.iload_n 1, 1) := by decide +kernel
theorem dX6_addWagons_2 : decode cX6_addWagons 2 = .ok (.invokevirtual 221, 3) := by decide +kernel
theorem dX6_addWagons_5 : decode cX6_addWagons 5 = .ok (.ifCond .ne 9, 3) := by decide +kernel
theorem dX6_addWagons_8 : decode cX6_addWagons 8 = .ok (.aload_n 0, 1) := by decide +kernel
theorem dX6_addWagons_9 : decode cX6_addWagons 9 = .ok (.iconst 1, 1) := by decide +kernel
theorem dX6_addWagons_10 : decode cX6_addWagons 10 = .ok (.invokevirtual 183, 3) := by decide +kernel
theorem dX6_addWagons_13 : decode cX6_addWagons 13 = .ok (.ireturn, 1) := by decide +kernel
theorem dX6_addWagons_14 : decode cX6_addWagons 14 = .ok (.iload_n 2, 1) := by decide +kernel
theorem dX6_addWagons_15 : decode cX6_addWagons 15 = .ok (.iconst 1, 1) := by decide +kernel
theorem dX6_addWagons_16 : decode cX6_addWagons 16 = .ok (.bipush 11, 2) := by decide +kernel
theorem dX6_addWagons_18 : decode cX6_addWagons 18 = .ok (.invokestatic 54, 3) := by decide +kernel
theorem dX6_addWagons_21 : decode cX6_addWagons 21 = .ok (.ifCond .ne 9, 3) := by decide +kernel
theorem dX6_addWagons_24 : decode cX6_addWagons 24 = .ok (.aload_n 0, 1) := by decide +kernel
theorem dX6_addWagons_25 : decode cX6_addWagons 25 = .ok (.iconst 2, 1) := by decide +kernel
theorem dX6_addWagons_26 : decode cX6_addWagons 26 = .ok (.invokevirtual 183, 3) := by decide +kernel
theorem dX6_addWagons_29 : decode cX6_addWagons 29 = .ok (.ireturn, 1) := by decide +kernel
theorem dX6_addWagons_30 : decode cX6_addWagons 30 = .ok (.aload_n 0, 1) := by decide +kernel
theorem dX6_addWagons_31 : decode cX6_addWagons 31 = .ok (.getfield 13, 3) := by decide +kernel
theorem dX6_addWagons_34 : decode cX6_addWagons 34 = .ok (.iload_n 1, 1) := by decide +kernel
theorem dX6_addWagons_35 : decode cX6_addWagons 35 = .ok (.invokestatic 58, 3) := by decide +kernel
theorem dX6_addWagons_38 : decode cX6_addWagons 38 = .ok (.iconst 0, 1) := by decide +kernel
theorem dX6_addWagons_39 : decode cX6_addWagons 39 = .ok (.iadd, 1) := by decide +kernel
theorem dX6_addWagons_40 : decode cX6_addWagons 40 = .ok (.iaload, 1) := by decide +kernel
theorem dX6_addWagons_41 : decode cX6_addWagons 41 = .ok (.iload_n 2, 1) := by decide +kernel
theorem dX6_addWagons_42 : decode cX6_addWagons 42 = .ok (.iadd, 1) := by decide +kernel
theorem dX6_addWagons_43 : decode cX6_addWagons 43 = .ok (.bipush 12, 2) := by decide +kernel
theorem dX6_addWagons_45 : decode cX6_addWagons 45 = .ok (.if_icmp .le 9, 3) := by decide +kernel
theorem dX6_addWagons_48 : decode cX6_addWagons 48 = .ok (.aload_n 0, 1) := by decide +kernel
theorem dX6_addWagons_49 : decode cX6_addWagons 49 = .ok (.iconst 3, 1) := by decide +kernel
theorem dX6_addWagons_50 : decode cX6_addWagons 50 = .ok (.invokevirtual 183, 3) := by decide +kernel
theorem dX6_addWagons_53 : decode cX6_addWagons 53 = .ok (.ireturn, 1) := by decide +kernel
theorem dX6_addWagons_54 : decode cX6_addWagons 54 = .ok (.aload_n 0, 1) := by decide +kernel
theorem dX6_addWagons_55 : decode cX6_addWagons 55 = .ok (.invokevirtual 233, 3) := by decide +kernel
theorem dX6_addWagons_58 : decode cX6_addWagons 58 = .ok (.aload_n 0, 1) := by decide +kernel
theorem dX6_addWagons_59 : decode cX6_addWagons 59 = .ok (.getfield 13, 3) := by decide +kernel
theorem dX6_addWagons_62 : decode cX6_addWagons 62 = .ok (.iload_n 1, 1) := by decide +kernel
theorem dX6_addWagons_63 : decode cX6_addWagons 63 = .ok (.invokestatic 58, 3) := by decide +kernel
theorem dX6_addWagons_66 : decode cX6_addWagons 66 = .ok (.iconst 0, 1) := by decide +kernel
theorem dX6_addWagons_67 : decode cX6_addWagons 67 = .ok (.iadd, 1) := by decide +kernel
theorem dX6_addWagons_68 : decode cX6_addWagons 68 = .ok (.dup2, 1) := by decide +kernel
theorem dX6_addWagons_69 : decode cX6_addWagons 69 = .ok (.iaload, 1) := by decide +kernel
theorem dX6_addWagons_70 : decode cX6_addWagons 70 = .ok (.iload_n 2, 1) := by decide +kernel
theorem dX6_addWagons_71 : decode cX6_addWagons 71 = .ok (.iadd, 1) := by decide +kernel
theorem dX6_addWagons_72 : decode cX6_addWagons 72 = .ok (.iastore, 1) := by decide +kernel
theorem dX6_addWagons_73 : decode cX6_addWagons 73 = .ok (.aload_n 0, 1) := by decide +kernel
theorem dX6_addWagons_74 : decode cX6_addWagons 74 = .ok (.getfield 13, 3) := by decide +kernel
theorem dX6_addWagons_77 : decode cX6_addWagons 77 = .ok (.iconst 4, 1) := by decide +kernel
theorem dX6_addWagons_78 : decode cX6_addWagons 78 = .ok (.dup2, 1) := by decide +kernel
theorem dX6_addWagons_79 : decode cX6_addWagons 79 = .ok (.iaload, 1) := by decide +kernel
theorem dX6_addWagons_80 : decode cX6_addWagons 80 = .ok (.iload_n 2, 1) := by decide +kernel
theorem dX6_addWagons_81 : decode cX6_addWagons 81 = .ok (.iadd, 1) := by decide +kernel
theorem dX6_addWagons_82 : decode cX6_addWagons 82 = .ok (.iastore, 1) := by decide +kernel
theorem dX6_addWagons_83 : decode cX6_addWagons 83 = .ok (.aload_n 0, 1) := by decide +kernel
theorem dX6_addWagons_84 : decode cX6_addWagons 84 = .ok (.aload_n 0, 1) := by decide +kernel
theorem dX6_addWagons_85 : decode cX6_addWagons 85 = .ok (.getfield 13, 3) := by decide +kernel
theorem dX6_addWagons_88 : decode cX6_addWagons 88 = .ok (.iload_n 1, 1) := by decide +kernel
theorem dX6_addWagons_89 : decode cX6_addWagons 89 = .ok (.invokestatic 58, 3) := by decide +kernel
theorem dX6_addWagons_92 : decode cX6_addWagons 92 = .ok (.iconst 0, 1) := by decide +kernel
theorem dX6_addWagons_93 : decode cX6_addWagons 93 = .ok (.iadd, 1) := by decide +kernel
theorem dX6_addWagons_94 : decode cX6_addWagons 94 = .ok (.iaload, 1) := by decide +kernel
theorem dX6_addWagons_95 : decode cX6_addWagons 95 = .ok (.invokevirtual 189, 3) := by decide +kernel
theorem dX6_addWagons_98 : decode cX6_addWagons 98 = .ok (.ireturn, 1) := by decide +kernel
theorem dX6_setTopSpeed_0 : decode cX6_setTopSpeed 0 = .ok (.aload_n 0, 1) := by decide +kernel
theorem dX6_setTopSpeed_1 : decode cX6_setTopSpeed 1 = .ok (.iload_n 1, 1) := by decide +kernel
theorem dX6_setTopSpeed_2 : decode cX6_setTopSpeed 2 = .ok (.invokevirtual 221, 3) := by decide +kernel
theorem dX6_setTopSpeed_5 : decode cX6_setTopSpeed 5 = .ok (.ifCond .ne 9, 3) := by decide +kernel
theorem dX6_setTopSpeed_8 : decode cX6_setTopSpeed 8 = .ok (.aload_n 0, 1) := by decide +kernel
theorem dX6_setTopSpeed_9 : decode cX6_setTopSpeed 9 = .ok (.iconst 1, 1) := by decide +kernel
theorem dX6_setTopSpeed_10 : decode cX6_setTopSpeed 10 = .ok (.invokevirtual 183, 3) := by decide +kernel
theorem dX6_setTopSpeed_13 : decode cX6_setTopSpeed 13 = .ok (.ireturn, 1) := by decide +kernel
theorem dX6_setTopSpeed_14 : decode cX6_setTopSpeed 14 = .ok (.iload_n 2, 1) := by decide +kernel
theorem dX6_setTopSpeed_15 : decode cX6_setTopSpeed 15 = .ok (.iconst 1, 1) := by decide +kernel
theorem dX6_setTopSpeed_16 : decode cX6_setTopSpeed 16 = .ok (.iconst 5, 1) := by decide +kernel
theorem dX6_setTopSpeed_17 : decode cX6_setTopSpeed 17 = .ok (.invokestatic 54, 3) := by decide +kernel
theorem dX6_setTopSpeed_20 : decode cX6_setTopSpeed 20 = .ok (.ifCond .ne 9, 3) := by decide +kernel
theorem dX6_setTopSpeed_23 : decode cX6_setTopSpeed 23 = .ok (.aload_n 0, 1) := by decide +kernel
theorem dX6_setTopSpeed_24 : decode cX6_setTopSpeed 24 = .ok (.iconst 2, 1) := by decide +kernel
theorem dX6_setTopSpeed_25 : decode cX6_setTopSpeed 25 = .ok (.invokevirtual 183, 3) := by decide +kernel
theorem dX6_setTopSpeed_28 : decode cX6_setTopSpeed 28 = .ok (.ireturn, 1) := by decide +kernel
theorem dX6_setTopSpeed_29 : decode cX6_setTopSpeed 29 = .ok (.aload_n 0, 1) := by decide +kernel
theorem dX6_setTopSpeed_30 : decode cX6_setTopSpeed 30 = .ok (.invokevirtual 233, 3) := by decide +kernel
theorem dX6_setTopSpeed_33 : decode cX6_setTopSpeed 33 = .ok (.aload_n 0, 1) := by decide +kernel
theorem dX6_setTopSpeed_34 : decode cX6_setTopSpeed 34 = .ok (.getfield 13, 3) := by decide +kernel
theorem dX6_setTopSpeed_37 : decode cX6_setTopSpeed 37 = .ok (.iload_n 1, 1) := by decide +kernel
theorem dX6_setTopSpeed_38 : decode cX6_setTopSpeed 38 = .ok (.invokestatic 58, 3) := by decide +kernel
theorem dX6_setTopSpeed_41 : decode cX6_setTopSpeed 41 = .ok (.iconst 1, 1) := by decide +kernel
theorem dX6_setTopSpeed_42 : decode cX6_setTopSpeed 42 = .ok (.iadd, 1) := by decide +kernel
theorem dX6_setTopSpeed_43 : decode cX6_setTopSpeed 43 = .ok (.iaload, 1) := by decide +kernel
theorem dX6_setTopSpeed_44 : decode cX6_setTopSpeed 44 = .ok (.istore_n 3, 1) := by decide +kernel
theorem dX6_setTopSpeed_45 : decode cX6_setTopSpeed 45 = .ok (.aload_n 0, 1) := by decide +kernel
theorem dX6_setTopSpeed_46 : decode cX6_setTopSpeed 46 = .ok (.getfield 13, 3) := by decide +kernel
theorem dX6_setTopSpeed_49 : decode cX6_setTopSpeed 49 = .ok (.iload_n 1, 1) := by decide +kernel
theorem dX6_setTopSpeed_50 : decode cX6_setTopSpeed 50 = .ok (.invokestatic 58, 3) := by decide +kernel
theorem dX6_setTopSpeed_53 : decode cX6_setTopSpeed 53 = .ok (.iconst 1, 1) := by decide +kernel
theorem dX6_setTopSpeed_54 : decode cX6_setTopSpeed 54 = .ok (.iadd, 1) := by decide +kernel
theorem dX6_setTopSpeed_55 : decode cX6_setTopSpeed 55 = .ok (.iload_n 2, 1) := by decide +kernel
theorem dX6_setTopSpeed_56 : decode cX6_setTopSpeed 56 = .ok (.iastore, 1) := by decide +kernel
theorem dX6_setTopSpeed_57 : decode cX6_setTopSpeed 57 = .ok (.aload_n 0, 1) := by decide +kernel
theorem dX6_setTopSpeed_58 : decode cX6_setTopSpeed 58 = .ok (.iload_n 3, 1) := by decide +kernel
theorem dX6_setTopSpeed_59 : decode cX6_setTopSpeed 59 = .ok (.invokevirtual 189, 3) := by decide +kernel
theorem dX6_setTopSpeed_62 : decode cX6_setTopSpeed 62 = .ok (.ireturn, 1) := by decide +kernel
theorem dX6_restore_0 : decode cX6_restore 0 = .ok (.iload_n 1, 1) := by decide +kernel
theorem dX6_restore_1 : decode cX6_restore 1 = .ok (.iconst 0, 1) := by decide +kernel
theorem dX6_restore_2 : decode cX6_restore 2 = .ok (.iconst 1, 1) := by decide +kernel
theorem dX6_restore_3 : decode cX6_restore 3 = .ok (.invokestatic 54, 3) := by decide +kernel
theorem dX6_restore_6 : decode cX6_restore 6 = .ok (.ifCond .ne 9, 3) := by decide +kernel
theorem dX6_restore_9 : decode cX6_restore 9 = .ok (.aload_n 0, 1) := by decide +kernel
theorem dX6_restore_10 : decode cX6_restore 10 = .ok (.iconst 1, 1) := by decide +kernel
theorem dX6_restore_11 : decode cX6_restore 11 = .ok (.invokevirtual 183, 3) := by decide +kernel
theorem dX6_restore_14 : decode cX6_restore 14 = .ok (.ireturn, 1) := by decide +kernel
theorem dX6_restore_15 : decode cX6_restore 15 = .ok (.aload_n 0, 1) := by decide +kernel
theorem dX6_restore_16 : decode cX6_restore 16 = .ok (.getfield 204, 3) := by decide +kernel
theorem dX6_restore_19 : decode cX6_restore 19 = .ok (.iload_n 1, 1) := by decide +kernel
theorem dX6_restore_20 : decode cX6_restore 20 = .ok (.ishr, 1) := by decide +kernel
theorem dX6_restore_21 : decode cX6_restore 21 = .ok (.iconst 1, 1) := by decide +kernel
theorem dX6_restore_22 : decode cX6_restore 22 = .ok (.iand, 1) := by decide +kernel
theorem dX6_restore_23 : decode cX6_restore 23 = .ok (.ifCond .ne 9, 3) := by decide +kernel
theorem dX6_restore_26 : decode cX6_restore 26 = .ok (.aload_n 0, 1) := by decide +kernel
theorem dX6_restore_27 : decode cX6_restore 27 = .ok (.iconst 2, 1) := by decide +kernel
theorem dX6_restore_28 : decode cX6_restore 28 = .ok (.invokevirtual 183, 3) := by decide +kernel
theorem dX6_restore_31 : decode cX6_restore 31 = .ok (.ireturn, 1) := by decide +kernel
theorem dX6_restore_32 : decode cX6_restore 32 = .ok (.aload_n 0, 1) := by decide +kernel
theorem dX6_restore_33 : decode cX6_restore 33 = .ok (.invokevirtual 233, 3) := by decide +kernel
theorem dX6_restore_36 : decode cX6_restore 36 = .ok (.iconst 0, 1) := by decide +kernel
theorem dX6_restore_37 : decode cX6_restore 37 = .ok (.istore_n 2, 1) := by decide +kernel
theorem dX6_restore_38 : decode cX6_restore 38 = .ok (.iload_n 2, 1) := by decide +kernel
theorem dX6_restore_39 : decode cX6_restore 39 = .ok (.sipush 140, 3) := by decide +kernel
theorem dX6_restore_42 : decode cX6_restore 42 = .ok (.if_icmp .ge 27, 3) := by decide +kernel
theorem dX6_restore_45 : decode cX6_restore 45 = .ok (.aload_n 0, 1) := by decide +kernel
theorem dX6_restore_46 : decode cX6_restore 46 = .ok (.getfield 13, 3) := by decide +kernel
theorem dX6_restore_49 : decode cX6_restore 49 = .ok (.iload_n 2, 1) := by decide +kernel
theorem dX6_restore_50 : decode cX6_restore 50 = .ok (.aload_n 0, 1) := by decide +kernel
theorem dX6_restore_51 : decode cX6_restore 51 = .ok (.getfield 22, 3) := by decide +kernel
theorem dX6_restore_54 : decode cX6_restore 54 = .ok (.iload_n 1, 1) := by decide +kernel
theorem dX6_restore_55 : decode cX6_restore 55 = .ok (.sipush 140, 3) := by decide +kernel
theorem dX6_restore_58 : decode cX6_restore 58 = .ok (.imul, 1) := by decide +kernel
theorem dX6_restore_59 : decode cX6_restore 59 = .ok (.iload_n 2, 1) := by decide +kernel
theorem dX6_restore_60 : decode cX6_restore 60 = .ok (.iadd, 1) := by decide +kernel
theorem dX6_restore_61 : decode cX6_restore 61 = .ok (.iaload, 1) := by decide +kernel
theorem dX6_restore_62 : decode cX6_restore 62 = .ok (.iastore, 1) := by decide +kernel
theorem dX6_restore_63 : decode cX6_restore 63 = .ok (.iinc 2 1, 3) := by decide +kernel
theorem dX6_restore_66 : decode cX6_restore 66 = .ok (.goto (-28), 3) := by decide +kernel
theorem dX6_restore_69 : decode cX6_restore 69 = .ok (.aload_n 0, 1) := by decide +kernel
theorem dX6_restore_70 : decode cX6_restore 70 = .ok (.aload_n 0, 1) := by decide +kernel
theorem dX6_restore_71 : decode cX6_restore 71 = .ok (.getfield 13, 3) := by decide +kernel
theorem dX6_restore_74 : decode cX6_restore 74 = .ok (.iconst 0, 1) := by decide +kernel
theorem dX6_restore_75 : decode cX6_restore 75 = .ok (.iaload, 1) := by decide +kernel
theorem dX6_restore_76 : decode cX6_restore 76 = .ok (.invokevirtual 189, 3) := by decide +kernel
theorem dX6_restore_79 : decode cX6_restore 79 = .ok (.ireturn, 1) := by decide +kernel
theorem dX6_undo_0 : decode cX6_undo 0 = .ok (.aload_n 0, 1) := by decide +kernel
theorem dX6_undo_1 : decode cX6_undo 1 = .ok (.getfield 95, 3) := by decide +kernel
theorem dX6_undo_4 : decode cX6_undo 4 = .ok (.ifCond .ne 9, 3) := by decide +kernel
theorem dX6_undo_7 : decode cX6_undo 7 = .ok (.aload_n 0, 1) := by decide +kernel
theorem dX6_undo_8 : decode cX6_undo 8 = .ok (.iconst 1, 1) := by decide +kernel
theorem dX6_undo_9 : decode cX6_undo 9 = .ok (.invokevirtual 183, 3) := by decide +kernel
theorem dX6_undo_12 : decode cX6_undo 12 = .ok (.ireturn, 1) := by decide +kernel
theorem dX6_undo_13 : decode cX6_undo 13 = .ok (.aload_n 0, 1) := by decide +kernel
theorem dX6_undo_14 : decode cX6_undo 14 = .ok (.dup, 1) := by decide +kernel
theorem dX6_undo_15 : decode cX6_undo 15 = .ok (.getfield 95, 3) := by decide +kernel
theorem dX6_undo_18 : decode cX6_undo 18 = .ok (.iconst 1, 1) := by decide +kernel
theorem dX6_undo_19 : decode cX6_undo 19 = .ok (.isub, 1) := by decide +kernel
theorem dX6_undo_20 : decode cX6_undo 20 = .ok (.putfield 95, 3) := by decide +kernel
theorem dX6_undo_23 : decode cX6_undo 23 = .ok (.iconst 0, 1) := by decide +kernel
theorem dX6_undo_24 : decode cX6_undo 24 = .ok (.istore_n 1, 1) := by decide +kernel
theorem dX6_undo_25 : decode cX6_undo 25 = .ok (.iload_n 1, 1) := by decide +kernel
theorem dX6_undo_26 : decode cX6_undo 26 = .ok (.sipush 140, 3) := by decide +kernel
theorem dX6_undo_29 : decode cX6_undo 29 = .ok (.if_icmp .ge 30, 3) := by decide +kernel
theorem dX6_undo_32 : decode cX6_undo 32 = .ok (.aload_n 0, 1) := by decide +kernel
theorem dX6_undo_33 : decode cX6_undo 33 = .ok (.getfield 13, 3) := by decide +kernel
theorem dX6_undo_36 : decode cX6_undo 36 = .ok (.iload_n 1, 1) := by decide +kernel
theorem dX6_undo_37 : decode cX6_undo 37 = .ok (.aload_n 0, 1) := by decide +kernel
theorem dX6_undo_38 : decode cX6_undo 38 = .ok (.getfield 19, 3) := by decide +kernel
theorem dX6_undo_41 : decode cX6_undo 41 = .ok (.aload_n 0, 1) := by decide +kernel
theorem dX6_undo_42 : decode cX6_undo 42 = .ok (.getfield 95, 3) := by decide +kernel
theorem dX6_undo_45 : decode cX6_undo 45 = .ok (.sipush 140, 3) := by decide +kernel
theorem dX6_undo_48 : decode cX6_undo 48 = .ok (.imul, 1) := by decide +kernel
theorem dX6_undo_49 : decode cX6_undo 49 = .ok (.iload_n 1, 1) := by decide +kernel
theorem dX6_undo_50 : decode cX6_undo 50 = .ok (.iadd, 1) := by decide +kernel
theorem dX6_undo_51 : decode cX6_undo 51 = .ok (.iaload, 1) := by decide +kernel
theorem dX6_undo_52 : decode cX6_undo 52 = .ok (.iastore, 1) := by decide +kernel
theorem dX6_undo_53 : decode cX6_undo 53 = .ok (.iinc 1 1, 3) := by decide +kernel
theorem dX6_undo_56 : decode cX6_undo 56 = .ok (.goto (-31), 3) := by decide +kernel
theorem dX6_undo_59 : decode cX6_undo 59 = .ok (.aload_n 0, 1) := by decide +kernel
theorem dX6_undo_60 : decode cX6_undo 60 = .ok (.aload_n 0, 1) := by decide +kernel
theorem dX6_undo_61 : decode cX6_undo 61 = .ok (.getfield 95, 3) := by decide +kernel
theorem dX6_undo_64 : decode cX6_undo 64 = .ok (.invokevirtual 189, 3) := by decide +kernel
theorem dX6_undo_67 : decode cX6_undo 67 = .ok (.ireturn, 1) := by decide +kernel
theorem dX6_save_0 : decode cX6_save 0 = .ok (.iload_n 1, 1) := by decide +kernel
theorem dX6_save_1 : decode cX6_save 1 = .ok (.iconst 0, 1) := by decide +kernel
theorem dX6_save_2 : decode cX6_save 2 = .ok (.iconst 1, 1) := by decide +kernel
theorem dX6_save_3 : decode cX6_save 3 = .ok (.invokestatic 54, 3) := by decide +kernel
theorem dX6_save_6 : decode cX6_save 6 = .ok (.ifCond .ne 9, 3) := by decide +kernel
theorem dX6_save_9 : decode cX6_save 9 = .ok (.aload_n 0, 1) := by decide +kernel
theorem dX6_save_10 : decode cX6_save 10 = .ok (.iconst 1, 1) := by decide +kernel
theorem dX6_save_11 : decode cX6_save 11 = .ok (.invokevirtual 183, 3) := by decide +kernel
theorem dX6_save_14 : decode cX6_save 14 = .ok (.ireturn, 1) := by decide +kernel
theorem dX6_save_15 : decode cX6_save 15 = .ok (.iconst 0, 1) := by decide +kernel
theorem dX6_save_16 : decode cX6_save 16 = .ok (.istore_n 2, 1) := by decide +kernel
theorem dX6_save_17 : decode cX6_save 17 = .ok (.iload_n 2, 1) := by decide +kernel
theorem dX6_save_18 : decode cX6_save 18 = .ok (.sipush 140, 3) := by decide +kernel
theorem dX6_save_21 : decode cX6_save 21 = .ok (.if_icmp .ge 27, 3) := by decide +kernel
theorem dX6_save_24 : decode cX6_save 24 = .ok (.aload_n 0, 1) := by decide +kernel
theorem dX6_save_25 : decode cX6_save 25 = .ok (.getfield 22, 3) := by decide +kernel
theorem dX6_save_28 : decode cX6_save 28 = .ok (.iload_n 1, 1) := by decide +kernel
theorem dX6_save_29 : decode cX6_save 29 = .ok (.sipush 140, 3) := by decide +kernel
theorem dX6_save_32 : decode cX6_save 32 = .ok (.imul, 1) := by decide +kernel
theorem dX6_save_33 : decode cX6_save 33 = .ok (.iload_n 2, 1) := by decide +kernel
theorem dX6_save_34 : decode cX6_save 34 = .ok (.iadd, 1) := by decide +kernel
theorem dX6_save_35 : decode cX6_save 35 = .ok (.aload_n 0, 1) := by decide +kernel
theorem dX6_save_36 : decode cX6_save 36 = .ok (.getfield 13, 3) := by decide +kernel
theorem dX6_save_39 : decode cX6_save 39 = .ok (.iload_n 2, 1) := by decide +kernel
theorem dX6_save_40 : decode cX6_save 40 = .ok (.iaload, 1) := by decide +kernel
theorem dX6_save_41 : decode cX6_save 41 = .ok (.iastore, 1) := by decide +kernel
theorem dX6_save_42 : decode cX6_save 42 = .ok (.iinc 2 1, 3) := by decide +kernel
theorem dX6_save_45 : decode cX6_save 45 = .ok (.goto (-28), 3) := by decide +kernel
theorem dX6_save_48 : decode cX6_save 48 = .ok (.aload_n 0, 1) := by decide +kernel
theorem dX6_save_49 : decode cX6_save 49 = .ok (.dup, 1) := by decide +kernel
theorem dX6_save_50 : decode cX6_save 50 = .ok (.getfield 204, 3) := by decide +kernel
theorem dX6_save_53 : decode cX6_save 53 = .ok (.iconst 1, 1) := by decide +kernel
theorem dX6_save_54 : decode cX6_save 54 = .ok (.iload_n 1, 1) := by decide +kernel
theorem dX6_save_55 : decode cX6_save 55 = .ok (.ishl, 1) := by decide +kernel
theorem dX6_save_56 : decode cX6_save 56 = .ok (.ior, 1) := by decide +kernel
theorem dX6_save_57 : decode cX6_save 57 = .ok (.putfield 204, 3) := by decide +kernel
theorem dX6_save_60 : decode cX6_save 60 = .ok (.aload_n 0, 1) := by decide +kernel
theorem dX6_save_61 : decode cX6_save 61 = .ok (.aload_n 0, 1) := by decide +kernel
theorem dX6_save_62 : decode cX6_save 62 = .ok (.getfield 13, 3) := by decide +kernel
theorem dX6_save_65 : decode cX6_save 65 = .ok (.iconst 0, 1) := by decide +kernel
theorem dX6_save_66 : decode cX6_save 66 = .ok (.iaload, 1) := by decide +kernel
theorem dX6_save_67 : decode cX6_save 67 = .ok (.invokevirtual 189, 3) := by decide +kernel
theorem dX6_save_70 : decode cX6_save 70 = .ok (.ireturn, 1) := by decide +kernel
theorem dX6_writes_0 : decode cX6_writes 0 = .ok (.aload_n 0, 1) := by decide +kernel
theorem dX6_writes_1 : decode cX6_writes 1 = .ok (.getfield 29, 3) := by decide +kernel
theorem dX6_writes_4 : decode cX6_writes 4 = .ok (.aload_n 0, 1) := by decide +kernel
theorem dX6_writes_5 : decode cX6_writes 5 = .ok (.getfield 239, 3) := by decide +kernel
theorem dX6_writes_8 : decode cX6_writes 8 = .ok (.iload_n 1, 1) := by decide +kernel
theorem dX6_writes_9 : decode cX6_writes 9 = .ok (.i2b, 1) := by decide +kernel
theorem dX6_writes_10 : decode cX6_writes 10 = .ok (.bastore, 1) := by decide +kernel
theorem dX6_writes_11 : decode cX6_writes 11 = .ok (.aload_n 0, 1) := by decide +kernel
theorem dX6_writes_12 : decode cX6_writes 12 = .ok (.dup, 1) := by decide +kernel
theorem dX6_writes_13 : decode cX6_writes 13 = .ok (.getfield 239, 3) := by decide +kernel
theorem dX6_writes_16 : decode cX6_writes 16 = .ok (.iconst 1, 1) := by decide +kernel
theorem dX6_writes_17 : decode cX6_writes 17 = .ok (.iadd, 1) := by decide +kernel
theorem dX6_writes_18 : decode cX6_writes 18 = .ok (.putfield 239, 3) := by decide +kernel
theorem dX6_writes_21 : decode cX6_writes 21 = .ok (.return_, 1) := by decide +kernel
theorem dX6_writesNumber_0 : decode cX6_writesNumber 0 = .ok (.iload_n 1, 1) := by decide +kernel
theorem dX6_writesNumber_1 : decode cX6_writesNumber 1 = .ok (.bipush 9, 2) := by decide +kernel
theorem dX6_writesNumber_3 : decode cX6_writesNumber 3 = .ok (.if_icmp .le 14, 3) := by decide +kernel
theorem dX6_writesNumber_6 : decode cX6_writesNumber 6 = .ok (.aload_n 0, 1) := by decide +kernel
theorem dX6_writesNumber_7 : decode cX6_writesNumber 7 = .ok (.bipush 48, 2) := by decide +kernel
theorem dX6_writesNumber_9 : decode cX6_writesNumber 9 = .ok (.iload_n 1, 1) := by decide +kernel
theorem dX6_writesNumber_10 : decode cX6_writesNumber 10 = .ok (.bipush 10, 2) := by decide +kernel
theorem dX6_writesNumber_12 : decode cX6_writesNumber 12 = .ok (.idiv, 1) := by decide +kernel
theorem dX6_writesNumber_13 : decode cX6_writesNumber 13 = .ok (.iadd, 1) := by decide +kernel
theorem dX6_writesNumber_14 : decode cX6_writesNumber 14 = .ok (.invokevirtual 242, 3) := by decide +kernel
theorem dX6_writesNumber_17 : decode cX6_writesNumber 17 = .ok (.aload_n 0, 1) := by decide +kernel
theorem dX6_writesNumber_18 : decode cX6_writesNumber 18 = .ok (.bipush 48, 2) := by decide +kernel
theorem dX6_writesNumber_20 : decode cX6_writesNumber 20 = .ok (.iload_n 1, 1) := by decide +kernel
theorem dX6_writesNumber_21 : decode cX6_writesNumber 21 = .ok (.bipush 10, 2) := by decide +kernel
theorem dX6_writesNumber_23 : decode cX6_writesNumber 23 = .ok (.irem, 1) := by decide +kernel
theorem dX6_writesNumber_24 : decode cX6_writesNumber 24 = .ok (.iadd, 1) := by decide +kernel
theorem dX6_writesNumber_25 : decode cX6_writesNumber 25 = .ok (.invokevirtual 242, 3) := by decide +kernel
theorem dX6_writesNumber_28 : decode cX6_writesNumber 28 = .ok (.return_, 1) := by decide +kernel
theorem dX6_writeRing_0 : decode cX6_writeRing 0 = .ok (.aload_n 0, 1) := by decide +kernel
theorem dX6_writeRing_1 : decode cX6_writeRing 1 = .ok (.iconst 0, 1) := by decide +kernel
theorem dX6_writeRing_2 : decode cX6_writeRing 2 = .ok (.putfield 239, 3) := by decide +kernel
theorem dX6_writeRing_5 : decode cX6_writeRing 5 = .ok (.iconst 0, 1) := by decide +kernel
theorem dX6_writeRing_6 : decode cX6_writeRing 6 = .ok (.istore_n 1, 1) := by decide +kernel
theorem dX6_writeRing_7 : decode cX6_writeRing 7 = .ok (.iload_n 1, 1) := by decide +kernel
theorem dX6_writeRing_8 : decode cX6_writeRing 8 = .ok (.aload_n 0, 1) := by decide +kernel
theorem dX6_writeRing_9 : decode cX6_writeRing 9 = .ok (.getfield 13, 3) := by decide +kernel
theorem dX6_writeRing_12 : decode cX6_writeRing 12 = .ok (.iconst 1, 1) := by decide +kernel
theorem dX6_writeRing_13 : decode cX6_writeRing 13 = .ok (.iaload, 1) := by decide +kernel
theorem dX6_writeRing_14 : decode cX6_writeRing 14 = .ok (.if_icmp .ge 88, 3) := by decide +kernel
theorem dX6_writeRing_17 : decode cX6_writeRing 17 = .ok (.aload_n 0, 1) := by decide +kernel
theorem dX6_writeRing_18 : decode cX6_writeRing 18 = .ok (.iload_n 1, 1) := by decide +kernel
theorem dX6_writeRing_19 : decode cX6_writeRing 19 = .ok (.invokevirtual 61, 3) := by decide +kernel
theorem dX6_writeRing_22 : decode cX6_writeRing 22 = .ok (.istore_n 2, 1) := by decide +kernel
theorem dX6_writeRing_23 : decode cX6_writeRing 23 = .ok (.aload_n 0, 1) := by decide +kernel
theorem dX6_writeRing_24 : decode cX6_writeRing 24 = .ok (.aload_n 0, 1) := by decide +kernel
theorem dX6_writeRing_25 : decode cX6_writeRing 25 = .ok (.getfield 13, 3) := by decide +kernel
theorem dX6_writeRing_28 : decode cX6_writeRing 28 = .ok (.iload_n 1, 1) := by decide +kernel
theorem dX6_writeRing_29 : decode cX6_writeRing 29 = .ok (.invokestatic 44, 3) := by decide +kernel
theorem dX6_writeRing_32 : decode cX6_writeRing 32 = .ok (.iconst 4, 1) := by decide +kernel
theorem dX6_writeRing_33 : decode cX6_writeRing 33 = .ok (.iadd, 1) := by decide +kernel
theorem dX6_writeRing_34 : decode cX6_writeRing 34 = .ok (.iaload, 1) := by decide +kernel
theorem dX6_writeRing_35 : decode cX6_writeRing 35 = .ok (.iconst 1, 1) := by decide +kernel
theorem dX6_writeRing_36 : decode cX6_writeRing 36 = .ok (.if_icmp .ne 8, 3) := by decide +kernel
theorem dX6_writeRing_39 : decode cX6_writeRing 39 = .ok (.bipush 43, 2) := by decide +kernel
theorem dX6_writeRing_41 : decode cX6_writeRing 41 = .ok (.goto 5, 3) := by decide +kernel
theorem dX6_writeRing_44 : decode cX6_writeRing 44 = .ok (.bipush 45, 2) := by decide +kernel
theorem dX6_writeRing_46 : decode cX6_writeRing 46 = .ok (.invokevirtual 242, 3) := by decide +kernel
theorem dX6_writeRing_49 : decode cX6_writeRing 49 = .ok (.aload_n 0, 1) := by decide +kernel
theorem dX6_writeRing_50 : decode cX6_writeRing 50 = .ok (.iload_n 2, 1) := by decide +kernel
theorem dX6_writeRing_51 : decode cX6_writeRing 51 = .ok (.iconst (-1), 1) := by decide +kernel
theorem dX6_writeRing_52 : decode cX6_writeRing 52 = .ok (.if_icmp .ne 8, 3) := by decide +kernel
theorem dX6_writeRing_55 : decode cX6_writeRing 55 = .ok (.bipush 95, 2) := by decide +kernel
theorem dX6_writeRing_57 : decode cX6_writeRing 57 = .ok (.goto 7, 3) := by decide +kernel
theorem dX6_writeRing_60 : decode cX6_writeRing 60 = .ok (.bipush 48, 2) := by decide +kernel
theorem dX6_writeRing_62 : decode cX6_writeRing 62 = .ok (.iload_n 2, 1) := by decide +kernel
theorem dX6_writeRing_63 : decode cX6_writeRing 63 = .ok (.iadd, 1) := by decide +kernel
theorem dX6_writeRing_64 : decode cX6_writeRing 64 = .ok (.invokevirtual 242, 3) := by decide +kernel
theorem dX6_writeRing_67 : decode cX6_writeRing 67 = .ok (.iconst 0, 1) := by decide +kernel
theorem dX6_writeRing_68 : decode cX6_writeRing 68 = .ok (.istore_n 3, 1) := by decide +kernel
theorem dX6_writeRing_69 : decode cX6_writeRing 69 = .ok (.iload_n 3, 1) := by decide +kernel
theorem dX6_writeRing_70 : decode cX6_writeRing 70 = .ok (.aload_n 0, 1) := by decide +kernel
theorem dX6_writeRing_71 : decode cX6_writeRing 71 = .ok (.getfield 13, 3) := by decide +kernel
theorem dX6_writeRing_74 : decode cX6_writeRing 74 = .ok (.iload_n 1, 1) := by decide +kernel
theorem dX6_writeRing_75 : decode cX6_writeRing 75 = .ok (.invokestatic 44, 3) := by decide +kernel
theorem dX6_writeRing_78 : decode cX6_writeRing 78 = .ok (.iconst 5, 1) := by decide +kernel
theorem dX6_writeRing_79 : decode cX6_writeRing 79 = .ok (.iadd, 1) := by decide +kernel
theorem dX6_writeRing_80 : decode cX6_writeRing 80 = .ok (.iaload, 1) := by decide +kernel
theorem dX6_writeRing_81 : decode cX6_writeRing 81 = .ok (.if_icmp .ge 15, 3) := by decide +kernel
theorem dX6_writeRing_84 : decode cX6_writeRing 84 = .ok (.aload_n 0, 1) := by decide +kernel
theorem dX6_writeRing_85 : decode cX6_writeRing 85 = .ok (.bipush 119, 2) := by decide +kernel
theorem dX6_writeRing_87 : decode cX6_writeRing 87 = .ok (.invokevirtual 242, 3) := by decide +kernel
theorem dX6_writeRing_90 : decode cX6_writeRing 90 = .ok (.iinc 3 1, 3) := by decide +kernel
theorem dX6_writeRing_93 : decode cX6_writeRing 93 = .ok (.goto (-24), 3) := by decide +kernel
theorem dX6_writeRing_96 : decode cX6_writeRing 96 = .ok (.iinc 1 1, 3) := by decide +kernel
theorem dX6_writeRing_99 : decode cX6_writeRing 99 = .ok (.goto (-92), 3) := by decide +kernel
theorem dX6_writeRing_102 : decode cX6_writeRing 102 = .ok (.aload_n 0, 1) := by decide +kernel
theorem dX6_writeRing_103 : decode cX6_writeRing 103 = .ok (.aload_n 0, 1) := by decide +kernel
theorem dX6_writeRing_104 : decode cX6_writeRing 104 = .ok (.getfield 239, 3) := by decide +kernel
theorem dX6_writeRing_107 : decode cX6_writeRing 107 = .ok (.invokevirtual 189, 3) := by decide +kernel
theorem dX6_writeRing_110 : decode cX6_writeRing 110 = .ok (.ireturn, 1) := by decide +kernel
theorem dX6_writeTrain_0 : decode cX6_writeTrain 0 = .ok (.aload_n 0, 1) := by decide +kernel
theorem dX6_writeTrain_1 : decode cX6_writeTrain 1 = .ok (.iload_n 1, 1) := by decide +kernel
theorem dX6_writeTrain_2 : decode cX6_writeTrain 2 = .ok (.invokevirtual 221, 3) := by decide +kernel
theorem dX6_writeTrain_5 : decode cX6_writeTrain 5 = .ok (.ifCond .ne 9, 3) := by decide +kernel
theorem dX6_writeTrain_8 : decode cX6_writeTrain 8 = .ok (.aload_n 0, 1) := by decide +kernel
theorem dX6_writeTrain_9 : decode cX6_writeTrain 9 = .ok (.iconst 1, 1) := by decide +kernel
theorem dX6_writeTrain_10 : decode cX6_writeTrain 10 = .ok (.invokevirtual 183, 3) := by decide +kernel
theorem dX6_writeTrain_13 : decode cX6_writeTrain 13 = .ok (.ireturn, 1) := by decide +kernel
theorem dX6_writeTrain_14 : decode cX6_writeTrain 14 = .ok (.aload_n 0, 1) := by decide +kernel
theorem dX6_writeTrain_15 : decode cX6_writeTrain 15 = .ok (.iconst 0, 1) := by decide +kernel
theorem dX6_writeTrain_16 : decode cX6_writeTrain 16 = .ok (.putfield 239, 3) := by decide +kernel
theorem dX6_writeTrain_19 : decode cX6_writeTrain 19 = .ok (.aload_n 0, 1) := by decide +kernel
theorem dX6_writeTrain_20 : decode cX6_writeTrain 20 = .ok (.aload_n 0, 1) := by decide +kernel
theorem dX6_writeTrain_21 : decode cX6_writeTrain 21 = .ok (.getfield 13, 3) := by decide +kernel
theorem dX6_writeTrain_24 : decode cX6_writeTrain 24 = .ok (.iload_n 1, 1) := by decide +kernel
theorem dX6_writeTrain_25 : decode cX6_writeTrain 25 = .ok (.invokestatic 58, 3) := by decide +kernel
theorem dX6_writeTrain_28 : decode cX6_writeTrain 28 = .ok (.iconst 2, 1) := by decide +kernel
theorem dX6_writeTrain_29 : decode cX6_writeTrain 29 = .ok (.iadd, 1) := by decide +kernel
theorem dX6_writeTrain_30 : decode cX6_writeTrain 30 = .ok (.iaload, 1) := by decide +kernel
theorem dX6_writeTrain_31 : decode cX6_writeTrain 31 = .ok (.invokevirtual 245, 3) := by decide +kernel
theorem dX6_writeTrain_34 : decode cX6_writeTrain 34 = .ok (.aload_n 0, 1) := by decide +kernel
theorem dX6_writeTrain_35 : decode cX6_writeTrain 35 = .ok (.bipush 58, 2) := by decide +kernel
theorem dX6_writeTrain_37 : decode cX6_writeTrain 37 = .ok (.invokevirtual 242, 3) := by decide +kernel
theorem dX6_writeTrain_40 : decode cX6_writeTrain 40 = .ok (.aload_n 0, 1) := by decide +kernel
theorem dX6_writeTrain_41 : decode cX6_writeTrain 41 = .ok (.aload_n 0, 1) := by decide +kernel
theorem dX6_writeTrain_42 : decode cX6_writeTrain 42 = .ok (.getfield 13, 3) := by decide +kernel
theorem dX6_writeTrain_45 : decode cX6_writeTrain 45 = .ok (.iload_n 1, 1) := by decide +kernel
theorem dX6_writeTrain_46 : decode cX6_writeTrain 46 = .ok (.invokestatic 58, 3) := by decide +kernel
theorem dX6_writeTrain_49 : decode cX6_writeTrain 49 = .ok (.iconst 3, 1) := by decide +kernel
theorem dX6_writeTrain_50 : decode cX6_writeTrain 50 = .ok (.iadd, 1) := by decide +kernel
theorem dX6_writeTrain_51 : decode cX6_writeTrain 51 = .ok (.iaload, 1) := by decide +kernel
theorem dX6_writeTrain_52 : decode cX6_writeTrain 52 = .ok (.invokevirtual 245, 3) := by decide +kernel
theorem dX6_writeTrain_55 : decode cX6_writeTrain 55 = .ok (.aload_n 0, 1) := by decide +kernel
theorem dX6_writeTrain_56 : decode cX6_writeTrain 56 = .ok (.bipush 47, 2) := by decide +kernel
theorem dX6_writeTrain_58 : decode cX6_writeTrain 58 = .ok (.invokevirtual 242, 3) := by decide +kernel
theorem dX6_writeTrain_61 : decode cX6_writeTrain 61 = .ok (.aload_n 0, 1) := by decide +kernel
theorem dX6_writeTrain_62 : decode cX6_writeTrain 62 = .ok (.aload_n 0, 1) := by decide +kernel
theorem dX6_writeTrain_63 : decode cX6_writeTrain 63 = .ok (.getfield 13, 3) := by decide +kernel
theorem dX6_writeTrain_66 : decode cX6_writeTrain 66 = .ok (.aload_n 0, 1) := by decide +kernel
theorem dX6_writeTrain_67 : decode cX6_writeTrain 67 = .ok (.getfield 13, 3) := by decide +kernel
theorem dX6_writeTrain_70 : decode cX6_writeTrain 70 = .ok (.iload_n 1, 1) := by decide +kernel
theorem dX6_writeTrain_71 : decode cX6_writeTrain 71 = .ok (.invokestatic 58, 3) := by decide +kernel
theorem dX6_writeTrain_74 : decode cX6_writeTrain 74 = .ok (.iconst 2, 1) := by decide +kernel
theorem dX6_writeTrain_75 : decode cX6_writeTrain 75 = .ok (.iadd, 1) := by decide +kernel
theorem dX6_writeTrain_76 : decode cX6_writeTrain 76 = .ok (.iaload, 1) := by decide +kernel
theorem dX6_writeTrain_77 : decode cX6_writeTrain 77 = .ok (.invokestatic 44, 3) := by decide +kernel
theorem dX6_writeTrain_80 : decode cX6_writeTrain 80 = .ok (.iconst 0, 1) := by decide +kernel
theorem dX6_writeTrain_81 : decode cX6_writeTrain 81 = .ok (.iadd, 1) := by decide +kernel
theorem dX6_writeTrain_82 : decode cX6_writeTrain 82 = .ok (.iaload, 1) := by decide +kernel
theorem dX6_writeTrain_83 : decode cX6_writeTrain 83 = .ok (.invokevirtual 245, 3) := by decide +kernel
theorem dX6_writeTrain_86 : decode cX6_writeTrain 86 = .ok (.aload_n 0, 1) := by decide +kernel
theorem dX6_writeTrain_87 : decode cX6_writeTrain 87 = .ok (.bipush 32, 2) := by decide +kernel
theorem dX6_writeTrain_89 : decode cX6_writeTrain 89 = .ok (.invokevirtual 242, 3) := by decide +kernel
theorem dX6_writeTrain_92 : decode cX6_writeTrain 92 = .ok (.aload_n 0, 1) := by decide +kernel
theorem dX6_writeTrain_93 : decode cX6_writeTrain 93 = .ok (.aload_n 0, 1) := by decide +kernel
theorem dX6_writeTrain_94 : decode cX6_writeTrain 94 = .ok (.getfield 13, 3) := by decide +kernel
theorem dX6_writeTrain_97 : decode cX6_writeTrain 97 = .ok (.iload_n 1, 1) := by decide +kernel
theorem dX6_writeTrain_98 : decode cX6_writeTrain 98 = .ok (.invokestatic 58, 3) := by decide +kernel
theorem dX6_writeTrain_101 : decode cX6_writeTrain 101 = .ok (.iconst 0, 1) := by decide +kernel
theorem dX6_writeTrain_102 : decode cX6_writeTrain 102 = .ok (.iadd, 1) := by decide +kernel
theorem dX6_writeTrain_103 : decode cX6_writeTrain 103 = .ok (.iaload, 1) := by decide +kernel
theorem dX6_writeTrain_104 : decode cX6_writeTrain 104 = .ok (.invokevirtual 245, 3) := by decide +kernel
theorem dX6_writeTrain_107 : decode cX6_writeTrain 107 = .ok (.aload_n 0, 1) := by decide +kernel
theorem dX6_writeTrain_108 : decode cX6_writeTrain 108 = .ok (.bipush 119, 2) := by decide +kernel
theorem dX6_writeTrain_110 : decode cX6_writeTrain 110 = .ok (.invokevirtual 242, 3) := by decide +kernel
theorem dX6_writeTrain_113 : decode cX6_writeTrain 113 = .ok (.aload_n 0, 1) := by decide +kernel
theorem dX6_writeTrain_114 : decode cX6_writeTrain 114 = .ok (.aload_n 0, 1) := by decide +kernel
theorem dX6_writeTrain_115 : decode cX6_writeTrain 115 = .ok (.getfield 239, 3) := by decide +kernel
theorem dX6_writeTrain_118 : decode cX6_writeTrain 118 = .ok (.invokevirtual 189, 3) := by decide +kernel
theorem dX6_writeTrain_121 : decode cX6_writeTrain 121 = .ok (.ireturn, 1) := by decide +kernel
theorem dX6_outputByte_0 : decode cX6_outputByte 0 = .ok (.iload_n 1, 1) := by decide +kernel
theorem dX6_outputByte_1 : decode cX6_outputByte 1 = .ok (.iconst 0, 1) := by decide +kernel
theorem dX6_outputByte_2 : decode cX6_outputByte 2 = .ok (.aload_n 0, 1) := by decide +kernel
theorem dX6_outputByte_3 : decode cX6_outputByte 3 = .ok (.getfield 239, 3) := by decide +kernel
theorem dX6_outputByte_6 : decode cX6_outputByte 6 = .ok (.iconst 1, 1) := by decide +kernel
theorem dX6_outputByte_7 : decode cX6_outputByte 7 = .ok (.isub, 1) := by decide +kernel
theorem dX6_outputByte_8 : decode cX6_outputByte 8 = .ok (.invokestatic 54, 3) := by decide +kernel
theorem dX6_outputByte_11 : decode cX6_outputByte 11 = .ok (.ifCond .ne 9, 3) := by decide +kernel
theorem dX6_outputByte_14 : decode cX6_outputByte 14 = .ok (.aload_n 0, 1) := by decide +kernel
theorem dX6_outputByte_15 : decode cX6_outputByte 15 = .ok (.iconst 1, 1) := by decide +kernel
theorem dX6_outputByte_16 : decode cX6_outputByte 16 = .ok (.invokevirtual 183, 3) := by decide +kernel
theorem dX6_outputByte_19 : decode cX6_outputByte 19 = .ok (.ireturn, 1) := by decide +kernel
theorem dX6_outputByte_20 : decode cX6_outputByte 20 = .ok (.aload_n 0, 1) := by decide +kernel
theorem dX6_outputByte_21 : decode cX6_outputByte 21 = .ok (.aload_n 0, 1) := by decide +kernel
theorem dX6_outputByte_22 : decode cX6_outputByte 22 = .ok (.getfield 29, 3) := by decide +kernel
theorem dX6_outputByte_25 : decode cX6_outputByte 25 = .ok (.iload_n 1, 1) := by decide +kernel
theorem dX6_outputByte_26 : decode cX6_outputByte 26 = .ok (.baload, 1) := by decide +kernel
theorem dX6_outputByte_27 : decode cX6_outputByte 27 = .ok (.invokevirtual 189, 3) := by decide +kernel
theorem dX6_outputByte_30 : decode cX6_outputByte 30 = .ok (.ireturn, 1) := by decide +kernel
