theorem dX4_makeEmpty_25 : decode cX4_makeEmpty 25 = .ok (.return_, 1) := by decide +kernel
theorem dX4_addBlock_0 : decode cX4_addBlock 0 = .ok (.aload_n 0, 1) := by decide +kernel
theorem dX4_addBlock_1 : decode cX4_addBlock 1 = .ok (.getfield 53, 3) := by decide +kernel
theorem dX4_addBlock_4 : decode cX4_addBlock 4 = .ok (.istore 4, 2) := by decide +kernel
theorem dX4_addBlock_6 : decode cX4_addBlock 6 = .ok (.iload 4, 2) := by decide +kernel
theorem dX4_addBlock_8 : decode cX4_addBlock 8 = .ok (.bipush 10, 2) := by decide +kernel
theorem dX4_addBlock_10 : decode cX4_addBlock 10 = .ok (.if_icmp .lt 4, 3) := by decide +kernel
theorem dX4_addBlock_13 : decode cX4_addBlock 13 = .ok (.return_, 1) := by decide +kernel
theorem dX4_addBlock_14 : decode cX4_addBlock 14 = .ok (.aload_n 0, 1) := by decide +kernel
theorem dX4_addBlock_15 : decode cX4_addBlock 15 = .ok (.getfield 9, 3) := by decide +kernel
theorem dX4_addBlock_18 : decode cX4_addBlock 18 = .ok (.iload 4, 2) := by decide +kernel
theorem dX4_addBlock_20 : decode cX4_addBlock 20 = .ok (.iload_n 1, 1) := by decide +kernel
theorem dX4_addBlock_21 : decode cX4_addBlock 21 = .ok (.iastore, 1) := by decide +kernel
theorem dX4_addBlock_22 : decode cX4_addBlock 22 = .ok (.aload_n 0, 1) := by decide +kernel
theorem dX4_addBlock_23 : decode cX4_addBlock 23 = .ok (.getfield 15, 3) := by decide +kernel
theorem dX4_addBlock_26 : decode cX4_addBlock 26 = .ok (.iload 4, 2) := by decide +kernel
theorem dX4_addBlock_28 : decode cX4_addBlock 28 = .ok (.iload_n 2, 1) := by decide +kernel
theorem dX4_addBlock_29 : decode cX4_addBlock 29 = .ok (.iastore, 1) := by decide +kernel
theorem dX4_addBlock_30 : decode cX4_addBlock 30 = .ok (.aload_n 0, 1) := by decide +kernel
theorem dX4_addBlock_31 : decode cX4_addBlock 31 = .ok (.getfield 18, 3) := by decide +kernel
theorem dX4_addBlock_34 : decode cX4_addBlock 34 = .ok (.iload 4, 2) := by decide +kernel
theorem dX4_addBlock_36 : decode cX4_addBlock 36 = .ok (.iload_n 3, 1) := by decide +kernel
theorem dX4_addBlock_37 : decode cX4_addBlock 37 = .ok (.iastore, 1) := by decide +kernel
theorem dX4_addBlock_38 : decode cX4_addBlock 38 = .ok (.aload_n 0, 1) := by decide +kernel
theorem dX4_addBlock_39 : decode cX4_addBlock 39 = .ok (.getfield 21, 3) := by decide +kernel
theorem dX4_addBlock_42 : decode cX4_addBlock 42 = .ok (.iload 4, 2) := by decide +kernel
theorem dX4_addBlock_44 : decode cX4_addBlock 44 = .ok (.iconst 0, 1) := by decide +kernel
theorem dX4_addBlock_45 : decode cX4_addBlock 45 = .ok (.bastore, 1) := by decide +kernel
theorem dX4_addBlock_46 : decode cX4_addBlock 46 = .ok (.aload_n 0, 1) := by decide +kernel
theorem dX4_addBlock_47 : decode cX4_addBlock 47 = .ok (.getfield 25, 3) := by decide +kernel
theorem dX4_addBlock_50 : decode cX4_addBlock 50 = .ok (.iload 4, 2) := by decide +kernel
theorem dX4_addBlock_52 : decode cX4_addBlock 52 = .ok (.iconst 0, 1) := by decide +kernel
theorem dX4_addBlock_53 : decode cX4_addBlock 53 = .ok (.iastore, 1) := by decide +kernel
theorem dX4_addBlock_54 : decode cX4_addBlock 54 = .ok (.aload_n 0, 1) := by decide +kernel
theorem dX4_addBlock_55 : decode cX4_addBlock 55 = .ok (.getfield 28, 3) := by decide +kernel
theorem dX4_addBlock_58 : decode cX4_addBlock 58 = .ok (.iload 4, 2) := by decide +kernel
theorem dX4_addBlock_60 : decode cX4_addBlock 60 = .ok (.iconst (-1), 1) := by decide +kernel
theorem dX4_addBlock_61 : decode cX4_addBlock 61 = .ok (.iastore, 1) := by decide +kernel
theorem dX4_addBlock_62 : decode cX4_addBlock 62 = .ok (.aload_n 0, 1) := by decide +kernel
theorem dX4_addBlock_63 : decode cX4_addBlock 63 = .ok (.iload 4, 2) := by decide +kernel
theorem dX4_addBlock_65 : decode cX4_addBlock 65 = .ok (.iconst 1, 1) := by decide +kernel
theorem dX4_addBlock_66 : decode cX4_addBlock 66 = .ok (.iadd, 1) := by decide +kernel
theorem dX4_addBlock_67 : decode cX4_addBlock 67 = .ok (.putfield 53, 3) := by decide +kernel
theorem dX4_addBlock_70 : decode cX4_addBlock 70 = .ok (.return_, 1) := by decide +kernel
theorem dX4_addTrain_0 : decode cX4_addTrain 0 = .ok (.aload_n 0, 1) := by decide +kernel
theorem dX4_addTrain_1 : decode cX4_addTrain 1 = .ok (.getfield 56, 3) := by decide +kernel
theorem dX4_addTrain_4 : decode cX4_addTrain 4 = .ok (.istore 4, 2) := by decide +kernel
theorem dX4_addTrain_6 : decode cX4_addTrain 6 = .ok (.iload 4, 2) := by decide +kernel
theorem dX4_addTrain_8 : decode cX4_addTrain 8 = .ok (.iconst 5, 1) := by decide +kernel
theorem dX4_addTrain_9 : decode cX4_addTrain 9 = .ok (.if_icmp .lt 4, 3) := by decide +kernel
theorem dX4_addTrain_12 : decode cX4_addTrain 12 = .ok (.return_, 1) := by decide +kernel
theorem dX4_addTrain_13 : decode cX4_addTrain 13 = .ok (.aload_n 0, 1) := by decide +kernel
theorem dX4_addTrain_14 : decode cX4_addTrain 14 = .ok (.getfield 31, 3) := by decide +kernel
theorem dX4_addTrain_17 : decode cX4_addTrain 17 = .ok (.iload 4, 2) := by decide +kernel
theorem dX4_addTrain_19 : decode cX4_addTrain 19 = .ok (.iload_n 1, 1) := by decide +kernel
theorem dX4_addTrain_20 : decode cX4_addTrain 20 = .ok (.iastore, 1) := by decide +kernel
theorem dX4_addTrain_21 : decode cX4_addTrain 21 = .ok (.aload_n 0, 1) := by decide +kernel
theorem dX4_addTrain_22 : decode cX4_addTrain 22 = .ok (.getfield 34, 3) := by decide +kernel
theorem dX4_addTrain_25 : decode cX4_addTrain 25 = .ok (.iload 4, 2) := by decide +kernel
theorem dX4_addTrain_27 : decode cX4_addTrain 27 = .ok (.iconst 0, 1) := by decide +kernel
theorem dX4_addTrain_28 : decode cX4_addTrain 28 = .ok (.iastore, 1) := by decide +kernel
theorem dX4_addTrain_29 : decode cX4_addTrain 29 = .ok (.aload_n 0, 1) := by decide +kernel
theorem dX4_addTrain_30 : decode cX4_addTrain 30 = .ok (.getfield 37, 3) := by decide +kernel
theorem dX4_addTrain_33 : decode cX4_addTrain 33 = .ok (.iload 4, 2) := by decide +kernel
theorem dX4_addTrain_35 : decode cX4_addTrain 35 = .ok (.iload_n 2, 1) := by decide +kernel
theorem dX4_addTrain_36 : decode cX4_addTrain 36 = .ok (.iastore, 1) := by decide +kernel
theorem dX4_addTrain_37 : decode cX4_addTrain 37 = .ok (.aload_n 0, 1) := by decide +kernel
theorem dX4_addTrain_38 : decode cX4_addTrain 38 = .ok (.getfield 40, 3) := by decide +kernel
theorem dX4_addTrain_41 : decode cX4_addTrain 41 = .ok (.iload 4, 2) := by decide +kernel
theorem dX4_addTrain_43 : decode cX4_addTrain 43 = .ok (.iload_n 3, 1) := by decide +kernel
theorem dX4_addTrain_44 : decode cX4_addTrain 44 = .ok (.iastore, 1) := by decide +kernel
theorem dX4_addTrain_45 : decode cX4_addTrain 45 = .ok (.aload_n 0, 1) := by decide +kernel
theorem dX4_addTrain_46 : decode cX4_addTrain 46 = .ok (.getfield 43, 3) := by decide +kernel
theorem dX4_addTrain_49 : decode cX4_addTrain 49 = .ok (.iload 4, 2) := by decide +kernel
theorem dX4_addTrain_51 : decode cX4_addTrain 51 = .ok (.iconst 0, 1) := by decide +kernel
theorem dX4_addTrain_52 : decode cX4_addTrain 52 = .ok (.iastore, 1) := by decide +kernel
theorem dX4_addTrain_53 : decode cX4_addTrain 53 = .ok (.iconst 0, 1) := by decide +kernel
theorem dX4_addTrain_54 : decode cX4_addTrain 54 = .ok (.istore 5, 2) := by decide +kernel
theorem dX4_addTrain_56 : decode cX4_addTrain 56 = .ok (.iload 5, 2) := by decide +kernel
theorem dX4_addTrain_58 : decode cX4_addTrain 58 = .ok (.bipush 10, 2) := by decide +kernel
theorem dX4_addTrain_60 : decode cX4_addTrain 60 = .ok (.if_icmp .ge 23, 3) := by decide +kernel
theorem dX4_addTrain_63 : decode cX4_addTrain 63 = .ok (.aload_n 0, 1) := by decide +kernel
theorem dX4_addTrain_64 : decode cX4_addTrain 64 = .ok (.getfield 46, 3) := by decide +kernel
theorem dX4_addTrain_67 : decode cX4_addTrain 67 = .ok (.iload 4, 2) := by decide +kernel
theorem dX4_addTrain_69 : decode cX4_addTrain 69 = .ok (.bipush 10, 2) := by decide +kernel
theorem dX4_addTrain_71 : decode cX4_addTrain 71 = .ok (.imul, 1) := by decide +kernel
theorem dX4_addTrain_72 : decode cX4_addTrain 72 = .ok (.iload 5, 2) := by decide +kernel
theorem dX4_addTrain_74 : decode cX4_addTrain 74 = .ok (.iadd, 1) := by decide +kernel
theorem dX4_addTrain_75 : decode cX4_addTrain 75 = .ok (.iconst 0, 1) := by decide +kernel
theorem dX4_addTrain_76 : decode cX4_addTrain 76 = .ok (.iastore, 1) := by decide +kernel
theorem dX4_addTrain_77 : decode cX4_addTrain 77 = .ok (.iinc 5 1, 3) := by decide +kernel
theorem dX4_addTrain_80 : decode cX4_addTrain 80 = .ok (.goto (-24), 3) := by decide +kernel
theorem dX4_addTrain_83 : decode cX4_addTrain 83 = .ok (.aload_n 0, 1) := by decide +kernel
theorem dX4_addTrain_84 : decode cX4_addTrain 84 = .ok (.getfield 28, 3) := by decide +kernel
theorem dX4_addTrain_87 : decode cX4_addTrain 87 = .ok (.iload_n 1, 1) := by decide +kernel
theorem dX4_addTrain_88 : decode cX4_addTrain 88 = .ok (.iload 4, 2) := by decide +kernel
theorem dX4_addTrain_90 : decode cX4_addTrain 90 = .ok (.iastore, 1) := by decide +kernel
theorem dX4_addTrain_91 : decode cX4_addTrain 91 = .ok (.aload_n 0, 1) := by decide +kernel
theorem dX4_addTrain_92 : decode cX4_addTrain 92 = .ok (.dup, 1) := by decide +kernel
theorem dX4_addTrain_93 : decode cX4_addTrain 93 = .ok (.getfield 62, 3) := by decide +kernel
theorem dX4_addTrain_96 : decode cX4_addTrain 96 = .ok (.iload_n 2, 1) := by decide +kernel
theorem dX4_addTrain_97 : decode cX4_addTrain 97 = .ok (.iadd, 1) := by decide +kernel
theorem dX4_addTrain_98 : decode cX4_addTrain 98 = .ok (.putfield 62, 3) := by decide +kernel
theorem dX4_addTrain_101 : decode cX4_addTrain 101 = .ok (.aload_n 0, 1) := by decide +kernel
theorem dX4_addTrain_102 : decode cX4_addTrain 102 = .ok (.iload 4, 2) := by decide +kernel
theorem dX4_addTrain_104 : decode cX4_addTrain 104 = .ok (.iconst 1, 1) := by decide +kernel
theorem dX4_addTrain_105 : decode cX4_addTrain 105 = .ok (.iadd, 1) := by decide +kernel
theorem dX4_addTrain_106 : decode cX4_addTrain 106 = .ok (.putfield 56, 3) := by decide +kernel
theorem dX4_addTrain_109 : decode cX4_addTrain 109 = .ok (.return_, 1) := by decide +kernel
theorem dX4_bends_0 : decode cX4_bends 0 = .ok (.aload_n 0, 1) := by decide +kernel
theorem dX4_bends_1 : decode cX4_bends 1 = .ok (.getfield 18, 3) := by decide +kernel
theorem dX4_bends_4 : decode cX4_bends 4 = .ok (.iload_n 1, 1) := by decide +kernel
theorem dX4_bends_5 : decode cX4_bends 5 = .ok (.iaload, 1) := by decide +kernel
theorem dX4_bends_6 : decode cX4_bends 6 = .ok (.ifCond .eq 7, 3) := by decide +kernel
theorem dX4_bends_9 : decode cX4_bends 9 = .ok (.iconst 1, 1) := by decide +kernel
theorem dX4_bends_10 : decode cX4_bends 10 = .ok (.goto 4, 3) := by decide +kernel
theorem dX4_bends_13 : decode cX4_bends 13 = .ok (.iconst 0, 1) := by decide +kernel
theorem dX4_bends_14 : decode cX4_bends 14 = .ok (.ireturn, 1) := by decide +kernel
theorem dX4_speedLimit_0 : decode cX4_speedLimit 0 = .ok (.aload_n 0, 1) := by decide +kernel
theorem dX4_speedLimit_1 : decode cX4_speedLimit 1 = .ok (.getfield 18, 3) := by decide +kernel
theorem dX4_speedLimit_4 : decode cX4_speedLimit 4 = .ok (.iload_n 1, 1) := by decide +kernel
theorem dX4_speedLimit_5 : decode cX4_speedLimit 5 = .ok (.iaload, 1) := by decide +kernel
theorem dX4_speedLimit_6 : decode cX4_speedLimit 6 = .ok (.ifCond .ne 7, 3) := by decide +kernel
theorem dX4_speedLimit_9 : decode cX4_speedLimit 9 = .ok (.iconst 5, 1) := by decide +kernel
theorem dX4_speedLimit_10 : decode cX4_speedLimit 10 = .ok (.goto 9, 3) := by decide +kernel
theorem dX4_speedLimit_13 : decode cX4_speedLimit 13 = .ok (.aload_n 0, 1) := by decide +kernel
theorem dX4_speedLimit_14 : decode cX4_speedLimit 14 = .ok (.getfield 18, 3) := by decide +kernel
theorem dX4_speedLimit_17 : decode cX4_speedLimit 17 = .ok (.iload_n 1, 1) := by decide +kernel
theorem dX4_speedLimit_18 : decode cX4_speedLimit 18 = .ok (.iaload, 1) := by decide +kernel
theorem dX4_speedLimit_19 : decode cX4_speedLimit 19 = .ok (.ireturn, 1) := by decide +kernel
theorem dX4_speedNow_0 : decode cX4_speedNow 0 = .ok (.aload_n 0, 1) := by decide +kernel
theorem dX4_speedNow_1 : decode cX4_speedNow 1 = .ok (.getfield 40, 3) := by decide +kernel
theorem dX4_speedNow_4 : decode cX4_speedNow 4 = .ok (.iload_n 1, 1) := by decide +kernel
theorem dX4_speedNow_5 : decode cX4_speedNow 5 = .ok (.iaload, 1) := by decide +kernel
theorem dX4_speedNow_6 : decode cX4_speedNow 6 = .ok (.aload_n 0, 1) := by decide +kernel
theorem dX4_speedNow_7 : decode cX4_speedNow 7 = .ok (.aload_n 0, 1) := by decide +kernel
theorem dX4_speedNow_8 : decode cX4_speedNow 8 = .ok (.getfield 31, 3) := by decide +kernel
theorem dX4_speedNow_11 : decode cX4_speedNow 11 = .ok (.iload_n 1, 1) := by decide +kernel
theorem dX4_speedNow_12 : decode cX4_speedNow 12 = .ok (.iaload, 1) := by decide +kernel
theorem dX4_speedNow_13 : decode cX4_speedNow 13 = .ok (.invokevirtual 71, 3) := by decide +kernel
theorem dX4_speedNow_16 : decode cX4_speedNow 16 = .ok (.invokestatic 75, 3) := by decide +kernel
theorem dX4_speedNow_19 : decode cX4_speedNow 19 = .ok (.ireturn, 1) := by decide +kernel
theorem dX4_passagesOf_0 : decode cX4_passagesOf 0 = .ok (.aload_n 0, 1) := by decide +kernel
theorem dX4_passagesOf_1 : decode cX4_passagesOf 1 = .ok (.getfield 46, 3) := by decide +kernel
theorem dX4_passagesOf_4 : decode cX4_passagesOf 4 = .ok (.iload_n 1, 1) := by decide +kernel
theorem dX4_passagesOf_5 : decode cX4_passagesOf 5 = .ok (.bipush 10, 2) := by decide +kernel
theorem dX4_passagesOf_7 : decode cX4_passagesOf 7 = .ok (.imul, 1) := by decide +kernel
theorem dX4_passagesOf_8 : decode cX4_passagesOf 8 = .ok (.iload_n 2, 1) := by decide +kernel
theorem dX4_passagesOf_9 : decode cX4_passagesOf 9 = .ok (.iadd, 1) := by decide +kernel
theorem dX4_passagesOf_10 : decode cX4_passagesOf 10 = .ok (.iaload, 1) := by decide +kernel
theorem dX4_passagesOf_11 : decode cX4_passagesOf 11 = .ok (.ireturn, 1) := by decide +kernel
theorem dX4_nextBlock_0 : decode cX4_nextBlock 0 = .ok (.iload_n 1, 1) := by decide +kernel
theorem dX4_nextBlock_1 : decode cX4_nextBlock 1 = .ok (.iconst 1, 1) := by decide +kernel
theorem dX4_nextBlock_2 : decode cX4_nextBlock 2 = .ok (.iadd, 1) := by decide +kernel
theorem dX4_nextBlock_3 : decode cX4_nextBlock 3 = .ok (.aload_n 0, 1) := by decide +kernel
theorem dX4_nextBlock_4 : decode cX4_nextBlock 4 = .ok (.getfield 53, 3) := by decide +kernel
theorem dX4_nextBlock_7 : decode cX4_nextBlock 7 = .ok (.if_icmp .ge 9, 3) := by decide +kernel
theorem dX4_nextBlock_10 : decode cX4_nextBlock 10 = .ok (.iload_n 1, 1) := by decide +kernel
theorem dX4_nextBlock_11 : decode cX4_nextBlock 11 = .ok (.iconst 1, 1) := by decide +kernel
theorem dX4_nextBlock_12 : decode cX4_nextBlock 12 = .ok (.iadd, 1) := by decide +kernel
theorem dX4_nextBlock_13 : decode cX4_nextBlock 13 = .ok (.goto 4, 3) := by decide +kernel
theorem dX4_nextBlock_16 : decode cX4_nextBlock 16 = .ok (.iconst 0, 1) := by decide +kernel
theorem dX4_nextBlock_17 : decode cX4_nextBlock 17 = .ok (.ireturn, 1) := by decide +kernel
theorem dX4_occupied_0 : decode cX4_occupied 0 = .ok (.aload_n 0, 1) := by decide +kernel
theorem dX4_occupied_1 : decode cX4_occupied 1 = .ok (.getfield 28, 3) := by decide +kernel
theorem dX4_occupied_4 : decode cX4_occupied 4 = .ok (.iload_n 1, 1) := by decide +kernel
theorem dX4_occupied_5 : decode cX4_occupied 5 = .ok (.iaload, 1) := by decide +kernel
theorem dX4_occupied_6 : decode cX4_occupied 6 = .ok (.iconst (-1), 1) := by decide +kernel
theorem dX4_occupied_7 : decode cX4_occupied 7 = .ok (.if_icmp .ne 12, 3) := by decide +kernel
theorem dX4_occupied_10 : decode cX4_occupied 10 = .ok (.aload_n 0, 1) := by decide +kernel
theorem dX4_occupied_11 : decode cX4_occupied 11 = .ok (.getfield 25, 3) := by decide +kernel
theorem dX4_occupied_14 : decode cX4_occupied 14 = .ok (.iload_n 1, 1) := by decide +kernel
theorem dX4_occupied_15 : decode cX4_occupied 15 = .ok (.iaload, 1) := by decide +kernel
theorem dX4_occupied_16 : decode cX4_occupied 16 = .ok (.ifCond .le 7, 3) := by decide +kernel
theorem dX4_occupied_19 : decode cX4_occupied 19 = .ok (.iconst 1, 1) := by decide +kernel
theorem dX4_occupied_20 : decode cX4_occupied 20 = .ok (.goto 4, 3) := by decide +kernel
theorem dX4_occupied_23 : decode cX4_occupied 23 = .ok (.iconst 0, 1) := by decide +kernel
theorem dX4_occupied_24 : decode cX4_occupied 24 = .ok (.ireturn, 1) := by decide +kernel
theorem dX4_opensTo_0 : decode cX4_opensTo 0 = .ok (.aload_n 0, 1) := by decide +kernel
theorem dX4_opensTo_1 : decode cX4_opensTo 1 = .ok (.getfield 21, 3) := by decide +kernel
theorem dX4_opensTo_4 : decode cX4_opensTo 4 = .ok (.iload_n 1, 1) := by decide +kernel
theorem dX4_opensTo_5 : decode cX4_opensTo 5 = .ok (.baload, 1) := by decide +kernel
theorem dX4_opensTo_6 : decode cX4_opensTo 6 = .ok (.ifCond .eq 15, 3) := by decide +kernel
theorem dX4_opensTo_9 : decode cX4_opensTo 9 = .ok (.aload_n 0, 1) := by decide +kernel
theorem dX4_opensTo_10 : decode cX4_opensTo 10 = .ok (.iload_n 1, 1) := by decide +kernel
theorem dX4_opensTo_11 : decode cX4_opensTo 11 = .ok (.invokevirtual 81, 3) := by decide +kernel
theorem dX4_opensTo_14 : decode cX4_opensTo 14 = .ok (.ifCond .ne 7, 3) := by decide +kernel
theorem dX4_opensTo_17 : decode cX4_opensTo 17 = .ok (.iconst 1, 1) := by decide +kernel
theorem dX4_opensTo_18 : decode cX4_opensTo 18 = .ok (.goto 4, 3) := by decide +kernel
theorem dX4_opensTo_21 : decode cX4_opensTo 21 = .ok (.iconst 0, 1) := by decide +kernel
theorem dX4_opensTo_22 : decode cX4_opensTo 22 = .ok (.ireturn, 1) := by decide +kernel
theorem dX4_leverObstacle_0 : decode cX4_leverObstacle 0 = .ok (.aload_n 0, 1) := by decide +kernel
theorem dX4_leverObstacle_1 : decode cX4_leverObstacle 1 = .ok (.getfield 28, 3) := by decide +kernel
theorem dX4_leverObstacle_4 : decode cX4_leverObstacle 4 = .ok (.iload_n 1, 1) := by decide +kernel
theorem dX4_leverObstacle_5 : decode cX4_leverObstacle 5 = .ok (.iaload, 1) := by decide +kernel
theorem dX4_leverObstacle_6 : decode cX4_leverObstacle 6 = .ok (.iconst (-1), 1) := by decide +kernel
theorem dX4_leverObstacle_7 : decode cX4_leverObstacle 7 = .ok (.if_icmp .eq 5, 3) := by decide +kernel
theorem dX4_leverObstacle_10 : decode cX4_leverObstacle 10 = .ok (.iconst 1, 1) := by decide +kernel
theorem dX4_leverObstacle_11 : decode cX4_leverObstacle 11 = .ok (.ireturn, 1) := by decide +kernel
theorem dX4_leverObstacle_12 : decode cX4_leverObstacle 12 = .ok (.aload_n 0, 1) := by decide +kernel
theorem dX4_leverObstacle_13 : decode cX4_leverObstacle 13 = .ok (.getfield 25, 3) := by decide +kernel
theorem dX4_leverObstacle_16 : decode cX4_leverObstacle 16 = .ok (.iload_n 1, 1) := by decide +kernel
theorem dX4_leverObstacle_17 : decode cX4_leverObstacle 17 = .ok (.iaload, 1) := by decide +kernel
theorem dX4_leverObstacle_18 : decode cX4_leverObstacle 18 = .ok (.ifCond .le 5, 3) := by decide +kernel
theorem dX4_leverObstacle_21 : decode cX4_leverObstacle 21 = .ok (.iconst 2, 1) := by decide +kernel
theorem dX4_leverObstacle_22 : decode cX4_leverObstacle 22 = .ok (.ireturn, 1) := by decide +kernel
theorem dX4_leverObstacle_23 : decode cX4_leverObstacle 23 = .ok (.aload_n 0, 1) := by decide +kernel
theorem dX4_leverObstacle_24 : decode cX4_leverObstacle 24 = .ok (.getfield 21, 3) := by decide +kernel
theorem dX4_leverObstacle_27 : decode cX4_leverObstacle 27 = .ok (.iload_n 1, 1) := by decide +kernel
theorem dX4_leverObstacle_28 : decode cX4_leverObstacle 28 = .ok (.baload, 1) := by decide +kernel
theorem dX4_leverObstacle_29 : decode cX4_leverObstacle 29 = .ok (.ifCond .eq 5, 3) := by decide +kernel
theorem dX4_leverObstacle_32 : decode cX4_leverObstacle 32 = .ok (.iconst 3, 1) := by decide +kernel
theorem dX4_leverObstacle_33 : decode cX4_leverObstacle 33 = .ok (.ireturn, 1) := by decide +kernel
theorem dX4_leverObstacle_34 : decode cX4_leverObstacle 34 = .ok (.aload_n 0, 1) := by decide +kernel
theorem dX4_leverObstacle_35 : decode cX4_leverObstacle 35 = .ok (.iload_n 1, 1) := by decide +kernel
theorem dX4_leverObstacle_36 : decode cX4_leverObstacle 36 = .ok (.invokevirtual 85, 3) := by decide +kernel
theorem dX4_leverObstacle_39 : decode cX4_leverObstacle 39 = .ok (.ifCond .eq 19, 3) := by decide +kernel
theorem dX4_leverObstacle_42 : decode cX4_leverObstacle 42 = .ok (.aload_n 0, 1) := by decide +kernel
theorem dX4_leverObstacle_43 : decode cX4_leverObstacle 43 = .ok (.aload_n 0, 1) := by decide +kernel
theorem dX4_leverObstacle_44 : decode cX4_leverObstacle 44 = .ok (.iload_n 1, 1) := by decide +kernel
theorem dX4_leverObstacle_45 : decode cX4_leverObstacle 45 = .ok (.invokevirtual 88, 3) := by decide +kernel
theorem dX4_leverObstacle_48 : decode cX4_leverObstacle 48 = .ok (.invokevirtual 81, 3) := by decide +kernel
theorem dX4_leverObstacle_51 : decode cX4_leverObstacle 51 = .ok (.ifCond .eq 7, 3) := by decide +kernel
theorem dX4_leverObstacle_54 : decode cX4_leverObstacle 54 = .ok (.iconst 4, 1) := by decide +kernel
theorem dX4_leverObstacle_55 : decode cX4_leverObstacle 55 = .ok (.goto 4, 3) := by decide +kernel
theorem dX4_leverObstacle_58 : decode cX4_leverObstacle 58 = .ok (.iconst 0, 1) := by decide +kernel
theorem dX4_leverObstacle_59 : decode cX4_leverObstacle 59 = .ok (.ireturn, 1) := by decide +kernel
theorem dX4_clearSignals_0 : decode cX4_clearSignals 0 = .ok (.iconst 0, 1) := by decide +kernel
theorem dX4_clearSignals_1 : decode cX4_clearSignals 1 = .ok (.istore_n 1, 1) := by decide +kernel
theorem dX4_clearSignals_2 : decode cX4_clearSignals 2 = .ok (.iconst 0, 1) := by decide +kernel
theorem dX4_clearSignals_3 : decode cX4_clearSignals 3 = .ok (.istore_n 2, 1) := by decide +kernel
theorem dX4_clearSignals_4 : decode cX4_clearSignals 4 = .ok (.iload_n 2, 1) := by decide +kernel
theorem dX4_clearSignals_5 : decode cX4_clearSignals 5 = .ok (.aload_n 0, 1) := by decide +kernel
theorem dX4_clearSignals_6 : decode cX4_clearSignals 6 = .ok (.getfield 53, 3) := by decide +kernel
theorem dX4_clearSignals_9 : decode cX4_clearSignals 9 = .ok (.if_icmp .ge 21, 3) := by decide +kernel
theorem dX4_clearSignals_12 : decode cX4_clearSignals 12 = .ok (.aload_n 0, 1) := by decide +kernel
theorem dX4_clearSignals_13 : decode cX4_clearSignals 13 = .ok (.getfield 21, 3) := by decide +kernel
theorem dX4_clearSignals_16 : decode cX4_clearSignals 16 = .ok (.iload_n 2, 1) := by decide +kernel
theorem dX4_clearSignals_17 : decode cX4_clearSignals 17 = .ok (.baload, 1) := by decide +kernel
theorem dX4_clearSignals_18 : decode cX4_clearSignals 18 = .ok (.ifCond .eq 6, 3) := by decide +kernel
theorem dX4_clearSignals_21 : decode cX4_clearSignals 21 = .ok (.iinc 1 1, 3) := by decide +kernel
theorem dX4_clearSignals_24 : decode cX4_clearSignals 24 = .ok (.iinc 2 1, 3) := by decide +kernel
theorem dX4_clearSignals_27 : decode cX4_clearSignals 27 = .ok (.goto (-23), 3) := by decide +kernel
theorem dX4_clearSignals_30 : decode cX4_clearSignals 30 = .ok (.iload_n 1, 1) := by decide +kernel
theorem dX4_clearSignals_31 : decode cX4_clearSignals 31 = .ok (.ireturn, 1) := by decide +kernel
theorem dX4_sumOfWagons_0 : decode cX4_sumOfWagons 0 = .ok (.iconst 0, 1) := by decide +kernel
theorem dX4_sumOfWagons_1 : decode cX4_sumOfWagons 1 = .ok (.istore_n 1, 1) := by decide +kernel
theorem dX4_sumOfWagons_2 : decode cX4_sumOfWagons 2 = .ok (.iconst 0, 1) := by decide +kernel
theorem dX4_sumOfWagons_3 : decode cX4_sumOfWagons 3 = .ok (.istore_n 2, 1) := by decide +kernel
theorem dX4_sumOfWagons_4 : decode cX4_sumOfWagons 4 = .ok (.iload_n 2, 1) := by decide +kernel
theorem dX4_sumOfWagons_5 : decode cX4_sumOfWagons 5 = .ok (.aload_n 0, 1) := by decide +kernel
theorem dX4_sumOfWagons_6 : decode cX4_sumOfWagons 6 = .ok (.getfield 56, 3) := by decide +kernel
theorem dX4_sumOfWagons_9 : decode cX4_sumOfWagons 9 = .ok (.if_icmp .ge 18, 3) := by decide +kernel
theorem dX4_sumOfWagons_12 : decode cX4_sumOfWagons 12 = .ok (.iload_n 1, 1) := by decide +kernel
theorem dX4_sumOfWagons_13 : decode cX4_sumOfWagons 13 = .ok (.aload_n 0, 1) := by decide +kernel
theorem dX4_sumOfWagons_14 : decode cX4_sumOfWagons 14 = .ok (.getfield 37, 3) := by decide +kernel
theorem dX4_sumOfWagons_17 : decode cX4_sumOfWagons 17 = .ok (.iload_n 2, 1) := by decide +kernel
theorem dX4_sumOfWagons_18 : decode cX4_sumOfWagons 18 = .ok (.iaload, 1) := by decide +kernel
theorem dX4_sumOfWagons_19 : decode cX4_sumOfWagons 19 = .ok (.iadd, 1) := by decide +kernel
theorem dX4_sumOfWagons_20 : decode cX4_sumOfWagons 20 = .ok (.istore_n 1, 1) := by decide +kernel
theorem dX4_sumOfWagons_21 : decode cX4_sumOfWagons 21 = .ok (.iinc 2 1, 3) := by decide +kernel
theorem dX4_sumOfWagons_24 : decode cX4_sumOfWagons 24 = .ok (.goto (-20), 3) := by decide +kernel
theorem dX4_sumOfWagons_27 : decode cX4_sumOfWagons 27 = .ok (.iload_n 1, 1) := by decide +kernel
theorem dX4_sumOfWagons_28 : decode cX4_sumOfWagons 28 = .ok (.ireturn, 1) := by decide +kernel
theorem dX4_sumOfLost_0 : decode cX4_sumOfLost 0 = .ok (.iconst 0, 1) := by decide +kernel
theorem dX4_sumOfLost_1 : decode cX4_sumOfLost 1 = .ok (.istore_n 1, 1) := by decide +kernel
theorem dX4_sumOfLost_2 : decode cX4_sumOfLost 2 = .ok (.iconst 0, 1) := by decide +kernel
theorem dX4_sumOfLost_3 : decode cX4_sumOfLost 3 = .ok (.istore_n 2, 1) := by decide +kernel
theorem dX4_sumOfLost_4 : decode cX4_sumOfLost 4 = .ok (.iload_n 2, 1) := by decide +kernel
theorem dX4_sumOfLost_5 : decode cX4_sumOfLost 5 = .ok (.aload_n 0, 1) := by decide +kernel
theorem dX4_sumOfLost_6 : decode cX4_sumOfLost 6 = .ok (.getfield 53, 3) := by decide +kernel
theorem dX4_sumOfLost_9 : decode cX4_sumOfLost 9 = .ok (.if_icmp .ge 18, 3) := by decide +kernel
theorem dX4_sumOfLost_12 : decode cX4_sumOfLost 12 = .ok (.iload_n 1, 1) := by decide +kernel
theorem dX4_sumOfLost_13 : decode cX4_sumOfLost 13 = .ok (.aload_n 0, 1) := by decide +kernel
theorem dX4_sumOfLost_14 : decode cX4_sumOfLost 14 = .ok (.getfield 25, 3) := by decide +kernel
theorem dX4_sumOfLost_17 : decode cX4_sumOfLost 17 = .ok (.iload_n 2, 1) := by decide +kernel
theorem dX4_sumOfLost_18 : decode cX4_sumOfLost 18 = .ok (.iaload, 1) := by decide +kernel
theorem dX4_sumOfLost_19 : decode cX4_sumOfLost 19 = .ok (.iadd, 1) := by decide +kernel
theorem dX4_sumOfLost_20 : decode cX4_sumOfLost 20 = .ok (.istore_n 1, 1) := by decide +kernel
theorem dX4_sumOfLost_21 : decode cX4_sumOfLost 21 = .ok (.iinc 2 1, 3) := by decide +kernel
theorem dX4_sumOfLost_24 : decode cX4_sumOfLost 24 = .ok (.goto (-20), 3) := by decide +kernel
theorem dX4_sumOfLost_27 : decode cX4_sumOfLost 27 = .ok (.iload_n 1, 1) := by decide +kernel
theorem dX4_sumOfLost_28 : decode cX4_sumOfLost 28 = .ok (.ireturn, 1) := by decide +kernel
theorem dX4_pass_0 : decode cX4_pass 0 = .ok (.iconst 0, 1) := by decide +kernel
theorem dX4_pass_1 : decode cX4_pass 1 = .ok (.istore_n 2, 1) := by decide +kernel
theorem dX4_pass_2 : decode cX4_pass 2 = .ok (.iconst 0, 1) := by decide +kernel
theorem dX4_pass_3 : decode cX4_pass 3 = .ok (.istore_n 3, 1) := by decide +kernel
theorem dX4_pass_4 : decode cX4_pass 4 = .ok (.iload_n 3, 1) := by decide +kernel
theorem dX4_pass_5 : decode cX4_pass 5 = .ok (.iload_n 1, 1) := by decide +kernel
theorem dX4_pass_6 : decode cX4_pass 6 = .ok (.if_icmp .ge 49, 3) := by decide +kernel
theorem dX4_pass_9 : decode cX4_pass 9 = .ok (.aload_n 0, 1) := by decide +kernel
theorem dX4_pass_10 : decode cX4_pass 10 = .ok (.dup, 1) := by decide +kernel
theorem dX4_pass_11 : decode cX4_pass 11 = .ok (.getfield 49, 3) := by decide +kernel
theorem dX4_pass_14 : decode cX4_pass 14 = .ok (.iconst 1, 1) := by decide +kernel
theorem dX4_pass_15 : decode cX4_pass 15 = .ok (.iadd, 1) := by decide +kernel
theorem dX4_pass_16 : decode cX4_pass 16 = .ok (.putfield 49, 3) := by decide +kernel
theorem dX4_pass_19 : decode cX4_pass 19 = .ok (.iconst 0, 1) := by decide +kernel
theorem dX4_pass_20 : decode cX4_pass 20 = .ok (.istore 4, 2) := by decide +kernel
theorem dX4_pass_22 : decode cX4_pass 22 = .ok (.iload 4, 2) := by decide +kernel
theorem dX4_pass_24 : decode cX4_pass 24 = .ok (.aload_n 0, 1) := by decide +kernel
theorem dX4_pass_25 : decode cX4_pass 25 = .ok (.getfield 56, 3) := by decide +kernel
theorem dX4_pass_28 : decode cX4_pass 28 = .ok (.if_icmp .ge 21, 3) := by decide +kernel
theorem dX4_pass_31 : decode cX4_pass 31 = .ok (.aload_n 0, 1) := by decide +kernel
theorem dX4_pass_32 : decode cX4_pass 32 = .ok (.iload 4, 2) := by decide +kernel
theorem dX4_pass_34 : decode cX4_pass 34 = .ok (.invokevirtual 91, 3) := by decide +kernel
theorem dX4_pass_37 : decode cX4_pass 37 = .ok (.ifCond .eq 6, 3) := by decide +kernel
theorem dX4_pass_40 : decode cX4_pass 40 = .ok (.iinc 2 1, 3) := by decide +kernel
theorem dX4_pass_43 : decode cX4_pass 43 = .ok (.iinc 4 1, 3) := by decide +kernel
theorem dX4_pass_46 : decode cX4_pass 46 = .ok (.goto (-24), 3) := by decide +kernel
theorem dX4_pass_49 : decode cX4_pass 49 = .ok (.iinc 3 1, 3) := by decide +kernel
theorem dX4_pass_52 : decode cX4_pass 52 = .ok (.goto (-48), 3) := by decide +kernel
theorem dX4_pass_55 : decode cX4_pass 55 = .ok (.iload_n 2, 1) := by decide +kernel
theorem dX4_pass_56 : decode cX4_pass 56 = .ok (.ireturn, 1) := by decide +kernel
theorem dX4_move_0 : decode cX4_move 0 = .ok (.aload_n 0, 1) := by decide +kernel
theorem dX4_move_1 : decode cX4_move 1 = .ok (.getfield 31, 3) := by decide +kernel
theorem dX4_move_4 : decode cX4_move 4 = .ok (.iload_n 1, 1) := by decide +kernel
theorem dX4_move_5 : decode cX4_move 5 = .ok (.iaload, 1) := by decide +kernel
theorem dX4_move_6 : decode cX4_move 6 = .ok (.istore_n 2, 1) := by decide +kernel
theorem dX4_move_7 : decode cX4_move 7 = .ok (.aload_n 0, 1) := by decide +kernel
theorem dX4_move_8 : decode cX4_move 8 = .ok (.iload_n 1, 1) := by decide +kernel
theorem dX4_move_9 : decode cX4_move 9 = .ok (.invokevirtual 94, 3) := by decide +kernel
theorem dX4_move_12 : decode cX4_move 12 = .ok (.istore_n 3, 1) := by decide +kernel
theorem dX4_move_13 : decode cX4_move 13 = .ok (.aload_n 0, 1) := by decide +kernel
theorem dX4_move_14 : decode cX4_move 14 = .ok (.getfield 34, 3) := by decide +kernel
theorem dX4_move_17 : decode cX4_move 17 = .ok (.iload_n 1, 1) := by decide +kernel
theorem dX4_move_18 : decode cX4_move 18 = .ok (.aload_n 0, 1) := by decide +kernel
theorem dX4_move_19 : decode cX4_move 19 = .ok (.getfield 34, 3) := by decide +kernel
theorem dX4_move_22 : decode cX4_move 22 = .ok (.iload_n 1, 1) := by decide +kernel
theorem dX4_move_23 : decode cX4_move 23 = .ok (.iaload, 1) := by decide +kernel
theorem dX4_move_24 : decode cX4_move 24 = .ok (.iload_n 3, 1) := by decide +kernel
theorem dX4_move_25 : decode cX4_move 25 = .ok (.iadd, 1) := by decide +kernel
theorem dX4_move_26 : decode cX4_move 26 = .ok (.aload_n 0, 1) := by decide +kernel
theorem dX4_move_27 : decode cX4_move 27 = .ok (.getfield 9, 3) := by decide +kernel
theorem dX4_move_30 : decode cX4_move 30 = .ok (.iload_n 2, 1) := by decide +kernel
theorem dX4_move_31 : decode cX4_move 31 = .ok (.iaload, 1) := by decide +kernel
theorem dX4_move_32 : decode cX4_move 32 = .ok (.invokestatic 75, 3) := by decide +kernel
theorem dX4_move_35 : decode cX4_move 35 = .ok (.iastore, 1) := by decide +kernel
theorem dX4_move_36 : decode cX4_move 36 = .ok (.aload_n 0, 1) := by decide +kernel
theorem dX4_move_37 : decode cX4_move 37 = .ok (.getfield 34, 3) := by decide +kernel
theorem dX4_move_40 : decode cX4_move 40 = .ok (.iload_n 1, 1) := by decide +kernel
theorem dX4_move_41 : decode cX4_move 41 = .ok (.iaload, 1) := by decide +kernel
theorem dX4_move_42 : decode cX4_move 42 = .ok (.aload_n 0, 1) := by decide +kernel
theorem dX4_move_43 : decode cX4_move 43 = .ok (.getfield 9, 3) := by decide +kernel
theorem dX4_move_46 : decode cX4_move 46 = .ok (.iload_n 2, 1) := by decide +kernel
theorem dX4_move_47 : decode cX4_move 47 = .ok (.iaload, 1) := by decide +kernel
theorem dX4_move_48 : decode cX4_move 48 = .ok (.if_icmp .ge 5, 3) := by decide +kernel
theorem dX4_move_51 : decode cX4_move 51 = .ok (.iconst 0, 1) := by decide +kernel
theorem dX4_move_52 : decode cX4_move 52 = .ok (.ireturn, 1) := by decide +kernel
theorem dX4_move_53 : decode cX4_move 53 = .ok (.aload_n 0, 1) := by decide +kernel
theorem dX4_move_54 : decode cX4_move 54 = .ok (.iload_n 2, 1) := by decide +kernel
theorem dX4_move_55 : decode cX4_move 55 = .ok (.invokevirtual 88, 3) := by decide +kernel
theorem dX4_move_58 : decode cX4_move 58 = .ok (.istore 4, 2) := by decide +kernel
theorem dX4_move_60 : decode cX4_move 60 = .ok (.aload_n 0, 1) := by decide +kernel
theorem dX4_move_61 : decode cX4_move 61 = .ok (.iload 4, 2) := by decide +kernel
theorem dX4_move_63 : decode cX4_move 63 = .ok (.invokevirtual 97, 3) := by decide +kernel
theorem dX4_move_66 : decode cX4_move 66 = .ok (.ifCond .ne 15, 3) := by decide +kernel
theorem dX4_move_69 : decode cX4_move 69 = .ok (.aload_n 0, 1) := by decide +kernel
theorem dX4_move_70 : decode cX4_move 70 = .ok (.getfield 43, 3) := by decide +kernel
theorem dX4_move_73 : decode cX4_move 73 = .ok (.iload_n 1, 1) := by decide +kernel
theorem dX4_move_74 : decode cX4_move 74 = .ok (.dup2, 1) := by decide +kernel
theorem dX4_move_75 : decode cX4_move 75 = .ok (.iaload, 1) := by decide +kernel
theorem dX4_move_76 : decode cX4_move 76 = .ok (.iconst 1, 1) := by decide +kernel
theorem dX4_move_77 : decode cX4_move 77 = .ok (.iadd, 1) := by decide +kernel
theorem dX4_move_78 : decode cX4_move 78 = .ok (.iastore, 1) := by decide +kernel
theorem dX4_move_79 : decode cX4_move 79 = .ok (.iconst 0, 1) := by decide +kernel
theorem dX4_move_80 : decode cX4_move 80 = .ok (.ireturn, 1) := by decide +kernel
theorem dX4_move_81 : decode cX4_move 81 = .ok (.aload_n 0, 1) := by decide +kernel
theorem dX4_move_82 : decode cX4_move 82 = .ok (.iload_n 1, 1) := by decide +kernel
theorem dX4_move_83 : decode cX4_move 83 = .ok (.iload_n 2, 1) := by decide +kernel
theorem dX4_move_84 : decode cX4_move 84 = .ok (.iload_n 3, 1) := by decide +kernel
theorem dX4_move_85 : decode cX4_move 85 = .ok (.invokevirtual 100, 3) := by decide +kernel
theorem dX4_move_88 : decode cX4_move 88 = .ok (.aload_n 0, 1) := by decide +kernel
theorem dX4_move_89 : decode cX4_move 89 = .ok (.getfield 31, 3) := by decide +kernel
theorem dX4_move_92 : decode cX4_move 92 = .ok (.iload_n 1, 1) := by decide +kernel
theorem dX4_move_93 : decode cX4_move 93 = .ok (.iload 4, 2) := by decide +kernel
theorem dX4_move_95 : decode cX4_move 95 = .ok (.iastore, 1) := by decide +kernel
theorem dX4_move_96 : decode cX4_move 96 = .ok (.aload_n 0, 1) := by decide +kernel
theorem dX4_move_97 : decode cX4_move 97 = .ok (.getfield 34, 3) := by decide +kernel
theorem dX4_move_100 : decode cX4_move 100 = .ok (.iload_n 1, 1) := by decide +kernel
theorem dX4_move_101 : decode cX4_move 101 = .ok (.iconst 0, 1) := by decide +kernel
theorem dX4_move_102 : decode cX4_move 102 = .ok (.iastore, 1) := by decide +kernel
theorem dX4_move_103 : decode cX4_move 103 = .ok (.aload_n 0, 1) := by decide +kernel
theorem dX4_move_104 : decode cX4_move 104 = .ok (.getfield 28, 3) := by decide +kernel
theorem dX4_move_107 : decode cX4_move 107 = .ok (.iload 4, 2) := by decide +kernel
theorem dX4_move_109 : decode cX4_move 109 = .ok (.iload_n 1, 1) := by decide +kernel
theorem dX4_move_110 : decode cX4_move 110 = .ok (.iastore, 1) := by decide +kernel
theorem dX4_move_111 : decode cX4_move 111 = .ok (.aload_n 0, 1) := by decide +kernel
theorem dX4_move_112 : decode cX4_move 112 = .ok (.getfield 21, 3) := by decide +kernel
theorem dX4_move_115 : decode cX4_move 115 = .ok (.iload 4, 2) := by decide +kernel
theorem dX4_move_117 : decode cX4_move 117 = .ok (.iconst 0, 1) := by decide +kernel
theorem dX4_move_118 : decode cX4_move 118 = .ok (.bastore, 1) := by decide +kernel
theorem dX4_move_119 : decode cX4_move 119 = .ok (.iconst 1, 1) := by decide +kernel
theorem dX4_move_120 : decode cX4_move 120 = .ok (.ireturn, 1) := by decide +kernel
theorem dX4_leave_0 : decode cX4_leave 0 = .ok (.aload_n 0, 1) := by decide +kernel
theorem dX4_leave_1 : decode cX4_leave 1 = .ok (.getfield 15, 3) := by decide +kernel
theorem dX4_leave_4 : decode cX4_leave 4 = .ok (.iload_n 2, 1) := by decide +kernel
theorem dX4_leave_5 : decode cX4_leave 5 = .ok (.iaload, 1) := by decide +kernel
theorem dX4_leave_6 : decode cX4_leave 6 = .ok (.bipush 7, 2) := by decide +kernel
theorem dX4_leave_8 : decode cX4_leave 8 = .ok (.if_icmp .lt 38, 3) := by decide +kernel
theorem dX4_leave_11 : decode cX4_leave 11 = .ok (.iload_n 3, 1) := by decide +kernel
theorem dX4_leave_12 : decode cX4_leave 12 = .ok (.iconst 3, 1) := by decide +kernel
theorem dX4_leave_13 : decode cX4_leave 13 = .ok (.if_icmp .lt 33, 3) := by decide +kernel
theorem dX4_leave_16 : decode cX4_leave 16 = .ok (.aload_n 0, 1) := by decide +kernel
theorem dX4_leave_17 : decode cX4_leave 17 = .ok (.getfield 37, 3) := by decide +kernel
theorem dX4_leave_20 : decode cX4_leave 20 = .ok (.iload_n 1, 1) := by decide +kernel
theorem dX4_leave_21 : decode cX4_leave 21 = .ok (.iaload, 1) := by decide +kernel
theorem dX4_leave_22 : decode cX4_leave 22 = .ok (.iconst 1, 1) := by decide +kernel
theorem dX4_leave_23 : decode cX4_leave 23 = .ok (.if_icmp .le 23, 3) := by decide +kernel
theorem dX4_leave_26 : decode cX4_leave 26 = .ok (.aload_n 0, 1) := by decide +kernel
theorem dX4_leave_27 : decode cX4_leave 27 = .ok (.getfield 37, 3) := by decide +kernel
theorem dX4_leave_30 : decode cX4_leave 30 = .ok (.iload_n 1, 1) := by decide +kernel
theorem dX4_leave_31 : decode cX4_leave 31 = .ok (.dup2, 1) := by decide +kernel
theorem dX4_leave_32 : decode cX4_leave 32 = .ok (.iaload, 1) := by decide +kernel
theorem dX4_leave_33 : decode cX4_leave 33 = .ok (.iconst 1, 1) := by decide +kernel
theorem dX4_leave_34 : decode cX4_leave 34 = .ok (.isub, 1) := by decide +kernel
theorem dX4_leave_35 : decode cX4_leave 35 = .ok (.iastore, 1) := by decide +kernel
theorem dX4_leave_36 : decode cX4_leave 36 = .ok (.aload_n 0, 1) := by decide +kernel
theorem dX4_leave_37 : decode cX4_leave 37 = .ok (.getfield 25, 3) := by decide +kernel
theorem dX4_leave_40 : decode cX4_leave 40 = .ok (.iload_n 2, 1) := by decide +kernel
theorem dX4_leave_41 : decode cX4_leave 41 = .ok (.dup2, 1) := by decide +kernel
theorem dX4_leave_42 : decode cX4_leave 42 = .ok (.iaload, 1) := by decide +kernel
theorem dX4_leave_43 : decode cX4_leave 43 = .ok (.iconst 1, 1) := by decide +kernel
theorem dX4_leave_44 : decode cX4_leave 44 = .ok (.iadd, 1) := by decide +kernel
theorem dX4_leave_45 : decode cX4_leave 45 = .ok (.iastore, 1) := by decide +kernel
theorem dX4_leave_46 : decode cX4_leave 46 = .ok (.aload_n 0, 1) := by decide +kernel
theorem dX4_leave_47 : decode cX4_leave 47 = .ok (.getfield 15, 3) := by decide +kernel
theorem dX4_leave_50 : decode cX4_leave 50 = .ok (.iload_n 2, 1) := by decide +kernel
theorem dX4_leave_51 : decode cX4_leave 51 = .ok (.aload_n 0, 1) := by decide +kernel
theorem dX4_leave_52 : decode cX4_leave 52 = .ok (.getfield 15, 3) := by decide +kernel
theorem dX4_leave_55 : decode cX4_leave 55 = .ok (.iload_n 2, 1) := by decide +kernel
theorem dX4_leave_56 : decode cX4_leave 56 = .ok (.iaload, 1) := by decide +kernel
theorem dX4_leave_57 : decode cX4_leave 57 = .ok (.iconst 1, 1) := by decide +kernel
theorem dX4_leave_58 : decode cX4_leave 58 = .ok (.iadd, 1) := by decide +kernel
theorem dX4_leave_59 : decode cX4_leave 59 = .ok (.aload_n 0, 1) := by decide +kernel
theorem dX4_leave_60 : decode cX4_leave 60 = .ok (.getfield 37, 3) := by decide +kernel
theorem dX4_leave_63 : decode cX4_leave 63 = .ok (.iload_n 1, 1) := by decide +kernel
theorem dX4_leave_64 : decode cX4_leave 64 = .ok (.iaload, 1) := by decide +kernel
theorem dX4_leave_65 : decode cX4_leave 65 = .ok (.iconst 4, 1) := by decide +kernel
theorem dX4_leave_66 : decode cX4_leave 66 = .ok (.idiv, 1) := by decide +kernel
theorem dX4_leave_67 : decode cX4_leave 67 = .ok (.iadd, 1) := by decide +kernel
theorem dX4_leave_68 : decode cX4_leave 68 = .ok (.bipush 9, 2) := by decide +kernel
theorem dX4_leave_70 : decode cX4_leave 70 = .ok (.invokestatic 75, 3) := by decide +kernel
theorem dX4_leave_73 : decode cX4_leave 73 = .ok (.iastore, 1) := by decide +kernel
theorem dX4_leave_74 : decode cX4_leave 74 = .ok (.aload_n 0, 1) := by decide +kernel
theorem dX4_leave_75 : decode cX4_leave 75 = .ok (.getfield 46, 3) := by decide +kernel
theorem dX4_leave_78 : decode cX4_leave 78 = .ok (.iload_n 1, 1) := by decide +kernel
theorem dX4_leave_79 : decode cX4_leave 79 = .ok (.bipush 10, 2) := by decide +kernel
theorem dX4_leave_81 : decode cX4_leave 81 = .ok (.imul, 1) := by decide +kernel
theorem dX4_leave_82 : decode cX4_leave 82 = .ok (.iload_n 2, 1) := by decide +kernel
theorem dX4_leave_83 : decode cX4_leave 83 = .ok (.iadd, 1) := by decide +kernel
theorem dX4_leave_84 : decode cX4_leave 84 = .ok (.dup2, 1) := by decide +kernel
theorem dX4_leave_85 : decode cX4_leave 85 = .ok (.iaload, 1) := by decide +kernel
theorem dX4_leave_86 : decode cX4_leave 86 = .ok (.iconst 1, 1) := by decide +kernel
theorem dX4_leave_87 : decode cX4_leave 87 = .ok (.iadd, 1) := by decide +kernel
theorem dX4_leave_88 : decode cX4_leave 88 = .ok (.iastore, 1) := by decide +kernel
theorem dX4_leave_89 : decode cX4_leave 89 = .ok (.aload_n 0, 1) := by decide +kernel
theorem dX4_leave_90 : decode cX4_leave 90 = .ok (.getfield 28, 3) := by decide +kernel
theorem dX4_leave_93 : decode cX4_leave 93 = .ok (.iload_n 2, 1) := by decide +kernel
theorem dX4_leave_94 : decode cX4_leave 94 = .ok (.iconst (-1), 1) := by decide +kernel
theorem dX4_leave_95 : decode cX4_leave 95 = .ok (.iastore, 1) := by decide +kernel
theorem dX4_leave_96 : decode cX4_leave 96 = .ok (.return_, 1) := by decide +kernel
