theorem dX5_init_0 : decode cX5_init 0 = .ok (.aload_n 0, 1) := by decide +kernel
theorem dX5_init_1 : decode cX5_init 1 = .ok (.invokespecial 1, 3) := by decide +kernel
theorem dX5_init_4 : decode cX5_init 4 = .ok (.aload_n 0, 1) := by decide +kernel
theorem dX5_init_5 : decode cX5_init 5 = .ok (.new 7, 3) := by decide +kernel
theorem dX5_init_8 : decode cX5_init 8 = .ok (.dup, 1) := by decide +kernel
theorem dX5_init_9 : decode cX5_init 9 = .ok (.invokespecial 9, 3) := by decide +kernel
theorem dX5_init_12 : decode cX5_init 12 = .ok (.putfield 10, 3) := by decide +kernel
theorem dX5_init_15 : decode cX5_init 15 = .ok (.aload_n 0, 1) := by decide +kernel
theorem dX5_init_16 : decode cX5_init 16 = .ok (.new 7, 3) := by decide +kernel
theorem dX5_init_19 : decode cX5_init 19 = .ok (.dup, 1) := by decide +kernel
theorem dX5_init_20 : decode cX5_init 20 = .ok (.invokespecial 9, 3) := by decide +kernel
theorem dX5_init_23 : decode cX5_init 23 = .ok (.putfield 16, 3) := by decide +kernel
theorem dX5_init_26 : decode cX5_init 26 = .ok (.aload_n 0, 1) := by decide +kernel
theorem dX5_init_27 : decode cX5_init 27 = .ok (.new 19, 3) := by decide +kernel
theorem dX5_init_30 : decode cX5_init 30 = .ok (.dup, 1) := by decide +kernel
theorem dX5_init_31 : decode cX5_init 31 = .ok (.invokespecial 21, 3) := by decide +kernel
theorem dX5_init_34 : decode cX5_init 34 = .ok (.putfield 22, 3) := by decide +kernel
theorem dX5_init_37 : decode cX5_init 37 = .ok (.aload_n 0, 1) := by decide +kernel
theorem dX5_init_38 : decode cX5_init 38 = .ok (.new 26, 3) := by decide +kernel
theorem dX5_init_41 : decode cX5_init 41 = .ok (.dup, 1) := by decide +kernel
theorem dX5_init_42 : decode cX5_init 42 = .ok (.invokespecial 28, 3) := by decide +kernel
theorem dX5_init_45 : decode cX5_init 45 = .ok (.putfield 29, 3) := by decide +kernel
theorem dX5_init_48 : decode cX5_init 48 = .ok (.aload_n 0, 1) := by decide +kernel
theorem dX5_init_49 : decode cX5_init 49 = .ok (.new 26, 3) := by decide +kernel
theorem dX5_init_52 : decode cX5_init 52 = .ok (.dup, 1) := by decide +kernel
theorem dX5_init_53 : decode cX5_init 53 = .ok (.invokespecial 28, 3) := by decide +kernel
theorem dX5_init_56 : decode cX5_init 56 = .ok (.putfield 33, 3) := by decide +kernel
theorem dX5_init_59 : decode cX5_init 59 = .ok (.aload_n 0, 1) := by decide +kernel
theorem dX5_init_60 : decode cX5_init 60 = .ok (.new 36, 3) := by decide +kernel
theorem dX5_init_63 : decode cX5_init 63 = .ok (.dup, 1) := by decide +kernel
theorem dX5_init_64 : decode cX5_init 64 = .ok (.invokespecial 38, 3) := by decide +kernel
theorem dX5_init_67 : decode cX5_init 67 = .ok (.putfield 39, 3) := by decide +kernel
theorem dX5_init_70 : decode cX5_init 70 = .ok (.aload_n 0, 1) := by decide +kernel
theorem dX5_init_71 : decode cX5_init 71 = .ok (.new 43, 3) := by decide +kernel
theorem dX5_init_74 : decode cX5_init 74 = .ok (.dup, 1) := by decide +kernel
theorem dX5_init_75 : decode cX5_init 75 = .ok (.invokespecial 45, 3) := by decide +kernel
theorem dX5_init_78 : decode cX5_init 78 = .ok (.putfield 46, 3) := by decide +kernel
theorem dX5_init_81 : decode cX5_init 81 = .ok (.aload_n 0, 1) := by decide +kernel
theorem dX5_init_82 : decode cX5_init 82 = .ok (.getfield 39, 3) := by decide +kernel
theorem dX5_init_85 : decode cX5_init 85 = .ok (.ldc 50, 2) := by decide +kernel
theorem dX5_init_87 : decode cX5_init 87 = .ok (.invokevirtual 52, 3) := by decide +kernel
theorem dX5_init_90 : decode cX5_init 90 = .ok (.aload_n 0, 1) := by decide +kernel
theorem dX5_init_91 : decode cX5_init 91 = .ok (.getfield 39, 3) := by decide +kernel
theorem dX5_init_94 : decode cX5_init 94 = .ok (.ldc 50, 2) := by decide +kernel
theorem dX5_init_96 : decode cX5_init 96 = .ok (.invokevirtual 56, 3) := by decide +kernel
theorem dX5_init_99 : decode cX5_init 99 = .ok (.invokevirtual 62, 3) := by decide +kernel
theorem dX5_init_102 : decode cX5_init 102 = .ok (.ifCond .eq 17, 3) := by decide +kernel
theorem dX5_init_105 : decode cX5_init 105 = .ok (.aload_n 0, 1) := by decide +kernel
theorem dX5_init_106 : decode cX5_init 106 = .ok (.getfield 10, 3) := by decide +kernel
theorem dX5_init_109 : decode cX5_init 109 = .ok (.aload_n 0, 1) := by decide +kernel
theorem dX5_init_110 : decode cX5_init 110 = .ok (.getfield 39, 3) := by decide +kernel
theorem dX5_init_113 : decode cX5_init 113 = .ok (.getfield 66, 3) := by decide +kernel
theorem dX5_init_116 : decode cX5_init 116 = .ok (.invokevirtual 69, 3) := by decide +kernel
theorem dX5_init_119 : decode cX5_init 119 = .ok (.return_, 1) := by decide +kernel
theorem dX5_append_0 : decode cX5_append 0 = .ok (.aload_n 0, 1) := by decide +kernel
theorem dX5_append_1 : decode cX5_append 1 = .ok (.getfield 39, 3) := by decide +kernel
theorem dX5_append_4 : decode cX5_append 4 = .ok (.bipush 20, 2) := by decide +kernel
theorem dX5_append_6 : decode cX5_append 6 = .ok (.invokevirtual 73, 3) := by decide +kernel
theorem dX5_append_9 : decode cX5_append 9 = .ok (.ifCond .ne 13, 3) := by decide +kernel
theorem dX5_append_12 : decode cX5_append 12 = .ok (.new 76, 3) := by decide +kernel
theorem dX5_append_15 : decode cX5_append 15 = .ok (.dup, 1) := by decide +kernel
theorem dX5_append_16 : decode cX5_append 16 = .ok (.ldc 78, 2) := by decide +kernel
theorem dX5_append_18 : decode cX5_append 18 = .ok (.invokespecial 80, 3) := by decide +kernel
theorem dX5_append_21 : decode cX5_append 21 = .ok (.athrow, 1) := by decide +kernel
theorem dX5_append_22 : decode cX5_append 22 = .ok (.aload_n 0, 1) := by decide +kernel
theorem dX5_append_23 : decode cX5_append 23 = .ok (.getfield 39, 3) := by decide +kernel
theorem dX5_append_26 : decode cX5_append 26 = .ok (.iload_n 1, 1) := by decide +kernel
theorem dX5_append_27 : decode cX5_append 27 = .ok (.invokevirtual 82, 3) := by decide +kernel
theorem dX5_append_30 : decode cX5_append 30 = .ok (.aload_n 0, 1) := by decide +kernel
theorem dX5_append_31 : decode cX5_append 31 = .ok (.getfield 39, 3) := by decide +kernel
theorem dX5_append_34 : decode cX5_append 34 = .ok (.iload_n 2, 1) := by decide +kernel
theorem dX5_append_35 : decode cX5_append 35 = .ok (.invokevirtual 82, 3) := by decide +kernel
theorem dX5_append_38 : decode cX5_append 38 = .ok (.aload_n 0, 1) := by decide +kernel
theorem dX5_append_39 : decode cX5_append 39 = .ok (.getfield 39, 3) := by decide +kernel
theorem dX5_append_42 : decode cX5_append 42 = .ok (.iload_n 3, 1) := by decide +kernel
theorem dX5_append_43 : decode cX5_append 43 = .ok (.invokevirtual 82, 3) := by decide +kernel
theorem dX5_append_46 : decode cX5_append 46 = .ok (.aload_n 0, 1) := by decide +kernel
theorem dX5_append_47 : decode cX5_append 47 = .ok (.getfield 39, 3) := by decide +kernel
theorem dX5_append_50 : decode cX5_append 50 = .ok (.iload 4, 2) := by decide +kernel
theorem dX5_append_52 : decode cX5_append 52 = .ok (.invokevirtual 82, 3) := by decide +kernel
theorem dX5_append_55 : decode cX5_append 55 = .ok (.aload_n 0, 1) := by decide +kernel
theorem dX5_append_56 : decode cX5_append 56 = .ok (.getfield 39, 3) := by decide +kernel
theorem dX5_append_59 : decode cX5_append 59 = .ok (.iload 5, 2) := by decide +kernel
theorem dX5_append_61 : decode cX5_append 61 = .ok (.invokevirtual 82, 3) := by decide +kernel
theorem dX5_append_64 : decode cX5_append 64 = .ok (.aload_n 0, 1) := by decide +kernel
theorem dX5_append_65 : decode cX5_append 65 = .ok (.getfield 39, 3) := by decide +kernel
theorem dX5_append_68 : decode cX5_append 68 = .ok (.getfield 86, 3) := by decide +kernel
theorem dX5_append_71 : decode cX5_append 71 = .ok (.ireturn, 1) := by decide +kernel
theorem dX5_load_0 : decode cX5_load 0 = .ok (.iload_n 1, 1) := by decide +kernel
theorem dX5_load_1 : decode cX5_load 1 = .ok (.ifCond .lt 14, 3) := by decide +kernel
theorem dX5_load_4 : decode cX5_load 4 = .ok (.iload_n 1, 1) := by decide +kernel
theorem dX5_load_5 : decode cX5_load 5 = .ok (.aload_n 0, 1) := by decide +kernel
theorem dX5_load_6 : decode cX5_load 6 = .ok (.getfield 39, 3) := by decide +kernel
theorem dX5_load_9 : decode cX5_load 9 = .ok (.getfield 86, 3) := by decide +kernel
theorem dX5_load_12 : decode cX5_load 12 = .ok (.if_icmp .le 13, 3) := by decide +kernel
theorem dX5_load_15 : decode cX5_load 15 = .ok (.new 90, 3) := by decide +kernel
theorem dX5_load_18 : decode cX5_load 18 = .ok (.dup, 1) := by decide +kernel
theorem dX5_load_19 : decode cX5_load 19 = .ok (.ldc 92, 2) := by decide +kernel
theorem dX5_load_21 : decode cX5_load 21 = .ok (.invokespecial 94, 3) := by decide +kernel
theorem dX5_load_24 : decode cX5_load 24 = .ok (.athrow, 1) := by decide +kernel
theorem dX5_load_25 : decode cX5_load 25 = .ok (.aload_n 0, 1) := by decide +kernel
theorem dX5_load_26 : decode cX5_load 26 = .ok (.getfield 39, 3) := by decide +kernel
theorem dX5_load_29 : decode cX5_load 29 = .ok (.iload_n 1, 1) := by decide +kernel
theorem dX5_load_30 : decode cX5_load 30 = .ok (.invokevirtual 62, 3) := by decide +kernel
theorem dX5_load_33 : decode cX5_load 33 = .ok (.ifCond .ne 13, 3) := by decide +kernel
theorem dX5_load_36 : decode cX5_load 36 = .ok (.new 95, 3) := by decide +kernel
theorem dX5_load_39 : decode cX5_load 39 = .ok (.dup, 1) := by decide +kernel
theorem dX5_load_40 : decode cX5_load 40 = .ok (.ldc 97, 2) := by decide +kernel
theorem dX5_load_42 : decode cX5_load 42 = .ok (.invokespecial 99, 3) := by decide +kernel
theorem dX5_load_45 : decode cX5_load 45 = .ok (.athrow, 1) := by decide +kernel
theorem dX5_load_46 : decode cX5_load 46 = .ok (.aload_n 0, 1) := by decide +kernel
theorem dX5_load_47 : decode cX5_load 47 = .ok (.getfield 10, 3) := by decide +kernel
theorem dX5_load_50 : decode cX5_load 50 = .ok (.aload_n 0, 1) := by decide +kernel
theorem dX5_load_51 : decode cX5_load 51 = .ok (.getfield 39, 3) := by decide +kernel
theorem dX5_load_54 : decode cX5_load 54 = .ok (.getfield 66, 3) := by decide +kernel
theorem dX5_load_57 : decode cX5_load 57 = .ok (.invokevirtual 69, 3) := by decide +kernel
theorem dX5_load_60 : decode cX5_load 60 = .ok (.aload_n 0, 1) := by decide +kernel
theorem dX5_load_61 : decode cX5_load 61 = .ok (.getfield 22, 3) := by decide +kernel
theorem dX5_load_64 : decode cX5_load 64 = .ok (.invokevirtual 100, 3) := by decide +kernel
theorem dX5_load_67 : decode cX5_load 67 = .ok (.aload_n 0, 1) := by decide +kernel
theorem dX5_load_68 : decode cX5_load 68 = .ok (.getfield 29, 3) := by decide +kernel
theorem dX5_load_71 : decode cX5_load 71 = .ok (.iconst 0, 1) := by decide +kernel
theorem dX5_load_72 : decode cX5_load 72 = .ok (.putfield 103, 3) := by decide +kernel
theorem dX5_load_75 : decode cX5_load 75 = .ok (.aload_n 0, 1) := by decide +kernel
theorem dX5_load_76 : decode cX5_load 76 = .ok (.getfield 33, 3) := by decide +kernel
theorem dX5_load_79 : decode cX5_load 79 = .ok (.iconst 0, 1) := by decide +kernel
theorem dX5_load_80 : decode cX5_load 80 = .ok (.putfield 103, 3) := by decide +kernel
theorem dX5_load_83 : decode cX5_load 83 = .ok (.aload_n 0, 1) := by decide +kernel
theorem dX5_load_84 : decode cX5_load 84 = .ok (.getfield 10, 3) := by decide +kernel
theorem dX5_load_87 : decode cX5_load 87 = .ok (.getfield 107, 3) := by decide +kernel
theorem dX5_load_90 : decode cX5_load 90 = .ok (.ireturn, 1) := by decide +kernel
theorem dX5_errorKind_0 : decode cX5_errorKind 0 = .ok (.aload_n 0, 1) := by decide +kernel
theorem dX5_errorKind_1 : decode cX5_errorKind 1 = .ok (.getfield 39, 3) := by decide +kernel
theorem dX5_errorKind_4 : decode cX5_errorKind 4 = .ok (.getfield 110, 3) := by decide +kernel
theorem dX5_errorKind_7 : decode cX5_errorKind 7 = .ok (.ireturn, 1) := by decide +kernel
theorem dX5_errorOffset_0 : decode cX5_errorOffset 0 = .ok (.aload_n 0, 1) := by decide +kernel
theorem dX5_errorOffset_1 : decode cX5_errorOffset 1 = .ok (.getfield 39, 3) := by decide +kernel
theorem dX5_errorOffset_4 : decode cX5_errorOffset 4 = .ok (.getfield 113, 3) := by decide +kernel
theorem dX5_errorOffset_7 : decode cX5_errorOffset 7 = .ok (.ireturn, 1) := by decide +kernel
theorem dX5_tick_0 : decode cX5_tick 0 = .ok (.aload_n 0, 1) := by decide +kernel
theorem dX5_tick_1 : decode cX5_tick 1 = .ok (.getfield 10, 3) := by decide +kernel
theorem dX5_tick_4 : decode cX5_tick 4 = .ok (.getfield 116, 3) := by decide +kernel
theorem dX5_tick_7 : decode cX5_tick 7 = .ok (.ireturn, 1) := by decide +kernel
theorem dX5_blockCount_0 : decode cX5_blockCount 0 = .ok (.aload_n 0, 1) := by decide +kernel
theorem dX5_blockCount_1 : decode cX5_blockCount 1 = .ok (.getfield 10, 3) := by decide +kernel
theorem dX5_blockCount_4 : decode cX5_blockCount 4 = .ok (.getfield 107, 3) := by decide +kernel
theorem dX5_blockCount_7 : decode cX5_blockCount 7 = .ok (.ireturn, 1) := by decide +kernel
theorem dX5_lengthOf_0 : decode cX5_lengthOf 0 = .ok (.aload_n 0, 1) := by decide +kernel
theorem dX5_lengthOf_1 : decode cX5_lengthOf 1 = .ok (.iload_n 1, 1) := by decide +kernel
theorem dX5_lengthOf_2 : decode cX5_lengthOf 2 = .ok (.invokevirtual 119, 3) := by decide +kernel
theorem dX5_lengthOf_5 : decode cX5_lengthOf 5 = .ok (.aload_n 0, 1) := by decide +kernel
theorem dX5_lengthOf_6 : decode cX5_lengthOf 6 = .ok (.getfield 10, 3) := by decide +kernel
theorem dX5_lengthOf_9 : decode cX5_lengthOf 9 = .ok (.getfield 122, 3) := by decide +kernel
theorem dX5_lengthOf_12 : decode cX5_lengthOf 12 = .ok (.iload_n 1, 1) := by decide +kernel
theorem dX5_lengthOf_13 : decode cX5_lengthOf 13 = .ok (.iaload, 1) := by decide +kernel
theorem dX5_lengthOf_14 : decode cX5_lengthOf 14 = .ok (.ireturn, 1) := by decide +kernel
theorem dX5_depthOf_0 : decode cX5_depthOf 0 = .ok (.aload_n 0, 1) := by decide +kernel
theorem dX5_depthOf_1 : decode cX5_depthOf 1 = .ok (.iload_n 1, 1) := by decide +kernel
theorem dX5_depthOf_2 : decode cX5_depthOf 2 = .ok (.invokevirtual 119, 3) := by decide +kernel
theorem dX5_depthOf_5 : decode cX5_depthOf 5 = .ok (.aload_n 0, 1) := by decide +kernel
theorem dX5_depthOf_6 : decode cX5_depthOf 6 = .ok (.getfield 10, 3) := by decide +kernel
theorem dX5_depthOf_9 : decode cX5_depthOf 9 = .ok (.getfield 125, 3) := by decide +kernel
theorem dX5_depthOf_12 : decode cX5_depthOf 12 = .ok (.iload_n 1, 1) := by decide +kernel
theorem dX5_depthOf_13 : decode cX5_depthOf 13 = .ok (.iaload, 1) := by decide +kernel
theorem dX5_depthOf_14 : decode cX5_depthOf 14 = .ok (.ireturn, 1) := by decide +kernel
theorem dX5_isBend_0 : decode cX5_isBend 0 = .ok (.aload_n 0, 1) := by decide +kernel
theorem dX5_isBend_1 : decode cX5_isBend 1 = .ok (.iload_n 1, 1) := by decide +kernel
theorem dX5_isBend_2 : decode cX5_isBend 2 = .ok (.invokevirtual 119, 3) := by decide +kernel
theorem dX5_isBend_5 : decode cX5_isBend 5 = .ok (.aload_n 0, 1) := by decide +kernel
theorem dX5_isBend_6 : decode cX5_isBend 6 = .ok (.getfield 10, 3) := by decide +kernel
theorem dX5_isBend_9 : decode cX5_isBend 9 = .ok (.iload_n 1, 1) := by decide +kernel
theorem dX5_isBend_10 : decode cX5_isBend 10 = .ok (.invokevirtual 128, 3) := by decide +kernel
theorem dX5_isBend_13 : decode cX5_isBend 13 = .ok (.ireturn, 1) := by decide +kernel
theorem dX5_limitOf_0 : decode cX5_limitOf 0 = .ok (.aload_n 0, 1) := by decide +kernel
theorem dX5_limitOf_1 : decode cX5_limitOf 1 = .ok (.iload_n 1, 1) := by decide +kernel
theorem dX5_limitOf_2 : decode cX5_limitOf 2 = .ok (.invokevirtual 119, 3) := by decide +kernel
theorem dX5_limitOf_5 : decode cX5_limitOf 5 = .ok (.aload_n 0, 1) := by decide +kernel
theorem dX5_limitOf_6 : decode cX5_limitOf 6 = .ok (.getfield 10, 3) := by decide +kernel
theorem dX5_limitOf_9 : decode cX5_limitOf 9 = .ok (.iload_n 1, 1) := by decide +kernel
theorem dX5_limitOf_10 : decode cX5_limitOf 10 = .ok (.invokevirtual 131, 3) := by decide +kernel
theorem dX5_limitOf_13 : decode cX5_limitOf 13 = .ok (.ireturn, 1) := by decide +kernel
theorem dX5_isClear_0 : decode cX5_isClear 0 = .ok (.aload_n 0, 1) := by decide +kernel
theorem dX5_isClear_1 : decode cX5_isClear 1 = .ok (.iload_n 1, 1) := by decide +kernel
theorem dX5_isClear_2 : decode cX5_isClear 2 = .ok (.invokevirtual 119, 3) := by decide +kernel
theorem dX5_isClear_5 : decode cX5_isClear 5 = .ok (.aload_n 0, 1) := by decide +kernel
theorem dX5_isClear_6 : decode cX5_isClear 6 = .ok (.getfield 10, 3) := by decide +kernel
theorem dX5_isClear_9 : decode cX5_isClear 9 = .ok (.getfield 135, 3) := by decide +kernel
theorem dX5_isClear_12 : decode cX5_isClear 12 = .ok (.iload_n 1, 1) := by decide +kernel
theorem dX5_isClear_13 : decode cX5_isClear 13 = .ok (.baload, 1) := by decide +kernel
theorem dX5_isClear_14 : decode cX5_isClear 14 = .ok (.ireturn, 1) := by decide +kernel
theorem dX5_trainIn_0 : decode cX5_trainIn 0 = .ok (.aload_n 0, 1) := by decide +kernel
theorem dX5_trainIn_1 : decode cX5_trainIn 1 = .ok (.iload_n 1, 1) := by decide +kernel
theorem dX5_trainIn_2 : decode cX5_trainIn 2 = .ok (.invokevirtual 119, 3) := by decide +kernel
theorem dX5_trainIn_5 : decode cX5_trainIn 5 = .ok (.aload_n 0, 1) := by decide +kernel
theorem dX5_trainIn_6 : decode cX5_trainIn 6 = .ok (.getfield 10, 3) := by decide +kernel
theorem dX5_trainIn_9 : decode cX5_trainIn 9 = .ok (.getfield 139, 3) := by decide +kernel
theorem dX5_trainIn_12 : decode cX5_trainIn 12 = .ok (.iload_n 1, 1) := by decide +kernel
theorem dX5_trainIn_13 : decode cX5_trainIn 13 = .ok (.iaload, 1) := by decide +kernel
theorem dX5_trainIn_14 : decode cX5_trainIn 14 = .ok (.ireturn, 1) := by decide +kernel
theorem dX5_lostIn_0 : decode cX5_lostIn 0 = .ok (.aload_n 0, 1) := by decide +kernel
theorem dX5_lostIn_1 : decode cX5_lostIn 1 = .ok (.iload_n 1, 1) := by decide +kernel
theorem dX5_lostIn_2 : decode cX5_lostIn 2 = .ok (.invokevirtual 119, 3) := by decide +kernel
theorem dX5_lostIn_5 : decode cX5_lostIn 5 = .ok (.aload_n 0, 1) := by decide +kernel
theorem dX5_lostIn_6 : decode cX5_lostIn 6 = .ok (.getfield 10, 3) := by decide +kernel
theorem dX5_lostIn_9 : decode cX5_lostIn 9 = .ok (.getfield 142, 3) := by decide +kernel
theorem dX5_lostIn_12 : decode cX5_lostIn 12 = .ok (.iload_n 1, 1) := by decide +kernel
theorem dX5_lostIn_13 : decode cX5_lostIn 13 = .ok (.iaload, 1) := by decide +kernel
theorem dX5_lostIn_14 : decode cX5_lostIn 14 = .ok (.ireturn, 1) := by decide +kernel
theorem dX5_departuresFrom_0 : decode cX5_departuresFrom 0 = .ok (.aload_n 0, 1) := by decide +kernel
theorem dX5_departuresFrom_1 : decode cX5_departuresFrom 1 = .ok (.iload_n 1, 1) := by decide +kernel
theorem dX5_departuresFrom_2 : decode cX5_departuresFrom 2 = .ok (.invokevirtual 119, 3) := by decide +kernel
theorem dX5_departuresFrom_5 : decode cX5_departuresFrom 5 = .ok (.iconst 0, 1) := by decide +kernel
theorem dX5_departuresFrom_6 : decode cX5_departuresFrom 6 = .ok (.istore_n 2, 1) := by decide +kernel
theorem dX5_departuresFrom_7 : decode cX5_departuresFrom 7 = .ok (.iconst 0, 1) := by decide +kernel
theorem dX5_departuresFrom_8 : decode cX5_departuresFrom 8 = .ok (.istore_n 3, 1) := by decide +kernel
theorem dX5_departuresFrom_9 : decode cX5_departuresFrom 9 = .ok (.iload_n 3, 1) := by decide +kernel
theorem dX5_departuresFrom_10 : decode cX5_departuresFrom 10 = .ok (.aload_n 0, 1) := by decide +kernel
theorem dX5_departuresFrom_11 : decode cX5_departuresFrom 11 = .ok (.getfield 10, 3) := by decide +kernel
theorem dX5_departuresFrom_14 : decode cX5_departuresFrom 14 = .ok (.getfield 145, 3) := by decide +kernel
theorem dX5_departuresFrom_17 : decode cX5_departuresFrom 17 = .ok (.if_icmp .ge 21, 3) := by decide +kernel
theorem dX5_departuresFrom_20 : decode cX5_departuresFrom 20 = .ok (.iload_n 2, 1) := by decide +kernel
theorem dX5_departuresFrom_21 : decode cX5_departuresFrom 21 = .ok (.aload_n 0, 1) := by decide +kernel
theorem dX5_departuresFrom_22 : decode cX5_departuresFrom 22 = .ok (.getfield 10, 3) := by decide +kernel
theorem dX5_departuresFrom_25 : decode cX5_departuresFrom 25 = .ok (.iload_n 3, 1) := by decide +kernel
theorem dX5_departuresFrom_26 : decode cX5_departuresFrom 26 = .ok (.iload_n 1, 1) := by decide +kernel
theorem dX5_departuresFrom_27 : decode cX5_departuresFrom 27 = .ok (.invokevirtual 148, 3) := by decide +kernel
theorem dX5_departuresFrom_30 : decode cX5_departuresFrom 30 = .ok (.iadd, 1) := by decide +kernel
theorem dX5_departuresFrom_31 : decode cX5_departuresFrom 31 = .ok (.istore_n 2, 1) := by decide +kernel
theorem dX5_departuresFrom_32 : decode cX5_departuresFrom 32 = .ok (.iinc 3 1, 3) := by decide +kernel
theorem dX5_departuresFrom_35 : decode cX5_departuresFrom 35 = .ok (.goto (-26), 3) := by decide +kernel
theorem dX5_departuresFrom_38 : decode cX5_departuresFrom 38 = .ok (.iload_n 2, 1) := by decide +kernel
theorem dX5_departuresFrom_39 : decode cX5_departuresFrom 39 = .ok (.ireturn, 1) := by decide +kernel
theorem dX5_obstacle_0 : decode cX5_obstacle 0 = .ok (.aload_n 0, 1) := by decide +kernel
theorem dX5_obstacle_1 : decode cX5_obstacle 1 = .ok (.iload_n 1, 1) := by decide +kernel
theorem dX5_obstacle_2 : decode cX5_obstacle 2 = .ok (.invokevirtual 119, 3) := by decide +kernel
theorem dX5_obstacle_5 : decode cX5_obstacle 5 = .ok (.aload_n 0, 1) := by decide +kernel
theorem dX5_obstacle_6 : decode cX5_obstacle 6 = .ok (.getfield 10, 3) := by decide +kernel
theorem dX5_obstacle_9 : decode cX5_obstacle 9 = .ok (.iload_n 1, 1) := by decide +kernel
theorem dX5_obstacle_10 : decode cX5_obstacle 10 = .ok (.invokevirtual 152, 3) := by decide +kernel
theorem dX5_obstacle_13 : decode cX5_obstacle 13 = .ok (.ireturn, 1) := by decide +kernel
theorem dX5_freeLevers_0 : decode cX5_freeLevers 0 = .ok (.iconst 0, 1) := by decide +kernel
theorem dX5_freeLevers_1 : decode cX5_freeLevers 1 = .ok (.istore_n 1, 1) := by decide +kernel
theorem dX5_freeLevers_2 : decode cX5_freeLevers 2 = .ok (.iconst 0, 1) := by decide +kernel
theorem dX5_freeLevers_3 : decode cX5_freeLevers 3 = .ok (.istore_n 2, 1) := by decide +kernel
theorem dX5_freeLevers_4 : decode cX5_freeLevers 4 = .ok (.iload_n 2, 1) := by decide +kernel
theorem dX5_freeLevers_5 : decode cX5_freeLevers 5 = .ok (.aload_n 0, 1) := by decide +kernel
theorem dX5_freeLevers_6 : decode cX5_freeLevers 6 = .ok (.getfield 10, 3) := by decide +kernel
theorem dX5_freeLevers_9 : decode cX5_freeLevers 9 = .ok (.getfield 107, 3) := by decide +kernel
theorem dX5_freeLevers_12 : decode cX5_freeLevers 12 = .ok (.if_icmp .ge 23, 3) := by decide +kernel
theorem dX5_freeLevers_15 : decode cX5_freeLevers 15 = .ok (.aload_n 0, 1) := by decide +kernel
theorem dX5_freeLevers_16 : decode cX5_freeLevers 16 = .ok (.getfield 10, 3) := by decide +kernel
theorem dX5_freeLevers_19 : decode cX5_freeLevers 19 = .ok (.iload_n 2, 1) := by decide +kernel
theorem dX5_freeLevers_20 : decode cX5_freeLevers 20 = .ok (.invokevirtual 152, 3) := by decide +kernel
theorem dX5_freeLevers_23 : decode cX5_freeLevers 23 = .ok (.ifCond .ne 6, 3) := by decide +kernel
theorem dX5_freeLevers_26 : decode cX5_freeLevers 26 = .ok (.iinc 1 1, 3) := by decide +kernel
theorem dX5_freeLevers_29 : decode cX5_freeLevers 29 = .ok (.iinc 2 1, 3) := by decide +kernel
theorem dX5_freeLevers_32 : decode cX5_freeLevers 32 = .ok (.goto (-28), 3) := by decide +kernel
theorem dX5_freeLevers_35 : decode cX5_freeLevers 35 = .ok (.iload_n 1, 1) := by decide +kernel
theorem dX5_freeLevers_36 : decode cX5_freeLevers 36 = .ok (.ireturn, 1) := by decide +kernel
theorem dX5_emptyBlocks_0 : decode cX5_emptyBlocks 0 = .ok (.iconst 0, 1) := by decide +kernel
theorem dX5_emptyBlocks_1 : decode cX5_emptyBlocks 1 = .ok (.istore_n 1, 1) := by decide +kernel
theorem dX5_emptyBlocks_2 : decode cX5_emptyBlocks 2 = .ok (.iconst 0, 1) := by decide +kernel
theorem dX5_emptyBlocks_3 : decode cX5_emptyBlocks 3 = .ok (.istore_n 2, 1) := by decide +kernel
theorem dX5_emptyBlocks_4 : decode cX5_emptyBlocks 4 = .ok (.iload_n 2, 1) := by decide +kernel
theorem dX5_emptyBlocks_5 : decode cX5_emptyBlocks 5 = .ok (.aload_n 0, 1) := by decide +kernel
theorem dX5_emptyBlocks_6 : decode cX5_emptyBlocks 6 = .ok (.getfield 10, 3) := by decide +kernel
theorem dX5_emptyBlocks_9 : decode cX5_emptyBlocks 9 = .ok (.getfield 107, 3) := by decide +kernel
theorem dX5_emptyBlocks_12 : decode cX5_emptyBlocks 12 = .ok (.if_icmp .ge 23, 3) := by decide +kernel
theorem dX5_emptyBlocks_15 : decode cX5_emptyBlocks 15 = .ok (.aload_n 0, 1) := by decide +kernel
theorem dX5_emptyBlocks_16 : decode cX5_emptyBlocks 16 = .ok (.getfield 10, 3) := by decide +kernel
theorem dX5_emptyBlocks_19 : decode cX5_emptyBlocks 19 = .ok (.iload_n 2, 1) := by decide +kernel
theorem dX5_emptyBlocks_20 : decode cX5_emptyBlocks 20 = .ok (.invokevirtual 155, 3) := by decide +kernel
theorem dX5_emptyBlocks_23 : decode cX5_emptyBlocks 23 = .ok (.ifCond .ne 6, 3) := by decide +kernel
theorem dX5_emptyBlocks_26 : decode cX5_emptyBlocks 26 = .ok (.iinc 1 1, 3) := by decide +kernel
theorem dX5_emptyBlocks_29 : decode cX5_emptyBlocks 29 = .ok (.iinc 2 1, 3) := by decide +kernel
theorem dX5_emptyBlocks_32 : decode cX5_emptyBlocks 32 = .ok (.goto (-28), 3) := by decide +kernel
theorem dX5_emptyBlocks_35 : decode cX5_emptyBlocks 35 = .ok (.iload_n 1, 1) := by decide +kernel
theorem dX5_emptyBlocks_36 : decode cX5_emptyBlocks 36 = .ok (.ireturn, 1) := by decide +kernel
theorem dX5_deepestBlock_0 : decode cX5_deepestBlock 0 = .ok (.iconst (-1), 1) := by decide +kernel
theorem dX5_deepestBlock_1 : decode cX5_deepestBlock 1 = .ok (.istore_n 1, 1) := by decide +kernel
theorem dX5_deepestBlock_2 : decode cX5_deepestBlock 2 = .ok (.iconst (-1), 1) := by decide +kernel
theorem dX5_deepestBlock_3 : decode cX5_deepestBlock 3 = .ok (.istore_n 2, 1) := by decide +kernel
theorem dX5_deepestBlock_4 : decode cX5_deepestBlock 4 = .ok (.iconst 0, 1) := by decide +kernel
theorem dX5_deepestBlock_5 : decode cX5_deepestBlock 5 = .ok (.istore_n 3, 1) := by decide +kernel
theorem dX5_deepestBlock_6 : decode cX5_deepestBlock 6 = .ok (.iload_n 3, 1) := by decide +kernel
theorem dX5_deepestBlock_7 : decode cX5_deepestBlock 7 = .ok (.aload_n 0, 1) := by decide +kernel
theorem dX5_deepestBlock_8 : decode cX5_deepestBlock 8 = .ok (.getfield 10, 3) := by decide +kernel
theorem dX5_deepestBlock_11 : decode cX5_deepestBlock 11 = .ok (.getfield 107, 3) := by decide +kernel
theorem dX5_deepestBlock_14 : decode cX5_deepestBlock 14 = .ok (.if_icmp .ge 34, 3) := by decide +kernel
theorem dX5_deepestBlock_17 : decode cX5_deepestBlock 17 = .ok (.aload_n 0, 1) := by decide +kernel
theorem dX5_deepestBlock_18 : decode cX5_deepestBlock 18 = .ok (.getfield 10, 3) := by decide +kernel
theorem dX5_deepestBlock_21 : decode cX5_deepestBlock 21 = .ok (.getfield 125, 3) := by decide +kernel
theorem dX5_deepestBlock_24 : decode cX5_deepestBlock 24 = .ok (.iload_n 3, 1) := by decide +kernel
theorem dX5_deepestBlock_25 : decode cX5_deepestBlock 25 = .ok (.iaload, 1) := by decide +kernel
theorem dX5_deepestBlock_26 : decode cX5_deepestBlock 26 = .ok (.iload_n 2, 1) := by decide +kernel
theorem dX5_deepestBlock_27 : decode cX5_deepestBlock 27 = .ok (.if_icmp .le 15, 3) := by decide +kernel
theorem dX5_deepestBlock_30 : decode cX5_deepestBlock 30 = .ok (.iload_n 3, 1) := by decide +kernel
theorem dX5_deepestBlock_31 : decode cX5_deepestBlock 31 = .ok (.istore_n 1, 1) := by decide +kernel
theorem dX5_deepestBlock_32 : decode cX5_deepestBlock 32 = .ok (.aload_n 0, 1) := by decide +kernel
theorem dX5_deepestBlock_33 : decode cX5_deepestBlock 33 = .ok (.getfield 10, 3) := by decide +kernel
theorem dX5_deepestBlock_36 : decode cX5_deepestBlock 36 = .ok (.getfield 125, 3) := by decide +kernel
theorem dX5_deepestBlock_39 : decode cX5_deepestBlock 39 = .ok (.iload_n 3, 1) := by decide +kernel
theorem dX5_deepestBlock_40 : decode cX5_deepestBlock 40 = .ok (.iaload, 1) := by decide +kernel
theorem dX5_deepestBlock_41 : decode cX5_deepestBlock 41 = .ok (.istore_n 2, 1) := by decide +kernel
theorem dX5_deepestBlock_42 : decode cX5_deepestBlock 42 = .ok (.iinc 3 1, 3) := by decide +kernel
theorem dX5_deepestBlock_45 : decode cX5_deepestBlock 45 = .ok (.goto (-39), 3) := by decide +kernel
theorem dX5_deepestBlock_48 : decode cX5_deepestBlock 48 = .ok (.iload_n 1, 1) := by decide +kernel
theorem dX5_deepestBlock_49 : decode cX5_deepestBlock 49 = .ok (.ireturn, 1) := by decide +kernel
theorem dX5_differentDepths_0 : decode cX5_differentDepths 0 = .ok (.iconst 0, 1) := by decide +kernel
theorem dX5_differentDepths_1 : decode cX5_differentDepths 1 = .ok (.istore_n 1, 1) := by decide +kernel
theorem dX5_differentDepths_2 : decode cX5_differentDepths 2 = .ok (.iconst 0, 1) := by decide +kernel
theorem dX5_differentDepths_3 : decode cX5_differentDepths 3 = .ok (.istore_n 2, 1) := by decide +kernel
theorem dX5_differentDepths_4 : decode cX5_differentDepths 4 = .ok (.iload_n 2, 1) := by decide +kernel
theorem dX5_differentDepths_5 : decode cX5_differentDepths 5 = .ok (.aload_n 0, 1) := by decide +kernel
theorem dX5_differentDepths_6 : decode cX5_differentDepths 6 = .ok (.getfield 10, 3) := by decide +kernel
theorem dX5_differentDepths_9 : decode cX5_differentDepths 9 = .ok (.getfield 107, 3) := by decide +kernel
theorem dX5_differentDepths_12 : decode cX5_differentDepths 12 = .ok (.if_icmp .ge 23, 3) := by decide +kernel
theorem dX5_differentDepths_15 : decode cX5_differentDepths 15 = .ok (.iload_n 1, 1) := by decide +kernel
theorem dX5_differentDepths_16 : decode cX5_differentDepths 16 = .ok (.iconst 1, 1) := by decide +kernel
theorem dX5_differentDepths_17 : decode cX5_differentDepths 17 = .ok (.aload_n 0, 1) := by decide +kernel
theorem dX5_differentDepths_18 : decode cX5_differentDepths 18 = .ok (.getfield 10, 3) := by decide +kernel
theorem dX5_differentDepths_21 : decode cX5_differentDepths 21 = .ok (.getfield 125, 3) := by decide +kernel
theorem dX5_differentDepths_24 : decode cX5_differentDepths 24 = .ok (.iload_n 2, 1) := by decide +kernel
theorem dX5_differentDepths_25 : decode cX5_differentDepths 25 = .ok (.iaload, 1) := by decide +kernel
theorem dX5_differentDepths_26 : decode cX5_differentDepths 26 = .ok (.ishl, 1) := by decide +kernel
theorem dX5_differentDepths_27 : decode cX5_differentDepths 27 = .ok (.ior, 1) := by decide +kernel
theorem dX5_differentDepths_28 : decode cX5_differentDepths 28 = .ok (.istore_n 1, 1) := by decide +kernel
theorem dX5_differentDepths_29 : decode cX5_differentDepths 29 = .ok (.iinc 2 1, 3) := by decide +kernel
theorem dX5_differentDepths_32 : decode cX5_differentDepths 32 = .ok (.goto (-28), 3) := by decide +kernel
theorem dX5_differentDepths_35 : decode cX5_differentDepths 35 = .ok (.iload_n 1, 1) := by decide +kernel
theorem dX5_differentDepths_36 : decode cX5_differentDepths 36 = .ok (.invokestatic 158, 3) := by decide +kernel
theorem dX5_differentDepths_39 : decode cX5_differentDepths 39 = .ok (.ireturn, 1) := by decide +kernel
theorem dX5_trainCount_0 : decode cX5_trainCount 0 = .ok (.aload_n 0, 1) := by decide +kernel
theorem dX5_trainCount_1 : decode cX5_trainCount 1 = .ok (.getfield 10, 3) := by decide +kernel
theorem dX5_trainCount_4 : decode cX5_trainCount 4 = .ok (.getfield 145, 3) := by decide +kernel
theorem dX5_trainCount_7 : decode cX5_trainCount 7 = .ok (.ireturn, 1) := by decide +kernel
theorem dX5_blockOf_0 : decode cX5_blockOf 0 = .ok (.aload_n 0, 1) := by decide +kernel
theorem dX5_blockOf_1 : decode cX5_blockOf 1 = .ok (.iload_n 1, 1) := by decide +kernel
theorem dX5_blockOf_2 : decode cX5_blockOf 2 = .ok (.invokevirtual 163, 3) := by decide +kernel
theorem dX5_blockOf_5 : decode cX5_blockOf 5 = .ok (.aload_n 0, 1) := by decide +kernel
theorem dX5_blockOf_6 : decode cX5_blockOf 6 = .ok (.getfield 10, 3) := by decide +kernel
theorem dX5_blockOf_9 : decode cX5_blockOf 9 = .ok (.getfield 166, 3) := by decide +kernel
theorem dX5_blockOf_12 : decode cX5_blockOf 12 = .ok (.iload_n 1, 1) := by decide +kernel
theorem dX5_blockOf_13 : decode cX5_blockOf 13 = .ok (.iaload, 1) := by decide +kernel
theorem dX5_blockOf_14 : decode cX5_blockOf 14 = .ok (.ireturn, 1) := by decide +kernel
theorem dX5_positionOf_0 : decode cX5_positionOf 0 = .ok (.aload_n 0, 1) := by decide +kernel
theorem dX5_positionOf_1 : decode cX5_positionOf 1 = .ok (.iload_n 1, 1) := by decide +kernel
theorem dX5_positionOf_2 : decode cX5_positionOf 2 = .ok (.invokevirtual 163, 3) := by decide +kernel
theorem dX5_positionOf_5 : decode cX5_positionOf 5 = .ok (.aload_n 0, 1) := by decide +kernel
theorem dX5_positionOf_6 : decode cX5_positionOf 6 = .ok (.getfield 10, 3) := by decide +kernel
theorem dX5_positionOf_9 : decode cX5_positionOf 9 = .ok (.getfield 169, 3) := by decide +kernel
theorem dX5_positionOf_12 : decode cX5_positionOf 12 = .ok (.iload_n 1, 1) := by decide +kernel
theorem dX5_positionOf_13 : decode cX5_positionOf 13 = .ok (.iaload, 1) := by decide +kernel
theorem dX5_positionOf_14 : decode cX5_positionOf 14 = .ok (.ireturn, 1) := by decide +kernel
theorem dX5_wagonsOf_0 : decode cX5_wagonsOf 0 = .ok (.aload_n 0, 1) := by decide +kernel
theorem dX5_wagonsOf_1 : decode cX5_wagonsOf 1 = .ok (.iload_n 1, 1) := by decide +kernel
theorem dX5_wagonsOf_2 : decode cX5_wagonsOf 2 = .ok (.invokevirtual 163, 3) := by decide +kernel
theorem dX5_wagonsOf_5 : decode cX5_wagonsOf 5 = .ok (.aload_n 0, 1) := by decide +kernel
theorem dX5_wagonsOf_6 : decode cX5_wagonsOf 6 = .ok (.getfield 10, 3) := by decide +kernel
theorem dX5_wagonsOf_9 : decode cX5_wagonsOf 9 = .ok (.getfield 172, 3) := by decide +kernel
theorem dX5_wagonsOf_12 : decode cX5_wagonsOf 12 = .ok (.iload_n 1, 1) := by decide +kernel
theorem dX5_wagonsOf_13 : decode cX5_wagonsOf 13 = .ok (.iaload, 1) := by decide +kernel
theorem dX5_wagonsOf_14 : decode cX5_wagonsOf 14 = .ok (.ireturn, 1) := by decide +kernel
theorem dX5_topSpeedOf_0 : decode cX5_topSpeedOf 0 = .ok (.aload_n 0, 1) := by decide +kernel
theorem dX5_topSpeedOf_1 : decode cX5_topSpeedOf 1 = .ok (.iload_n 1, 1) := by decide +kernel
theorem dX5_topSpeedOf_2 : decode cX5_topSpeedOf 2 = .ok (.invokevirtual 163, 3) := by decide +kernel
theorem dX5_topSpeedOf_5 : decode cX5_topSpeedOf 5 = .ok (.aload_n 0, 1) := by decide +kernel
theorem dX5_topSpeedOf_6 : decode cX5_topSpeedOf 6 = .ok (.getfield 10, 3) := by decide +kernel
theorem dX5_topSpeedOf_9 : decode cX5_topSpeedOf 9 = .ok (.getfield 175, 3) := by decide +kernel
theorem dX5_topSpeedOf_12 : decode cX5_topSpeedOf 12 = .ok (.iload_n 1, 1) := by decide +kernel
theorem dX5_topSpeedOf_13 : decode cX5_topSpeedOf 13 = .ok (.iaload, 1) := by decide +kernel
theorem dX5_topSpeedOf_14 : decode cX5_topSpeedOf 14 = .ok (.ireturn, 1) := by decide +kernel
theorem dX5_speedOf_0 : decode cX5_speedOf 0 = .ok (.aload_n 0, 1) := by decide +kernel
theorem dX5_speedOf_1 : decode cX5_speedOf 1 = .ok (.iload_n 1, 1) := by decide +kernel
theorem dX5_speedOf_2 : decode cX5_speedOf 2 = .ok (.invokevirtual 163, 3) := by decide +kernel
theorem dX5_speedOf_5 : decode cX5_speedOf 5 = .ok (.aload_n 0, 1) := by decide +kernel
theorem dX5_speedOf_6 : decode cX5_speedOf 6 = .ok (.getfield 10, 3) := by decide +kernel
theorem dX5_speedOf_9 : decode cX5_speedOf 9 = .ok (.iload_n 1, 1) := by decide +kernel
theorem dX5_speedOf_10 : decode cX5_speedOf 10 = .ok (.invokevirtual 178, 3) := by decide +kernel
theorem dX5_speedOf_13 : decode cX5_speedOf 13 = .ok (.ireturn, 1) := by decide +kernel
theorem dX5_waitsOf_0 : decode cX5_waitsOf 0 = .ok (.aload_n 0, 1) := by decide +kernel
theorem dX5_waitsOf_1 : decode cX5_waitsOf 1 = .ok (.iload_n 1, 1) := by decide +kernel
theorem dX5_waitsOf_2 : decode cX5_waitsOf 2 = .ok (.invokevirtual 163, 3) := by decide +kernel
theorem dX5_waitsOf_5 : decode cX5_waitsOf 5 = .ok (.aload_n 0, 1) := by decide +kernel
theorem dX5_waitsOf_6 : decode cX5_waitsOf 6 = .ok (.getfield 10, 3) := by decide +kernel
theorem dX5_waitsOf_9 : decode cX5_waitsOf 9 = .ok (.getfield 181, 3) := by decide +kernel
theorem dX5_waitsOf_12 : decode cX5_waitsOf 12 = .ok (.iload_n 1, 1) := by decide +kernel
theorem dX5_waitsOf_13 : decode cX5_waitsOf 13 = .ok (.iaload, 1) := by decide +kernel
theorem dX5_waitsOf_14 : decode cX5_waitsOf 14 = .ok (.ireturn, 1) := by decide +kernel
theorem dX5_passages_0 : decode cX5_passages 0 = .ok (.aload_n 0, 1) := by decide +kernel
theorem dX5_passages_1 : decode cX5_passages 1 = .ok (.iload_n 1, 1) := by decide +kernel
theorem dX5_passages_2 : decode cX5_passages 2 = .ok (.invokevirtual 163, 3) := by decide +kernel
theorem dX5_passages_5 : decode cX5_passages 5 = .ok (.aload_n 0, 1) := by decide +kernel
theorem dX5_passages_6 : decode cX5_passages 6 = .ok (.iload_n 2, 1) := by decide +kernel
theorem dX5_passages_7 : decode cX5_passages 7 = .ok (.invokevirtual 119, 3) := by decide +kernel
theorem dX5_passages_10 : decode cX5_passages 10 = .ok (.aload_n 0, 1) := by decide +kernel
theorem dX5_passages_11 : decode cX5_passages 11 = .ok (.getfield 10, 3) := by decide +kernel
theorem dX5_passages_14 : decode cX5_passages 14 = .ok (.iload_n 1, 1) := by decide +kernel
theorem dX5_passages_15 : decode cX5_passages 15 = .ok (.iload_n 2, 1) := by decide +kernel
theorem dX5_passages_16 : decode cX5_passages 16 = .ok (.invokevirtual 148, 3) := by decide +kernel
theorem dX5_passages_19 : decode cX5_passages 19 = .ok (.ireturn, 1) := by decide +kernel
theorem dX5_differentPassages_0 : decode cX5_differentPassages 0 = .ok (.iconst 0, 1) := by decide +kernel
theorem dX5_differentPassages_1 : decode cX5_differentPassages 1 = .ok (.istore_n 1, 1) := by decide +kernel
theorem dX5_differentPassages_2 : decode cX5_differentPassages 2 = .ok (.iconst 0, 1) := by decide +kernel
theorem dX5_differentPassages_3 : decode cX5_differentPassages 3 = .ok (.istore_n 2, 1) := by decide +kernel
theorem dX5_differentPassages_4 : decode cX5_differentPassages 4 = .ok (.iload_n 2, 1) := by decide +kernel
theorem dX5_differentPassages_5 : decode cX5_differentPassages 5 = .ok (.aload_n 0, 1) := by decide +kernel
theorem dX5_differentPassages_6 : decode cX5_differentPassages 6 = .ok (.getfield 10, 3) := by decide +kernel
theorem dX5_differentPassages_9 : decode cX5_differentPassages 9 = .ok (.getfield 145, 3) := by decide +kernel
theorem dX5_differentPassages_12 : decode cX5_differentPassages 12 = .ok (.if_icmp .ge 43, 3) := by decide +kernel
theorem dX5_differentPassages_15 : decode cX5_differentPassages 15 = .ok (.iconst 0, 1) := by decide +kernel
theorem dX5_differentPassages_16 : decode cX5_differentPassages 16 = .ok (.istore_n 3, 1) := by decide +kernel
theorem dX5_differentPassages_17 : decode cX5_differentPassages 17 = .ok (.iload_n 3, 1) := by decide +kernel
theorem dX5_differentPassages_18 : decode cX5_differentPassages 18 = .ok (.aload_n 0, 1) := by decide +kernel
theorem dX5_differentPassages_19 : decode cX5_differentPassages 19 = .ok (.getfield 10, 3) := by decide +kernel
theorem dX5_differentPassages_22 : decode cX5_differentPassages 22 = .ok (.getfield 107, 3) := by decide +kernel
theorem dX5_differentPassages_25 : decode cX5_differentPassages 25 = .ok (.if_icmp .ge 24, 3) := by decide +kernel
theorem dX5_differentPassages_28 : decode cX5_differentPassages 28 = .ok (.aload_n 0, 1) := by decide +kernel
theorem dX5_differentPassages_29 : decode cX5_differentPassages 29 = .ok (.getfield 10, 3) := by decide +kernel
theorem dX5_differentPassages_32 : decode cX5_differentPassages 32 = .ok (.iload_n 2, 1) := by decide +kernel
theorem dX5_differentPassages_33 : decode cX5_differentPassages 33 = .ok (.iload_n 3, 1) := by decide +kernel
theorem dX5_differentPassages_34 : decode cX5_differentPassages 34 = .ok (.invokevirtual 148, 3) := by decide +kernel
theorem dX5_differentPassages_37 : decode cX5_differentPassages 37 = .ok (.ifCond .le 6, 3) := by decide +kernel
theorem dX5_differentPassages_40 : decode cX5_differentPassages 40 = .ok (.iinc 1 1, 3) := by decide +kernel
theorem dX5_differentPassages_43 : decode cX5_differentPassages 43 = .ok (.iinc 3 1, 3) := by decide +kernel
theorem dX5_differentPassages_46 : decode cX5_differentPassages 46 = .ok (.goto (-29), 3) := by decide +kernel
theorem dX5_differentPassages_49 : decode cX5_differentPassages 49 = .ok (.iinc 2 1, 3) := by decide +kernel
theorem dX5_differentPassages_52 : decode cX5_differentPassages 52 = .ok (.goto (-48), 3) := by decide +kernel
theorem dX5_differentPassages_55 : decode cX5_differentPassages 55 = .ok (.iload_n 1, 1) := by decide +kernel
theorem dX5_differentPassages_56 : decode cX5_differentPassages 56 = .ok (.ireturn, 1) := by decide +kernel
theorem dX5_ticksToEnd_0 : decode cX5_ticksToEnd 0 = .ok (.aload_n 0, 1) := by decide +kernel
theorem dX5_ticksToEnd_1 : decode cX5_ticksToEnd 1 = .ok (.iload_n 1, 1) := by decide +kernel
theorem dX5_ticksToEnd_2 : decode cX5_ticksToEnd 2 = .ok (.invokevirtual 163, 3) := by decide +kernel
theorem dX5_ticksToEnd_5 : decode cX5_ticksToEnd 5 = .ok (.aload_n 0, 1) := by decide +kernel
theorem dX5_ticksToEnd_6 : decode cX5_ticksToEnd 6 = .ok (.getfield 10, 3) := by decide +kernel
theorem dX5_ticksToEnd_9 : decode cX5_ticksToEnd 9 = .ok (.getfield 122, 3) := by decide +kernel
theorem dX5_ticksToEnd_12 : decode cX5_ticksToEnd 12 = .ok (.aload_n 0, 1) := by decide +kernel
theorem dX5_ticksToEnd_13 : decode cX5_ticksToEnd 13 = .ok (.getfield 10, 3) := by decide +kernel
theorem dX5_ticksToEnd_16 : decode cX5_ticksToEnd 16 = .ok (.getfield 166, 3) := by decide +kernel
theorem dX5_ticksToEnd_19 : decode cX5_ticksToEnd 19 = .ok (.iload_n 1, 1) := by decide +kernel
theorem dX5_ticksToEnd_20 : decode cX5_ticksToEnd 20 = .ok (.iaload, 1) := by decide +kernel
theorem dX5_ticksToEnd_21 : decode cX5_ticksToEnd 21 = .ok (.iaload, 1) := by decide +kernel
theorem dX5_ticksToEnd_22 : decode cX5_ticksToEnd 22 = .ok (.aload_n 0, 1) := by decide +kernel
theorem dX5_ticksToEnd_23 : decode cX5_ticksToEnd 23 = .ok (.getfield 10, 3) := by decide +kernel
theorem dX5_ticksToEnd_26 : decode cX5_ticksToEnd 26 = .ok (.getfield 169, 3) := by decide +kernel
theorem dX5_ticksToEnd_29 : decode cX5_ticksToEnd 29 = .ok (.iload_n 1, 1) := by decide +kernel
theorem dX5_ticksToEnd_30 : decode cX5_ticksToEnd 30 = .ok (.iaload, 1) := by decide +kernel
theorem dX5_ticksToEnd_31 : decode cX5_ticksToEnd 31 = .ok (.isub, 1) := by decide +kernel
theorem dX5_ticksToEnd_32 : decode cX5_ticksToEnd 32 = .ok (.istore_n 2, 1) := by decide +kernel
theorem dX5_ticksToEnd_33 : decode cX5_ticksToEnd 33 = .ok (.aload_n 0, 1) := by decide +kernel
theorem dX5_ticksToEnd_34 : decode cX5_ticksToEnd 34 = .ok (.getfield 10, 3) := by decide +kernel
theorem dX5_ticksToEnd_37 : decode cX5_ticksToEnd 37 = .ok (.iload_n 1, 1) := by decide +kernel
theorem dX5_ticksToEnd_38 : decode cX5_ticksToEnd 38 = .ok (.invokevirtual 178, 3) := by decide +kernel
theorem dX5_ticksToEnd_41 : decode cX5_ticksToEnd 41 = .ok (.istore_n 3, 1) := by decide +kernel
theorem dX5_ticksToEnd_42 : decode cX5_ticksToEnd 42 = .ok (.iload_n 3, 1) := by decide +kernel
theorem dX5_ticksToEnd_43 : decode cX5_ticksToEnd 43 = .ok (.iconst 1, 1) := by decide +kernel
theorem dX5_ticksToEnd_44 : decode cX5_ticksToEnd 44 = .ok (.if_icmp .ge 7, 3) := by decide +kernel
theorem dX5_ticksToEnd_47 : decode cX5_ticksToEnd 47 = .ok (.iconst 0, 1) := by decide +kernel
theorem dX5_ticksToEnd_48 : decode cX5_ticksToEnd 48 = .ok (.goto 10, 3) := by decide +kernel
theorem dX5_ticksToEnd_51 : decode cX5_ticksToEnd 51 = .ok (.iload_n 2, 1) := by decide +kernel
theorem dX5_ticksToEnd_52 : decode cX5_ticksToEnd 52 = .ok (.iload_n 3, 1) := by decide +kernel
theorem dX5_ticksToEnd_53 : decode cX5_ticksToEnd 53 = .ok (.iadd, 1) := by decide +kernel
theorem dX5_ticksToEnd_54 : decode cX5_ticksToEnd 54 = .ok (.iconst 1, 1) := by decide +kernel
theorem dX5_ticksToEnd_55 : decode cX5_ticksToEnd 55 = .ok (.isub, 1) := by decide +kernel
theorem dX5_ticksToEnd_56 : decode cX5_ticksToEnd 56 = .ok (.iload_n 3, 1) := by decide +kernel
theorem dX5_ticksToEnd_57 : decode cX5_ticksToEnd 57 = .ok (.idiv, 1) := by decide +kernel
theorem dX5_ticksToEnd_58 : decode cX5_ticksToEnd 58 = .ok (.ireturn, 1) := by decide +kernel
theorem dX5_trainAhead_0 : decode cX5_trainAhead 0 = .ok (.aload_n 0, 1) := by decide +kernel
theorem dX5_trainAhead_1 : decode cX5_trainAhead 1 = .ok (.iload_n 1, 1) := by decide +kernel
theorem dX5_trainAhead_2 : decode cX5_trainAhead 2 = .ok (.invokevirtual 163, 3) := by decide +kernel
theorem dX5_trainAhead_5 : decode cX5_trainAhead 5 = .ok (.aload_n 0, 1) := by decide +kernel
theorem dX5_trainAhead_6 : decode cX5_trainAhead 6 = .ok (.getfield 10, 3) := by decide +kernel
theorem dX5_trainAhead_9 : decode cX5_trainAhead 9 = .ok (.getfield 166, 3) := by decide +kernel
theorem dX5_trainAhead_12 : decode cX5_trainAhead 12 = .ok (.iload_n 1, 1) := by decide +kernel
theorem dX5_trainAhead_13 : decode cX5_trainAhead 13 = .ok (.iaload, 1) := by decide +kernel
theorem dX5_trainAhead_14 : decode cX5_trainAhead 14 = .ok (.istore_n 2, 1) := by decide +kernel
theorem dX5_trainAhead_15 : decode cX5_trainAhead 15 = .ok (.iconst 1, 1) := by decide +kernel
theorem dX5_trainAhead_16 : decode cX5_trainAhead 16 = .ok (.istore_n 3, 1) := by decide +kernel
theorem dX5_trainAhead_17 : decode cX5_trainAhead 17 = .ok (.iload_n 3, 1) := by decide +kernel
theorem dX5_trainAhead_18 : decode cX5_trainAhead 18 = .ok (.aload_n 0, 1) := by decide +kernel
theorem dX5_trainAhead_19 : decode cX5_trainAhead 19 = .ok (.getfield 10, 3) := by decide +kernel
theorem dX5_trainAhead_22 : decode cX5_trainAhead 22 = .ok (.getfield 107, 3) := by decide +kernel
theorem dX5_trainAhead_25 : decode cX5_trainAhead 25 = .ok (.if_icmp .ge 41, 3) := by decide +kernel
theorem dX5_trainAhead_28 : decode cX5_trainAhead 28 = .ok (.aload_n 0, 1) := by decide +kernel
theorem dX5_trainAhead_29 : decode cX5_trainAhead 29 = .ok (.getfield 10, 3) := by decide +kernel
theorem dX5_trainAhead_32 : decode cX5_trainAhead 32 = .ok (.iload_n 2, 1) := by decide +kernel
theorem dX5_trainAhead_33 : decode cX5_trainAhead 33 = .ok (.invokevirtual 184, 3) := by decide +kernel
theorem dX5_trainAhead_36 : decode cX5_trainAhead 36 = .ok (.istore_n 2, 1) := by decide +kernel
theorem dX5_trainAhead_37 : decode cX5_trainAhead 37 = .ok (.aload_n 0, 1) := by decide +kernel
theorem dX5_trainAhead_38 : decode cX5_trainAhead 38 = .ok (.getfield 10, 3) := by decide +kernel
theorem dX5_trainAhead_41 : decode cX5_trainAhead 41 = .ok (.getfield 139, 3) := by decide +kernel
theorem dX5_trainAhead_44 : decode cX5_trainAhead 44 = .ok (.iload_n 2, 1) := by decide +kernel
theorem dX5_trainAhead_45 : decode cX5_trainAhead 45 = .ok (.iaload, 1) := by decide +kernel
theorem dX5_trainAhead_46 : decode cX5_trainAhead 46 = .ok (.iconst (-1), 1) := by decide +kernel
theorem dX5_trainAhead_47 : decode cX5_trainAhead 47 = .ok (.if_icmp .eq 13, 3) := by decide +kernel
theorem dX5_trainAhead_50 : decode cX5_trainAhead 50 = .ok (.aload_n 0, 1) := by decide +kernel
theorem dX5_trainAhead_51 : decode cX5_trainAhead 51 = .ok (.getfield 10, 3) := by decide +kernel
theorem dX5_trainAhead_54 : decode cX5_trainAhead 54 = .ok (.getfield 139, 3) := by decide +kernel
theorem dX5_trainAhead_57 : decode cX5_trainAhead 57 = .ok (.iload_n 2, 1) := by decide +kernel
theorem dX5_trainAhead_58 : decode cX5_trainAhead 58 = .ok (.iaload, 1) := by decide +kernel
theorem dX5_trainAhead_59 : decode cX5_trainAhead 59 = .ok (.ireturn, 1) := by decide +kernel
theorem dX5_trainAhead_60 : decode cX5_trainAhead 60 = .ok (.iinc 3 1, 3) := by decide +kernel
theorem dX5_trainAhead_63 : decode cX5_trainAhead 63 = .ok (.goto (-46), 3) := by decide +kernel
theorem dX5_trainAhead_66 : decode cX5_trainAhead 66 = .ok (.iconst (-1), 1) := by decide +kernel
theorem dX5_trainAhead_67 : decode cX5_trainAhead 67 = .ok (.ireturn, 1) := by decide +kernel
theorem dX5_clearBlocksAhead_0 : decode cX5_clearBlocksAhead 0 = .ok (.aload_n 0, 1) := by decide +kernel
theorem dX5_clearBlocksAhead_1 : decode cX5_clearBlocksAhead 1 = .ok (.iload_n 1, 1) := by decide +kernel
theorem dX5_clearBlocksAhead_2 : decode cX5_clearBlocksAhead 2 = .ok (.invokevirtual 163, 3) := by decide +kernel
theorem dX5_clearBlocksAhead_5 : decode cX5_clearBlocksAhead 5 = .ok (.iconst 0, 1) := by decide +kernel
theorem dX5_clearBlocksAhead_6 : decode cX5_clearBlocksAhead 6 = .ok (.istore_n 2, 1) := by decide +kernel
theorem dX5_clearBlocksAhead_7 : decode cX5_clearBlocksAhead 7 = .ok (.aload_n 0, 1) := by decide +kernel
theorem dX5_clearBlocksAhead_8 : decode cX5_clearBlocksAhead 8 = .ok (.getfield 10, 3) := by decide +kernel
theorem dX5_clearBlocksAhead_11 : decode cX5_clearBlocksAhead 11 = .ok (.aload_n 0, 1) := by decide +kernel
theorem dX5_clearBlocksAhead_12 : decode cX5_clearBlocksAhead 12 = .ok (.getfield 10, 3) := by decide +kernel
theorem dX5_clearBlocksAhead_15 : decode cX5_clearBlocksAhead 15 = .ok (.getfield 166, 3) := by decide +kernel
theorem dX5_clearBlocksAhead_18 : decode cX5_clearBlocksAhead 18 = .ok (.iload_n 1, 1) := by decide +kernel
theorem dX5_clearBlocksAhead_19 : decode cX5_clearBlocksAhead 19 = .ok (.iaload, 1) := by decide +kernel
theorem dX5_clearBlocksAhead_20 : decode cX5_clearBlocksAhead 20 = .ok (.invokevirtual 184, 3) := by decide +kernel
theorem dX5_clearBlocksAhead_23 : decode cX5_clearBlocksAhead 23 = .ok (.istore_n 3, 1) := by decide +kernel
theorem dX5_clearBlocksAhead_24 : decode cX5_clearBlocksAhead 24 = .ok (.iload_n 2, 1) := by decide +kernel
theorem dX5_clearBlocksAhead_25 : decode cX5_clearBlocksAhead 25 = .ok (.aload_n 0, 1) := by decide +kernel
theorem dX5_clearBlocksAhead_26 : decode cX5_clearBlocksAhead 26 = .ok (.getfield 10, 3) := by decide +kernel
theorem dX5_clearBlocksAhead_29 : decode cX5_clearBlocksAhead 29 = .ok (.getfield 107, 3) := by decide +kernel
theorem dX5_clearBlocksAhead_32 : decode cX5_clearBlocksAhead 32 = .ok (.if_icmp .ge 29, 3) := by decide +kernel
theorem dX5_clearBlocksAhead_35 : decode cX5_clearBlocksAhead 35 = .ok (.aload_n 0, 1) := by decide +kernel
theorem dX5_clearBlocksAhead_36 : decode cX5_clearBlocksAhead 36 = .ok (.getfield 10, 3) := by decide +kernel
theorem dX5_clearBlocksAhead_39 : decode cX5_clearBlocksAhead 39 = .ok (.iload_n 3, 1) := by decide +kernel
theorem dX5_clearBlocksAhead_40 : decode cX5_clearBlocksAhead 40 = .ok (.invokevirtual 155, 3) := by decide +kernel
theorem dX5_clearBlocksAhead_43 : decode cX5_clearBlocksAhead 43 = .ok (.ifCond .ne 18, 3) := by decide +kernel
theorem dX5_clearBlocksAhead_46 : decode cX5_clearBlocksAhead 46 = .ok (.iinc 2 1, 3) := by decide +kernel
theorem dX5_clearBlocksAhead_49 : decode cX5_clearBlocksAhead 49 = .ok (.aload_n 0, 1) := by decide +kernel
theorem dX5_clearBlocksAhead_50 : decode cX5_clearBlocksAhead 50 = .ok (.getfield 10, 3) := by decide +kernel
theorem dX5_clearBlocksAhead_53 : decode cX5_clearBlocksAhead 53 = .ok (.iload_n 3, 1) := by decide +kernel
theorem dX5_clearBlocksAhead_54 : decode cX5_clearBlocksAhead 54 = .ok (.invokevirtual 184, 3) := by decide +kernel
theorem dX5_clearBlocksAhead_57 : decode cX5_clearBlocksAhead 57 = .ok (.istore_n 3, 1) := by decide +kernel
theorem dX5_clearBlocksAhead_58 : decode cX5_clearBlocksAhead 58 = .ok (.goto (-34), 3) := by decide +kernel
theorem dX5_clearBlocksAhead_61 : decode cX5_clearBlocksAhead 61 = .ok (.iload_n 2, 1) := by decide +kernel
theorem dX5_clearBlocksAhead_62 : decode cX5_clearBlocksAhead 62 = .ok (.ireturn, 1) := by decide +kernel
theorem dX5_canEnter_0 : decode cX5_canEnter 0 = .ok (.aload_n 0, 1) := by decide +kernel
theorem dX5_canEnter_1 : decode cX5_canEnter 1 = .ok (.iload_n 1, 1) := by decide +kernel
theorem dX5_canEnter_2 : decode cX5_canEnter 2 = .ok (.invokevirtual 163, 3) := by decide +kernel
theorem dX5_canEnter_5 : decode cX5_canEnter 5 = .ok (.aload_n 0, 1) := by decide +kernel
theorem dX5_canEnter_6 : decode cX5_canEnter 6 = .ok (.getfield 10, 3) := by decide +kernel
theorem dX5_canEnter_9 : decode cX5_canEnter 9 = .ok (.aload_n 0, 1) := by decide +kernel
theorem dX5_canEnter_10 : decode cX5_canEnter 10 = .ok (.getfield 10, 3) := by decide +kernel
theorem dX5_canEnter_13 : decode cX5_canEnter 13 = .ok (.aload_n 0, 1) := by decide +kernel
theorem dX5_canEnter_14 : decode cX5_canEnter 14 = .ok (.getfield 10, 3) := by decide +kernel
theorem dX5_canEnter_17 : decode cX5_canEnter 17 = .ok (.getfield 166, 3) := by decide +kernel
theorem dX5_canEnter_20 : decode cX5_canEnter 20 = .ok (.iload_n 1, 1) := by decide +kernel
theorem dX5_canEnter_21 : decode cX5_canEnter 21 = .ok (.iaload, 1) := by decide +kernel
theorem dX5_canEnter_22 : decode cX5_canEnter 22 = .ok (.invokevirtual 184, 3) := by decide +kernel
theorem dX5_canEnter_25 : decode cX5_canEnter 25 = .ok (.invokevirtual 187, 3) := by decide +kernel
theorem dX5_canEnter_28 : decode cX5_canEnter 28 = .ok (.ireturn, 1) := by decide +kernel
theorem dX5_blockAfter_0 : decode cX5_blockAfter 0 = .ok (.aload_n 0, 1) := by decide +kernel
theorem dX5_blockAfter_1 : decode cX5_blockAfter 1 = .ok (.iload_n 1, 1) := by decide +kernel
theorem dX5_blockAfter_2 : decode cX5_blockAfter 2 = .ok (.invokevirtual 163, 3) := by decide +kernel
theorem dX5_blockAfter_5 : decode cX5_blockAfter 5 = .ok (.iload_n 2, 1) := by decide +kernel
theorem dX5_blockAfter_6 : decode cX5_blockAfter 6 = .ok (.ifCond .lt 10, 3) := by decide +kernel
theorem dX5_blockAfter_9 : decode cX5_blockAfter 9 = .ok (.iload_n 2, 1) := by decide +kernel
theorem dX5_blockAfter_10 : decode cX5_blockAfter 10 = .ok (.sipush 200, 3) := by decide +kernel
theorem dX5_blockAfter_13 : decode cX5_blockAfter 13 = .ok (.if_icmp .le 13, 3) := by decide +kernel
theorem dX5_blockAfter_16 : decode cX5_blockAfter 16 = .ok (.new 95, 3) := by decide +kernel
theorem dX5_blockAfter_19 : decode cX5_blockAfter 19 = .ok (.dup, 1) := by decide +kernel
theorem dX5_blockAfter_20 : decode cX5_blockAfter 20 = .ok (.ldc 190, 2) := by decide +kernel
theorem dX5_blockAfter_22 : decode cX5_blockAfter 22 = .ok (.invokespecial 99, 3) := by decide +kernel
theorem dX5_blockAfter_25 : decode cX5_blockAfter 25 = .ok (.athrow, 1) := by decide +kernel
theorem dX5_blockAfter_26 : decode cX5_blockAfter 26 = .ok (.aload_n 0, 1) := by decide +kernel
theorem dX5_blockAfter_27 : decode cX5_blockAfter 27 = .ok (.getfield 16, 3) := by decide +kernel
theorem dX5_blockAfter_30 : decode cX5_blockAfter 30 = .ok (.aload_n 0, 1) := by decide +kernel
theorem dX5_blockAfter_31 : decode cX5_blockAfter 31 = .ok (.getfield 10, 3) := by decide +kernel
theorem dX5_blockAfter_34 : decode cX5_blockAfter 34 = .ok (.invokevirtual 69, 3) := by decide +kernel
theorem dX5_blockAfter_37 : decode cX5_blockAfter 37 = .ok (.aload_n 0, 1) := by decide +kernel
theorem dX5_blockAfter_38 : decode cX5_blockAfter 38 = .ok (.getfield 16, 3) := by decide +kernel
theorem dX5_blockAfter_41 : decode cX5_blockAfter 41 = .ok (.iload_n 2, 1) := by decide +kernel
theorem dX5_blockAfter_42 : decode cX5_blockAfter 42 = .ok (.invokevirtual 192, 3) := by decide +kernel
theorem dX5_blockAfter_45 : decode cX5_blockAfter 45 = .ok (.pop, 1) := by decide +kernel
theorem dX5_blockAfter_46 : decode cX5_blockAfter 46 = .ok (.aload_n 0, 1) := by decide +kernel
theorem dX5_blockAfter_47 : decode cX5_blockAfter 47 = .ok (.getfield 16, 3) := by decide +kernel
theorem dX5_blockAfter_50 : decode cX5_blockAfter 50 = .ok (.getfield 166, 3) := by decide +kernel
theorem dX5_blockAfter_53 : decode cX5_blockAfter 53 = .ok (.iload_n 1, 1) := by decide +kernel
theorem dX5_blockAfter_54 : decode cX5_blockAfter 54 = .ok (.iaload, 1) := by decide +kernel
theorem dX5_blockAfter_55 : decode cX5_blockAfter 55 = .ok (.ireturn, 1) := by decide +kernel
theorem dX5_ticksUntilWait_0 : decode cX5_ticksUntilWait 0 = .ok (.aload_n 0, 1) := by decide +kernel
theorem dX5_ticksUntilWait_1 : decode cX5_ticksUntilWait 1 = .ok (.iload_n 1, 1) := by decide +kernel
theorem dX5_ticksUntilWait_2 : decode cX5_ticksUntilWait 2 = .ok (.invokevirtual 163, 3) := by decide +kernel
theorem dX5_ticksUntilWait_5 : decode cX5_ticksUntilWait 5 = .ok (.aload_n 0, 1) := by decide +kernel
theorem dX5_ticksUntilWait_6 : decode cX5_ticksUntilWait 6 = .ok (.getfield 16, 3) := by decide +kernel
theorem dX5_ticksUntilWait_9 : decode cX5_ticksUntilWait 9 = .ok (.aload_n 0, 1) := by decide +kernel
theorem dX5_ticksUntilWait_10 : decode cX5_ticksUntilWait 10 = .ok (.getfield 10, 3) := by decide +kernel
theorem dX5_ticksUntilWait_13 : decode cX5_ticksUntilWait 13 = .ok (.invokevirtual 69, 3) := by decide +kernel
theorem dX5_ticksUntilWait_16 : decode cX5_ticksUntilWait 16 = .ok (.iconst 1, 1) := by decide +kernel
theorem dX5_ticksUntilWait_17 : decode cX5_ticksUntilWait 17 = .ok (.istore_n 2, 1) := by decide +kernel
theorem dX5_ticksUntilWait_18 : decode cX5_ticksUntilWait 18 = .ok (.iload_n 2, 1) := by decide +kernel
theorem dX5_ticksUntilWait_19 : decode cX5_ticksUntilWait 19 = .ok (.sipush 200, 3) := by decide +kernel
theorem dX5_ticksUntilWait_22 : decode cX5_ticksUntilWait 22 = .ok (.if_icmp .gt 41, 3) := by decide +kernel
theorem dX5_ticksUntilWait_25 : decode cX5_ticksUntilWait 25 = .ok (.aload_n 0, 1) := by decide +kernel
theorem dX5_ticksUntilWait_26 : decode cX5_ticksUntilWait 26 = .ok (.getfield 16, 3) := by decide +kernel
theorem dX5_ticksUntilWait_29 : decode cX5_ticksUntilWait 29 = .ok (.iconst 1, 1) := by decide +kernel
theorem dX5_ticksUntilWait_30 : decode cX5_ticksUntilWait 30 = .ok (.invokevirtual 192, 3) := by decide +kernel
theorem dX5_ticksUntilWait_33 : decode cX5_ticksUntilWait 33 = .ok (.pop, 1) := by decide +kernel
theorem dX5_ticksUntilWait_34 : decode cX5_ticksUntilWait 34 = .ok (.aload_n 0, 1) := by decide +kernel
theorem dX5_ticksUntilWait_35 : decode cX5_ticksUntilWait 35 = .ok (.getfield 16, 3) := by decide +kernel
theorem dX5_ticksUntilWait_38 : decode cX5_ticksUntilWait 38 = .ok (.getfield 181, 3) := by decide +kernel
theorem dX5_ticksUntilWait_41 : decode cX5_ticksUntilWait 41 = .ok (.iload_n 1, 1) := by decide +kernel
theorem dX5_ticksUntilWait_42 : decode cX5_ticksUntilWait 42 = .ok (.iaload, 1) := by decide +kernel
theorem dX5_ticksUntilWait_43 : decode cX5_ticksUntilWait 43 = .ok (.aload_n 0, 1) := by decide +kernel
theorem dX5_ticksUntilWait_44 : decode cX5_ticksUntilWait 44 = .ok (.getfield 10, 3) := by decide +kernel
theorem dX5_ticksUntilWait_47 : decode cX5_ticksUntilWait 47 = .ok (.getfield 181, 3) := by decide +kernel
theorem dX5_ticksUntilWait_50 : decode cX5_ticksUntilWait 50 = .ok (.iload_n 1, 1) := by decide +kernel
theorem dX5_ticksUntilWait_51 : decode cX5_ticksUntilWait 51 = .ok (.iaload, 1) := by decide +kernel
theorem dX5_ticksUntilWait_52 : decode cX5_ticksUntilWait 52 = .ok (.if_icmp .le 5, 3) := by decide +kernel
theorem dX5_ticksUntilWait_55 : decode cX5_ticksUntilWait 55 = .ok (.iload_n 2, 1) := by decide +kernel
theorem dX5_ticksUntilWait_56 : decode cX5_ticksUntilWait 56 = .ok (.ireturn, 1) := by decide +kernel
theorem dX5_ticksUntilWait_57 : decode cX5_ticksUntilWait 57 = .ok (.iinc 2 1, 3) := by decide +kernel
theorem dX5_ticksUntilWait_60 : decode cX5_ticksUntilWait 60 = .ok (.goto (-42), 3) := by decide +kernel
theorem dX5_ticksUntilWait_63 : decode cX5_ticksUntilWait 63 = .ok (.iconst (-1), 1) := by decide +kernel
theorem dX5_ticksUntilWait_64 : decode cX5_ticksUntilWait 64 = .ok (.ireturn, 1) := by decide +kernel
theorem dX5_totalWagons_0 : decode cX5_totalWagons 0 = .ok (.aload_n 0, 1) := by decide +kernel
theorem dX5_totalWagons_1 : decode cX5_totalWagons 1 = .ok (.getfield 10, 3) := by decide +kernel
theorem dX5_totalWagons_4 : decode cX5_totalWagons 4 = .ok (.invokevirtual 195, 3) := by decide +kernel
theorem dX5_totalWagons_7 : decode cX5_totalWagons 7 = .ok (.ireturn, 1) := by decide +kernel
theorem dX5_lostWagons_0 : decode cX5_lostWagons 0 = .ok (.aload_n 0, 1) := by decide +kernel
theorem dX5_lostWagons_1 : decode cX5_lostWagons 1 = .ok (.getfield 10, 3) := by decide +kernel
theorem dX5_lostWagons_4 : decode cX5_lostWagons 4 = .ok (.invokevirtual 198, 3) := by decide +kernel
theorem dX5_lostWagons_7 : decode cX5_lostWagons 7 = .ok (.ireturn, 1) := by decide +kernel
theorem dX5_removedWagons_0 : decode cX5_removedWagons 0 = .ok (.aload_n 0, 1) := by decide +kernel
theorem dX5_removedWagons_1 : decode cX5_removedWagons 1 = .ok (.getfield 10, 3) := by decide +kernel
theorem dX5_removedWagons_4 : decode cX5_removedWagons 4 = .ok (.getfield 201, 3) := by decide +kernel
theorem dX5_removedWagons_7 : decode cX5_removedWagons 7 = .ok (.ireturn, 1) := by decide +kernel
theorem dX5_sharedBlocks_0 : decode cX5_sharedBlocks 0 = .ok (.iconst 0, 1) := by decide +kernel
theorem dX5_sharedBlocks_1 : decode cX5_sharedBlocks 1 = .ok (.istore_n 1, 1) := by decide +kernel
theorem dX5_sharedBlocks_2 : decode cX5_sharedBlocks 2 = .ok (.iconst 0, 1) := by decide +kernel
theorem dX5_sharedBlocks_3 : decode cX5_sharedBlocks 3 = .ok (.istore_n 2, 1) := by decide +kernel
theorem dX5_sharedBlocks_4 : decode cX5_sharedBlocks 4 = .ok (.iload_n 2, 1) := by decide +kernel
theorem dX5_sharedBlocks_5 : decode cX5_sharedBlocks 5 = .ok (.aload_n 0, 1) := by decide +kernel
theorem dX5_sharedBlocks_6 : decode cX5_sharedBlocks 6 = .ok (.getfield 10, 3) := by decide +kernel
theorem dX5_sharedBlocks_9 : decode cX5_sharedBlocks 9 = .ok (.getfield 145, 3) := by decide +kernel
theorem dX5_sharedBlocks_12 : decode cX5_sharedBlocks 12 = .ok (.if_icmp .ge 46, 3) := by decide +kernel
theorem dX5_sharedBlocks_15 : decode cX5_sharedBlocks 15 = .ok (.iconst 0, 1) := by decide +kernel
theorem dX5_sharedBlocks_16 : decode cX5_sharedBlocks 16 = .ok (.istore_n 3, 1) := by decide +kernel
theorem dX5_sharedBlocks_17 : decode cX5_sharedBlocks 17 = .ok (.iload_n 3, 1) := by decide +kernel
theorem dX5_sharedBlocks_18 : decode cX5_sharedBlocks 18 = .ok (.iload_n 2, 1) := by decide +kernel
theorem dX5_sharedBlocks_19 : decode cX5_sharedBlocks 19 = .ok (.if_icmp .ge 33, 3) := by decide +kernel
theorem dX5_sharedBlocks_22 : decode cX5_sharedBlocks 22 = .ok (.aload_n 0, 1) := by decide +kernel
theorem dX5_sharedBlocks_23 : decode cX5_sharedBlocks 23 = .ok (.getfield 10, 3) := by decide +kernel
theorem dX5_sharedBlocks_26 : decode cX5_sharedBlocks 26 = .ok (.getfield 166, 3) := by decide +kernel
theorem dX5_sharedBlocks_29 : decode cX5_sharedBlocks 29 = .ok (.iload_n 3, 1) := by decide +kernel
theorem dX5_sharedBlocks_30 : decode cX5_sharedBlocks 30 = .ok (.iaload, 1) := by decide +kernel
theorem dX5_sharedBlocks_31 : decode cX5_sharedBlocks 31 = .ok (.aload_n 0, 1) := by decide +kernel
theorem dX5_sharedBlocks_32 : decode cX5_sharedBlocks 32 = .ok (.getfield 10, 3) := by decide +kernel
theorem dX5_sharedBlocks_35 : decode cX5_sharedBlocks 35 = .ok (.getfield 166, 3) := by decide +kernel
theorem dX5_sharedBlocks_38 : decode cX5_sharedBlocks 38 = .ok (.iload_n 2, 1) := by decide +kernel
theorem dX5_sharedBlocks_39 : decode cX5_sharedBlocks 39 = .ok (.iaload, 1) := by decide +kernel
theorem dX5_sharedBlocks_40 : decode cX5_sharedBlocks 40 = .ok (.if_icmp .ne 6, 3) := by decide +kernel
theorem dX5_sharedBlocks_43 : decode cX5_sharedBlocks 43 = .ok (.iinc 1 1, 3) := by decide +kernel
theorem dX5_sharedBlocks_46 : decode cX5_sharedBlocks 46 = .ok (.iinc 3 1, 3) := by decide +kernel
theorem dX5_sharedBlocks_49 : decode cX5_sharedBlocks 49 = .ok (.goto (-32), 3) := by decide +kernel
theorem dX5_sharedBlocks_52 : decode cX5_sharedBlocks 52 = .ok (.iinc 2 1, 3) := by decide +kernel
theorem dX5_sharedBlocks_55 : decode cX5_sharedBlocks 55 = .ok (.goto (-51), 3) := by decide +kernel
theorem dX5_sharedBlocks_58 : decode cX5_sharedBlocks 58 = .ok (.iload_n 1, 1) := by decide +kernel
theorem dX5_sharedBlocks_59 : decode cX5_sharedBlocks 59 = .ok (.ireturn, 1) := by decide +kernel
theorem dX5_wagonDifference_0 : decode cX5_wagonDifference 0 = .ok (.aload_n 0, 1) := by decide +kernel
theorem dX5_wagonDifference_1 : decode cX5_wagonDifference 1 = .ok (.getfield 10, 3) := by decide +kernel
theorem dX5_wagonDifference_4 : decode cX5_wagonDifference 4 = .ok (.invokevirtual 195, 3) := by decide +kernel
theorem dX5_wagonDifference_7 : decode cX5_wagonDifference 7 = .ok (.aload_n 0, 1) := by decide +kernel
theorem dX5_wagonDifference_8 : decode cX5_wagonDifference 8 = .ok (.getfield 10, 3) := by decide +kernel
theorem dX5_wagonDifference_11 : decode cX5_wagonDifference 11 = .ok (.invokevirtual 198, 3) := by decide +kernel
theorem dX5_wagonDifference_14 : decode cX5_wagonDifference 14 = .ok (.iadd, 1) := by decide +kernel
theorem dX5_wagonDifference_15 : decode cX5_wagonDifference 15 = .ok (.aload_n 0, 1) := by decide +kernel
theorem dX5_wagonDifference_16 : decode cX5_wagonDifference 16 = .ok (.getfield 10, 3) := by decide +kernel
theorem dX5_wagonDifference_19 : decode cX5_wagonDifference 19 = .ok (.getfield 201, 3) := by decide +kernel
theorem dX5_wagonDifference_22 : decode cX5_wagonDifference 22 = .ok (.iadd, 1) := by decide +kernel
theorem dX5_wagonDifference_23 : decode cX5_wagonDifference 23 = .ok (.istore_n 1, 1) := by decide +kernel
theorem dX5_wagonDifference_24 : decode cX5_wagonDifference 24 = .ok (.iload_n 1, 1) := by decide +kernel
theorem dX5_wagonDifference_25 : decode cX5_wagonDifference 25 = .ok (.aload_n 0, 1) := by decide +kernel
theorem dX5_wagonDifference_26 : decode cX5_wagonDifference 26 = .ok (.getfield 10, 3) := by decide +kernel
theorem dX5_wagonDifference_29 : decode cX5_wagonDifference 29 = .ok (.getfield 204, 3) := by decide +kernel
theorem dX5_wagonDifference_32 : decode cX5_wagonDifference 32 = .ok (.isub, 1) := by decide +kernel
theorem dX5_wagonDifference_33 : decode cX5_wagonDifference 33 = .ok (.invokestatic 207, 3) := by decide +kernel
theorem dX5_wagonDifference_36 : decode cX5_wagonDifference 36 = .ok (.ireturn, 1) := by decide +kernel
theorem dX5_meanDepth_0 : decode cX5_meanDepth 0 = .ok (.aload_n 0, 1) := by decide +kernel
theorem dX5_meanDepth_1 : decode cX5_meanDepth 1 = .ok (.getfield 10, 3) := by decide +kernel
theorem dX5_meanDepth_4 : decode cX5_meanDepth 4 = .ok (.getfield 107, 3) := by decide +kernel
theorem dX5_meanDepth_7 : decode cX5_meanDepth 7 = .ok (.ifCond .ne 5, 3) := by decide +kernel
theorem dX5_meanDepth_10 : decode cX5_meanDepth 10 = .ok (.dconst 0, 1) := by decide +kernel
theorem dX5_meanDepth_11 : decode cX5_meanDepth 11 = .ok (.dreturn, 1) := by decide +kernel
theorem dX5_meanDepth_12 : decode cX5_meanDepth 12 = .ok (.iconst 0, 1) := by decide +kernel
theorem dX5_meanDepth_13 : decode cX5_meanDepth 13 = .ok (.istore_n 1, 1) := by decide +kernel
theorem dX5_meanDepth_14 : decode cX5_meanDepth 14 = .ok (.iconst 0, 1) := by decide +kernel
theorem dX5_meanDepth_15 : decode cX5_meanDepth 15 = .ok (.istore_n 2, 1) := by decide +kernel
theorem dX5_meanDepth_16 : decode cX5_meanDepth 16 = .ok (.iload_n 2, 1) := by decide +kernel
theorem dX5_meanDepth_17 : decode cX5_meanDepth 17 = .ok (.aload_n 0, 1) := by decide +kernel
theorem dX5_meanDepth_18 : decode cX5_meanDepth 18 = .ok (.getfield 10, 3) := by decide +kernel
theorem dX5_meanDepth_21 : decode cX5_meanDepth 21 = .ok (.getfield 107, 3) := by decide +kernel
theorem dX5_meanDepth_24 : decode cX5_meanDepth 24 = .ok (.if_icmp .ge 21, 3) := by decide +kernel
theorem dX5_meanDepth_27 : decode cX5_meanDepth 27 = .ok (.iload_n 1, 1) := by decide +kernel
theorem dX5_meanDepth_28 : decode cX5_meanDepth 28 = .ok (.aload_n 0, 1) := by decide +kernel
theorem dX5_meanDepth_29 : decode cX5_meanDepth 29 = .ok (.getfield 10, 3) := by decide +kernel
theorem dX5_meanDepth_32 : decode cX5_meanDepth 32 = .ok (.getfield 125, 3) := by decide +kernel
theorem dX5_meanDepth_35 : decode cX5_meanDepth 35 = .ok (.iload_n 2, 1) := by decide +kernel
theorem dX5_meanDepth_36 : decode cX5_meanDepth 36 = .ok (.iaload, 1) := by decide +kernel
theorem dX5_meanDepth_37 : decode cX5_meanDepth 37 = .ok (.iadd, 1) := by decide +kernel
theorem dX5_meanDepth_38 : decode cX5_meanDepth 38 = .ok (.istore_n 1, 1) := by decide +kernel
theorem dX5_meanDepth_39 : decode cX5_meanDepth 39 = .ok (.iinc 2 1, 3) := by decide +kernel
theorem dX5_meanDepth_42 : decode cX5_meanDepth 42 = .ok (.goto (-26), 3) := by decide +kernel
theorem dX5_meanDepth_45 : decode cX5_meanDepth 45 = .ok (.iload_n 1, 1) := by decide +kernel
theorem dX5_meanDepth_46 : decode cX5_meanDepth 46 = .ok (.i2d, 1) := by decide +kernel
theorem dX5_meanDepth_47 : decode cX5_meanDepth 47 = .ok (.aload_n 0, 1) := by decide +kernel
theorem dX5_meanDepth_48 : decode cX5_meanDepth 48 = .ok (.getfield 10, 3) := by decide +kernel
theorem dX5_meanDepth_51 : decode cX5_meanDepth 51 = .ok (.getfield 107, 3) := by decide +kernel
theorem dX5_meanDepth_54 : decode cX5_meanDepth 54 = .ok (.i2d, 1) := by decide +kernel
theorem dX5_meanDepth_55 : decode cX5_meanDepth 55 = .ok (.ddiv, 1) := by decide +kernel
theorem dX5_meanDepth_56 : decode cX5_meanDepth 56 = .ok (.dreturn, 1) := by decide +kernel
theorem dX5_waitShare_0 : decode cX5_waitShare 0 = .ok (.aload_n 0, 1) := by decide +kernel
theorem dX5_waitShare_1 : decode cX5_waitShare 1 = .ok (.getfield 10, 3) := by decide +kernel
theorem dX5_waitShare_4 : decode cX5_waitShare 4 = .ok (.getfield 116, 3) := by decide +kernel
theorem dX5_waitShare_7 : decode cX5_waitShare 7 = .ok (.aload_n 0, 1) := by decide +kernel
theorem dX5_waitShare_8 : decode cX5_waitShare 8 = .ok (.getfield 10, 3) := by decide +kernel
theorem dX5_waitShare_11 : decode cX5_waitShare 11 = .ok (.getfield 145, 3) := by decide +kernel
theorem dX5_waitShare_14 : decode cX5_waitShare 14 = .ok (.imul, 1) := by decide +kernel
theorem dX5_waitShare_15 : decode cX5_waitShare 15 = .ok (.istore_n 1, 1) := by decide +kernel
theorem dX5_waitShare_16 : decode cX5_waitShare 16 = .ok (.iload_n 1, 1) := by decide +kernel
theorem dX5_waitShare_17 : decode cX5_waitShare 17 = .ok (.ifCond .ne 5, 3) := by decide +kernel
theorem dX5_waitShare_20 : decode cX5_waitShare 20 = .ok (.fconst 0, 1) := by decide +kernel
theorem dX5_waitShare_21 : decode cX5_waitShare 21 = .ok (.freturn, 1) := by decide +kernel
theorem dX5_waitShare_22 : decode cX5_waitShare 22 = .ok (.iconst 0, 1) := by decide +kernel
theorem dX5_waitShare_23 : decode cX5_waitShare 23 = .ok (.istore_n 2, 1) := by decide +kernel
theorem dX5_waitShare_24 : decode cX5_waitShare 24 = .ok (.iconst 0, 1) := by decide +kernel
theorem dX5_waitShare_25 : decode cX5_waitShare 25 = .ok (.istore_n 3, 1) := by decide +kernel
theorem dX5_waitShare_26 : decode cX5_waitShare 26 = .ok (.iload_n 3, 1) := by decide +kernel
theorem dX5_waitShare_27 : decode cX5_waitShare 27 = .ok (.aload_n 0, 1) := by decide +kernel
theorem dX5_waitShare_28 : decode cX5_waitShare 28 = .ok (.getfield 10, 3) := by decide +kernel
theorem dX5_waitShare_31 : decode cX5_waitShare 31 = .ok (.getfield 145, 3) := by decide +kernel
theorem dX5_waitShare_34 : decode cX5_waitShare 34 = .ok (.if_icmp .ge 21, 3) := by decide +kernel
theorem dX5_waitShare_37 : decode cX5_waitShare 37 = .ok (.iload_n 2, 1) := by decide +kernel
theorem dX5_waitShare_38 : decode cX5_waitShare 38 = .ok (.aload_n 0, 1) := by decide +kernel
theorem dX5_waitShare_39 : decode cX5_waitShare 39 = .ok (.getfield 10, 3) := by decide +kernel
theorem dX5_waitShare_42 : decode cX5_waitShare 42 = .ok (.getfield 181, 3) := by decide +kernel
theorem dX5_waitShare_45 : decode cX5_waitShare 45 = .ok (.iload_n 3, 1) := by decide +kernel
theorem dX5_waitShare_46 : decode cX5_waitShare 46 = .ok (.iaload, 1) := by decide +kernel
theorem dX5_waitShare_47 : decode cX5_waitShare 47 = .ok (.iadd, 1) := by decide +kernel
theorem dX5_waitShare_48 : decode cX5_waitShare 48 = .ok (.istore_n 2, 1) := by decide +kernel
theorem dX5_waitShare_49 : decode cX5_waitShare 49 = .ok (.iinc 3 1, 3) := by decide +kernel
theorem dX5_waitShare_52 : decode cX5_waitShare 52 = .ok (.goto (-26), 3) := by decide +kernel
theorem dX5_waitShare_55 : decode cX5_waitShare 55 = .ok (.iload_n 2, 1) := by decide +kernel
theorem dX5_waitShare_56 : decode cX5_waitShare 56 = .ok (.i2f, 1) := by decide +kernel
theorem dX5_waitShare_57 : decode cX5_waitShare 57 = .ok (.iload_n 1, 1) := by decide +kernel
theorem dX5_waitShare_58 : decode cX5_waitShare 58 = .ok (.i2f, 1) := by decide +kernel
theorem dX5_waitShare_59 : decode cX5_waitShare 59 = .ok (.fdiv, 1) := by decide +kernel
theorem dX5_waitShare_60 : decode cX5_waitShare 60 = .ok (.freturn, 1) := by decide +kernel
theorem dX5_advance_0 : decode cX5_advance 0 = .ok (.iload_n 1, 1) := by decide +kernel
theorem dX5_advance_1 : decode cX5_advance 1 = .ok (.iconst 1, 1) := by decide +kernel
theorem dX5_advance_2 : decode cX5_advance 2 = .ok (.if_icmp .lt 9, 3) := by decide +kernel
theorem dX5_advance_5 : decode cX5_advance 5 = .ok (.iload_n 1, 1) := by decide +kernel
theorem dX5_advance_6 : decode cX5_advance 6 = .ok (.bipush 99, 2) := by decide +kernel
theorem dX5_advance_8 : decode cX5_advance 8 = .ok (.if_icmp .le 13, 3) := by decide +kernel
theorem dX5_advance_11 : decode cX5_advance 11 = .ok (.new 95, 3) := by decide +kernel
theorem dX5_advance_14 : decode cX5_advance 14 = .ok (.dup, 1) := by decide +kernel
theorem dX5_advance_15 : decode cX5_advance 15 = .ok (.ldc 190, 2) := by decide +kernel
theorem dX5_advance_17 : decode cX5_advance 17 = .ok (.invokespecial 99, 3) := by decide +kernel
theorem dX5_advance_20 : decode cX5_advance 20 = .ok (.athrow, 1) := by decide +kernel
theorem dX5_advance_21 : decode cX5_advance 21 = .ok (.iload_n 1, 1) := by decide +kernel
theorem dX5_advance_22 : decode cX5_advance 22 = .ok (.sipush 9999, 3) := by decide +kernel
theorem dX5_advance_25 : decode cX5_advance 25 = .ok (.aload_n 0, 1) := by decide +kernel
theorem dX5_advance_26 : decode cX5_advance 26 = .ok (.getfield 10, 3) := by decide +kernel
theorem dX5_advance_29 : decode cX5_advance 29 = .ok (.getfield 116, 3) := by decide +kernel
theorem dX5_advance_32 : decode cX5_advance 32 = .ok (.isub, 1) := by decide +kernel
theorem dX5_advance_33 : decode cX5_advance 33 = .ok (.if_icmp .le 13, 3) := by decide +kernel
theorem dX5_advance_36 : decode cX5_advance 36 = .ok (.new 76, 3) := by decide +kernel
theorem dX5_advance_39 : decode cX5_advance 39 = .ok (.dup, 1) := by decide +kernel
theorem dX5_advance_40 : decode cX5_advance 40 = .ok (.ldc 212, 2) := by decide +kernel
theorem dX5_advance_42 : decode cX5_advance 42 = .ok (.invokespecial 80, 3) := by decide +kernel
theorem dX5_advance_45 : decode cX5_advance 45 = .ok (.athrow, 1) := by decide +kernel
theorem dX5_advance_46 : decode cX5_advance 46 = .ok (.aload_n 0, 1) := by decide +kernel
theorem dX5_advance_47 : decode cX5_advance 47 = .ok (.getfield 22, 3) := by decide +kernel
theorem dX5_advance_50 : decode cX5_advance 50 = .ok (.aload_n 0, 1) := by decide +kernel
theorem dX5_advance_51 : decode cX5_advance 51 = .ok (.getfield 10, 3) := by decide +kernel
theorem dX5_advance_54 : decode cX5_advance 54 = .ok (.invokevirtual 214, 3) := by decide +kernel
theorem dX5_advance_57 : decode cX5_advance 57 = .ok (.aload_n 0, 1) := by decide +kernel
theorem dX5_advance_58 : decode cX5_advance 58 = .ok (.getfield 10, 3) := by decide +kernel
theorem dX5_advance_61 : decode cX5_advance 61 = .ok (.iload_n 1, 1) := by decide +kernel
theorem dX5_advance_62 : decode cX5_advance 62 = .ok (.invokevirtual 192, 3) := by decide +kernel
theorem dX5_advance_65 : decode cX5_advance 65 = .ok (.ireturn, 1) := by decide +kernel
theorem dX5_pull_0 : decode cX5_pull 0 = .ok (.aload_n 0, 1) := by decide +kernel
theorem dX5_pull_1 : decode cX5_pull 1 = .ok (.iload_n 1, 1) := by decide +kernel
theorem dX5_pull_2 : decode cX5_pull 2 = .ok (.invokevirtual 119, 3) := by decide +kernel
theorem dX5_pull_5 : decode cX5_pull 5 = .ok (.aload_n 0, 1) := by decide +kernel
theorem dX5_pull_6 : decode cX5_pull 6 = .ok (.getfield 10, 3) := by decide +kernel
theorem dX5_pull_9 : decode cX5_pull 9 = .ok (.iload_n 1, 1) := by decide +kernel
theorem dX5_pull_10 : decode cX5_pull 10 = .ok (.invokevirtual 152, 3) := by decide +kernel
theorem dX5_pull_13 : decode cX5_pull 13 = .ok (.ifCond .eq 13, 3) := by decide +kernel
theorem dX5_pull_16 : decode cX5_pull 16 = .ok (.new 76, 3) := by decide +kernel
theorem dX5_pull_19 : decode cX5_pull 19 = .ok (.dup, 1) := by decide +kernel
theorem dX5_pull_20 : decode cX5_pull 20 = .ok (.ldc 217, 2) := by decide +kernel
theorem dX5_pull_22 : decode cX5_pull 22 = .ok (.invokespecial 80, 3) := by decide +kernel
theorem dX5_pull_25 : decode cX5_pull 25 = .ok (.athrow, 1) := by decide +kernel
theorem dX5_pull_26 : decode cX5_pull 26 = .ok (.aload_n 0, 1) := by decide +kernel
theorem dX5_pull_27 : decode cX5_pull 27 = .ok (.getfield 22, 3) := by decide +kernel
theorem dX5_pull_30 : decode cX5_pull 30 = .ok (.aload_n 0, 1) := by decide +kernel
theorem dX5_pull_31 : decode cX5_pull 31 = .ok (.getfield 10, 3) := by decide +kernel
theorem dX5_pull_34 : decode cX5_pull 34 = .ok (.invokevirtual 214, 3) := by decide +kernel
theorem dX5_pull_37 : decode cX5_pull 37 = .ok (.aload_n 0, 1) := by decide +kernel
theorem dX5_pull_38 : decode cX5_pull 38 = .ok (.getfield 10, 3) := by decide +kernel
theorem dX5_pull_41 : decode cX5_pull 41 = .ok (.getfield 135, 3) := by decide +kernel
theorem dX5_pull_44 : decode cX5_pull 44 = .ok (.iload_n 1, 1) := by decide +kernel
theorem dX5_pull_45 : decode cX5_pull 45 = .ok (.iconst 1, 1) := by decide +kernel
theorem dX5_pull_46 : decode cX5_pull 46 = .ok (.bastore, 1) := by decide +kernel
theorem dX5_pull_47 : decode cX5_pull 47 = .ok (.aload_n 0, 1) := by decide +kernel
theorem dX5_pull_48 : decode cX5_pull 48 = .ok (.getfield 10, 3) := by decide +kernel
theorem dX5_pull_51 : decode cX5_pull 51 = .ok (.invokevirtual 219, 3) := by decide +kernel
theorem dX5_pull_54 : decode cX5_pull 54 = .ok (.ireturn, 1) := by decide +kernel
theorem dX5_setDanger_0 : decode cX5_setDanger 0 = .ok (.aload_n 0, 1) := by decide +kernel
theorem dX5_setDanger_1 : decode cX5_setDanger 1 = .ok (.iload_n 1, 1) := by decide +kernel
theorem dX5_setDanger_2 : decode cX5_setDanger 2 = .ok (.invokevirtual 119, 3) := by decide +kernel
theorem dX5_setDanger_5 : decode cX5_setDanger 5 = .ok (.aload_n 0, 1) := by decide +kernel
theorem dX5_setDanger_6 : decode cX5_setDanger 6 = .ok (.getfield 10, 3) := by decide +kernel
theorem dX5_setDanger_9 : decode cX5_setDanger 9 = .ok (.getfield 135, 3) := by decide +kernel
theorem dX5_setDanger_12 : decode cX5_setDanger 12 = .ok (.iload_n 1, 1) := by decide +kernel
theorem dX5_setDanger_13 : decode cX5_setDanger 13 = .ok (.baload, 1) := by decide +kernel
theorem dX5_setDanger_14 : decode cX5_setDanger 14 = .ok (.ifCond .ne 13, 3) := by decide +kernel
theorem dX5_setDanger_17 : decode cX5_setDanger 17 = .ok (.new 76, 3) := by decide +kernel
theorem dX5_setDanger_20 : decode cX5_setDanger 20 = .ok (.dup, 1) := by decide +kernel
theorem dX5_setDanger_21 : decode cX5_setDanger 21 = .ok (.ldc 222, 2) := by decide +kernel
theorem dX5_setDanger_23 : decode cX5_setDanger 23 = .ok (.invokespecial 80, 3) := by decide +kernel
theorem dX5_setDanger_26 : decode cX5_setDanger 26 = .ok (.athrow, 1) := by decide +kernel
theorem dX5_setDanger_27 : decode cX5_setDanger 27 = .ok (.aload_n 0, 1) := by decide +kernel
theorem dX5_setDanger_28 : decode cX5_setDanger 28 = .ok (.getfield 22, 3) := by decide +kernel
theorem dX5_setDanger_31 : decode cX5_setDanger 31 = .ok (.aload_n 0, 1) := by decide +kernel
theorem dX5_setDanger_32 : decode cX5_setDanger 32 = .ok (.getfield 10, 3) := by decide +kernel
theorem dX5_setDanger_35 : decode cX5_setDanger 35 = .ok (.invokevirtual 214, 3) := by decide +kernel
theorem dX5_setDanger_38 : decode cX5_setDanger 38 = .ok (.aload_n 0, 1) := by decide +kernel
theorem dX5_setDanger_39 : decode cX5_setDanger 39 = .ok (.getfield 10, 3) := by decide +kernel
theorem dX5_setDanger_42 : decode cX5_setDanger 42 = .ok (.getfield 135, 3) := by decide +kernel
theorem dX5_setDanger_45 : decode cX5_setDanger 45 = .ok (.iload_n 1, 1) := by decide +kernel
theorem dX5_setDanger_46 : decode cX5_setDanger 46 = .ok (.iconst 0, 1) := by decide +kernel
theorem dX5_setDanger_47 : decode cX5_setDanger 47 = .ok (.bastore, 1) := by decide +kernel
theorem dX5_setDanger_48 : decode cX5_setDanger 48 = .ok (.aload_n 0, 1) := by decide +kernel
theorem dX5_setDanger_49 : decode cX5_setDanger 49 = .ok (.getfield 10, 3) := by decide +kernel
theorem dX5_setDanger_52 : decode cX5_setDanger 52 = .ok (.invokevirtual 219, 3) := by decide +kernel
theorem dX5_setDanger_55 : decode cX5_setDanger 55 = .ok (.ireturn, 1) := by decide +kernel
theorem dX5_repair_0 : decode cX5_repair 0 = .ok (.aload_n 0, 1) := by decide +kernel
theorem dX5_repair_1 : decode cX5_repair 1 = .ok (.iload_n 1, 1) := by decide +kernel
theorem dX5_repair_2 : decode cX5_repair 2 = .ok (.invokevirtual 119, 3) := by decide +kernel
theorem dX5_repair_5 : decode cX5_repair 5 = .ok (.aload_n 0, 1) := by decide +kernel
theorem dX5_repair_6 : decode cX5_repair 6 = .ok (.getfield 10, 3) := by decide +kernel
theorem dX5_repair_9 : decode cX5_repair 9 = .ok (.getfield 139, 3) := by decide +kernel
theorem dX5_repair_12 : decode cX5_repair 12 = .ok (.iload_n 1, 1) := by decide +kernel
theorem dX5_repair_13 : decode cX5_repair 13 = .ok (.iaload, 1) := by decide +kernel
theorem dX5_repair_14 : decode cX5_repair 14 = .ok (.iconst (-1), 1) := by decide +kernel
theorem dX5_repair_15 : decode cX5_repair 15 = .ok (.if_icmp .eq 13, 3) := by decide +kernel
theorem dX5_repair_18 : decode cX5_repair 18 = .ok (.new 76, 3) := by decide +kernel
theorem dX5_repair_21 : decode cX5_repair 21 = .ok (.dup, 1) := by decide +kernel
theorem dX5_repair_22 : decode cX5_repair 22 = .ok (.ldc 224, 2) := by decide +kernel
theorem dX5_repair_24 : decode cX5_repair 24 = .ok (.invokespecial 80, 3) := by decide +kernel
theorem dX5_repair_27 : decode cX5_repair 27 = .ok (.athrow, 1) := by decide +kernel
theorem dX5_repair_28 : decode cX5_repair 28 = .ok (.aload_n 0, 1) := by decide +kernel
theorem dX5_repair_29 : decode cX5_repair 29 = .ok (.getfield 22, 3) := by decide +kernel
theorem dX5_repair_32 : decode cX5_repair 32 = .ok (.aload_n 0, 1) := by decide +kernel
theorem dX5_repair_33 : decode cX5_repair 33 = .ok (.getfield 10, 3) := by decide +kernel
theorem dX5_repair_36 : decode cX5_repair 36 = .ok (.invokevirtual 214, 3) := by decide +kernel
theorem dX5_repair_39 : decode cX5_repair 39 = .ok (.aload_n 0, 1) := by decide +kernel
theorem dX5_repair_40 : decode cX5_repair 40 = .ok (.getfield 10, 3) := by decide +kernel
theorem dX5_repair_43 : decode cX5_repair 43 = .ok (.getfield 125, 3) := by decide +kernel
theorem dX5_repair_46 : decode cX5_repair 46 = .ok (.iload_n 1, 1) := by decide +kernel
theorem dX5_repair_47 : decode cX5_repair 47 = .ok (.iaload, 1) := by decide +kernel
theorem dX5_repair_48 : decode cX5_repair 48 = .ok (.istore_n 2, 1) := by decide +kernel
theorem dX5_repair_49 : decode cX5_repair 49 = .ok (.aload_n 0, 1) := by decide +kernel
theorem dX5_repair_50 : decode cX5_repair 50 = .ok (.getfield 10, 3) := by decide +kernel
theorem dX5_repair_53 : decode cX5_repair 53 = .ok (.getfield 125, 3) := by decide +kernel
theorem dX5_repair_56 : decode cX5_repair 56 = .ok (.iload_n 1, 1) := by decide +kernel
theorem dX5_repair_57 : decode cX5_repair 57 = .ok (.iconst 0, 1) := by decide +kernel
theorem dX5_repair_58 : decode cX5_repair 58 = .ok (.iastore, 1) := by decide +kernel
theorem dX5_repair_59 : decode cX5_repair 59 = .ok (.iload_n 2, 1) := by decide +kernel
theorem dX5_repair_60 : decode cX5_repair 60 = .ok (.ireturn, 1) := by decide +kernel
theorem dX5_removeWagons_0 : decode cX5_removeWagons 0 = .ok (.aload_n 0, 1) := by decide +kernel
theorem dX5_removeWagons_1 : decode cX5_removeWagons 1 = .ok (.iload_n 1, 1) := by decide +kernel
theorem dX5_removeWagons_2 : decode cX5_removeWagons 2 = .ok (.invokevirtual 119, 3) := by decide +kernel
theorem dX5_removeWagons_5 : decode cX5_removeWagons 5 = .ok (.aload_n 0, 1) := by decide +kernel
theorem dX5_removeWagons_6 : decode cX5_removeWagons 6 = .ok (.getfield 22, 3) := by decide +kernel
theorem dX5_removeWagons_9 : decode cX5_removeWagons 9 = .ok (.aload_n 0, 1) := by decide +kernel
theorem dX5_removeWagons_10 : decode cX5_removeWagons 10 = .ok (.getfield 10, 3) := by decide +kernel
theorem dX5_removeWagons_13 : decode cX5_removeWagons 13 = .ok (.invokevirtual 214, 3) := by decide +kernel
theorem dX5_removeWagons_16 : decode cX5_removeWagons 16 = .ok (.aload_n 0, 1) := by decide +kernel
theorem dX5_removeWagons_17 : decode cX5_removeWagons 17 = .ok (.getfield 10, 3) := by decide +kernel
theorem dX5_removeWagons_20 : decode cX5_removeWagons 20 = .ok (.getfield 142, 3) := by decide +kernel
theorem dX5_removeWagons_23 : decode cX5_removeWagons 23 = .ok (.iload_n 1, 1) := by decide +kernel
theorem dX5_removeWagons_24 : decode cX5_removeWagons 24 = .ok (.iaload, 1) := by decide +kernel
theorem dX5_removeWagons_25 : decode cX5_removeWagons 25 = .ok (.istore_n 2, 1) := by decide +kernel
theorem dX5_removeWagons_26 : decode cX5_removeWagons 26 = .ok (.aload_n 0, 1) := by decide +kernel
theorem dX5_removeWagons_27 : decode cX5_removeWagons 27 = .ok (.getfield 10, 3) := by decide +kernel
theorem dX5_removeWagons_30 : decode cX5_removeWagons 30 = .ok (.getfield 142, 3) := by decide +kernel
theorem dX5_removeWagons_33 : decode cX5_removeWagons 33 = .ok (.iload_n 1, 1) := by decide +kernel
theorem dX5_removeWagons_34 : decode cX5_removeWagons 34 = .ok (.iconst 0, 1) := by decide +kernel
theorem dX5_removeWagons_35 : decode cX5_removeWagons 35 = .ok (.iastore, 1) := by decide +kernel
theorem dX5_removeWagons_36 : decode cX5_removeWagons 36 = .ok (.aload_n 0, 1) := by decide +kernel
theorem dX5_removeWagons_37 : decode cX5_removeWagons 37 = .ok (.getfield 10, 3) := by decide +kernel
theorem dX5_removeWagons_40 : decode cX5_removeWagons 40 = .ok (.dup, 1) := by decide +kernel
theorem dX5_removeWagons_41 : decode cX5_removeWagons 41 = .ok (.getfield 201, 3) := by decide +kernel
theorem dX5_removeWagons_44 : decode cX5_removeWagons 44 = .ok (.iload_n 2, 1) := by decide +kernel
theorem dX5_removeWagons_45 : decode cX5_removeWagons 45 = .ok (.iadd, 1) := by decide +kernel
theorem dX5_removeWagons_46 : decode cX5_removeWagons 46 = .ok (.putfield 201, 3) := by decide +kernel
theorem dX5_removeWagons_49 : decode cX5_removeWagons 49 = .ok (.iload_n 2, 1) := by decide +kernel
theorem dX5_removeWagons_50 : decode cX5_removeWagons 50 = .ok (.ireturn, 1) := by decide +kernel
theorem dX5_addWagons_0 : decode cX5_addWagons 0 = .ok (.aload_n 0, 1) := by decide +kernel
theorem dX5_addWagons_1 : decode cX5_addWagons 1 = .ok (.iload_n 1, 1) := by decide +kernel
theorem dX5_addWagons_2 : decode cX5_addWagons 2 = .ok (.invokevirtual 163, 3) := by decide +kernel
theorem dX5_addWagons_5 : decode cX5_addWagons 5 = .ok (.iload_n 2, 1) := by decide +kernel
theorem dX5_addWagons_6 : decode cX5_addWagons 6 = .ok (.iconst 1, 1) := by decide +kernel
theorem dX5_addWagons_7 : decode cX5_addWagons 7 = .ok (.if_icmp .lt 9, 3) := by decide +kernel
theorem dX5_addWagons_10 : decode cX5_addWagons 10 = .ok (.iload_n 2, 1) := by decide +kernel
theorem dX5_addWagons_11 : decode cX5_addWagons 11 = .ok (.bipush 11, 2) := by decide +kernel
theorem dX5_addWagons_13 : decode cX5_addWagons 13 = .ok (.if_icmp .le 13, 3) := by decide +kernel
theorem dX5_addWagons_16 : decode cX5_addWagons 16 = .ok (.new 95, 3) := by decide +kernel
theorem dX5_addWagons_19 : decode cX5_addWagons 19 = .ok (.dup, 1) := by decide +kernel
theorem dX5_addWagons_20 : decode cX5_addWagons 20 = .ok (.ldc 226, 2) := by decide +kernel
theorem dX5_addWagons_22 : decode cX5_addWagons 22 = .ok (.invokespecial 99, 3) := by decide +kernel
theorem dX5_addWagons_25 : decode cX5_addWagons 25 = .ok (.athrow, 1) := by decide +kernel
theorem dX5_addWagons_26 : decode cX5_addWagons 26 = .ok (.aload_n 0, 1) := by decide +kernel
theorem dX5_addWagons_27 : decode cX5_addWagons 27 = .ok (.getfield 10, 3) := by decide +kernel
theorem dX5_addWagons_30 : decode cX5_addWagons 30 = .ok (.getfield 172, 3) := by decide +kernel
theorem dX5_addWagons_33 : decode cX5_addWagons 33 = .ok (.iload_n 1, 1) := by decide +kernel
theorem dX5_addWagons_34 : decode cX5_addWagons 34 = .ok (.iaload, 1) := by decide +kernel
theorem dX5_addWagons_35 : decode cX5_addWagons 35 = .ok (.iload_n 2, 1) := by decide +kernel
theorem dX5_addWagons_36 : decode cX5_addWagons 36 = .ok (.iadd, 1) := by decide +kernel
theorem dX5_addWagons_37 : decode cX5_addWagons 37 = .ok (.bipush 12, 2) := by decide +kernel
theorem dX5_addWagons_39 : decode cX5_addWagons 39 = .ok (.if_icmp .le 13, 3) := by decide +kernel
theorem dX5_addWagons_42 : decode cX5_addWagons 42 = .ok (.new 76, 3) := by decide +kernel
theorem dX5_addWagons_45 : decode cX5_addWagons 45 = .ok (.dup, 1) := by decide +kernel
theorem dX5_addWagons_46 : decode cX5_addWagons 46 = .ok (.ldc 228, 2) := by decide +kernel
theorem dX5_addWagons_48 : decode cX5_addWagons 48 = .ok (.invokespecial 80, 3) := by decide +kernel
theorem dX5_addWagons_51 : decode cX5_addWagons 51 = .ok (.athrow, 1) := by decide +kernel
theorem dX5_addWagons_52 : decode cX5_addWagons 52 = .ok (.aload_n 0, 1) := by decide +kernel
theorem dX5_addWagons_53 : decode cX5_addWagons 53 = .ok (.getfield 22, 3) := by decide +kernel
theorem dX5_addWagons_56 : decode cX5_addWagons 56 = .ok (.aload_n 0, 1) := by decide +kernel
theorem dX5_addWagons_57 : decode cX5_addWagons 57 = .ok (.getfield 10, 3) := by decide +kernel
theorem dX5_addWagons_60 : decode cX5_addWagons 60 = .ok (.invokevirtual 214, 3) := by decide +kernel
theorem dX5_addWagons_63 : decode cX5_addWagons 63 = .ok (.aload_n 0, 1) := by decide +kernel
theorem dX5_addWagons_64 : decode cX5_addWagons 64 = .ok (.getfield 10, 3) := by decide +kernel
theorem dX5_addWagons_67 : decode cX5_addWagons 67 = .ok (.getfield 172, 3) := by decide +kernel
theorem dX5_addWagons_70 : decode cX5_addWagons 70 = .ok (.iload_n 1, 1) := by decide +kernel
theorem dX5_addWagons_71 : decode cX5_addWagons 71 = .ok (.dup2, 1) := by decide +kernel
theorem dX5_addWagons_72 : decode cX5_addWagons 72 = .ok (.iaload, 1) := by decide +kernel
theorem dX5_addWagons_73 : decode cX5_addWagons 73 = .ok (.iload_n 2, 1) := by decide +kernel
theorem dX5_addWagons_74 : decode cX5_addWagons 74 = .ok (.iadd, 1) := by decide +kernel
theorem dX5_addWagons_75 : decode cX5_addWagons 75 = .ok (.iastore, 1) := by decide +kernel
theorem dX5_addWagons_76 : decode cX5_addWagons 76 = .ok (.aload_n 0, 1) := by decide +kernel
theorem dX5_addWagons_77 : decode cX5_addWagons 77 = .ok (.getfield 10, 3) := by decide +kernel
theorem dX5_addWagons_80 : decode cX5_addWagons 80 = .ok (.dup, 1) := by decide +kernel
theorem dX5_addWagons_81 : decode cX5_addWagons 81 = .ok (.getfield 204, 3) := by decide +kernel
theorem dX5_addWagons_84 : decode cX5_addWagons 84 = .ok (.iload_n 2, 1) := by decide +kernel
theorem dX5_addWagons_85 : decode cX5_addWagons 85 = .ok (.iadd, 1) := by decide +kernel
theorem dX5_addWagons_86 : decode cX5_addWagons 86 = .ok (.putfield 204, 3) := by decide +kernel
theorem dX5_addWagons_89 : decode cX5_addWagons 89 = .ok (.aload_n 0, 1) := by decide +kernel
theorem dX5_addWagons_90 : decode cX5_addWagons 90 = .ok (.getfield 10, 3) := by decide +kernel
theorem dX5_addWagons_93 : decode cX5_addWagons 93 = .ok (.getfield 172, 3) := by decide +kernel
theorem dX5_addWagons_96 : decode cX5_addWagons 96 = .ok (.iload_n 1, 1) := by decide +kernel
theorem dX5_addWagons_97 : decode cX5_addWagons 97 = .ok (.iaload, 1) := by decide +kernel
theorem dX5_addWagons_98 : decode cX5_addWagons 98 = .ok (.ireturn, 1) := by decide +kernel
theorem dX5_setTopSpeed_0 : decode cX5_setTopSpeed 0 = .ok (.aload_n 0, 1) := by decide +kernel
theorem dX5_setTopSpeed_1 : decode cX5_setTopSpeed 1 = .ok (.iload_n 1, 1) := by decide +kernel
theorem dX5_setTopSpeed_2 : decode cX5_setTopSpeed 2 = .ok (.invokevirtual 163, 3) := by decide +kernel
theorem dX5_setTopSpeed_5 : decode cX5_setTopSpeed 5 = .ok (.iload_n 2, 1) := by decide +kernel
theorem dX5_setTopSpeed_6 : decode cX5_setTopSpeed 6 = .ok (.iconst 1, 1) := by decide +kernel
theorem dX5_setTopSpeed_7 : decode cX5_setTopSpeed 7 = .ok (.if_icmp .lt 8, 3) := by decide +kernel
theorem dX5_setTopSpeed_10 : decode cX5_setTopSpeed 10 = .ok (.iload_n 2, 1) := by decide +kernel
theorem dX5_setTopSpeed_11 : decode cX5_setTopSpeed 11 = .ok (.iconst 5, 1) := by decide +kernel
theorem dX5_setTopSpeed_12 : decode cX5_setTopSpeed 12 = .ok (.if_icmp .le 13, 3) := by decide +kernel
theorem dX5_setTopSpeed_15 : decode cX5_setTopSpeed 15 = .ok (.new 95, 3) := by decide +kernel
theorem dX5_setTopSpeed_18 : decode cX5_setTopSpeed 18 = .ok (.dup, 1) := by decide +kernel
theorem dX5_setTopSpeed_19 : decode cX5_setTopSpeed 19 = .ok (.ldc 230, 2) := by decide +kernel
theorem dX5_setTopSpeed_21 : decode cX5_setTopSpeed 21 = .ok (.invokespecial 99, 3) := by decide +kernel
theorem dX5_setTopSpeed_24 : decode cX5_setTopSpeed 24 = .ok (.athrow, 1) := by decide +kernel
theorem dX5_setTopSpeed_25 : decode cX5_setTopSpeed 25 = .ok (.aload_n 0, 1) := by decide +kernel
theorem dX5_setTopSpeed_26 : decode cX5_setTopSpeed 26 = .ok (.getfield 22, 3) := by decide +kernel
theorem dX5_setTopSpeed_29 : decode cX5_setTopSpeed 29 = .ok (.aload_n 0, 1) := by decide +kernel
theorem dX5_setTopSpeed_30 : decode cX5_setTopSpeed 30 = .ok (.getfield 10, 3) := by decide +kernel
theorem dX5_setTopSpeed_33 : decode cX5_setTopSpeed 33 = .ok (.invokevirtual 214, 3) := by decide +kernel
theorem dX5_setTopSpeed_36 : decode cX5_setTopSpeed 36 = .ok (.aload_n 0, 1) := by decide +kernel
theorem dX5_setTopSpeed_37 : decode cX5_setTopSpeed 37 = .ok (.getfield 10, 3) := by decide +kernel
theorem dX5_setTopSpeed_40 : decode cX5_setTopSpeed 40 = .ok (.getfield 175, 3) := by decide +kernel
theorem dX5_setTopSpeed_43 : decode cX5_setTopSpeed 43 = .ok (.iload_n 1, 1) := by decide +kernel
theorem dX5_setTopSpeed_44 : decode cX5_setTopSpeed 44 = .ok (.iaload, 1) := by decide +kernel
theorem dX5_setTopSpeed_45 : decode cX5_setTopSpeed 45 = .ok (.istore_n 3, 1) := by decide +kernel
theorem dX5_setTopSpeed_46 : decode cX5_setTopSpeed 46 = .ok (.aload_n 0, 1) := by decide +kernel
theorem dX5_setTopSpeed_47 : decode cX5_setTopSpeed 47 = .ok (.getfield 10, 3) := by decide +kernel
theorem dX5_setTopSpeed_50 : decode cX5_setTopSpeed 50 = .ok (.getfield 175, 3) := by decide +kernel
theorem dX5_setTopSpeed_53 : decode cX5_setTopSpeed 53 = .ok (.iload_n 1, 1) := by decide +kernel
theorem dX5_setTopSpeed_54 : decode cX5_setTopSpeed 54 = .ok (.iload_n 2, 1) := by decide +kernel
theorem dX5_setTopSpeed_55 : decode cX5_setTopSpeed 55 = .ok (.iastore, 1) := by decide +kernel
theorem dX5_setTopSpeed_56 : decode cX5_setTopSpeed 56 = .ok (.iload_n 3, 1) := by decide +kernel
theorem dX5_setTopSpeed_57 : decode cX5_setTopSpeed 57 = .ok (.ireturn, 1) := by decide +kernel
theorem dX5_restore_0 : decode cX5_restore 0 = .ok (.aload_n 0, 1) := by decide +kernel
theorem dX5_restore_1 : decode cX5_restore 1 = .ok (.iload_n 1, 1) := by decide +kernel
theorem dX5_restore_2 : decode cX5_restore 2 = .ok (.invokevirtual 232, 3) := by decide +kernel
theorem dX5_restore_5 : decode cX5_restore 5 = .ok (.aload_n 0, 1) := by decide +kernel
theorem dX5_restore_6 : decode cX5_restore 6 = .ok (.iload_n 1, 1) := by decide +kernel
theorem dX5_restore_7 : decode cX5_restore 7 = .ok (.invokevirtual 235, 3) := by decide +kernel
theorem dX5_restore_10 : decode cX5_restore 10 = .ok (.astore_n 2, 1) := by decide +kernel
theorem dX5_restore_11 : decode cX5_restore 11 = .ok (.aload_n 2, 1) := by decide +kernel
theorem dX5_restore_12 : decode cX5_restore 12 = .ok (.getfield 103, 3) := by decide +kernel
theorem dX5_restore_15 : decode cX5_restore 15 = .ok (.ifCond .ne 13, 3) := by decide +kernel
theorem dX5_restore_18 : decode cX5_restore 18 = .ok (.new 76, 3) := by decide +kernel
theorem dX5_restore_21 : decode cX5_restore 21 = .ok (.dup, 1) := by decide +kernel
theorem dX5_restore_22 : decode cX5_restore 22 = .ok (.ldc 239, 2) := by decide +kernel
theorem dX5_restore_24 : decode cX5_restore 24 = .ok (.invokespecial 80, 3) := by decide +kernel
theorem dX5_restore_27 : decode cX5_restore 27 = .ok (.athrow, 1) := by decide +kernel
theorem dX5_restore_28 : decode cX5_restore 28 = .ok (.aload_n 0, 1) := by decide +kernel
theorem dX5_restore_29 : decode cX5_restore 29 = .ok (.getfield 22, 3) := by decide +kernel
theorem dX5_restore_32 : decode cX5_restore 32 = .ok (.aload_n 0, 1) := by decide +kernel
theorem dX5_restore_33 : decode cX5_restore 33 = .ok (.getfield 10, 3) := by decide +kernel
theorem dX5_restore_36 : decode cX5_restore 36 = .ok (.invokevirtual 214, 3) := by decide +kernel
theorem dX5_restore_39 : decode cX5_restore 39 = .ok (.aload_n 0, 1) := by decide +kernel
theorem dX5_restore_40 : decode cX5_restore 40 = .ok (.getfield 10, 3) := by decide +kernel
theorem dX5_restore_43 : decode cX5_restore 43 = .ok (.aload_n 2, 1) := by decide +kernel
theorem dX5_restore_44 : decode cX5_restore 44 = .ok (.getfield 241, 3) := by decide +kernel
theorem dX5_restore_47 : decode cX5_restore 47 = .ok (.invokevirtual 69, 3) := by decide +kernel
theorem dX5_restore_50 : decode cX5_restore 50 = .ok (.aload_n 0, 1) := by decide +kernel
theorem dX5_restore_51 : decode cX5_restore 51 = .ok (.getfield 10, 3) := by decide +kernel
theorem dX5_restore_54 : decode cX5_restore 54 = .ok (.getfield 116, 3) := by decide +kernel
theorem dX5_restore_57 : decode cX5_restore 57 = .ok (.ireturn, 1) := by decide +kernel
theorem dX5_undo_0 : decode cX5_undo 0 = .ok (.aload_n 0, 1) := by decide +kernel
theorem dX5_undo_1 : decode cX5_undo 1 = .ok (.getfield 22, 3) := by decide +kernel
theorem dX5_undo_4 : decode cX5_undo 4 = .ok (.getfield 244, 3) := by decide +kernel
theorem dX5_undo_7 : decode cX5_undo 7 = .ok (.ifCond .ne 13, 3) := by decide +kernel
theorem dX5_undo_10 : decode cX5_undo 10 = .ok (.new 76, 3) := by decide +kernel
theorem dX5_undo_13 : decode cX5_undo 13 = .ok (.dup, 1) := by decide +kernel
theorem dX5_undo_14 : decode cX5_undo 14 = .ok (.ldc 247, 2) := by decide +kernel
theorem dX5_undo_16 : decode cX5_undo 16 = .ok (.invokespecial 80, 3) := by decide +kernel
theorem dX5_undo_19 : decode cX5_undo 19 = .ok (.athrow, 1) := by decide +kernel
theorem dX5_undo_20 : decode cX5_undo 20 = .ok (.aload_n 0, 1) := by decide +kernel
theorem dX5_undo_21 : decode cX5_undo 21 = .ok (.getfield 22, 3) := by decide +kernel
theorem dX5_undo_24 : decode cX5_undo 24 = .ok (.aload_n 0, 1) := by decide +kernel
theorem dX5_undo_25 : decode cX5_undo 25 = .ok (.getfield 10, 3) := by decide +kernel
theorem dX5_undo_28 : decode cX5_undo 28 = .ok (.invokevirtual 249, 3) := by decide +kernel
theorem dX5_undo_31 : decode cX5_undo 31 = .ok (.aload_n 0, 1) := by decide +kernel
theorem dX5_undo_32 : decode cX5_undo 32 = .ok (.getfield 22, 3) := by decide +kernel
theorem dX5_undo_35 : decode cX5_undo 35 = .ok (.getfield 244, 3) := by decide +kernel
theorem dX5_undo_38 : decode cX5_undo 38 = .ok (.ireturn, 1) := by decide +kernel
theorem dX5_save_0 : decode cX5_save 0 = .ok (.aload_n 0, 1) := by decide +kernel
theorem dX5_save_1 : decode cX5_save 1 = .ok (.iload_n 1, 1) := by decide +kernel
theorem dX5_save_2 : decode cX5_save 2 = .ok (.invokevirtual 232, 3) := by decide +kernel
theorem dX5_save_5 : decode cX5_save 5 = .ok (.aload_n 0, 1) := by decide +kernel
theorem dX5_save_6 : decode cX5_save 6 = .ok (.iload_n 1, 1) := by decide +kernel
theorem dX5_save_7 : decode cX5_save 7 = .ok (.invokevirtual 235, 3) := by decide +kernel
theorem dX5_save_10 : decode cX5_save 10 = .ok (.astore_n 2, 1) := by decide +kernel
theorem dX5_save_11 : decode cX5_save 11 = .ok (.aload_n 2, 1) := by decide +kernel
theorem dX5_save_12 : decode cX5_save 12 = .ok (.getfield 241, 3) := by decide +kernel
theorem dX5_save_15 : decode cX5_save 15 = .ok (.aload_n 0, 1) := by decide +kernel
theorem dX5_save_16 : decode cX5_save 16 = .ok (.getfield 10, 3) := by decide +kernel
theorem dX5_save_19 : decode cX5_save 19 = .ok (.invokevirtual 69, 3) := by decide +kernel
theorem dX5_save_22 : decode cX5_save 22 = .ok (.aload_n 2, 1) := by decide +kernel
theorem dX5_save_23 : decode cX5_save 23 = .ok (.iconst 1, 1) := by decide +kernel
theorem dX5_save_24 : decode cX5_save 24 = .ok (.putfield 103, 3) := by decide +kernel
theorem dX5_save_27 : decode cX5_save 27 = .ok (.aload_n 0, 1) := by decide +kernel
theorem dX5_save_28 : decode cX5_save 28 = .ok (.getfield 10, 3) := by decide +kernel
theorem dX5_save_31 : decode cX5_save 31 = .ok (.getfield 116, 3) := by decide +kernel
theorem dX5_save_34 : decode cX5_save 34 = .ok (.ireturn, 1) := by decide +kernel
theorem dX5_writeRing_0 : decode cX5_writeRing 0 = .ok (.aload_n 0, 1) := by decide +kernel
theorem dX5_writeRing_1 : decode cX5_writeRing 1 = .ok (.getfield 46, 3) := by decide +kernel
theorem dX5_writeRing_4 : decode cX5_writeRing 4 = .ok (.iconst 0, 1) := by decide +kernel
theorem dX5_writeRing_5 : decode cX5_writeRing 5 = .ok (.putfield 252, 3) := by decide +kernel
theorem dX5_writeRing_8 : decode cX5_writeRing 8 = .ok (.iconst 0, 1) := by decide +kernel
theorem dX5_writeRing_9 : decode cX5_writeRing 9 = .ok (.istore_n 1, 1) := by decide +kernel
theorem dX5_writeRing_10 : decode cX5_writeRing 10 = .ok (.iload_n 1, 1) := by decide +kernel
theorem dX5_writeRing_11 : decode cX5_writeRing 11 = .ok (.aload_n 0, 1) := by decide +kernel
theorem dX5_writeRing_12 : decode cX5_writeRing 12 = .ok (.getfield 10, 3) := by decide +kernel
theorem dX5_writeRing_15 : decode cX5_writeRing 15 = .ok (.getfield 107, 3) := by decide +kernel
theorem dX5_writeRing_18 : decode cX5_writeRing 18 = .ok (.if_icmp .ge 100, 3) := by decide +kernel
theorem dX5_writeRing_21 : decode cX5_writeRing 21 = .ok (.aload_n 0, 1) := by decide +kernel
theorem dX5_writeRing_22 : decode cX5_writeRing 22 = .ok (.getfield 46, 3) := by decide +kernel
theorem dX5_writeRing_25 : decode cX5_writeRing 25 = .ok (.aload_n 0, 1) := by decide +kernel
theorem dX5_writeRing_26 : decode cX5_writeRing 26 = .ok (.getfield 10, 3) := by decide +kernel
theorem dX5_writeRing_29 : decode cX5_writeRing 29 = .ok (.getfield 135, 3) := by decide +kernel
theorem dX5_writeRing_32 : decode cX5_writeRing 32 = .ok (.iload_n 1, 1) := by decide +kernel
theorem dX5_writeRing_33 : decode cX5_writeRing 33 = .ok (.baload, 1) := by decide +kernel
theorem dX5_writeRing_34 : decode cX5_writeRing 34 = .ok (.ifCond .eq 8, 3) := by decide +kernel
theorem dX5_writeRing_37 : decode cX5_writeRing 37 = .ok (.bipush 43, 2) := by decide +kernel
theorem dX5_writeRing_39 : decode cX5_writeRing 39 = .ok (.goto 5, 3) := by decide +kernel
theorem dX5_writeRing_42 : decode cX5_writeRing 42 = .ok (.bipush 45, 2) := by decide +kernel
theorem dX5_writeRing_44 : decode cX5_writeRing 44 = .ok (.invokevirtual 253, 3) := by decide +kernel
theorem dX5_writeRing_47 : decode cX5_writeRing 47 = .ok (.aload_n 0, 1) := by decide +kernel
theorem dX5_writeRing_48 : decode cX5_writeRing 48 = .ok (.getfield 10, 3) := by decide +kernel
theorem dX5_writeRing_51 : decode cX5_writeRing 51 = .ok (.getfield 139, 3) := by decide +kernel
theorem dX5_writeRing_54 : decode cX5_writeRing 54 = .ok (.iload_n 1, 1) := by decide +kernel
theorem dX5_writeRing_55 : decode cX5_writeRing 55 = .ok (.iaload, 1) := by decide +kernel
theorem dX5_writeRing_56 : decode cX5_writeRing 56 = .ok (.istore_n 2, 1) := by decide +kernel
theorem dX5_writeRing_57 : decode cX5_writeRing 57 = .ok (.iload_n 2, 1) := by decide +kernel
theorem dX5_writeRing_58 : decode cX5_writeRing 58 = .ok (.iconst (-1), 1) := by decide +kernel
theorem dX5_writeRing_59 : decode cX5_writeRing 59 = .ok (.if_icmp .ne 15, 3) := by decide +kernel
theorem dX5_writeRing_62 : decode cX5_writeRing 62 = .ok (.aload_n 0, 1) := by decide +kernel
theorem dX5_writeRing_63 : decode cX5_writeRing 63 = .ok (.getfield 46, 3) := by decide +kernel
theorem dX5_writeRing_66 : decode cX5_writeRing 66 = .ok (.bipush 95, 2) := by decide +kernel
theorem dX5_writeRing_68 : decode cX5_writeRing 68 = .ok (.invokevirtual 253, 3) := by decide +kernel
theorem dX5_writeRing_71 : decode cX5_writeRing 71 = .ok (.goto 11, 3) := by decide +kernel
theorem dX5_writeRing_74 : decode cX5_writeRing 74 = .ok (.aload_n 0, 1) := by decide +kernel
theorem dX5_writeRing_75 : decode cX5_writeRing 75 = .ok (.getfield 46, 3) := by decide +kernel
theorem dX5_writeRing_78 : decode cX5_writeRing 78 = .ok (.iload_n 2, 1) := by decide +kernel
theorem dX5_writeRing_79 : decode cX5_writeRing 79 = .ok (.invokevirtual 257, 3) := by decide +kernel
theorem dX5_writeRing_82 : decode cX5_writeRing 82 = .ok (.iconst 0, 1) := by decide +kernel
theorem dX5_writeRing_83 : decode cX5_writeRing 83 = .ok (.istore_n 3, 1) := by decide +kernel
theorem dX5_writeRing_84 : decode cX5_writeRing 84 = .ok (.iload_n 3, 1) := by decide +kernel
theorem dX5_writeRing_85 : decode cX5_writeRing 85 = .ok (.aload_n 0, 1) := by decide +kernel
theorem dX5_writeRing_86 : decode cX5_writeRing 86 = .ok (.getfield 10, 3) := by decide +kernel
theorem dX5_writeRing_89 : decode cX5_writeRing 89 = .ok (.getfield 142, 3) := by decide +kernel
theorem dX5_writeRing_92 : decode cX5_writeRing 92 = .ok (.iload_n 1, 1) := by decide +kernel
theorem dX5_writeRing_93 : decode cX5_writeRing 93 = .ok (.iaload, 1) := by decide +kernel
theorem dX5_writeRing_94 : decode cX5_writeRing 94 = .ok (.if_icmp .ge 18, 3) := by decide +kernel
theorem dX5_writeRing_97 : decode cX5_writeRing 97 = .ok (.aload_n 0, 1) := by decide +kernel
theorem dX5_writeRing_98 : decode cX5_writeRing 98 = .ok (.getfield 46, 3) := by decide +kernel
theorem dX5_writeRing_101 : decode cX5_writeRing 101 = .ok (.bipush 119, 2) := by decide +kernel
theorem dX5_writeRing_103 : decode cX5_writeRing 103 = .ok (.invokevirtual 253, 3) := by decide +kernel
theorem dX5_writeRing_106 : decode cX5_writeRing 106 = .ok (.iinc 3 1, 3) := by decide +kernel
theorem dX5_writeRing_109 : decode cX5_writeRing 109 = .ok (.goto (-25), 3) := by decide +kernel
theorem dX5_writeRing_112 : decode cX5_writeRing 112 = .ok (.iinc 1 1, 3) := by decide +kernel
theorem dX5_writeRing_115 : decode cX5_writeRing 115 = .ok (.goto (-105), 3) := by decide +kernel
theorem dX5_writeRing_118 : decode cX5_writeRing 118 = .ok (.aload_n 0, 1) := by decide +kernel
theorem dX5_writeRing_119 : decode cX5_writeRing 119 = .ok (.getfield 46, 3) := by decide +kernel
theorem dX5_writeRing_122 : decode cX5_writeRing 122 = .ok (.getfield 252, 3) := by decide +kernel
theorem dX5_writeRing_125 : decode cX5_writeRing 125 = .ok (.ireturn, 1) := by decide +kernel
theorem dX5_writeTrain_0 : decode cX5_writeTrain 0 = .ok (.aload_n 0, 1) := by decide +kernel
theorem dX5_writeTrain_1 : decode cX5_writeTrain 1 = .ok (.iload_n 1, 1) := by decide +kernel
theorem dX5_writeTrain_2 : decode cX5_writeTrain 2 = .ok (.invokevirtual 163, 3) := by decide +kernel
theorem dX5_writeTrain_5 : decode cX5_writeTrain 5 = .ok (.aload_n 0, 1) := by decide +kernel
theorem dX5_writeTrain_6 : decode cX5_writeTrain 6 = .ok (.getfield 10, 3) := by decide +kernel
theorem dX5_writeTrain_9 : decode cX5_writeTrain 9 = .ok (.getfield 166, 3) := by decide +kernel
theorem dX5_writeTrain_12 : decode cX5_writeTrain 12 = .ok (.iload_n 1, 1) := by decide +kernel
theorem dX5_writeTrain_13 : decode cX5_writeTrain 13 = .ok (.iaload, 1) := by decide +kernel
theorem dX5_writeTrain_14 : decode cX5_writeTrain 14 = .ok (.istore_n 2, 1) := by decide +kernel
theorem dX5_writeTrain_15 : decode cX5_writeTrain 15 = .ok (.aload_n 0, 1) := by decide +kernel
theorem dX5_writeTrain_16 : decode cX5_writeTrain 16 = .ok (.getfield 46, 3) := by decide +kernel
theorem dX5_writeTrain_19 : decode cX5_writeTrain 19 = .ok (.iconst 0, 1) := by decide +kernel
theorem dX5_writeTrain_20 : decode cX5_writeTrain 20 = .ok (.putfield 252, 3) := by decide +kernel
theorem dX5_writeTrain_23 : decode cX5_writeTrain 23 = .ok (.aload_n 0, 1) := by decide +kernel
theorem dX5_writeTrain_24 : decode cX5_writeTrain 24 = .ok (.getfield 46, 3) := by decide +kernel
theorem dX5_writeTrain_27 : decode cX5_writeTrain 27 = .ok (.iload_n 2, 1) := by decide +kernel
theorem dX5_writeTrain_28 : decode cX5_writeTrain 28 = .ok (.invokevirtual 257, 3) := by decide +kernel
theorem dX5_writeTrain_31 : decode cX5_writeTrain 31 = .ok (.aload_n 0, 1) := by decide +kernel
theorem dX5_writeTrain_32 : decode cX5_writeTrain 32 = .ok (.getfield 46, 3) := by decide +kernel
theorem dX5_writeTrain_35 : decode cX5_writeTrain 35 = .ok (.bipush 58, 2) := by decide +kernel
theorem dX5_writeTrain_37 : decode cX5_writeTrain 37 = .ok (.invokevirtual 253, 3) := by decide +kernel
theorem dX5_writeTrain_40 : decode cX5_writeTrain 40 = .ok (.aload_n 0, 1) := by decide +kernel
theorem dX5_writeTrain_41 : decode cX5_writeTrain 41 = .ok (.getfield 46, 3) := by decide +kernel
theorem dX5_writeTrain_44 : decode cX5_writeTrain 44 = .ok (.aload_n 0, 1) := by decide +kernel
theorem dX5_writeTrain_45 : decode cX5_writeTrain 45 = .ok (.getfield 10, 3) := by decide +kernel
theorem dX5_writeTrain_48 : decode cX5_writeTrain 48 = .ok (.getfield 169, 3) := by decide +kernel
theorem dX5_writeTrain_51 : decode cX5_writeTrain 51 = .ok (.iload_n 1, 1) := by decide +kernel
theorem dX5_writeTrain_52 : decode cX5_writeTrain 52 = .ok (.iaload, 1) := by decide +kernel
theorem dX5_writeTrain_53 : decode cX5_writeTrain 53 = .ok (.invokevirtual 257, 3) := by decide +kernel
theorem dX5_writeTrain_56 : decode cX5_writeTrain 56 = .ok (.aload_n 0, 1) := by decide +kernel
theorem dX5_writeTrain_57 : decode cX5_writeTrain 57 = .ok (.getfield 46, 3) := by decide +kernel
theorem dX5_writeTrain_60 : decode cX5_writeTrain 60 = .ok (.bipush 47, 2) := by decide +kernel
theorem dX5_writeTrain_62 : decode cX5_writeTrain 62 = .ok (.invokevirtual 253, 3) := by decide +kernel
theorem dX5_writeTrain_65 : decode cX5_writeTrain 65 = .ok (.aload_n 0, 1) := by decide +kernel
theorem dX5_writeTrain_66 : decode cX5_writeTrain 66 = .ok (.getfield 46, 3) := by decide +kernel
theorem dX5_writeTrain_69 : decode cX5_writeTrain 69 = .ok (.aload_n 0, 1) := by decide +kernel
theorem dX5_writeTrain_70 : decode cX5_writeTrain 70 = .ok (.getfield 10, 3) := by decide +kernel
theorem dX5_writeTrain_73 : decode cX5_writeTrain 73 = .ok (.getfield 122, 3) := by decide +kernel
theorem dX5_writeTrain_76 : decode cX5_writeTrain 76 = .ok (.iload_n 2, 1) := by decide +kernel
theorem dX5_writeTrain_77 : decode cX5_writeTrain 77 = .ok (.iaload, 1) := by decide +kernel
theorem dX5_writeTrain_78 : decode cX5_writeTrain 78 = .ok (.invokevirtual 257, 3) := by decide +kernel
theorem dX5_writeTrain_81 : decode cX5_writeTrain 81 = .ok (.aload_n 0, 1) := by decide +kernel
theorem dX5_writeTrain_82 : decode cX5_writeTrain 82 = .ok (.getfield 46, 3) := by decide +kernel
theorem dX5_writeTrain_85 : decode cX5_writeTrain 85 = .ok (.bipush 32, 2) := by decide +kernel
theorem dX5_writeTrain_87 : decode cX5_writeTrain 87 = .ok (.invokevirtual 253, 3) := by decide +kernel
theorem dX5_writeTrain_90 : decode cX5_writeTrain 90 = .ok (.aload_n 0, 1) := by decide +kernel
theorem dX5_writeTrain_91 : decode cX5_writeTrain 91 = .ok (.getfield 46, 3) := by decide +kernel
theorem dX5_writeTrain_94 : decode cX5_writeTrain 94 = .ok (.aload_n 0, 1) := by decide +kernel
theorem dX5_writeTrain_95 : decode cX5_writeTrain 95 = .ok (.getfield 10, 3) := by decide +kernel
theorem dX5_writeTrain_98 : decode cX5_writeTrain 98 = .ok (.getfield 172, 3) := by decide +kernel
theorem dX5_writeTrain_101 : decode cX5_writeTrain 101 = .ok (.iload_n 1, 1) := by decide +kernel
theorem dX5_writeTrain_102 : decode cX5_writeTrain 102 = .ok (.iaload, 1) := by decide +kernel
theorem dX5_writeTrain_103 : decode cX5_writeTrain 103 = .ok (.invokevirtual 257, 3) := by decide +kernel
theorem dX5_writeTrain_106 : decode cX5_writeTrain 106 = .ok (.aload_n 0, 1) := by decide +kernel
theorem dX5_writeTrain_107 : decode cX5_writeTrain 107 = .ok (.getfield 46, 3) := by decide +kernel
theorem dX5_writeTrain_110 : decode cX5_writeTrain 110 = .ok (.bipush 119, 2) := by decide +kernel
theorem dX5_writeTrain_112 : decode cX5_writeTrain 112 = .ok (.invokevirtual 253, 3) := by decide +kernel
theorem dX5_writeTrain_115 : decode cX5_writeTrain 115 = .ok (.aload_n 0, 1) := by decide +kernel
theorem dX5_writeTrain_116 : decode cX5_writeTrain 116 = .ok (.getfield 46, 3) := by decide +kernel
theorem dX5_writeTrain_119 : decode cX5_writeTrain 119 = .ok (.getfield 252, 3) := by decide +kernel
theorem dX5_writeTrain_122 : decode cX5_writeTrain 122 = .ok (.ireturn, 1) := by decide +kernel
theorem dX5_outputByte_0 : decode cX5_outputByte 0 = .ok (.iload_n 1, 1) := by decide +kernel
theorem dX5_outputByte_1 : decode cX5_outputByte 1 = .ok (.ifCond .lt 14, 3) := by decide +kernel
theorem dX5_outputByte_4 : decode cX5_outputByte 4 = .ok (.iload_n 1, 1) := by decide +kernel
theorem dX5_outputByte_5 : decode cX5_outputByte 5 = .ok (.aload_n 0, 1) := by decide +kernel
theorem dX5_outputByte_6 : decode cX5_outputByte 6 = .ok (.getfield 46, 3) := by decide +kernel
theorem dX5_outputByte_9 : decode cX5_outputByte 9 = .ok (.getfield 252, 3) := by decide +kernel
theorem dX5_outputByte_12 : decode cX5_outputByte 12 = .ok (.if_icmp .lt 14, 3) := by decide +kernel
theorem dX5_outputByte_15 : decode cX5_outputByte 15 = .ok (.new 90, 3) := by decide +kernel
theorem dX5_outputByte_18 : decode cX5_outputByte 18 = .ok (.dup, 1) := by decide +kernel
theorem dX5_outputByte_19 : decode cX5_outputByte 19 = .ok (.ldc_w 260, 3) := by decide +kernel
theorem dX5_outputByte_22 : decode cX5_outputByte 22 = .ok (.invokespecial 94, 3) := by decide +kernel
theorem dX5_outputByte_25 : decode cX5_outputByte 25 = .ok (.athrow, 1) := by decide +kernel
theorem dX5_outputByte_26 : decode cX5_outputByte 26 = .ok (.aload_n 0, 1) := by decide +kernel
theorem dX5_outputByte_27 : decode cX5_outputByte 27 = .ok (.getfield 46, 3) := by decide +kernel
theorem dX5_outputByte_30 : decode cX5_outputByte 30 = .ok (.getfield 262, 3) := by decide +kernel
theorem dX5_outputByte_33 : decode cX5_outputByte 33 = .ok (.iload_n 1, 1) := by decide +kernel
theorem dX5_outputByte_34 : decode cX5_outputByte 34 = .ok (.baload, 1) := by decide +kernel
theorem dX5_outputByte_35 : decode cX5_outputByte 35 = .ok (.ireturn, 1) := by decide +kernel
theorem dX5_requireBlock_0 : decode cX5_requireBlock 0 = .ok (.iload_n 1, 1) := by decide +kernel
theorem dX5_requireBlock_1 : decode cX5_requireBlock 1 = .ok (.ifCond .lt 14, 3) := by decide +kernel
theorem dX5_requireBlock_4 : decode cX5_requireBlock 4 = .ok (.iload_n 1, 1) := by decide +kernel
theorem dX5_requireBlock_5 : decode cX5_requireBlock 5 = .ok (.aload_n 0, 1) := by decide +kernel
theorem dX5_requireBlock_6 : decode cX5_requireBlock 6 = .ok (.getfield 10, 3) := by decide +kernel
theorem dX5_requireBlock_9 : decode cX5_requireBlock 9 = .ok (.getfield 107, 3) := by decide +kernel
theorem dX5_requireBlock_12 : decode cX5_requireBlock 12 = .ok (.if_icmp .lt 14, 3) := by decide +kernel
theorem dX5_requireBlock_15 : decode cX5_requireBlock 15 = .ok (.new 90, 3) := by decide +kernel
theorem dX5_requireBlock_18 : decode cX5_requireBlock 18 = .ok (.dup, 1) := by decide +kernel
theorem dX5_requireBlock_19 : decode cX5_requireBlock 19 = .ok (.ldc_w 266, 3) := by decide +kernel
theorem dX5_requireBlock_22 : decode cX5_requireBlock 22 = .ok (.invokespecial 94, 3) := by decide +kernel
theorem dX5_requireBlock_25 : decode cX5_requireBlock 25 = .ok (.athrow, 1) := by decide +kernel
theorem dX5_requireBlock_26 : decode cX5_requireBlock 26 = .ok (.return_, 1) := by decide +kernel
theorem dX5_requireTrain_0 : decode cX5_requireTrain 0 = .ok (.iload_n 1, 1) := by decide +kernel
theorem dX5_requireTrain_1 : decode cX5_requireTrain 1 = .ok (.ifCond .lt 14, 3) := by decide +kernel
theorem dX5_requireTrain_4 : decode cX5_requireTrain 4 = .ok (.iload_n 1, 1) := by decide +kernel
theorem dX5_requireTrain_5 : decode cX5_requireTrain 5 = .ok (.aload_n 0, 1) := by decide +kernel
theorem dX5_requireTrain_6 : decode cX5_requireTrain 6 = .ok (.getfield 10, 3) := by decide +kernel
theorem dX5_requireTrain_9 : decode cX5_requireTrain 9 = .ok (.getfield 145, 3) := by decide +kernel
theorem dX5_requireTrain_12 : decode cX5_requireTrain 12 = .ok (.if_icmp .lt 14, 3) := by decide +kernel
theorem dX5_requireTrain_15 : decode cX5_requireTrain 15 = .ok (.new 90, 3) := by decide +kernel
theorem dX5_requireTrain_18 : decode cX5_requireTrain 18 = .ok (.dup, 1) := by decide +kernel
theorem dX5_requireTrain_19 : decode cX5_requireTrain 19 = .ok (.ldc_w 268, 3) := by decide +kernel
theorem dX5_requireTrain_22 : decode cX5_requireTrain 22 = .ok (.invokespecial 94, 3) := by decide +kernel
theorem dX5_requireTrain_25 : decode cX5_requireTrain 25 = .ok (.athrow, 1) := by decide +kernel
theorem dX5_requireTrain_26 : decode cX5_requireTrain 26 = .ok (.return_, 1) := by decide +kernel
theorem dX5_requireSlot_0 : decode cX5_requireSlot 0 = .ok (.iload_n 1, 1) := by decide +kernel
theorem dX5_requireSlot_1 : decode cX5_requireSlot 1 = .ok (.ifCond .eq 19, 3) := by decide +kernel
theorem dX5_requireSlot_4 : decode cX5_requireSlot 4 = .ok (.iload_n 1, 1) := by decide +kernel
theorem dX5_requireSlot_5 : decode cX5_requireSlot 5 = .ok (.iconst 1, 1) := by decide +kernel
theorem dX5_requireSlot_6 : decode cX5_requireSlot 6 = .ok (.if_icmp .eq 14, 3) := by decide +kernel
theorem dX5_requireSlot_9 : decode cX5_requireSlot 9 = .ok (.new 90, 3) := by decide +kernel
theorem dX5_requireSlot_12 : decode cX5_requireSlot 12 = .ok (.dup, 1) := by decide +kernel
theorem dX5_requireSlot_13 : decode cX5_requireSlot 13 = .ok (.ldc_w 270, 3) := by decide +kernel
theorem dX5_requireSlot_16 : decode cX5_requireSlot 16 = .ok (.invokespecial 94, 3) := by decide +kernel
theorem dX5_requireSlot_19 : decode cX5_requireSlot 19 = .ok (.athrow, 1) := by decide +kernel
theorem dX5_requireSlot_20 : decode cX5_requireSlot 20 = .ok (.return_, 1) := by decide +kernel
theorem dX5_slotFor_0 : decode cX5_slotFor 0 = .ok (.iload_n 1, 1) := by decide +kernel
theorem dX5_slotFor_1 : decode cX5_slotFor 1 = .ok (.ifCond .ne 10, 3) := by decide +kernel
theorem dX5_slotFor_4 : decode cX5_slotFor 4 = .ok (.aload_n 0, 1) := by decide +kernel
theorem dX5_slotFor_5 : decode cX5_slotFor 5 = .ok (.getfield 29, 3) := by decide +kernel
theorem dX5_slotFor_8 : decode cX5_slotFor 8 = .ok (.goto 7, 3) := by decide +kernel
theorem dX5_slotFor_11 : decode cX5_slotFor 11 = .ok (.aload_n 0, 1) := by decide +kernel
theorem dX5_slotFor_12 : decode cX5_slotFor 12 = .ok (.getfield 33, 3) := by decide +kernel
theorem dX5_slotFor_15 : decode cX5_slotFor 15 = .ok (.areturn, 1) := by decide +kernel
