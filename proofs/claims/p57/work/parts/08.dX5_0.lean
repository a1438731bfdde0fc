theorem dX5_init_0 : decode cX5_init 0 = .ok (.aload_n 0, 1) := by decide +kernel
theorem dX5_init_1 : decode cX5_init 1 = .ok (.invokespecial 1, 3) := by decide +kernel
theorem dX5_init_4 : decode cX5_init 4 = .ok (.aload_n 0, 1) := by decide +kernel
theorem dX5_init_5 : decode cX5_init 5 = .ok (.new 7, 3) := by decide +kernel
theorem dX5_init_8 : decode cX5_init 8 = .ok (.dup, 1) := by decide +kernel
theorem dX5_init_9 : decode cX5_init 9 = .ok (.invokespecial 9, 3) := by decide +kernel
theorem dX5_init_12 : decode cX5_init 12 = .ok (.putfield 10, 3) := by decide +kernel
theorem dX5_init_15 : decode cX5_init 15 = .ok (.aload_n 0, 1) := by decide +kernel
theorem dX5_init_16 : decode cX5_init 16 = .ok (.new 7, 3) := by decide +kernel
theorem dX5_init_19 : decode cX5_init 19 = .ok (.dup, 1) := by decide +kernel
theorem dX5_init_20 : decode cX5_init 20 = .ok (.invokespecial 9, 3) := by decide +kernel
theorem dX5_init_23 : decode cX5_init 23 = .ok (.putfield 16, 3) := by decide +kernel
theorem dX5_init_26 : decode cX5_init 26 = .ok (.aload_n 0, 1) := by decide +kernel
theorem dX5_init_27 : decode cX5_init 27 = .ok (.new 19, 3) := by decide +kernel
theorem dX5_init_30 : decode cX5_init 30 = .ok (.dup, 1) := by decide +kernel
theorem dX5_init_31 : decode cX5_init 31 = .ok (.invokespecial 21, 3) := by decide +kernel
theorem dX5_init_34 : decode cX5_init 34 = .ok (.putfield 22, 3) := by decide +kernel
theorem dX5_init_37 : decode cX5_init 37 = .ok (.aload_n 0, 1) := by decide +kernel
theorem dX5_init_38 : decode cX5_init 38 = .ok (.new 26, 3) := by decide +kernel
theorem dX5_init_41 : decode cX5_init 41 = .ok (.dup, 1) := by decide +kernel
theorem dX5_init_42 : decode cX5_init 42 = .ok (.invokespecial 28, 3) := by decide +kernel
theorem dX5_init_45 : decode cX5_init 45 = .ok (.putfield 29, 3) := by decide +kernel
theorem dX5_init_48 : decode cX5_init 48 = .ok (.aload_n 0, 1) := by decide +kernel
theorem dX5_init_49 : decode cX5_init 49 = .ok (.new 26, 3) := by decide +kernel
theorem dX5_init_52 : decode cX5_init 52 = .ok (.dup, 1) := by decide +kernel
theorem dX5_init_53 : decode cX5_init 53 = .ok (.invokespecial 28, 3) := by decide +kernel
theorem dX5_init_56 : decode cX5_init 56 = .ok (.putfield 33, 3) := by decide +kernel
theorem dX5_init_59 : decode cX5_init 59 = .ok (.aload_n 0, 1) := by decide +kernel
theorem dX5_init_60 : decode cX5_init 60 = .ok (.new 36, 3) := by decide +kernel
theorem dX5_init_63 : decode cX5_init 63 = .ok (.dup, 1) := by decide +kernel
theorem dX5_init_64 : decode cX5_init 64 = .ok (.invokespecial 38, 3) := by decide +kernel
theorem dX5_init_67 : decode cX5_init 67 = .ok (.putfield 39, 3) := by decide +kernel
theorem dX5_init_70 : decode cX5_init 70 = .ok (.aload_n 0, 1) := by decide +kernel
theorem dX5_init_71 : decode cX5_init 71 = .ok (.new 43, 3) := by decide +kernel
theorem dX5_init_74 : decode cX5_init 74 = .ok (.dup, 1) := by decide +kernel
theorem dX5_init_75 : decode cX5_init 75 = .ok (.invokespecial 45, 3) := by decide +kernel
theorem dX5_init_78 : decode cX5_init 78 = .ok (.putfield 46, 3) := by decide +kernel
theorem dX5_init_81 : decode cX5_init 81 = .ok (.aload_n 0, 1) := by decide +kernel
theorem dX5_init_82 : decode cX5_init 82 = .ok (.getfield 39, 3) := by decide +kernel
theorem dX5_init_85 : decode cX5_init 85 = .ok (.ldc 50, 2) := by decide +kernel
theorem dX5_init_87 : decode cX5_init 87 = .ok (.invokevirtual 52, 3) := by decide +kernel
theorem dX5_init_90 : decode cX5_init 90 = .ok (.aload_n 0, 1) := by decide +kernel
theorem dX5_init_91 : decode cX5_init 91 = .ok (.getfield 39, 3) := by decide +kernel
theorem dX5_init_94 : decode cX5_init 94 = .ok (.ldc 50, 2) := by decide +kernel
theorem dX5_init_96 : decode cX5_init 96 = .ok (.invokevirtual 56, 3) := by decide +kernel
theorem dX5_init_99 : decode cX5_init 99 = .ok (.invokevirtual 62, 3) := by decide +kernel
theorem dX5_init_102 : decode cX5_init 102 = .ok (.ifCond .eq 17, 3) := by decide +kernel
theorem dX5_init_105 : decode cX5_init 105 = .ok (.aload_n 0, 1) := by decide +kernel
theorem dX5_init_106 : decode cX5_init 106 = .ok (.getfield 10, 3) := by decide +kernel
theorem dX5_init_109 : decode cX5_init 109 = .ok (.aload_n 0, 1) := by decide +kernel
theorem dX5_init_110 : decode cX5_init 110 = .ok (.getfield 39, 3) := by decide +kernel
theorem dX5_init_113 : decode cX5_init 113 = .ok (.getfield 66, 3) := by decide +kernel
theorem dX5_init_116 : decode cX5_init 116 = .ok (.invokevirtual 69, 3) := by decide +kernel
theorem dX5_init_119 : decode cX5_init 119 = .ok (.return_, 1) := by decide +kernel
theorem dX5_append_0 : decode cX5_append 0 = .ok (.aload_n 0, 1) := by decide +kernel
theorem dX5_append_1 : decode cX5_append 1 = .ok (.getfield 39, 3) := by decide +kernel
theorem dX5_append_4 : decode cX5_append 4 = .ok (.bipush 20, 2) := by decide +kernel
theorem dX5_append_6 : decode cX5_append 6 = .ok (.invokevirtual 73, 3) := by decide +kernel
theorem dX5_append_9 : decode cX5_append 9 = .ok (.ifCond .ne 13, 3) := by decide +kernel
theorem dX5_append_12 : decode cX5_append 12 = .ok (.new 76, 3) := by decide +kernel
theorem dX5_append_15 : decode cX5_append 15 = .ok (.dup, 1) := by decide +kernel
theorem dX5_append_16 : decode cX5_append 16 = .ok (.ldc 78, 2) := by decide +kernel
theorem dX5_append_18 : decode cX5_append 18 = .ok (.invokespecial 80, 3) := by decide +kernel
theorem dX5_append_21 : decode cX5_append 21 = .ok (.athrow, 1) := by decide +kernel
theorem dX5_append_22 : decode cX5_append 22 = .ok (.aload_n 0, 1) := by decide +kernel
theorem dX5_append_23 : decode cX5_append 23 = .ok (.getfield 39, 3) := by decide +kernel
theorem dX5_append_26 : decode cX5_append 26 = .ok (.iload_n 1, 1) := by decide +kernel
theorem dX5_append_27 : decode cX5_append 27 = .ok (.invokevirtual 82, 3) := by decide +kernel
theorem dX5_append_30 : decode cX5_append 30 = .ok (.aload_n 0, 1) := by decide +kernel
theorem dX5_append_31 : decode cX5_append 31 = .ok (.getfield 39, 3) := by decide +kernel
theorem dX5_append_34 : decode cX5_append 34 = .ok (.iload_n 2, 1) := by decide +kernel
theorem dX5_append_35 : decode cX5_append 35 = .ok (.invokevirtual 82, 3) := by decide +kernel
theorem dX5_append_38 : decode cX5_append 38 = .ok (.aload_n 0, 1) := by decide +kernel
theorem dX5_append_39 : decode cX5_append 39 = .ok (.getfield 39, 3) := by decide +kernel
theorem dX5_append_42 : decode cX5_append 42 = .ok (.iload_n 3, 1) := by decide +kernel
theorem dX5_append_43 : decode cX5_append 43 = .ok (.invokevirtual 82, 3) := by decide +kernel
theorem dX5_append_46 : decode cX5_append 46 = .ok (.aload_n 0, 1) := by decide +kernel
theorem dX5_append_47 : decode cX5_append 47 = .ok (.getfield 39, 3) := by decide +kernel
theorem dX5_append_50 : decode cX5_append 50 = .ok (.iload 4, 2) := by decide +kernel
theorem dX5_append_52 : decode cX5_append 52 = .ok (.invokevirtual 82, 3) := by decide +kernel
theorem dX5_append_55 : decode cX5_append 55 = .ok (.aload_n 0, 1) := by decide +kernel
theorem dX5_append_56 : decode cX5_append 56 = .ok (.getfield 39, 3) := by decide +kernel
theorem dX5_append_59 : decode cX5_append 59 = .ok (.iload 5, 2) := by decide +kernel
theorem dX5_append_61 : decode cX5_append 61 = .ok (.invokevirtual 82, 3) := by decide +kernel
theorem dX5_append_64 : decode cX5_append 64 = .ok (.aload_n 0, 1) := by decide +kernel
theorem dX5_append_65 : decode cX5_append 65 = .ok (.getfield 39, 3) := by decide +kernel
theorem dX5_append_68 : decode cX5_append 68 = .ok (.getfield 86, 3) := by decide +kernel
theorem dX5_append_71 : decode cX5_append 71 = .ok (.ireturn, 1) := by decide +kernel
theorem dX5_load_0 : decode cX5_load 0 = .ok (.iload_n 1, 1) := by decide +kernel
theorem dX5_load_1 : decode cX5_load 1 = .ok (.ifCond .lt 14, 3) := by decide +kernel
theorem dX5_load_4 : decode cX5_load 4 = .ok (.iload_n 1, 1) := by decide +kernel
theorem dX5_load_5 : decode cX5_load 5 = .ok (.aload_n 0, 1) := by decide +kernel
theorem dX5_load_6 : decode cX5_load 6 = .ok (.getfield 39, 3) := by decide +kernel
theorem dX5_load_9 : decode cX5_load 9 = .ok (.getfield 86, 3) := by decide +kernel
theorem dX5_load_12 : decode cX5_load 12 = .ok (.if_icmp .le 13, 3) := by decide +kernel
theorem dX5_load_15 : decode cX5_load 15 = .ok (.new 90, 3) := by decide +kernel
theorem dX5_load_18 : decode cX5_load 18 = .ok (.dup, 1) := by decide +kernel
theorem dX5_load_19 : decode cX5_load 19 = .ok (.ldc 92, 2) := by decide +kernel
theorem dX5_load_21 : decode cX5_load 21 = .ok (.invokespecial 94, 3) := by decide +kernel
theorem dX5_load_24 : decode cX5_load 24 = .ok (.athrow, 1) := by decide +kernel
theorem dX5_load_25 : decode cX5_load 25 = .ok (.aload_n 0, 1) := by decide +kernel
theorem dX5_load_26 : decode cX5_load 26 = .ok (.getfield 39, 3) := by decide +kernel
theorem dX5_load_29 : decode cX5_load 29 = .ok (.iload_n 1, 1) := by decide +kernel
theorem dX5_load_30 : decode cX5_load 30 = .ok (.invokevirtual 62, 3) := by decide +kernel
theorem dX5_load_33 : decode cX5_load 33 = .ok (.ifCond .ne 13, 3) := by decide +kernel
theorem dX5_load_36 : decode cX5_load 36 = .ok (.new 95, 3) := by decide +kernel
theorem dX5_load_39 : decode cX5_load 39 = .ok (.dup, 1) := by decide +kernel
theorem dX5_load_40 : decode cX5_load 40 = .ok (.ldc 97, 2) := by decide +kernel
theorem dX5_load_42 : decode cX5_load 42 = .ok (.invokespecial 99, 3) := by decide +kernel
theorem dX5_load_45 : decode cX5_load 45 = .ok (.athrow, 1) := by decide +kernel
theorem dX5_load_46 : decode cX5_load 46 = .ok (.aload_n 0, 1) := by decide +kernel
theorem dX5_load_47 : decode cX5_load 47 = .ok (.getfield 10, 3) := by decide +kernel
theorem dX5_load_50 : decode cX5_load 50 = .ok (.aload_n 0, 1) := by decide +kernel
theorem dX5_load_51 : decode cX5_load 51 = .ok (.getfield 39, 3) := by decide +kernel
theorem dX5_load_54 : decode cX5_load 54 = .ok (.getfield 66, 3) := by decide +kernel
theorem dX5_load_57 : decode cX5_load 57 = .ok (.invokevirtual 69, 3) := by decide +kernel
theorem dX5_load_60 : decode cX5_load 60 = .ok (.aload_n 0, 1) := by decide +kernel
theorem dX5_load_61 : decode cX5_load 61 = .ok (.getfield 22, 3) := by decide +kernel
theorem dX5_load_64 : decode cX5_load 64 = .ok (.invokevirtual 100, 3) := by decide +kernel
theorem dX5_load_67 : decode cX5_load 67 = .ok (.aload_n 0, 1) := by decide +kernel
theorem dX5_load_68 : decode cX5_load 68 = .ok (.getfield 29, 3) := by decide +kernel
theorem dX5_load_71 : decode cX5_load 71 = .ok (.iconst 0, 1) := by decide +kernel
theorem dX5_load_72 : decode cX5_load 72 = .ok (.putfield 103, 3) := by decide +kernel
theorem dX5_load_75 : decode cX5_load 75 = .ok (.aload_n 0, 1) := by decide +kernel
theorem dX5_load_76 : decode cX5_load 76 = .ok (.getfield 33, 3) := by decide +kernel
theorem dX5_load_79 : decode cX5_load 79 = .ok (.iconst 0, 1) := by decide +kernel
theorem dX5_load_80 : decode cX5_load 80 = .ok (.putfield 103, 3) := by decide +kernel
theorem dX5_load_83 : decode cX5_load 83 = .ok (.aload_n 0, 1) := by decide +kernel
theorem dX5_load_84 : decode cX5_load 84 = .ok (.getfield 10, 3) := by decide +kernel
theorem dX5_load_87 : decode cX5_load 87 = .ok (.getfield 107, 3) := by decide +kernel
theorem dX5_load_90 : decode cX5_load 90 = .ok (.ireturn, 1) := by decide +kernel
theorem dX5_tick_0 : decode cX5_tick 0 = .ok (.aload_n 0, 1) := by decide +kernel
theorem dX5_tick_1 : decode cX5_tick 1 = .ok (.getfield 10, 3) := by decide +kernel
theorem dX5_tick_4 : decode cX5_tick 4 = .ok (.getfield 116, 3) := by decide +kernel
theorem dX5_tick_7 : decode cX5_tick 7 = .ok (.ireturn, 1) := by decide +kernel
theorem dX5_blockCount_0 : decode cX5_blockCount 0 = .ok (.aload_n 0, 1) := by decide +kernel
theorem dX5_blockCount_1 : decode cX5_blockCount 1 = .ok (.getfield 10, 3) := by decide +kernel
theorem dX5_blockCount_4 : decode cX5_blockCount 4 = .ok (.getfield 107, 3) := by decide +kernel
theorem dX5_blockCount_7 : decode cX5_blockCount 7 = .ok (.ireturn, 1) := by decide +kernel
theorem dX5_lengthOf_0 : decode cX5_lengthOf 0 = .ok (.aload_n 0, 1) := by decide +kernel
theorem dX5_lengthOf_1 : decode cX5_lengthOf 1 = .ok (.iload_n 1, 1) := by decide +kernel
theorem dX5_lengthOf_2 : decode cX5_lengthOf 2 = .ok (.invokevirtual 119, 3) := by decide +kernel
theorem dX5_lengthOf_5 : decode cX5_lengthOf 5 = .ok (.aload_n 0, 1) := by decide +kernel
theorem dX5_lengthOf_6 : decode cX5_lengthOf 6 = .ok (.getfield 10, 3) := by decide +kernel
theorem dX5_lengthOf_9 : decode cX5_lengthOf 9 = .ok (.getfield 122, 3) := by decide +kernel
theorem dX5_lengthOf_12 : decode cX5_lengthOf 12 = .ok (.iload_n 1, 1) := by decide +kernel
theorem dX5_lengthOf_13 : decode cX5_lengthOf 13 = .ok (.iaload, 1) := by decide +kernel
theorem dX5_lengthOf_14 : decode cX5_lengthOf 14 = .ok (.ireturn, 1) := by decide +kernel
theorem dX5_depthOf_0 : decode cX5_depthOf 0 = .ok (.aload_n 0, 1) := by decide +kernel
theorem dX5_depthOf_1 : decode cX5_depthOf 1 = .ok (.iload_n 1, 1) := by decide +kernel
theorem dX5_depthOf_2 : decode cX5_depthOf 2 = .ok (.invokevirtual 119, 3) := by decide +kernel
theorem dX5_depthOf_5 : decode cX5_depthOf 5 = .ok (.aload_n 0, 1) := by decide +kernel
theorem dX5_depthOf_6 : decode cX5_depthOf 6 = .ok (.getfield 10, 3) := by decide +kernel
theorem dX5_depthOf_9 : decode cX5_depthOf 9 = .ok (.getfield 125, 3) := by decide +kernel
theorem dX5_depthOf_12 : decode cX5_depthOf 12 = .ok (.iload_n 1, 1) := by decide +kernel
theorem dX5_depthOf_13 : decode cX5_depthOf 13 = .ok (.iaload, 1) := by decide +kernel
theorem dX5_depthOf_14 : decode cX5_depthOf 14 = .ok (.ireturn, 1) := by decide +kernel
theorem dX5_isBend_0 : decode cX5_isBend 0 = .ok (.aload_n 0, 1) := by decide +kernel
theorem dX5_isBend_1 : decode cX5_isBend 1 = .ok (.iload_n 1, 1) := by decide +kernel
theorem dX5_isBend_2 : decode cX5_isBend 2 = .ok (.invokevirtual 119, 3) := by decide +kernel
theorem dX5_isBend_5 : decode cX5_isBend 5 = .ok (.aload_n 0, 1) := by decide +kernel
theorem dX5_isBend_6 : decode cX5_isBend 6 = .ok (.getfield 10, 3) := by decide +kernel
theorem dX5_isBend_9 : decode cX5_isBend 9 = .ok (.iload_n 1, 1) := by decide +kernel
theorem dX5_isBend_10 : decode cX5_isBend 10 = .ok (.invokevirtual 128, 3) := by decide +kernel
theorem dX5_isBend_13 : decode cX5_isBend 13 = .ok (.ireturn, 1) := by decide +kernel
theorem dX5_limitOf_0 : decode cX5_limitOf 0 = .ok (.aload_n 0, 1) := by decide +kernel
theorem dX5_limitOf_1 : decode cX5_limitOf 1 = .ok (.iload_n 1, 1) := by decide +kernel
theorem dX5_limitOf_2 : decode cX5_limitOf 2 = .ok (.invokevirtual 119, 3) := by decide +kernel
theorem dX5_limitOf_5 : decode cX5_limitOf 5 = .ok (.aload_n 0, 1) := by decide +kernel
theorem dX5_limitOf_6 : decode cX5_limitOf 6 = .ok (.getfield 10, 3) := by decide +kernel
theorem dX5_limitOf_9 : decode cX5_limitOf 9 = .ok (.iload_n 1, 1) := by decide +kernel
theorem dX5_limitOf_10 : decode cX5_limitOf 10 = .ok (.invokevirtual 131, 3) := by decide +kernel
theorem dX5_limitOf_13 : decode cX5_limitOf 13 = .ok (.ireturn, 1) := by decide +kernel
theorem dX5_isClear_0 : decode cX5_isClear 0 = .ok (.aload_n 0, 1) := by decide +kernel
theorem dX5_isClear_1 : decode cX5_isClear 1 = .ok (.iload_n 1, 1) := by decide +kernel
theorem dX5_isClear_2 : decode cX5_isClear 2 = .ok (.invokevirtual 119, 3) := by decide +kernel
theorem dX5_isClear_5 : decode cX5_isClear 5 = .ok (.aload_n 0, 1) := by decide +kernel
theorem dX5_isClear_6 : decode cX5_isClear 6 = .ok (.getfield 10, 3) := by decide +kernel
theorem dX5_isClear_9 : decode cX5_isClear 9 = .ok (.getfield 135, 3) := by decide +kernel
theorem dX5_isClear_12 : decode cX5_isClear 12 = .ok (.iload_n 1, 1) := by decide +kernel
theorem dX5_isClear_13 : decode cX5_isClear 13 = .ok (.baload, 1) := by decide +kernel
theorem dX5_isClear_14 : decode cX5_isClear 14 = .ok (.ireturn, 1) := by decide +kernel
theorem dX5_trainIn_0 : decode cX5_trainIn 0 = .ok (.aload_n 0, 1) := by decide +kernel
theorem dX5_trainIn_1 : decode cX5_trainIn 1 = .ok (.iload_n 1, 1) := by decide +kernel
theorem dX5_trainIn_2 : decode cX5_trainIn 2 = .ok (.invokevirtual 119, 3) := by decide +kernel
theorem dX5_trainIn_5 : decode cX5_trainIn 5 = .ok (.aload_n 0, 1) := by decide +kernel
theorem dX5_trainIn_6 : decode cX5_trainIn 6 = .ok (.getfield 10, 3) := by decide +kernel
theorem dX5_trainIn_9 : decode cX5_trainIn 9 = .ok (.getfield 139, 3) := by decide +kernel
theorem dX5_trainIn_12 : decode cX5_trainIn 12 = .ok (.iload_n 1, 1) := by decide +kernel
theorem dX5_trainIn_13 : decode cX5_trainIn 13 = .ok (.iaload, 1) := by decide +kernel
theorem dX5_trainIn_14 : decode cX5_trainIn 14 = .ok (.ireturn, 1) := by decide +kernel
theorem dX5_lostIn_0 : decode cX5_lostIn 0 = .ok (.aload_n 0, 1) := by decide +kernel
theorem dX5_lostIn_1 : decode cX5_lostIn 1 = .ok (.iload_n 1, 1) := by decide +kernel
theorem dX5_lostIn_2 : decode cX5_lostIn 2 = .ok (.invokevirtual 119, 3) := by decide +kernel
theorem dX5_lostIn_5 : decode cX5_lostIn 5 = .ok (.aload_n 0, 1) := by decide +kernel
theorem dX5_lostIn_6 : decode cX5_lostIn 6 = .ok (.getfield 10, 3) := by decide +kernel
theorem dX5_lostIn_9 : decode cX5_lostIn 9 = .ok (.getfield 142, 3) := by decide +kernel
theorem dX5_lostIn_12 : decode cX5_lostIn 12 = .ok (.iload_n 1, 1) := by decide +kernel
theorem dX5_lostIn_13 : decode cX5_lostIn 13 = .ok (.iaload, 1) := by decide +kernel
theorem dX5_lostIn_14 : decode cX5_lostIn 14 = .ok (.ireturn, 1) := by decide +kernel
theorem dX5_departuresFrom_0 : decode cX5_departuresFrom 0 = .ok (.aload_n 0, 1) := by decide +kernel
theorem dX5_departuresFrom_1 : decode cX5_departuresFrom 1 = .ok (.iload_n 1, 1) := by decide +kernel
theorem dX5_departuresFrom_2 : decode cX5_departuresFrom 2 = .ok (.invokevirtual 119, 3) := by decide +kernel
theorem dX5_departuresFrom_5 : decode cX5_departuresFrom 5 = .ok (.iconst 0, 1) := by decide +kernel
theorem dX5_departuresFrom_6 : decode cX5_departuresFrom 6 = .ok (.istore_n 2, 1) := by decide +kernel
theorem dX5_departuresFrom_7 : decode cX5_departuresFrom 7 = .ok (.iconst 0, 1) := by decide +kernel
theorem dX5_departuresFrom_8 : decode cX5_departuresFrom 8 = .ok (.istore_n 3, 1) := by decide +kernel
theorem dX5_departuresFrom_9 : decode cX5_departuresFrom 9 = .ok (.iload_n 3, 1) := by decide +kernel
theorem dX5_departuresFrom_10 : decode cX5_departuresFrom 10 = .ok (.aload_n 0, 1) := by decide +kernel
theorem dX5_departuresFrom_11 : decode cX5_departuresFrom 11 = .ok (.getfield 10, 3) := by decide +kernel
theorem dX5_departuresFrom_14 : decode cX5_departuresFrom 14 = .ok (.getfield 145, 3) := by decide +kernel
theorem dX5_departuresFrom_17 : decode cX5_departuresFrom 17 = .ok (.if_icmp .ge 21, 3) := by decide +kernel
theorem dX5_departuresFrom_20 : decode cX5_departuresFrom 20 = .ok (.iload_n 2, 1) := by decide +kernel
theorem dX5_departuresFrom_21 : decode cX5_departuresFrom 21 = .ok (.aload_n 0, 1) := by decide +kernel
theorem dX5_departuresFrom_22 : decode cX5_departuresFrom 22 = .ok (.getfield 10, 3) := by decide +kernel
theorem dX5_departuresFrom_25 : decode cX5_departuresFrom 25 = .ok (.iload_n 3, 1) := by decide +kernel
theorem dX5_departuresFrom_26 : decode cX5_departuresFrom 26 = .ok (.iload_n 1, 1) := by decide +kernel
theorem dX5_departuresFrom_27 : decode cX5_departuresFrom 27 = .ok (.invokevirtual 148, 3) := by decide +kernel
theorem dX5_departuresFrom_30 : decode cX5_departuresFrom 30 = .ok (.iadd, 1) := by decide +kernel
theorem dX5_departuresFrom_31 : decode cX5_departuresFrom 31 = .ok (.istore_n 2, 1) := by decide +kernel
theorem dX5_departuresFrom_32 : decode cX5_departuresFrom 32 = .ok (.iinc 3 1, 3) := by decide +kernel
theorem dX5_departuresFrom_35 : decode cX5_departuresFrom 35 = .ok (.goto (-26), 3) := by decide +kernel
theorem dX5_departuresFrom_38 : decode cX5_departuresFrom 38 = .ok (.iload_n 2, 1) := by decide +kernel
theorem dX5_departuresFrom_39 : decode cX5_departuresFrom 39 = .ok (.ireturn, 1) := by decide +kernel
theorem dX5_obstacle_0 : decode cX5_obstacle 0 = .ok (.aload_n 0, 1) := by decide +kernel
theorem dX5_obstacle_1 : decode cX5_obstacle 1 = .ok (.iload_n 1, 1) := by decide +kernel
theorem dX5_obstacle_2 : decode cX5_obstacle 2 = .ok (.invokevirtual 119, 3) := by decide +kernel
theorem dX5_obstacle_5 : decode cX5_obstacle 5 = .ok (.aload_n 0, 1) := by decide +kernel
theorem dX5_obstacle_6 : decode cX5_obstacle 6 = .ok (.getfield 10, 3) := by decide +kernel
theorem dX5_obstacle_9 : decode cX5_obstacle 9 = .ok (.iload_n 1, 1) := by decide +kernel
theorem dX5_obstacle_10 : decode cX5_obstacle 10 = .ok (.invokevirtual 152, 3) := by decide +kernel
theorem dX5_obstacle_13 : decode cX5_obstacle 13 = .ok (.ireturn, 1) := by decide +kernel
theorem dX5_freeLevers_0 : decode cX5_freeLevers 0 = .ok (.iconst 0, 1) := by decide +kernel
theorem dX5_freeLevers_1 : decode cX5_freeLevers 1 = .ok (.istore_n 1, 1) := by decide +kernel
theorem dX5_freeLevers_2 : decode cX5_freeLevers 2 = .ok (.iconst 0, 1) := by decide +kernel
theorem dX5_freeLevers_3 : decode cX5_freeLevers 3 = .ok (.istore_n 2, 1) := by decide +kernel
theorem dX5_freeLevers_4 : decode cX5_freeLevers 4 = .ok (.iload_n 2, 1) := by decide +kernel
theorem dX5_freeLevers_5 : decode cX5_freeLevers 5 = .ok (.aload_n 0, 1) := by decide +kernel
theorem dX5_freeLevers_6 : decode cX5_freeLevers 6 = .ok (.getfield 10, 3) := by decide +kernel
theorem dX5_freeLevers_9 : decode cX5_freeLevers 9 = .ok (.getfield 107, 3) := by decide +kernel
theorem dX5_freeLevers_12 : decode cX5_freeLevers 12 = .ok (.if_icmp .ge 23, 3) := by decide +kernel
theorem dX5_freeLevers_15 : decode cX5_freeLevers 15 = .ok (.aload_n 0, 1) := by decide +kernel
theorem dX5_freeLevers_16 : decode cX5_freeLevers 16 = .ok (.getfield 10, 3) := by decide +kernel
theorem dX5_freeLevers_19 : decode cX5_freeLevers 19 = .ok (.iload_n 2, 1) := by decide +kernel
theorem dX5_freeLevers_20 : decode cX5_freeLevers 20 = .ok (.invokevirtual 152, 3) := by decide +kernel
theorem dX5_freeLevers_23 : decode cX5_freeLevers 23 = .ok (.ifCond .ne 6, 3) := by decide +kernel
theorem dX5_freeLevers_26 : decode cX5_freeLevers 26 = .ok (.iinc 1 1, 3) := by decide +kernel
theorem dX5_freeLevers_29 : decode cX5_freeLevers 29 = .ok (.iinc 2 1, 3) := by decide +kernel
theorem dX5_freeLevers_32 : decode cX5_freeLevers 32 = .ok (.goto (-28), 3) := by decide +kernel
theorem dX5_freeLevers_35 : decode cX5_freeLevers 35 = .ok (.iload_n 1, 1) := by decide +kernel
theorem dX5_freeLevers_36 : decode cX5_freeLevers 36 = .ok (.ireturn, 1) := by decide +kernel
theorem dX5_emptyBlocks_0 : decode cX5_emptyBlocks 0 = .ok (.iconst 0, 1) := by decide +kernel
theorem dX5_emptyBlocks_1 : decode cX5_emptyBlocks 1 = .ok (.istore_n 1, 1) := by decide +kernel
theorem dX5_emptyBlocks_2 : decode cX5_emptyBlocks 2 = .ok (.iconst 0, 1) := by decide +kernel
theorem dX5_emptyBlocks_3 : decode cX5_emptyBlocks 3 = .ok (.istore_n 2, 1) := by decide +kernel
theorem dX5_emptyBlocks_4 : decode cX5_emptyBlocks 4 = .ok (.iload_n 2, 1) := by decide +kernel
theorem dX5_emptyBlocks_5 : decode cX5_emptyBlocks 5 = .ok (.aload_n 0, 1) := by decide +kernel
theorem dX5_emptyBlocks_6 : decode cX5_emptyBlocks 6 = .ok (.getfield 10, 3) := by decide +kernel
theorem dX5_emptyBlocks_9 : decode cX5_emptyBlocks 9 = .ok (.getfield 107, 3) := by decide +kernel
theorem dX5_emptyBlocks_12 : decode cX5_emptyBlocks 12 = .ok (.if_icmp .ge 23, 3) := by decide +kernel
theorem dX5_emptyBlocks_15 : decode cX5_emptyBlocks 15 = .ok (.aload_n 0, 1) := by decide +kernel
theorem dX5_emptyBlocks_16 : decode cX5_emptyBlocks 16 = .ok (.getfield 10, 3) := by decide +kernel
theorem dX5_emptyBlocks_19 : decode cX5_emptyBlocks 19 = .ok (.iload_n 2, 1) := by decide +kernel
theorem dX5_emptyBlocks_20 : decode cX5_emptyBlocks 20 = .ok (.invokevirtual 155, 3) := by decide +kernel
theorem dX5_emptyBlocks_23 : decode cX5_emptyBlocks 23 = .ok (.ifCond .ne 6, 3) := by decide +kernel
theorem dX5_emptyBlocks_26 : decode cX5_emptyBlocks 26 = .ok (.iinc 1 1, 3) := by decide +kernel
theorem dX5_emptyBlocks_29 : decode cX5_emptyBlocks 29 = .ok (.iinc 2 1, 3) := by decide +kernel
theorem dX5_emptyBlocks_32 : decode cX5_emptyBlocks 32 = .ok (.goto (-28), 3) := by decide +kernel
theorem dX5_emptyBlocks_35 : decode cX5_emptyBlocks 35 = .ok (.iload_n 1, 1) := by decide +kernel
theorem dX5_emptyBlocks_36 : decode cX5_emptyBlocks 36 = .ok (.ireturn, 1) := by decide +kernel
theorem dX5_deepestBlock_0 : decode cX5_deepestBlock 0 = .ok (.iconst (-1), 1) := by decide +kernel
theorem dX5_deepestBlock_1 : decode cX5_deepestBlock 1 = .ok (.istore_n 1, 1) := by decide +kernel
theorem dX5_deepestBlock_2 : decode cX5_deepestBlock 2 = .ok (.iconst (-1), 1) := by decide +kernel
theorem dX5_deepestBlock_3 : decode cX5_deepestBlock 3 = .ok (.istore_n 2, 1) := by decide +kernel
theorem dX5_deepestBlock_4 : decode cX5_deepestBlock 4 = .ok (.iconst 0, 1) := by decide +kernel
theorem dX5_deepestBlock_5 : decode cX5_deepestBlock 5 = .ok (.istore_n 3, 1) := by decide +kernel
theorem dX5_deepestBlock_6 : decode cX5_deepestBlock 6 = .ok (.iload_n 3, 1) := by decide +kernel
theorem dX5_deepestBlock_7 : decode cX5_deepestBlock 7 = .ok (.aload_n 0, 1) := by decide +kernel
theorem dX5_deepestBlock_8 : decode cX5_deepestBlock 8 = .ok (.getfield 10, 3) := by decide +kernel
theorem dX5_deepestBlock_11 : decode cX5_deepestBlock 11 = .ok (.getfield 107, 3) := by decide +kernel
theorem dX5_deepestBlock_14 : decode cX5_deepestBlock 14 = .ok (.if_icmp .ge 34, 3) := by decide +kernel
theorem dX5_deepestBlock_17 : decode cX5_deepestBlock 17 = .ok (.aload_n 0, 1) := by decide +kernel
theorem dX5_deepestBlock_18 : decode cX5_deepestBlock 18 = .ok (.getfield 10, 3) := by decide +kernel
theorem dX5_deepestBlock_21 : decode cX5_deepestBlock 21 = .ok (.getfield 125, 3) := by decide +kernel
theorem dX5_deepestBlock_24 : decode cX5_deepestBlock 24 = .ok (.iload_n 3, 1) := by decide +kernel
theorem dX5_deepestBlock_25 : decode cX5_deepestBlock 25 = .ok (.iaload, 1) := by decide +kernel
theorem dX5_deepestBlock_26 : decode cX5_deepestBlock 26 = .ok (.iload_n 2, 1) := by decide +kernel
theorem dX5_deepestBlock_27 : decode cX5_deepestBlock 27 = .ok (.if_icmp .le 15, 3) := by decide +kernel
theorem dX5_deepestBlock_30 : decode cX5_deepestBlock 30 = .ok (.iload_n 3, 1) := by decide +kernel
theorem dX5_deepestBlock_31 : decode cX5_deepestBlock 31 = .ok (.istore_n 1, 1) := by decide +kernel
theorem dX5_deepestBlock_32 : decode cX5_deepestBlock 32 = .ok (.aload_n 0, 1) := by decide +kernel
theorem dX5_deepestBlock_33 : decode cX5_deepestBlock 33 = .ok (.getfield 10, 3) := by decide +kernel
theorem dX5_deepestBlock_36 : decode cX5_deepestBlock 36 = .ok (.getfield 125, 3) := by decide +kernel
theorem dX5_deepestBlock_39 : decode cX5_deepestBlock 39 = .ok (.iload_n 3, 1) := by decide +kernel
theorem dX5_deepestBlock_40 : decode cX5_deepestBlock 40 = .ok (.iaload, 1) := by decide +kernel
theorem dX5_deepestBlock_41 : decode cX5_deepestBlock 41 = .ok (.istore_n 2, 1) := by decide +kernel
theorem dX5_deepestBlock_42 : decode cX5_deepestBlock 42 = .ok (.iinc 3 1, 3) := by decide +kernel
theorem dX5_deepestBlock_45 : decode cX5_deepestBlock 45 = .ok (.goto (-39), 3) := by decide +kernel
theorem dX5_deepestBlock_48 : decode cX5_deepestBlock 48 = .ok (.iload_n 1, 1) := by decide +kernel
theorem dX5_deepestBlock_49 : decode cX5_deepestBlock 49 = .ok (.ireturn, 1) := by decide +kernel
theorem dX5_differentDepths_0 : decode cX5_differentDepths 0 = .ok (.iconst 0, 1) := by decide +kernel
theorem dX5_differentDepths_1 : decode cX5_differentDepths 1 = .ok (.istore_n 1, 1) := by decide +kernel
theorem dX5_differentDepths_2 : decode cX5_differentDepths 2 = .ok (.iconst 0, 1) := by decide +kernel
theorem dX5_differentDepths_3 : decode cX5_differentDepths 3 = .ok (.istore_n 2, 1) := by decide +kernel
theorem dX5_differentDepths_4 : decode cX5_differentDepths 4 = .ok (.iload_n 2, 1) := by decide +kernel
theorem dX5_differentDepths_5 : decode cX5_differentDepths 5 = .ok (.aload_n 0, 1) := by decide +kernel
theorem dX5_differentDepths_6 : decode cX5_differentDepths 6 = .ok (.getfield 10, 3) := by decide +kernel
theorem dX5_differentDepths_9 : decode cX5_differentDepths 9 = .ok (.getfield 107, 3) := by decide +kernel
theorem dX5_differentDepths_12 : decode cX5_differentDepths 12 = .ok (.if_icmp .ge 23, 3) := by decide +kernel
theorem dX5_differentDepths_15 : decode cX5_differentDepths 15 = .ok (.iload_n 1, 1) := by decide +kernel
theorem dX5_differentDepths_16 : decode cX5_differentDepths 16 = .ok (.iconst 1, 1) := by decide +kernel
theorem dX5_differentDepths_17 : decode cX5_differentDepths 17 = .ok (.aload_n 0, 1) := by decide +kernel
theorem dX5_differentDepths_18 : decode cX5_differentDepths 18 = .ok (.getfield 10, 3) := by decide +kernel
theorem dX5_differentDepths_21 : decode cX5_differentDepths 21 = .ok (.getfield 125, 3) := by decide +kernel
theorem dX5_differentDepths_24 : decode cX5_differentDepths 24 = .ok (.iload_n 2, 1) := by decide +kernel
theorem dX5_differentDepths_25 : decode cX5_differentDepths 25 = .ok (.iaload, 1) := by decide +kernel
theorem dX5_differentDepths_26 : decode cX5_differentDepths 26 = .ok (.ishl, 1) := by decide +kernel
theorem dX5_differentDepths_27 : decode cX5_differentDepths 27 = .ok (.ior, 1) := by decide +kernel
theorem dX5_differentDepths_28 : decode cX5_differentDepths 28 = .ok (.istore_n 1, 1) := by decide +kernel
theorem dX5_differentDepths_29 : decode cX5_differentDepths 29 = .ok (.iinc 2 1, 3) := by decide +kernel
theorem dX5_differentDepths_32 : decode cX5_differentDepths 32 = .ok (.goto (-28), 3) := by decide +kernel
theorem dX5_differentDepths_35 : decode cX5_differentDepths 35 = .ok (.iload_n 1, 1) := by decide +kernel
theorem dX5_differentDepths_36 : decode cX5_differentDepths 36 = .ok (.invokestatic 158, 3) := by decide +kernel
theorem dX5_differentDepths_39 : decode cX5_differentDepths 39 = .ok (.ireturn, 1) := by decide +kernel
theorem dX5_trainCount_0 : decode cX5_trainCount 0 = .ok (.aload_n 0, 1) := by decide +kernel
theorem dX5_trainCount_1 : decode cX5_trainCount 1 = .ok (.getfield 10, 3) := by decide +kernel
theorem dX5_trainCount_4 : decode cX5_trainCount 4 = .ok (.getfield 145, 3) := by decide +kernel
theorem dX5_trainCount_7 : decode cX5_trainCount 7 = .ok (.ireturn, 1) := by decide +kernel
theorem dX5_blockOf_0 : decode cX5_blockOf 0 = .ok (.aload_n 0, 1) := by decide +kernel
theorem dX5_blockOf_1 : decode cX5_blockOf 1 = .ok (.iload_n 1, 1) := by decide +kernel
theorem dX5_blockOf_2 : decode cX5_blockOf 2 = .ok (.invokevirtual 163, 3) := by decide +kernel
theorem dX5_blockOf_5 : decode cX5_blockOf 5 = .ok (.aload_n 0, 1) := by decide +kernel
theorem dX5_blockOf_6 : decode cX5_blockOf 6 = .ok (.getfield 10, 3) := by decide +kernel
theorem dX5_blockOf_9 : decode cX5_blockOf 9 = .ok (.getfield 166, 3) := by decide +kernel
theorem dX5_blockOf_12 : decode cX5_blockOf 12 = .ok (.iload_n 1, 1) := by decide +kernel
theorem dX5_blockOf_13 : decode cX5_blockOf 13 = .ok (.iaload, 1) := by decide +kernel
theorem dX5_blockOf_14 : decode cX5_blockOf 14 = .ok (.ireturn, 1) := by decide +kernel
theorem dX5_positionOf_0 : decode cX5_positionOf 0 = .ok (.aload_n 0, 1) := by decide +kernel
theorem dX5_positionOf_1 : decode cX5_positionOf 1 = .ok (.iload_n 1, 1) := by decide +kernel
theorem dX5_positionOf_2 : decode cX5_positionOf 2 = .ok (.invokevirtual 163, 3) := by decide +kernel
theorem dX5_positionOf_5 : decode cX5_positionOf 5 = .ok (.aload_n 0, 1) := by decide +kernel
theorem dX5_positionOf_6 : decode cX5_positionOf 6 = .ok (.getfield 10, 3) := by decide +kernel
theorem dX5_positionOf_9 : decode cX5_positionOf 9 = .ok (.getfield 169, 3) := by decide +kernel
theorem dX5_positionOf_12 : decode cX5_positionOf 12 = .ok (.iload_n 1, 1) := by decide +kernel
theorem dX5_positionOf_13 : decode cX5_positionOf 13 = .ok (.iaload, 1) := by decide +kernel
theorem dX5_positionOf_14 : decode cX5_positionOf 14 = .ok (.ireturn, 1) := by decide +kernel
theorem dX5_wagonsOf_0 : decode cX5_wagonsOf 0 = .ok (.aload_n 0, 1) := by decide +kernel
theorem dX5_wagonsOf_1 : decode cX5_wagonsOf 1 = .ok (.iload_n 1, 1) := by decide +kernel
theorem dX5_wagonsOf_2 : decode cX5_wagonsOf 2 = .ok (.invokevirtual 163, 3) := by decide +kernel
theorem dX5_wagonsOf_5 : decode cX5_wagonsOf 5 = .ok (.aload_n 0, 1) := by decide +kernel
theorem dX5_wagonsOf_6 : decode cX5_wagonsOf 6 = .ok (.getfield 10, 3) := by decide +kernel
theorem dX5_wagonsOf_9 : decode cX5_wagonsOf 9 = .ok (.getfield 172, 3) := by decide +kernel
theorem dX5_wagonsOf_12 : decode cX5_wagonsOf 12 = .ok (.iload_n 1, 1) := by decide +kernel
theorem dX5_wagonsOf_13 : decode cX5_wagonsOf 13 = .ok (.iaload, 1) := by decide +kernel
theorem dX5_wagonsOf_14 : decode cX5_wagonsOf 14 = .ok (.ireturn, 1) := by decide +kernel
theorem dX5_topSpeedOf_0 : decode cX5_topSpeedOf 0 = .ok (.aload_n 0, 1) := by decide +kernel
theorem dX5_topSpeedOf_1 : decode cX5_topSpeedOf 1 = .ok (.iload_n 1, 1) := by decide +kernel
theorem dX5_topSpeedOf_2 : decode cX5_topSpeedOf 2 = .ok (.invokevirtual 163, 3) := by decide +kernel
theorem dX5_topSpeedOf_5 : decode cX5_topSpeedOf 5 = .ok (.aload_n 0, 1) := by decide +kernel
theorem dX5_topSpeedOf_6 : decode cX5_topSpeedOf 6 = .ok (.getfield 10, 3) := by decide +kernel
theorem dX5_topSpeedOf_9 : decode cX5_topSpeedOf 9 = .ok (.getfield 175, 3) := by decide +kernel
theorem dX5_topSpeedOf_12 : decode cX5_topSpeedOf 12 = .ok (.iload_n 1, 1) := by decide +kernel
theorem dX5_topSpeedOf_13 : decode cX5_topSpeedOf 13 = .ok (.iaload, 1) := by decide +kernel
theorem dX5_topSpeedOf_14 : decode cX5_topSpeedOf 14 = .ok (.ireturn, 1) := by decide +kernel
theorem dX5_speedOf_0 : decode cX5_speedOf 0 = .ok (.aload_n 0, 1) := by decide +kernel
theorem dX5_speedOf_1 : decode cX5_speedOf 1 = .ok (.iload_n 1, 1) := by decide +kernel
theorem dX5_speedOf_2 : decode cX5_speedOf 2 = .ok (.invokevirtual 163, 3) := by decide +kernel
theorem dX5_speedOf_5 : decode cX5_speedOf 5 = .ok (.aload_n 0, 1) := by decide +kernel
theorem dX5_speedOf_6 : decode cX5_speedOf 6 = .ok (.getfield 10, 3) := by decide +kernel
theorem dX5_speedOf_9 : decode cX5_speedOf 9 = .ok (.iload_n 1, 1) := by decide +kernel
theorem dX5_speedOf_10 : decode cX5_speedOf 10 = .ok (.invokevirtual 178, 3) := by decide +kernel
theorem dX5_speedOf_13 : decode cX5_speedOf 13 = .ok (.ireturn, 1) := by decide +kernel
theorem dX5_waitsOf_0 : decode cX5_waitsOf 0 = .ok (.aload_n 0, 1) := by decide +kernel
theorem dX5_waitsOf_1 : decode cX5_waitsOf 1 = .ok (.iload_n 1, 1) := by decide +kernel
theorem dX5_waitsOf_2 : decode cX5_waitsOf 2 = .ok (.invokevirtual 163, 3) := by decide +kernel
theorem dX5_waitsOf_5 : decode cX5_waitsOf 5 = .ok (.aload_n 0, 1) := by decide +kernel
theorem dX5_waitsOf_6 : decode cX5_waitsOf 6 = .ok (.getfield 10, 3) := by decide +kernel
theorem dX5_waitsOf_9 : decode cX5_waitsOf 9 = .ok (.getfield 181, 3) := by decide +kernel
theorem dX5_waitsOf_12 : decode cX5_waitsOf 12 = .ok (.iload_n 1, 1) := by decide +kernel
theorem dX5_waitsOf_13 : decode cX5_waitsOf 13 = .ok (.iaload, 1) := by decide +kernel
theorem dX5_waitsOf_14 : decode cX5_waitsOf 14 = .ok (.ireturn, 1) := by decide +kernel
theorem dX5_passages_0 : decode cX5_passages 0 = .ok (.aload_n 0, 1) := by decide +kernel
theorem dX5_passages_1 : decode cX5_passages 1 = .ok (.iload_n 1, 1) := by decide +kernel
theorem dX5_passages_2 : decode cX5_passages 2 = .ok (.invokevirtual 163, 3) := by decide +kernel
theorem dX5_passages_5 : decode cX5_passages 5 = .ok (.aload_n 0, 1) := by decide +kernel
theorem dX5_passages_6 : decode cX5_passages 6 = .ok (.iload_n 2, 1) := by decide +kernel
theorem dX5_passages_7 : decode cX5_passages 7 = .ok (.invokevirtual 119, 3) := by decide +kernel
theorem dX5_passages_10 : decode cX5_passages 10 = .ok (.aload_n 0, 1) := by decide +kernel
theorem dX5_passages_11 : decode cX5_passages 11 = .ok (.getfield 10, 3) := by decide +kernel
theorem dX5_passages_14 : decode cX5_passages 14 = .ok (.iload_n 1, 1) := by decide +kernel
theorem dX5_passages_15 : decode cX5_passages 15 = .ok (.iload_n 2, 1) := by decide +kernel
theorem dX5_passages_16 : decode cX5_passages 16 = .ok (.invokevirtual 148, 3) := by decide +kernel
theorem dX5_passages_19 : decode cX5_passages 19 = .ok (.ireturn, 1) := by decide +kernel
theorem dX5_differentPassages_0 : decode cX5_differentPassages 0 = .ok (.iconst 0, 1) := by decide +kernel
theorem dX5_differentPassages_1 : decode cX5_differentPassages 1 = .ok (.istore_n 1, 1) := by decide +kernel
theorem dX5_differentPassages_2 : decode cX5_differentPassages 2 = .ok (.iconst 0, 1) := by decide +kernel
theorem dX5_differentPassages_3 : decode cX5_differentPassages 3 = .ok (.istore_n 2, 1) := by decide +kernel
theorem dX5_differentPassages_4 : decode cX5_differentPassages 4 = .ok (.iload_n 2, 1) := by decide +kernel
theorem dX5_differentPassages_5 : decode cX5_differentPassages 5 = .ok (.aload_n 0, 1) := by decide +kernel
theorem dX5_differentPassages_6 : decode cX5_differentPassages 6 = .ok (.getfield 10, 3) := by decide +kernel
theorem dX5_differentPassages_9 : decode cX5_differentPassages 9 = .ok (.getfield 145, 3) := by decide +kernel
theorem dX5_differentPassages_12 : decode cX5_differentPassages 12 = .ok (.if_icmp .ge 43, 3) := by decide +kernel
theorem dX5_differentPassages_15 : decode cX5_differentPassages 15 = .ok (.iconst 0, 1) := by decide +kernel
theorem dX5_differentPassages_16 : decode cX5_differentPassages 16 = .ok (.istore_n 3, 1) := by decide +kernel
theorem dX5_differentPassages_17 : decode cX5_differentPassages 17 = .ok (.iload_n 3, 1) := by decide +kernel
theorem dX5_differentPassages_18 : decode cX5_differentPassages 18 = .ok (.aload_n 0, 1) := by decide +kernel
theorem dX5_differentPassages_19 : decode cX5_differentPassages 19 = .ok (.getfield 10, 3) := by decide +kernel
theorem dX5_differentPassages_22 : decode cX5_differentPassages 22 = .ok (.getfield 107, 3) := by decide +kernel
theorem dX5_differentPassages_25 : decode cX5_differentPassages 25 = .ok (.if_icmp .ge 24, 3) := by decide +kernel
theorem dX5_differentPassages_28 : decode cX5_differentPassages 28 = .ok (.aload_n 0, 1) := by decide +kernel
theorem dX5_differentPassages_29 : decode cX5_differentPassages 29 = .ok (.getfield 10, 3) := by decide +kernel
theorem dX5_differentPassages_32 : decode cX5_differentPassages 32 = .ok (.iload_n 2, 1) := by decide +kernel
theorem dX5_differentPassages_33 : decode cX5_differentPassages 33 = .ok (.iload_n 3, 1) := by decide +kernel
theorem dX5_differentPassages_34 : decode cX5_differentPassages 34 = .ok (.invokevirtual 148, 3) := by decide +kernel
theorem dX5_differentPassages_37 : decode cX5_differentPassages 37 = .ok (.ifCond .le 6, 3) := by decide +kernel
theorem dX5_differentPassages_40 : decode cX5_differentPassages 40 = .ok (.iinc 1 1, 3) := by decide +kernel
theorem dX5_differentPassages_43 : decode cX5_differentPassages 43 = .ok (.iinc 3 1, 3) := by decide +kernel
theorem dX5_differentPassages_46 : decode cX5_differentPassages 46 = .ok (.goto (-29), 3) := by decide +kernel
theorem dX5_differentPassages_49 : decode cX5_differentPassages 49 = .ok (.iinc 2 1, 3) := by decide +kernel
theorem dX5_differentPassages_52 : decode cX5_differentPassages 52 = .ok (.goto (-48), 3) := by decide +kernel
theorem dX5_differentPassages_55 : decode cX5_differentPassages 55 = .ok (.iload_n 1, 1) := by decide +kernel
theorem dX5_differentPassages_56 : decode cX5_differentPassages 56 = .ok (.ireturn, 1) := by decide +kernel
theorem dX5_ticksToEnd_0 : decode cX5_ticksToEnd 0 = .ok (.aload_n 0, 1) := by decide +kernel
theorem dX5_ticksToEnd_1 : decode cX5_ticksToEnd 1 = .ok (.iload_n 1, 1) := by decide +kernel
theorem dX5_ticksToEnd_2 : decode cX5_ticksToEnd 2 = .ok (.invokevirtual 163, 3) := by decide +kernel
theorem dX5_ticksToEnd_5 : decode cX5_ticksToEnd 5 = .ok (.aload_n 0, 1) := by decide +kernel
theorem dX5_ticksToEnd_6 : decode cX5_ticksToEnd 6 = .ok (.getfield 10, 3) := by decide +kernel
theorem dX5_ticksToEnd_9 : decode cX5_ticksToEnd 9 = .ok (.getfield 122, 3) := by decide +kernel
theorem dX5_ticksToEnd_12 : decode cX5_ticksToEnd 12 = .ok (.aload_n 0, 1) := by decide +kernel
theorem dX5_ticksToEnd_13 : decode cX5_ticksToEnd 13 = .ok (.getfield 10, 3) := by decide +kernel
theorem dX5_ticksToEnd_16 : decode cX5_ticksToEnd 16 = .ok (.getfield 166, 3) := by decide +kernel
theorem dX5_ticksToEnd_19 : decode cX5_ticksToEnd 19 = .ok (.iload_n 1, 1) := by decide +kernel
theorem dX5_ticksToEnd_20 : decode cX5_ticksToEnd 20 = .ok (.iaload, 1) := by decide +kernel
theorem dX5_ticksToEnd_21 : decode cX5_ticksToEnd 21 = .ok (.iaload, 1) := by decide +kernel
theorem dX5_ticksToEnd_22 : decode cX5_ticksToEnd 22 = .ok (.aload_n 0, 1) := by decide +kernel
theorem dX5_ticksToEnd_23 : decode cX5_ticksToEnd 23 = .ok (.getfield 10, 3) := by decide +kernel
theorem dX5_ticksToEnd_26 : decode cX5_ticksToEnd 26 = .ok (.getfield 169, 3) := by decide +kernel
theorem dX5_ticksToEnd_29 : decode cX5_ticksToEnd 29 = .ok (.iload_n 1, 1) := by decide +kernel
theorem dX5_ticksToEnd_30 : decode cX5_ticksToEnd 30 = .ok (.iaload, 1) := by decide +kernel
theorem dX5_ticksToEnd_31 : decode cX5_ticksToEnd 31 = .ok (.isub, 1) := by decide +kernel
theorem dX5_ticksToEnd_32 : decode cX5_ticksToEnd 32 = .ok (.istore_n 2, 1) := by decide +kernel
theorem dX5_ticksToEnd_33 : decode cX5_ticksToEnd 33 = .ok (.aload_n 0, 1) := by decide +kernel
theorem dX5_ticksToEnd_34 : decode cX5_ticksToEnd 34 = .ok (.getfield 10, 3) := by decide +kernel
theorem dX5_ticksToEnd_37 : decode cX5_ticksToEnd 37 = .ok (.iload_n 1, 1) := by decide +kernel
theorem dX5_ticksToEnd_38 : decode cX5_ticksToEnd 38 = .ok (.invokevirtual 178, 3) := by decide +kernel
theorem dX5_ticksToEnd_41 : decode cX5_ticksToEnd 41 = .ok (.istore_n 3, 1) := by decide +kernel
theorem dX5_ticksToEnd_42 : decode cX5_ticksToEnd 42 = .ok (.iload_n 3, 1) := by decide +kernel
theorem dX5_ticksToEnd_43 : decode cX5_ticksToEnd 43 = .ok (.iconst 1, 1) := by decide +kernel
theorem dX5_ticksToEnd_44 : decode cX5_ticksToEnd 44 = .ok (.if_icmp .ge 7, 3) := by decide +kernel
theorem dX5_ticksToEnd_47 : decode cX5_ticksToEnd 47 = .ok (.iconst 0, 1) := by decide +kernel
theorem dX5_ticksToEnd_48 : decode cX5_ticksToEnd 48 = .ok (.goto 10, 3) := by decide +kernel
theorem dX5_ticksToEnd_51 : decode cX5_ticksToEnd 51 = .ok (.iload_n 2, 1) := by decide +kernel
theorem dX5_ticksToEnd_52 : decode cX5_ticksToEnd 52 = .ok (.iload_n 3, 1) := by decide +kernel
theorem dX5_ticksToEnd_53 : decode cX5_ticksToEnd 53 = .ok (.iadd, 1) := by decide +kernel
theorem dX5_ticksToEnd_54 : decode cX5_ticksToEnd 54 = .ok (.iconst 1, 1) := by decide +kernel
theorem dX5_ticksToEnd_55 : decode cX5_ticksToEnd 55 = .ok (.isub, 1) := by decide +kernel
theorem dX5_ticksToEnd_56 : decode cX5_ticksToEnd 56 = .ok (.iload_n 3, 1) := by decide +kernel
theorem dX5_ticksToEnd_57 : decode cX5_ticksToEnd 57 = .ok (.idiv, 1) := by decide +kernel
theorem dX5_ticksToEnd_58 : decode cX5_ticksToEnd 58 = .ok (.ireturn, 1) := by decide +kernel
theorem dX5_trainAhead_0 : decode cX5_trainAhead 0 = .ok (.aload_n 0, 1) := by decide +kernel
theorem dX5_trainAhead_1 : decode cX5_trainAhead 1 = .ok (.iload_n 1, 1) := by decide +kernel
theorem dX5_trainAhead_2 : decode cX5_trainAhead 2 = .ok (.invokevirtual 163, 3) := by decide +kernel
theorem dX5_trainAhead_5 : decode cX5_trainAhead 5 = .ok (.aload_n 0, 1) := by decide +kernel
theorem dX5_trainAhead_6 : decode cX5_trainAhead 6 = .ok (.getfield 10, 3) := by decide +kernel
theorem dX5_trainAhead_9 : decode cX5_trainAhead 9 = .ok (.getfield 166, 3) := by decide +kernel
theorem dX5_trainAhead_12 : decode cX5_trainAhead 12 = .ok (.iload_n 1, 1) := by decide +kernel
theorem dX5_trainAhead_13 : decode cX5_trainAhead 13 = .ok (.iaload, 1) := by decide +kernel
theorem dX5_trainAhead_14 : decode cX5_trainAhead 14 = .ok (.istore_n 2, 1) := by decide +kernel
theorem dX5_trainAhead_15 : decode cX5_trainAhead 15 = .ok (.iconst 1, 1) := by decide +kernel
theorem dX5_trainAhead_16 : decode cX5_trainAhead 16 = .ok (.istore_n 3, 1) := by decide +kernel
theorem dX5_trainAhead_17 : decode cX5_trainAhead 17 = .ok (.iload_n 3, 1) := by decide +kernel
theorem dX5_trainAhead_18 : decode cX5_trainAhead 18 = .ok (.aload_n 0, 1) := by decide +kernel
theorem dX5_trainAhead_19 : decode cX5_trainAhead 19 = .ok (.getfield 10, 3) := by decide +kernel
theorem dX5_trainAhead_22 : decode cX5_trainAhead 22 = .ok (.getfield 107, 3) := by decide +kernel
theorem dX5_trainAhead_25 : decode cX5_trainAhead 25 = .ok (.if_icmp .ge 41, 3) := by decide +kernel
theorem dX5_trainAhead_28 : decode cX5_trainAhead 28 = .ok (.aload_n 0, 1) := by decide +kernel
theorem dX5_trainAhead_29 : decode cX5_trainAhead 29 = .ok (.getfield 10, 3) := by decide +kernel
theorem dX5_trainAhead_32 : decode cX5_trainAhead 32 = .ok (.iload_n 2, 1) := by decide +kernel
theorem dX5_trainAhead_33 : decode cX5_trainAhead 33 = .ok (.invokevirtual 184, 3) := by decide +kernel
theorem dX5_trainAhead_36 : decode cX5_trainAhead 36 = .ok (.istore_n 2, 1) := by decide +kernel
theorem dX5_trainAhead_37 : decode cX5_trainAhead 37 = .ok (.aload_n 0, 1) := by decide +kernel
theorem dX5_trainAhead_38 : decode cX5_trainAhead 38 = .ok (.getfield 10, 3) := by decide +kernel
theorem dX5_trainAhead_41 : decode cX5_trainAhead 41 = .ok (.getfield 139, 3) := by decide +kernel
theorem dX5_trainAhead_44 : decode cX5_trainAhead 44 = .ok (.iload_n 2, 1) := by decide +kernel
theorem dX5_trainAhead_45 : decode cX5_trainAhead 45 = .ok (.iaload, 1) := by decide +kernel
theorem dX5_trainAhead_46 : decode cX5_trainAhead 46 = .ok (.iconst (-1), 1) := by decide +kernel
theorem dX5_trainAhead_47 : decode cX5_trainAhead 47 = .ok (.if_icmp .eq 13, 3) := by decide +kernel
theorem dX5_trainAhead_50 : decode cX5_trainAhead 50 = .ok (.aload_n 0, 1) := by decide +kernel
theorem dX5_trainAhead_51 : decode cX5_trainAhead 51 = .ok (.getfield 10, 3) := by decide +kernel
theorem dX5_trainAhead_54 : decode cX5_trainAhead 54 = .ok (.getfield 139, 3) := by decide +kernel
theorem dX5_trainAhead_57 : decode cX5_trainAhead 57 = .ok (.iload_n 2, 1) := by decide +kernel
theorem dX5_trainAhead_58 : decode cX5_trainAhead 58 = .ok (.iaload, 1) := by decide +kernel
theorem dX5_trainAhead_59 : decode cX5_trainAhead 59 = .ok (.ireturn, 1) := by decide +kernel
theorem dX5_trainAhead_60 : decode cX5_trainAhead 60 = .ok (.iinc 3 1, 3) := by decide +kernel
theorem dX5_trainAhead_63 : decode cX5_trainAhead 63 = .ok (.goto (-46), 3) := by decide +kernel
theorem dX5_trainAhead_66 : decode cX5_trainAhead 66 = .ok (.iconst (-1), 1) := by decide +kernel
theorem dX5_trainAhead_67 : decode cX5_trainAhead 67 = .ok (.ireturn, 1) := by decide +kernel
theorem dX5_clearBlocksAhead_0 : decode cX5_clearBlocksAhead 0 = .ok (.aload_n 0, 1) := by decide +kernel
theorem dX5_clearBlocksAhead_1 : decode cX5_clearBlocksAhead 1 = .ok (.iload_n 1, 1) := by decide +kernel
theorem dX5_clearBlocksAhead_2 : decode cX5_clearBlocksAhead 2 = .ok (.invokevirtual 163, 3) := by decide +kernel
theorem dX5_clearBlocksAhead_5 : decode cX5_clearBlocksAhead 5 = .ok (.iconst 0, 1) := by decide +kernel
theorem dX5_clearBlocksAhead_6 : decode cX5_clearBlocksAhead 6 = .ok (.istore_n 2, 1) := by decide +kernel
theorem dX5_clearBlocksAhead_7 : decode cX5_clearBlocksAhead 7 = .ok (.aload_n 0, 1) := by decide +kernel
theorem dX5_clearBlocksAhead_8 : decode cX5_clearBlocksAhead 8 = .ok (.getfield 10, 3) := by decide +kernel
theorem dX5_clearBlocksAhead_11 : decode cX5_clearBlocksAhead 11 = .ok (.aload_n 0, 1) := by decide +kernel
theorem dX5_clearBlocksAhead_12 : decode cX5_clearBlocksAhead 12 = .ok (.getfield 10, 3) := by decide +kernel
theorem dX5_clearBlocksAhead_15 : decode cX5_clearBlocksAhead 15 = .ok (.getfield 166, 3) := by decide +kernel
theorem dX5_clearBlocksAhead_18 : decode cX5_clearBlocksAhead 18 = .ok (.iload_n 1, 1) := by decide +kernel
theorem dX5_clearBlocksAhead_19 : decode cX5_clearBlocksAhead 19 = .ok (.iaload, 1) := by decide +kernel
theorem dX5_clearBlocksAhead_20 : decode cX5_clearBlocksAhead 20 = .ok (.invokevirtual 184, 3) := by decide +kernel
theorem dX5_clearBlocksAhead_23 : decode cX5_clearBlocksAhead 23 = .ok (.istore_n 3, 1) := by decide +kernel
theorem dX5_clearBlocksAhead_24 : decode cX5_clearBlocksAhead 24 = .ok (.iload_n 2, 1) := by decide +kernel
theorem dX5_clearBlocksAhead_25 : decode cX5_clearBlocksAhead 25 = .ok (.aload_n 0, 1) := by decide +kernel
theorem dX5_clearBlocksAhead_26 : decode cX5_clearBlocksAhead 26 = .ok (.getfield 10, 3) := by decide +kernel
theorem dX5_clearBlocksAhead_29 : decode cX5_clearBlocksAhead 29 = .ok (.getfield 107, 3) := by decide +kernel
theorem dX5_clearBlocksAhead_32 : decode cX5_clearBlocksAhead 32 = .ok (.if_icmp .ge 29, 3) := by decide +kernel
theorem dX5_clearBlocksAhead_35 : decode cX5_clearBlocksAhead 35 = .ok (.aload_n 0, 1) := by decide +kernel
theorem dX5_clearBlocksAhead_36 : decode cX5_clearBlocksAhead 36 = .ok (.getfield 10, 3) := by decide +kernel
theorem dX5_clearBlocksAhead_39 : decode cX5_clearBlocksAhead 39 = .ok (.iload_n 3, 1) := by decide +kernel
theorem dX5_clearBlocksAhead_40 : decode cX5_clearBlocksAhead 40 = .ok (.invokevirtual 155, 3) := by decide +kernel
theorem dX5_clearBlocksAhead_43 : decode cX5_clearBlocksAhead 43 = .ok (.ifCond .ne 18, 3) := by decide +kernel
theorem dX5_clearBlocksAhead_46 : decode cX5_clearBlocksAhead 46 = .ok (.iinc 2 1, 3) := by decide +kernel
theorem dX5_clearBlocksAhead_49 : decode cX5_clearBlocksAhead 49 = .ok (.aload_n 0, 1) := by decide +kernel
theorem dX5_clearBlocksAhead_50 : decode cX5_clearBlocksAhead 50 = .ok (.getfield 10, 3) := by decide +kernel
theorem dX5_clearBlocksAhead_53 : decode cX5_clearBlocksAhead 53 = .ok (.iload_n 3, 1) := by decide +kernel
theorem dX5_clearBlocksAhead_54 : decode cX5_clearBlocksAhead 54 = .ok (.invokevirtual 184, 3) := by decide +kernel
theorem dX5_clearBlocksAhead_57 : decode cX5_clearBlocksAhead 57 = .ok (.istore_n 3, 1) := by decide +kernel
theorem dX5_clearBlocksAhead_58 : decode cX5_clearBlocksAhead 58 = .ok (.goto (-34), 3) := by decide +kernel
theorem dX5_clearBlocksAhead_61 : decode cX5_clearBlocksAhead 61 = .ok (.iload_n 2, 1) := by decide +kernel
theorem dX5_clearBlocksAhead_62 : decode cX5_clearBlocksAhead 62 = .ok (.ireturn, 1) := by decide +kernel
theorem dX5_canEnter_0 : decode cX5_canEnter 0 = .ok (.aload_n 0, 1) := by decide +kernel
theorem dX5_canEnter_1 : decode cX5_canEnter 1 = .ok (.iload_n 1, 1) := by decide +kernel
theorem dX5_canEnter_2 : decode cX5_canEnter 2 = .ok (.invokevirtual 163, 3) := by decide +kernel
theorem dX5_canEnter_5 : decode cX5_canEnter 5 = .ok (.aload_n 0, 1) := by decide +kernel
theorem dX5_canEnter_6 : decode cX5_canEnter 6 = .ok (.getfield 10, 3) := by decide +kernel
theorem dX5_canEnter_9 : decode cX5_canEnter 9 = .ok (.aload_n 0, 1) := by decide +kernel
theorem dX5_canEnter_10 : decode cX5_canEnter 10 = .ok (.getfield 10, 3) := by decide +kernel
theorem dX5_canEnter_13 : decode cX5_canEnter 13 = .ok (.aload_n 0, 1) := by decide +kernel
theorem dX5_canEnter_14 : decode cX5_canEnter 14 = .ok (.getfield 10, 3) := by decide +kernel
theorem dX5_canEnter_17 : decode cX5_canEnter 17 = .ok (.getfield 166, 3) := by decide +kernel
theorem dX5_canEnter_20 : decode cX5_canEnter 20 = .ok (.iload_n 1, 1) := by decide +kernel
theorem dX5_canEnter_21 : decode cX5_canEnter 21 = .ok (.iaload, 1) := by decide +kernel
theorem dX5_canEnter_22 : decode cX5_canEnter 22 = .ok (.invokevirtual 184, 3) := by decide +kernel
theorem dX5_canEnter_25 : decode cX5_canEnter 25 = .ok (.invokevirtual 187, 3) := by decide +kernel
theorem dX5_canEnter_28 : decode cX5_canEnter 28 = .ok (.ireturn, 1) := by decide +kernel
theorem dX5_blockAfter_0 : decode cX5_blockAfter 0 = .ok (.aload_n 0, 1) := by decide +kernel
theorem dX5_blockAfter_1 : decode cX5_blockAfter 1 = .ok (.iload_n 1, 1) := by decide +kernel
theorem dX5_blockAfter_2 : decode cX5_blockAfter 2 = .ok (.invokevirtual 163, 3) := by decide +kernel
theorem dX5_blockAfter_5 : decode cX5_blockAfter 5 = .ok (.iload_n 2, 1) := by decide +kernel
theorem dX5_blockAfter_6 : decode cX5_blockAfter 6 = .ok (.ifCond .lt 10, 3) := by decide +kernel
