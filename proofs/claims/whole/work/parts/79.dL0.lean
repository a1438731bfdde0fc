theorem dL_append_0 : decode cL_append 0 = .ok (.aload 6, 2) := by decide +kernel
theorem dL_append_2 : decode cL_append 2 = .ok (.iconst 0, 1) := by decide +kernel
theorem dL_append_3 : decode cL_append 3 = .ok (.aload_n 0, 1) := by decide +kernel
theorem dL_append_4 : decode cL_append 4 = .ok (.iload_n 1, 1) := by decide +kernel
theorem dL_append_5 : decode cL_append 5 = .ok (.iload_n 2, 1) := by decide +kernel
theorem dL_append_6 : decode cL_append 6 = .ok (.iload_n 3, 1) := by decide +kernel
theorem dL_append_7 : decode cL_append 7 = .ok (.iload 4, 2) := by decide +kernel
theorem dL_append_9 : decode cL_append 9 = .ok (.iload 5, 2) := by decide +kernel
theorem dL_append_11 : decode cL_append 11 = .ok (.invokevirtual 7, 3) := by decide +kernel
theorem dL_append_14 : decode cL_append 14 = .ok (.i2l, 1) := by decide +kernel
theorem dL_append_15 : decode cL_append 15 = .ok (.lastore, 1) := by decide +kernel
theorem dL_append_16 : decode cL_append 16 = .ok (.goto 7, 3) := by decide +kernel
theorem dL_append_19 : decode cL_append 19 = .ok (.astore 7, 2) := by decide +kernel
theorem dL_append_21 : decode cL_append 21 = .ok (.iconst 1, 1) := by decide +kernel
theorem dL_append_22 : decode cL_append 22 = .ok (.ireturn, 1) := by decide +kernel
theorem dL_append_23 : decode cL_append 23 = .ok (.iconst 0, 1) := by decide +kernel
theorem dL_append_24 : decode cL_append 24 = .ok (.ireturn, 1) := by decide +kernel
theorem dL_load_0 : decode cL_load 0 = .ok (.aload_n 2, 1) := by decide +kernel
theorem dL_load_1 : decode cL_load 1 = .ok (.iconst 0, 1) := by decide +kernel
theorem dL_load_2 : decode cL_load 2 = .ok (.aload_n 0, 1) := by decide +kernel
theorem dL_load_3 : decode cL_load 3 = .ok (.iload_n 1, 1) := by decide +kernel
theorem dL_load_4 : decode cL_load 4 = .ok (.invokevirtual 15, 3) := by decide +kernel
theorem dL_load_7 : decode cL_load 7 = .ok (.i2l, 1) := by decide +kernel
theorem dL_load_8 : decode cL_load 8 = .ok (.lastore, 1) := by decide +kernel
theorem dL_load_9 : decode cL_load 9 = .ok (.goto 9, 3) := by decide +kernel
theorem dL_load_12 : decode cL_load 12 = .ok (.astore_n 3, 1) := by decide +kernel
theorem dL_load_13 : decode cL_load 13 = .ok (.iconst 1, 1) := by decide +kernel
theorem dL_load_14 : decode cL_load 14 = .ok (.ireturn, 1) := by decide +kernel
theorem dL_load_15 : decode cL_load 15 = .ok (.astore_n 3, 1) := by decide +kernel
theorem dL_load_16 : decode cL_load 16 = .ok (.iconst 2, 1) := by decide +kernel
theorem dL_load_17 : decode cL_load 17 = .ok (.ireturn, 1) := by decide +kernel
theorem dL_load_18 : decode cL_load 18 = .ok (.iconst 0, 1) := by decide +kernel
theorem dL_load_19 : decode cL_load 19 = .ok (.ireturn, 1) := by decide +kernel
theorem dL_lengthOf_0 : decode cL_lengthOf 0 = .ok (.aload_n 2, 1) := by decide +kernel
theorem dL_lengthOf_1 : decode cL_lengthOf 1 = .ok (.iconst 0, 1) := by decide +kernel
theorem dL_lengthOf_2 : decode cL_lengthOf 2 = .ok (.aload_n 0, 1) := by decide +kernel
theorem dL_lengthOf_3 : decode cL_lengthOf 3 = .ok (.iload_n 1, 1) := by decide +kernel
theorem dL_lengthOf_4 : decode cL_lengthOf 4 = .ok (.invokevirtual 23, 3) := by decide +kernel
theorem dL_lengthOf_7 : decode cL_lengthOf 7 = .ok (.i2l, 1) := by decide +kernel
theorem dL_lengthOf_8 : decode cL_lengthOf 8 = .ok (.lastore, 1) := by decide +kernel
theorem dL_lengthOf_9 : decode cL_lengthOf 9 = .ok (.goto 6, 3) := by decide +kernel
theorem dL_lengthOf_12 : decode cL_lengthOf 12 = .ok (.astore_n 3, 1) := by decide +kernel
theorem dL_lengthOf_13 : decode cL_lengthOf 13 = .ok (.iconst 1, 1) := by decide +kernel
theorem dL_lengthOf_14 : decode cL_lengthOf 14 = .ok (.ireturn, 1) := by decide +kernel
theorem dL_lengthOf_15 : decode cL_lengthOf 15 = .ok (.iconst 0, 1) := by decide +kernel
theorem dL_lengthOf_16 : decode cL_lengthOf 16 = .ok (.ireturn, 1) := by decide +kernel
theorem dL_depthOf_0 : decode cL_depthOf 0 = .ok (.aload_n 2, 1) := by decide +kernel
theorem dL_depthOf_1 : decode cL_depthOf 1 = .ok (.iconst 0, 1) := by decide +kernel
theorem dL_depthOf_2 : decode cL_depthOf 2 = .ok (.aload_n 0, 1) := by decide +kernel
theorem dL_depthOf_3 : decode cL_depthOf 3 = .ok (.iload_n 1, 1) := by decide +kernel
theorem dL_depthOf_4 : decode cL_depthOf 4 = .ok (.invokevirtual 26, 3) := by decide +kernel
theorem dL_depthOf_7 : decode cL_depthOf 7 = .ok (.i2l, 1) := by decide +kernel
theorem dL_depthOf_8 : decode cL_depthOf 8 = .ok (.lastore, 1) := by decide +kernel
theorem dL_depthOf_9 : decode cL_depthOf 9 = .ok (.goto 6, 3) := by decide +kernel
theorem dL_depthOf_12 : decode cL_depthOf 12 = .ok (.astore_n 3, 1) := by decide +kernel
theorem dL_depthOf_13 : decode cL_depthOf 13 = .ok (.iconst 1, 1) := by decide +kernel
theorem dL_depthOf_14 : decode cL_depthOf 14 = .ok (.ireturn, 1) := by decide +kernel
theorem dL_depthOf_15 : decode cL_depthOf 15 = .ok (.iconst 0, 1) := by decide +kernel
theorem dL_depthOf_16 : decode cL_depthOf 16 = .ok (.ireturn, 1) := by decide +kernel
theorem dL_isBend_0 : decode cL_isBend 0 = .ok (.aload_n 2, 1) := by decide +kernel
theorem dL_isBend_1 : decode cL_isBend 1 = .ok (.iconst 0, 1) := by decide +kernel
theorem dL_isBend_2 : decode cL_isBend 2 = .ok (.aload_n 0, 1) := by decide +kernel
theorem dL_isBend_3 : decode cL_isBend 3 = .ok (.iload_n 1, 1) := by decide +kernel
theorem dL_isBend_4 : decode cL_isBend 4 = .ok (.invokevirtual 29, 3) := by decide +kernel
theorem dL_isBend_7 : decode cL_isBend 7 = .ok (.ifCond .eq 7, 3) := by decide +kernel
theorem dL_isBend_10 : decode cL_isBend 10 = .ok (.lconst 1, 1) := by decide +kernel
theorem dL_isBend_11 : decode cL_isBend 11 = .ok (.goto 4, 3) := by decide +kernel
theorem dL_isBend_14 : decode cL_isBend 14 = .ok (.lconst 0, 1) := by decide +kernel
theorem dL_isBend_15 : decode cL_isBend 15 = .ok (.lastore, 1) := by decide +kernel
theorem dL_isBend_16 : decode cL_isBend 16 = .ok (.goto 6, 3) := by decide +kernel
theorem dL_isBend_19 : decode cL_isBend 19 = .ok (.astore_n 3, 1) := by decide +kernel
theorem dL_isBend_20 : decode cL_isBend 20 = .ok (.iconst 1, 1) := by decide +kernel
theorem dL_isBend_21 : decode cL_isBend 21 = .ok (.ireturn, 1) := by decide +kernel
theorem dL_isBend_22 : decode cL_isBend 22 = .ok (.iconst 0, 1) := by decide +kernel
theorem dL_isBend_23 : decode cL_isBend 23 = .ok (.ireturn, 1) := by decide +kernel
theorem dL_limitOf_0 : decode cL_limitOf 0 = .ok (.aload_n 2, 1) := by decide +kernel
theorem dL_limitOf_1 : decode cL_limitOf 1 = .ok (.iconst 0, 1) := by decide +kernel
theorem dL_limitOf_2 : decode cL_limitOf 2 = .ok (.aload_n 0, 1) := by decide +kernel
theorem dL_limitOf_3 : decode cL_limitOf 3 = .ok (.iload_n 1, 1) := by decide +kernel
theorem dL_limitOf_4 : decode cL_limitOf 4 = .ok (.invokevirtual 33, 3) := by decide +kernel
theorem dL_limitOf_7 : decode cL_limitOf 7 = .ok (.i2l, 1) := by decide +kernel
theorem dL_limitOf_8 : decode cL_limitOf 8 = .ok (.lastore, 1) := by decide +kernel
theorem dL_limitOf_9 : decode cL_limitOf 9 = .ok (.goto 6, 3) := by decide +kernel
theorem dL_limitOf_12 : decode cL_limitOf 12 = .ok (.astore_n 3, 1) := by decide +kernel
theorem dL_limitOf_13 : decode cL_limitOf 13 = .ok (.iconst 1, 1) := by decide +kernel
theorem dL_limitOf_14 : decode cL_limitOf 14 = .ok (.ireturn, 1) := by decide +kernel
theorem dL_limitOf_15 : decode cL_limitOf 15 = .ok (.iconst 0, 1) := by decide +kernel
theorem dL_limitOf_16 : decode cL_limitOf 16 = .ok (.ireturn, 1) := by decide +kernel
theorem dL_isClear_0 : decode cL_isClear 0 = .ok (.aload_n 2, 1) := by decide +kernel
theorem dL_isClear_1 : decode cL_isClear 1 = .ok (.iconst 0, 1) := by decide +kernel
theorem dL_isClear_2 : decode cL_isClear 2 = .ok (.aload_n 0, 1) := by decide +kernel
theorem dL_isClear_3 : decode cL_isClear 3 = .ok (.iload_n 1, 1) := by decide +kernel
theorem dL_isClear_4 : decode cL_isClear 4 = .ok (.invokevirtual 36, 3) := by decide +kernel
theorem dL_isClear_7 : decode cL_isClear 7 = .ok (.ifCond .eq 7, 3) := by decide +kernel
theorem dL_isClear_10 : decode cL_isClear 10 = .ok (.lconst 1, 1) := by decide +kernel
theorem dL_isClear_11 : decode cL_isClear 11 = .ok (.goto 4, 3) := by decide +kernel
theorem dL_isClear_14 : decode cL_isClear 14 = .ok (.lconst 0, 1) := by decide +kernel
theorem dL_isClear_15 : decode cL_isClear 15 = .ok (.lastore, 1) := by decide +kernel
theorem dL_isClear_16 : decode cL_isClear 16 = .ok (.goto 6, 3) := by decide +kernel
theorem dL_isClear_19 : decode cL_isClear 19 = .ok (.astore_n 3, 1) := by decide +kernel
theorem dL_isClear_20 : decode cL_isClear 20 = .ok (.iconst 1, 1) := by decide +kernel
theorem dL_isClear_21 : decode cL_isClear 21 = .ok (.ireturn, 1) := by decide +kernel
theorem dL_isClear_22 : decode cL_isClear 22 = .ok (.iconst 0, 1) := by decide +kernel
theorem dL_isClear_23 : decode cL_isClear 23 = .ok (.ireturn, 1) := by decide +kernel
theorem dL_trainIn_0 : decode cL_trainIn 0 = .ok (.aload_n 2, 1) := by decide +kernel
theorem dL_trainIn_1 : decode cL_trainIn 1 = .ok (.iconst 0, 1) := by decide +kernel
theorem dL_trainIn_2 : decode cL_trainIn 2 = .ok (.aload_n 0, 1) := by decide +kernel
theorem dL_trainIn_3 : decode cL_trainIn 3 = .ok (.iload_n 1, 1) := by decide +kernel
theorem dL_trainIn_4 : decode cL_trainIn 4 = .ok (.invokevirtual 39, 3) := by decide +kernel
theorem dL_trainIn_7 : decode cL_trainIn 7 = .ok (.i2l, 1) := by decide +kernel
theorem dL_trainIn_8 : decode cL_trainIn 8 = .ok (.lastore, 1) := by decide +kernel
theorem dL_trainIn_9 : decode cL_trainIn 9 = .ok (.goto 6, 3) := by decide +kernel
theorem dL_trainIn_12 : decode cL_trainIn 12 = .ok (.astore_n 3, 1) := by decide +kernel
theorem dL_trainIn_13 : decode cL_trainIn 13 = .ok (.iconst 1, 1) := by decide +kernel
theorem dL_trainIn_14 : decode cL_trainIn 14 = .ok (.ireturn, 1) := by decide +kernel
theorem dL_trainIn_15 : decode cL_trainIn 15 = .ok (.iconst 0, 1) := by decide +kernel
theorem dL_trainIn_16 : decode cL_trainIn 16 = .ok (.ireturn, 1) := by decide +kernel
theorem dL_lostIn_0 : decode cL_lostIn 0 = .ok (.aload_n 2, 1) := by decide +kernel
theorem dL_lostIn_1 : decode cL_lostIn 1 = .ok (.iconst 0, 1) := by decide +kernel
theorem dL_lostIn_2 : decode cL_lostIn 2 = .ok (.aload_n 0, 1) := by decide +kernel
theorem dL_lostIn_3 : decode cL_lostIn 3 = .ok (.iload_n 1, 1) := by decide +kernel
theorem dL_lostIn_4 : decode cL_lostIn 4 = .ok (.invokevirtual 42, 3) := by decide +kernel
theorem dL_lostIn_7 : decode cL_lostIn 7 = .ok (.i2l, 1) := by decide +kernel
theorem dL_lostIn_8 : decode cL_lostIn 8 = .ok (.lastore, 1) := by decide +kernel
theorem dL_lostIn_9 : decode cL_lostIn 9 = .ok (.goto 6, 3) := by decide +kernel
theorem dL_lostIn_12 : decode cL_lostIn 12 = .ok (.astore_n 3, 1) := by decide +kernel
theorem dL_lostIn_13 : decode cL_lostIn 13 = .ok (.iconst 1, 1) := by decide +kernel
theorem dL_lostIn_14 : decode cL_lostIn 14 = .ok (.ireturn, 1) := by decide +kernel
theorem dL_lostIn_15 : decode cL_lostIn 15 = .ok (.iconst 0, 1) := by decide +kernel
theorem dL_lostIn_16 : decode cL_lostIn 16 = .ok (.ireturn, 1) := by decide +kernel
theorem dL_departuresFrom_0 : decode cL_departuresFrom 0 = .ok (.aload_n 2, 1) := by decide +kernel
theorem dL_departuresFrom_1 : decode cL_departuresFrom 1 = .ok (.iconst 0, 1) := by decide +kernel
theorem dL_departuresFrom_2 : decode cL_departuresFrom 2 = .ok (.aload_n 0, 1) := by decide +kernel
theorem dL_departuresFrom_3 : decode cL_departuresFrom 3 = .ok (.iload_n 1, 1) := by decide +kernel
theorem dL_departuresFrom_4 : decode cL_departuresFrom 4 = .ok (.invokevirtual 45, 3) := by decide +kernel
theorem dL_departuresFrom_7 : decode cL_departuresFrom 7 = .ok (.i2l, 1) := by decide +kernel
theorem dL_departuresFrom_8 : decode cL_departuresFrom 8 = .ok (.lastore, 1) := by decide +kernel
theorem dL_departuresFrom_9 : decode cL_departuresFrom 9 = .ok (.goto 6, 3) := by decide +kernel
theorem dL_departuresFrom_12 : decode cL_departuresFrom 12 = .ok (.astore_n 3, 1) := by decide +kernel
theorem dL_departuresFrom_13 : decode cL_departuresFrom 13 = .ok (.iconst 1, 1) := by decide +kernel
theorem dL_departuresFrom_14 : decode cL_departuresFrom 14 = .ok (.ireturn, 1) := by decide +kernel
theorem dL_departuresFrom_15 : decode cL_departuresFrom 15 = .ok (.iconst 0, 1) := by decide +kernel
theorem dL_departuresFrom_16 : decode cL_departuresFrom 16 = .ok (.ireturn, 1) := by decide +kernel
theorem dL_obstacle_0 : decode cL_obstacle 0 = .ok (.aload_n 2, 1) := by decide +kernel
theorem dL_obstacle_1 : decode cL_obstacle 1 = .ok (.iconst 0, 1) := by decide +kernel
theorem dL_obstacle_2 : decode cL_obstacle 2 = .ok (.aload_n 0, 1) := by decide +kernel
theorem dL_obstacle_3 : decode cL_obstacle 3 = .ok (.iload_n 1, 1) := by decide +kernel
theorem dL_obstacle_4 : decode cL_obstacle 4 = .ok (.invokevirtual 48, 3) := by decide +kernel
theorem dL_obstacle_7 : decode cL_obstacle 7 = .ok (.i2l, 1) := by decide +kernel
theorem dL_obstacle_8 : decode cL_obstacle 8 = .ok (.lastore, 1) := by decide +kernel
theorem dL_obstacle_9 : decode cL_obstacle 9 = .ok (.goto 6, 3) := by decide +kernel
theorem dL_obstacle_12 : decode cL_obstacle 12 = .ok (.astore_n 3, 1) := by decide +kernel
theorem dL_obstacle_13 : decode cL_obstacle 13 = .ok (.iconst 1, 1) := by decide +kernel
theorem dL_obstacle_14 : decode cL_obstacle 14 = .ok (.ireturn, 1) := by decide +kernel
theorem dL_obstacle_15 : decode cL_obstacle 15 = .ok (.iconst 0, 1) := by decide +kernel
theorem dL_obstacle_16 : decode cL_obstacle 16 = .ok (.ireturn, 1) := by decide +kernel
theorem dL_blockOf_0 : decode cL_blockOf 0 = .ok (.aload_n 2, 1) := by decide +kernel
theorem dL_blockOf_1 : decode cL_blockOf 1 = .ok (.iconst 0, 1) := by decide +kernel
theorem dL_blockOf_2 : decode cL_blockOf 2 = .ok (.aload_n 0, 1) := by decide +kernel
theorem dL_blockOf_3 : decode cL_blockOf 3 = .ok (.iload_n 1, 1) := by decide +kernel
theorem dL_blockOf_4 : decode cL_blockOf 4 = .ok (.invokevirtual 51, 3) := by decide +kernel
theorem dL_blockOf_7 : decode cL_blockOf 7 = .ok (.i2l, 1) := by decide +kernel
theorem dL_blockOf_8 : decode cL_blockOf 8 = .ok (.lastore, 1) := by decide +kernel
theorem dL_blockOf_9 : decode cL_blockOf 9 = .ok (.goto 6, 3) := by decide +kernel
theorem dL_blockOf_12 : decode cL_blockOf 12 = .ok (.astore_n 3, 1) := by decide +kernel
theorem dL_blockOf_13 : decode cL_blockOf 13 = .ok (.iconst 1, 1) := by decide +kernel
theorem dL_blockOf_14 : decode cL_blockOf 14 = .ok (.ireturn, 1) := by decide +kernel
theorem dL_blockOf_15 : decode cL_blockOf 15 = .ok (.iconst 0, 1) := by decide +kernel
theorem dL_blockOf_16 : decode cL_blockOf 16 = .ok (.ireturn, 1) := by decide +kernel
theorem dL_positionOf_0 : decode cL_positionOf 0 = .ok (.aload_n 2, 1) := by decide +kernel
theorem dL_positionOf_1 : decode cL_positionOf 1 = .ok (.iconst 0, 1) := by decide +kernel
theorem dL_positionOf_2 : decode cL_positionOf 2 = .ok (.aload_n 0, 1) := by decide +kernel
theorem dL_positionOf_3 : decode cL_positionOf 3 = .ok (.iload_n 1, 1) := by decide +kernel
theorem dL_positionOf_4 : decode cL_positionOf 4 = .ok (.invokevirtual 54, 3) := by decide +kernel
theorem dL_positionOf_7 : decode cL_positionOf 7 = .ok (.i2l, 1) := by decide +kernel
theorem dL_positionOf_8 : decode cL_positionOf 8 = .ok (.lastore, 1) := by decide +kernel
theorem dL_positionOf_9 : decode cL_positionOf 9 = .ok (.goto 6, 3) := by decide +kernel
theorem dL_positionOf_12 : decode cL_positionOf 12 = .ok (.astore_n 3, 1) := by decide +kernel
theorem dL_positionOf_13 : decode cL_positionOf 13 = .ok (.iconst 1, 1) := by decide +kernel
theorem dL_positionOf_14 : decode cL_positionOf 14 = .ok (.ireturn, 1) := by decide +kernel
theorem dL_positionOf_15 : decode cL_positionOf 15 = .ok (.iconst 0, 1) := by decide +kernel
theorem dL_positionOf_16 : decode cL_positionOf 16 = .ok (.ireturn, 1) := by decide +kernel
theorem dL_wagonsOf_0 : decode cL_wagonsOf 0 = .ok (.aload_n 2, 1) := by decide +kernel
theorem dL_wagonsOf_1 : decode cL_wagonsOf 1 = .ok (.iconst 0, 1) := by decide +kernel
theorem dL_wagonsOf_2 : decode cL_wagonsOf 2 = .ok (.aload_n 0, 1) := by decide +kernel
theorem dL_wagonsOf_3 : decode cL_wagonsOf 3 = .ok (.iload_n 1, 1) := by decide +kernel
theorem dL_wagonsOf_4 : decode cL_wagonsOf 4 = .ok (.invokevirtual 57, 3) := by decide +kernel
theorem dL_wagonsOf_7 : decode cL_wagonsOf 7 = .ok (.i2l, 1) := by decide +kernel
theorem dL_wagonsOf_8 : decode cL_wagonsOf 8 = .ok (.lastore, 1) := by decide +kernel
theorem dL_wagonsOf_9 : decode cL_wagonsOf 9 = .ok (.goto 6, 3) := by decide +kernel
theorem dL_wagonsOf_12 : decode cL_wagonsOf 12 = .ok (.astore_n 3, 1) := by decide +kernel
theorem dL_wagonsOf_13 : decode cL_wagonsOf 13 = .ok (.iconst 1, 1) := by decide +kernel
theorem dL_wagonsOf_14 : decode cL_wagonsOf 14 = .ok (.ireturn, 1) := by decide +kernel
theorem dL_wagonsOf_15 : decode cL_wagonsOf 15 = .ok (.iconst 0, 1) := by decide +kernel
theorem dL_wagonsOf_16 : decode cL_wagonsOf 16 = .ok (.ireturn, 1) := by decide +kernel
theorem dL_topSpeedOf_0 : decode cL_topSpeedOf 0 = .ok (.aload_n 2, 1) := by decide +kernel
theorem dL_topSpeedOf_1 : decode cL_topSpeedOf 1 = .ok (.iconst 0, 1) := by decide +kernel
theorem dL_topSpeedOf_2 : decode cL_topSpeedOf 2 = .ok (.aload_n 0, 1) := by decide +kernel
theorem dL_topSpeedOf_3 : decode cL_topSpeedOf 3 = .ok (.iload_n 1, 1) := by decide +kernel
theorem dL_topSpeedOf_4 : decode cL_topSpeedOf 4 = .ok (.invokevirtual 60, 3) := by decide +kernel
theorem dL_topSpeedOf_7 : decode cL_topSpeedOf 7 = .ok (.i2l, 1) := by decide +kernel
theorem dL_topSpeedOf_8 : decode cL_topSpeedOf 8 = .ok (.lastore, 1) := by decide +kernel
theorem dL_topSpeedOf_9 : decode cL_topSpeedOf 9 = .ok (.goto 6, 3) := by decide +kernel
theorem dL_topSpeedOf_12 : decode cL_topSpeedOf 12 = .ok (.astore_n 3, 1) := by decide +kernel
theorem dL_topSpeedOf_13 : decode cL_topSpeedOf 13 = .ok (.iconst 1, 1) := by decide +kernel
theorem dL_topSpeedOf_14 : decode cL_topSpeedOf 14 = .ok (.ireturn, 1) := by decide +kernel
theorem dL_topSpeedOf_15 : decode cL_topSpeedOf 15 = .ok (.iconst 0, 1) := by decide +kernel
theorem dL_topSpeedOf_16 : decode cL_topSpeedOf 16 = .ok (.ireturn, 1) := by decide +kernel
theorem dL_speedOf_0 : decode cL_speedOf 0 = .ok (.aload_n 2, 1) := by decide +kernel
theorem dL_speedOf_1 : decode cL_speedOf 1 = .ok (.iconst 0, 1) := by decide +kernel
theorem dL_speedOf_2 : decode cL_speedOf 2 = .ok (.aload_n 0, 1) := by decide +kernel
theorem dL_speedOf_3 : decode cL_speedOf 3 = .ok (.iload_n 1, 1) := by decide +kernel
theorem dL_speedOf_4 : decode cL_speedOf 4 = .ok (.invokevirtual 63, 3) := by decide +kernel
theorem dL_speedOf_7 : decode cL_speedOf 7 = .ok (.i2l, 1) := by decide +kernel
theorem dL_speedOf_8 : decode cL_speedOf 8 = .ok (.lastore, 1) := by decide +kernel
theorem dL_speedOf_9 : decode cL_speedOf 9 = .ok (.goto 6, 3) := by decide +kernel
theorem dL_speedOf_12 : decode cL_speedOf 12 = .ok (.astore_n 3, 1) := by decide +kernel
theorem dL_speedOf_13 : decode cL_speedOf 13 = .ok (.iconst 1, 1) := by decide +kernel
theorem dL_speedOf_14 : decode cL_speedOf 14 = .ok (.ireturn, 1) := by decide +kernel
theorem dL_speedOf_15 : decode cL_speedOf 15 = .ok (.iconst 0, 1) := by decide +kernel
theorem dL_speedOf_16 : decode cL_speedOf 16 = .ok (.ireturn, 1) := by decide +kernel
theorem dL_waitsOf_0 : decode cL_waitsOf 0 = .ok (.aload_n 2, 1) := by decide +kernel
theorem dL_waitsOf_1 : decode cL_waitsOf 1 = .ok (.iconst 0, 1) := by decide +kernel
theorem dL_waitsOf_2 : decode cL_waitsOf 2 = .ok (.aload_n 0, 1) := by decide +kernel
theorem dL_waitsOf_3 : decode cL_waitsOf 3 = .ok (.iload_n 1, 1) := by decide +kernel
theorem dL_waitsOf_4 : decode cL_waitsOf 4 = .ok (.invokevirtual 66, 3) := by decide +kernel
theorem dL_waitsOf_7 : decode cL_waitsOf 7 = .ok (.i2l, 1) := by decide +kernel
theorem dL_waitsOf_8 : decode cL_waitsOf 8 = .ok (.lastore, 1) := by decide +kernel
theorem dL_waitsOf_9 : decode cL_waitsOf 9 = .ok (.goto 6, 3) := by decide +kernel
theorem dL_waitsOf_12 : decode cL_waitsOf 12 = .ok (.astore_n 3, 1) := by decide +kernel
theorem dL_waitsOf_13 : decode cL_waitsOf 13 = .ok (.iconst 1, 1) := by decide +kernel
theorem dL_waitsOf_14 : decode cL_waitsOf 14 = .ok (.ireturn, 1) := by decide +kernel
theorem dL_waitsOf_15 : decode cL_waitsOf 15 = .ok (.iconst 0, 1) := by decide +kernel
theorem dL_waitsOf_16 : decode cL_waitsOf 16 = .ok (.ireturn, 1) := by decide +kernel
theorem dL_passages_0 : decode cL_passages 0 = .ok (.aload_n 3, 1) := by decide +kernel
theorem dL_passages_1 : decode cL_passages 1 = .ok (.iconst 0, 1) := by decide +kernel
theorem dL_passages_2 : decode cL_passages 2 = .ok (.aload_n 0, 1) := by decide +kernel
theorem dL_passages_3 : decode cL_passages 3 = .ok (.iload_n 1, 1) := by decide +kernel
theorem dL_passages_4 : decode cL_passages 4 = .ok (.iload_n 2, 1) := by decide +kernel
theorem dL_passages_5 : decode cL_passages 5 = .ok (.invokevirtual 69, 3) := by decide +kernel
theorem dL_passages_8 : decode cL_passages 8 = .ok (.i2l, 1) := by decide +kernel
theorem dL_passages_9 : decode cL_passages 9 = .ok (.lastore, 1) := by decide +kernel
theorem dL_passages_10 : decode cL_passages 10 = .ok (.goto 7, 3) := by decide +kernel
theorem dL_passages_13 : decode cL_passages 13 = .ok (.astore 4, 2) := by decide +kernel
theorem dL_passages_15 : decode cL_passages 15 = .ok (.iconst 1, 1) := by decide +kernel
theorem dL_passages_16 : decode cL_passages 16 = .ok (.ireturn, 1) := by decide +kernel
theorem dL_passages_17 : decode cL_passages 17 = .ok (.iconst 0, 1) := by decide +kernel
theorem dL_passages_18 : decode cL_passages 18 = .ok (.ireturn, 1) := by decide +kernel
theorem dL_ticksToEnd_0 : decode cL_ticksToEnd 0 = .ok (.aload_n 2, 1) := by decide +kernel
theorem dL_ticksToEnd_1 : decode cL_ticksToEnd 1 = .ok (.iconst 0, 1) := by decide +kernel
theorem dL_ticksToEnd_2 : decode cL_ticksToEnd 2 = .ok (.aload_n 0, 1) := by decide +kernel
theorem dL_ticksToEnd_3 : decode cL_ticksToEnd 3 = .ok (.iload_n 1, 1) := by decide +kernel
theorem dL_ticksToEnd_4 : decode cL_ticksToEnd 4 = .ok (.invokevirtual 73, 3) := by decide +kernel
theorem dL_ticksToEnd_7 : decode cL_ticksToEnd 7 = .ok (.i2l, 1) := by decide +kernel
theorem dL_ticksToEnd_8 : decode cL_ticksToEnd 8 = .ok (.lastore, 1) := by decide +kernel
theorem dL_ticksToEnd_9 : decode cL_ticksToEnd 9 = .ok (.goto 6, 3) := by decide +kernel
theorem dL_ticksToEnd_12 : decode cL_ticksToEnd 12 = .ok (.astore_n 3, 1) := by decide +kernel
theorem dL_ticksToEnd_13 : decode cL_ticksToEnd 13 = .ok (.iconst 1, 1) := by decide +kernel
theorem dL_ticksToEnd_14 : decode cL_ticksToEnd 14 = .ok (.ireturn, 1) := by decide +kernel
theorem dL_ticksToEnd_15 : decode cL_ticksToEnd 15 = .ok (.iconst 0, 1) := by decide +kernel
theorem dL_ticksToEnd_16 : decode cL_ticksToEnd 16 = .ok (.ireturn, 1) := by decide +kernel
theorem dL_trainAhead_0 : decode cL_trainAhead 0 = .ok (.aload_n 2, 1) := by decide +kernel
theorem dL_trainAhead_1 : decode cL_trainAhead 1 = .ok (.iconst 0, 1) := by decide +kernel
theorem dL_trainAhead_2 : decode cL_trainAhead 2 = .ok (.aload_n 0, 1) := by decide +kernel
theorem dL_trainAhead_3 : decode cL_trainAhead 3 = .ok (.iload_n 1, 1) := by decide +kernel
theorem dL_trainAhead_4 : decode cL_trainAhead 4 = .ok (.invokevirtual 76, 3) := by decide +kernel
theorem dL_trainAhead_7 : decode cL_trainAhead 7 = .ok (.i2l, 1) := by decide +kernel
theorem dL_trainAhead_8 : decode cL_trainAhead 8 = .ok (.lastore, 1) := by decide +kernel
theorem dL_trainAhead_9 : decode cL_trainAhead 9 = .ok (.goto 6, 3) := by decide +kernel
theorem dL_trainAhead_12 : decode cL_trainAhead 12 = .ok (.astore_n 3, 1) := by decide +kernel
theorem dL_trainAhead_13 : decode cL_trainAhead 13 = .ok (.iconst 1, 1) := by decide +kernel
theorem dL_trainAhead_14 : decode cL_trainAhead 14 = .ok (.ireturn, 1) := by decide +kernel
theorem dL_trainAhead_15 : decode cL_trainAhead 15 = .ok (.iconst 0, 1) := by decide +kernel
theorem dL_trainAhead_16 : decode cL_trainAhead 16 = .ok (.ireturn, 1) := by decide +kernel
theorem dL_clearBlocksAhead_0 : decode cL_clearBlocksAhead 0 = .ok (.aload_n 2, 1) := by decide +kernel
theorem dL_clearBlocksAhead_1 : decode cL_clearBlocksAhead 1 = .ok (.iconst 0, 1) := by decide +kernel
theorem dL_clearBlocksAhead_2 : decode cL_clearBlocksAhead 2 = .ok (.aload_n 0, 1) := by decide +kernel
theorem dL_clearBlocksAhead_3 : decode cL_clearBlocksAhead 3 = .ok (.iload_n 1, 1) := by decide +kernel
theorem dL_clearBlocksAhead_4 : decode cL_clearBlocksAhead 4 = .ok (.invokevirtual 79, 3) := by decide +kernel
theorem dL_clearBlocksAhead_7 : decode cL_clearBlocksAhead 7 = .ok (.i2l, 1) := by decide +kernel
theorem dL_clearBlocksAhead_8 : decode cL_clearBlocksAhead 8 = .ok (.lastore, 1) := by decide +kernel
theorem dL_clearBlocksAhead_9 : decode cL_clearBlocksAhead 9 = .ok (.goto 6, 3) := by decide +kernel
theorem dL_clearBlocksAhead_12 : decode cL_clearBlocksAhead 12 = .ok (.astore_n 3, 1) := by decide +kernel
theorem dL_clearBlocksAhead_13 : decode cL_clearBlocksAhead 13 = .ok (.iconst 1, 1) := by decide +kernel
theorem dL_clearBlocksAhead_14 : decode cL_clearBlocksAhead 14 = .ok (.ireturn, 1) := by decide +kernel
theorem dL_clearBlocksAhead_15 : decode cL_clearBlocksAhead 15 = .ok (.iconst 0, 1) := by decide +kernel
theorem dL_clearBlocksAhead_16 : decode cL_clearBlocksAhead 16 = .ok (.ireturn, 1) := by decide +kernel
theorem dL_canEnter_0 : decode cL_canEnter 0 = .ok (.aload_n 2, 1) := by decide +kernel
theorem dL_canEnter_1 : decode cL_canEnter 1 = .ok (.iconst 0, 1) := by decide +kernel
theorem dL_canEnter_2 : decode cL_canEnter 2 = .ok (.aload_n 0, 1) := by decide +kernel
theorem dL_canEnter_3 : decode cL_canEnter 3 = .ok (.iload_n 1, 1) := by decide +kernel
theorem dL_canEnter_4 : decode cL_canEnter 4 = .ok (.invokevirtual 82, 3) := by decide +kernel
theorem dL_canEnter_7 : decode cL_canEnter 7 = .ok (.ifCond .eq 7, 3) := by decide +kernel
theorem dL_canEnter_10 : decode cL_canEnter 10 = .ok (.lconst 1, 1) := by decide +kernel
theorem dL_canEnter_11 : decode cL_canEnter 11 = .ok (.goto 4, 3) := by decide +kernel
theorem dL_canEnter_14 : decode cL_canEnter 14 = .ok (.lconst 0, 1) := by decide +kernel
theorem dL_canEnter_15 : decode cL_canEnter 15 = .ok (.lastore, 1) := by decide +kernel
theorem dL_canEnter_16 : decode cL_canEnter 16 = .ok (.goto 6, 3) := by decide +kernel
theorem dL_canEnter_19 : decode cL_canEnter 19 = .ok (.astore_n 3, 1) := by decide +kernel
theorem dL_canEnter_20 : decode cL_canEnter 20 = .ok (.iconst 1, 1) := by decide +kernel
theorem dL_canEnter_21 : decode cL_canEnter 21 = .ok (.ireturn, 1) := by decide +kernel
theorem dL_canEnter_22 : decode cL_canEnter 22 = .ok (.iconst 0, 1) := by decide +kernel
theorem dL_canEnter_23 : decode cL_canEnter 23 = .ok (.ireturn, 1) := by decide +kernel
theorem dL_blockAfter_0 : decode cL_blockAfter 0 = .ok (.aload_n 3, 1) := by decide +kernel
theorem dL_blockAfter_1 : decode cL_blockAfter 1 = .ok (.iconst 0, 1) := by decide +kernel
theorem dL_blockAfter_2 : decode cL_blockAfter 2 = .ok (.aload_n 0, 1) := by decide +kernel
theorem dL_blockAfter_3 : decode cL_blockAfter 3 = .ok (.iload_n 1, 1) := by decide +kernel
theorem dL_blockAfter_4 : decode cL_blockAfter 4 = .ok (.iload_n 2, 1) := by decide +kernel
theorem dL_blockAfter_5 : decode cL_blockAfter 5 = .ok (.invokevirtual 85, 3) := by decide +kernel
theorem dL_blockAfter_8 : decode cL_blockAfter 8 = .ok (.i2l, 1) := by decide +kernel
theorem dL_blockAfter_9 : decode cL_blockAfter 9 = .ok (.lastore, 1) := by decide +kernel
theorem dL_blockAfter_10 : decode cL_blockAfter 10 = .ok (.goto 11, 3) := by decide +kernel
theorem dL_blockAfter_13 : decode cL_blockAfter 13 = .ok (.astore 4, 2) := by decide +kernel
theorem dL_blockAfter_15 : decode cL_blockAfter 15 = .ok (.iconst 1, 1) := by decide +kernel
theorem dL_blockAfter_16 : decode cL_blockAfter 16 = .ok (.ireturn, 1) := by decide +kernel
theorem dL_blockAfter_17 : decode cL_blockAfter 17 = .ok (.astore 4, 2) := by decide +kernel
theorem dL_blockAfter_19 : decode cL_blockAfter 19 = .ok (.iconst 2, 1) := by decide +kernel
theorem dL_blockAfter_20 : decode cL_blockAfter 20 = .ok (.ireturn, 1) := by decide +kernel
theorem dL_blockAfter_21 : decode cL_blockAfter 21 = .ok (.iconst 0, 1) := by decide +kernel
theorem dL_blockAfter_22 : decode cL_blockAfter 22 = .ok (.ireturn, 1) := by decide +kernel
theorem dL_ticksUntilWait_0 : decode cL_ticksUntilWait 0 = .ok (.aload_n 2, 1) := by decide +kernel
theorem dL_ticksUntilWait_1 : decode cL_ticksUntilWait 1 = .ok (.iconst 0, 1) := by decide +kernel
theorem dL_ticksUntilWait_2 : decode cL_ticksUntilWait 2 = .ok (.aload_n 0, 1) := by decide +kernel
theorem dL_ticksUntilWait_3 : decode cL_ticksUntilWait 3 = .ok (.iload_n 1, 1) := by decide +kernel
theorem dL_ticksUntilWait_4 : decode cL_ticksUntilWait 4 = .ok (.invokevirtual 88, 3) := by decide +kernel
theorem dL_ticksUntilWait_7 : decode cL_ticksUntilWait 7 = .ok (.i2l, 1) := by decide +kernel
theorem dL_ticksUntilWait_8 : decode cL_ticksUntilWait 8 = .ok (.lastore, 1) := by decide +kernel
theorem dL_ticksUntilWait_9 : decode cL_ticksUntilWait 9 = .ok (.goto 6, 3) := by decide +kernel
theorem dL_ticksUntilWait_12 : decode cL_ticksUntilWait 12 = .ok (.astore_n 3, 1) := by decide +kernel
theorem dL_ticksUntilWait_13 : decode cL_ticksUntilWait 13 = .ok (.iconst 1, 1) := by decide +kernel
theorem dL_ticksUntilWait_14 : decode cL_ticksUntilWait 14 = .ok (.ireturn, 1) := by decide +kernel
theorem dL_ticksUntilWait_15 : decode cL_ticksUntilWait 15 = .ok (.iconst 0, 1) := by decide +kernel
theorem dL_ticksUntilWait_16 : decode cL_ticksUntilWait 16 = .ok (.ireturn, 1) := by decide +kernel
theorem dL_advance_0 : decode cL_advance 0 = .ok (.aload_n 2, 1) := by decide +kernel
theorem dL_advance_1 : decode cL_advance 1 = .ok (.iconst 0, 1) := by decide +kernel
theorem dL_advance_2 : decode cL_advance 2 = .ok (.aload_n 0, 1) := by decide +kernel
theorem dL_advance_3 : decode cL_advance 3 = .ok (.iload_n 1, 1) := by decide +kernel
theorem dL_advance_4 : decode cL_advance 4 = .ok (.invokevirtual 91, 3) := by decide +kernel
theorem dL_advance_7 : decode cL_advance 7 = .ok (.i2l, 1) := by decide +kernel
theorem dL_advance_8 : decode cL_advance 8 = .ok (.lastore, 1) := by decide +kernel
theorem dL_advance_9 : decode cL_advance 9 = .ok (.goto 9, 3) := by decide +kernel
theorem dL_advance_12 : decode cL_advance 12 = .ok (.astore_n 3, 1) := by decide +kernel
theorem dL_advance_13 : decode cL_advance 13 = .ok (.iconst 1, 1) := by decide +kernel
theorem dL_advance_14 : decode cL_advance 14 = .ok (.ireturn, 1) := by decide +kernel
theorem dL_advance_15 : decode cL_advance 15 = .ok (.astore_n 3, 1) := by decide +kernel
theorem dL_advance_16 : decode cL_advance 16 = .ok (.iconst 2, 1) := by decide +kernel
theorem dL_advance_17 : decode cL_advance 17 = .ok (.ireturn, 1) := by decide +kernel
theorem dL_advance_18 : decode cL_advance 18 = .ok (.iconst 0, 1) := by decide +kernel
theorem dL_advance_19 : decode cL_advance 19 = .ok (.ireturn, 1) := by decide +kernel
theorem dL_pull_0 : decode cL_pull 0 = .ok (.aload_n 2, 1) := by decide +kernel
theorem dL_pull_1 : decode cL_pull 1 = .ok (.iconst 0, 1) := by decide +kernel
theorem dL_pull_2 : decode cL_pull 2 = .ok (.aload_n 0, 1) := by decide +kernel
theorem dL_pull_3 : decode cL_pull 3 = .ok (.iload_n 1, 1) := by decide +kernel
theorem dL_pull_4 : decode cL_pull 4 = .ok (.invokevirtual 94, 3) := by decide +kernel
theorem dL_pull_7 : decode cL_pull 7 = .ok (.i2l, 1) := by decide +kernel
theorem dL_pull_8 : decode cL_pull 8 = .ok (.lastore, 1) := by decide +kernel
theorem dL_pull_9 : decode cL_pull 9 = .ok (.goto 9, 3) := by decide +kernel
theorem dL_pull_12 : decode cL_pull 12 = .ok (.astore_n 3, 1) := by decide +kernel
theorem dL_pull_13 : decode cL_pull 13 = .ok (.iconst 1, 1) := by decide +kernel
theorem dL_pull_14 : decode cL_pull 14 = .ok (.ireturn, 1) := by decide +kernel
theorem dL_pull_15 : decode cL_pull 15 = .ok (.astore_n 3, 1) := by decide +kernel
theorem dL_pull_16 : decode cL_pull 16 = .ok (.iconst 2, 1) := by decide +kernel
theorem dL_pull_17 : decode cL_pull 17 = .ok (.ireturn, 1) := by decide +kernel
theorem dL_pull_18 : decode cL_pull 18 = .ok (.iconst 0, 1) := by decide +kernel
theorem dL_pull_19 : decode cL_pull 19 = .ok (.ireturn, 1) := by decide +kernel
theorem dL_setDanger_0 : decode cL_setDanger 0 = .ok (.aload_n 2, 1) := by decide +kernel
theorem dL_setDanger_1 : decode cL_setDanger 1 = .ok (.iconst 0, 1) := by decide +kernel
theorem dL_setDanger_2 : decode cL_setDanger 2 = .ok (.aload_n 0, 1) := by decide +kernel
theorem dL_setDanger_3 : decode cL_setDanger 3 = .ok (.iload_n 1, 1) := by decide +kernel
theorem dL_setDanger_4 : decode cL_setDanger 4 = .ok (.invokevirtual 97, 3) := by decide +kernel
theorem dL_setDanger_7 : decode cL_setDanger 7 = .ok (.i2l, 1) := by decide +kernel
theorem dL_setDanger_8 : decode cL_setDanger 8 = .ok (.lastore, 1) := by decide +kernel
theorem dL_setDanger_9 : decode cL_setDanger 9 = .ok (.goto 9, 3) := by decide +kernel
theorem dL_setDanger_12 : decode cL_setDanger 12 = .ok (.astore_n 3, 1) := by decide +kernel
theorem dL_setDanger_13 : decode cL_setDanger 13 = .ok (.iconst 1, 1) := by decide +kernel
theorem dL_setDanger_14 : decode cL_setDanger 14 = .ok (.ireturn, 1) := by decide +kernel
theorem dL_setDanger_15 : decode cL_setDanger 15 = .ok (.astore_n 3, 1) := by decide +kernel
theorem dL_setDanger_16 : decode cL_setDanger 16 = .ok (.iconst 2, 1) := by decide +kernel
theorem dL_setDanger_17 : decode cL_setDanger 17 = .ok (.ireturn, 1) := by decide +kernel
theorem dL_setDanger_18 : decode cL_setDanger 18 = .ok (.iconst 0, 1) := by decide +kernel
theorem dL_setDanger_19 : decode cL_setDanger 19 = .ok (.ireturn, 1) := by decide +kernel
theorem dL_repair_0 : decode cL_repair 0 = .ok (.aload_n 2, 1) := by decide +kernel
theorem dL_repair_1 : decode cL_repair 1 = .ok (.iconst 0, 1) := by decide +kernel
theorem dL_repair_2 : decode cL_repair 2 = .ok (.aload_n 0, 1) := by decide +kernel
theorem dL_repair_3 : decode cL_repair 3 = .ok (.iload_n 1, 1) := by decide +kernel
theorem dL_repair_4 : decode cL_repair 4 = .ok (.invokevirtual 100, 3) := by decide +kernel
theorem dL_repair_7 : decode cL_repair 7 = .ok (.i2l, 1) := by decide +kernel
theorem dL_repair_8 : decode cL_repair 8 = .ok (.lastore, 1) := by decide +kernel
theorem dL_repair_9 : decode cL_repair 9 = .ok (.goto 9, 3) := by decide +kernel
theorem dL_repair_12 : decode cL_repair 12 = .ok (.astore_n 3, 1) := by decide +kernel
theorem dL_repair_13 : decode cL_repair 13 = .ok (.iconst 1, 1) := by decide +kernel
theorem dL_repair_14 : decode cL_repair 14 = .ok (.ireturn, 1) := by decide +kernel
theorem dL_repair_15 : decode cL_repair 15 = .ok (.astore_n 3, 1) := by decide +kernel
theorem dL_repair_16 : decode cL_repair 16 = .ok (.iconst 2, 1) := by decide +kernel
theorem dL_repair_17 : decode cL_repair 17 = .ok (.ireturn, 1) := by decide +kernel
theorem dL_repair_18 : decode cL_repair 18 = .ok (.iconst 0, 1) := by decide +kernel
theorem dL_repair_19 : decode cL_repair 19 = .ok (.ireturn, 1) := by decide +kernel
theorem dL_removeWagons_0 : decode cL_removeWagons 0 = .ok (.aload_n 2, 1) := by decide +kernel
theorem dL_removeWagons_1 : decode cL_removeWagons 1 = .ok (.iconst 0, 1) := by decide +kernel
theorem dL_removeWagons_2 : decode cL_removeWagons 2 = .ok (.aload_n 0, 1) := by decide +kernel
theorem dL_removeWagons_3 : decode cL_removeWagons 3 = .ok (.iload_n 1, 1) := by decide +kernel
theorem dL_removeWagons_4 : decode cL_removeWagons 4 = .ok (.invokevirtual 103, 3) := by decide +kernel
theorem dL_removeWagons_7 : decode cL_removeWagons 7 = .ok (.i2l, 1) := by decide +kernel
theorem dL_removeWagons_8 : decode cL_removeWagons 8 = .ok (.lastore, 1) := by decide +kernel
theorem dL_removeWagons_9 : decode cL_removeWagons 9 = .ok (.goto 6, 3) := by decide +kernel
theorem dL_removeWagons_12 : decode cL_removeWagons 12 = .ok (.astore_n 3, 1) := by decide +kernel
theorem dL_removeWagons_13 : decode cL_removeWagons 13 = .ok (.iconst 1, 1) := by decide +kernel
theorem dL_removeWagons_14 : decode cL_removeWagons 14 = .ok (.ireturn, 1) := by decide +kernel
theorem dL_removeWagons_15 : decode cL_removeWagons 15 = .ok (.iconst 0, 1) := by decide +kernel
theorem dL_removeWagons_16 : decode cL_removeWagons 16 = .ok (.ireturn, 1) := by decide +kernel
theorem dL_addWagons_0 : decode cL_addWagons 0 = .ok (.aload_n 3, 1) := by decide +kernel
theorem dL_addWagons_1 : decode cL_addWagons 1 = .ok (.iconst 0, 1) := by decide +kernel
theorem dL_addWagons_2 : decode cL_addWagons 2 = .ok (.aload_n 0, 1) := by decide +kernel
theorem dL_addWagons_3 : decode cL_addWagons 3 = .ok (.iload_n 1, 1) := by decide +kernel
theorem dL_addWagons_4 : decode cL_addWagons 4 = .ok (.iload_n 2, 1) := by decide +kernel
theorem dL_addWagons_5 : decode cL_addWagons 5 = .ok (.invokevirtual 106, 3) := by decide +kernel
theorem dL_addWagons_8 : decode cL_addWagons 8 = .ok (.i2l, 1) := by decide +kernel
theorem dL_addWagons_9 : decode cL_addWagons 9 = .ok (.lastore, 1) := by decide +kernel
theorem dL_addWagons_10 : decode cL_addWagons 10 = .ok (.goto 15, 3) := by decide +kernel
theorem dL_addWagons_13 : decode cL_addWagons 13 = .ok (.astore 4, 2) := by decide +kernel
theorem dL_addWagons_15 : decode cL_addWagons 15 = .ok (.iconst 1, 1) := by decide +kernel
theorem dL_addWagons_16 : decode cL_addWagons 16 = .ok (.ireturn, 1) := by decide +kernel
theorem dL_addWagons_17 : decode cL_addWagons 17 = .ok (.astore 4, 2) := by decide +kernel
theorem dL_addWagons_19 : decode cL_addWagons 19 = .ok (.iconst 2, 1) := by decide +kernel
theorem dL_addWagons_20 : decode cL_addWagons 20 = .ok (.ireturn, 1) := by decide +kernel
theorem dL_addWagons_21 : decode cL_addWagons 21 = .ok (.astore 4, 2) := by decide +kernel
theorem dL_addWagons_23 : decode cL_addWagons 23 = .ok (.iconst 3, 1) := by decide +kernel
theorem dL_addWagons_24 : decode cL_addWagons 24 = .ok (.ireturn, 1) := by decide +kernel
theorem dL_addWagons_25 : decode cL_addWagons 25 = .ok (.iconst 0, 1) := by decide +kernel
theorem dL_addWagons_26 : decode cL_addWagons 26 = .ok (.ireturn, 1) := by decide +kernel
theorem dL_setTopSpeed_0 : decode cL_setTopSpeed 0 = .ok (.aload_n 3, 1) := by decide +kernel
theorem dL_setTopSpeed_1 : decode cL_setTopSpeed 1 = .ok (.iconst 0, 1) := by decide +kernel
theorem dL_setTopSpeed_2 : decode cL_setTopSpeed 2 = .ok (.aload_n 0, 1) := by decide +kernel
theorem dL_setTopSpeed_3 : decode cL_setTopSpeed 3 = .ok (.iload_n 1, 1) := by decide +kernel
theorem dL_setTopSpeed_4 : decode cL_setTopSpeed 4 = .ok (.iload_n 2, 1) := by decide +kernel
theorem dL_setTopSpeed_5 : decode cL_setTopSpeed 5 = .ok (.invokevirtual 109, 3) := by decide +kernel
theorem dL_setTopSpeed_8 : decode cL_setTopSpeed 8 = .ok (.i2l, 1) := by decide +kernel
theorem dL_setTopSpeed_9 : decode cL_setTopSpeed 9 = .ok (.lastore, 1) := by decide +kernel
theorem dL_setTopSpeed_10 : decode cL_setTopSpeed 10 = .ok (.goto 11, 3) := by decide +kernel
theorem dL_setTopSpeed_13 : decode cL_setTopSpeed 13 = .ok (.astore 4, 2) := by decide +kernel
theorem dL_setTopSpeed_15 : decode cL_setTopSpeed 15 = .ok (.iconst 1, 1) := by decide +kernel
theorem dL_setTopSpeed_16 : decode cL_setTopSpeed 16 = .ok (.ireturn, 1) := by decide +kernel
theorem dL_setTopSpeed_17 : decode cL_setTopSpeed 17 = .ok (.astore 4, 2) := by decide +kernel
theorem dL_setTopSpeed_19 : decode cL_setTopSpeed 19 = .ok (.iconst 2, 1) := by decide +kernel
theorem dL_setTopSpeed_20 : decode cL_setTopSpeed 20 = .ok (.ireturn, 1) := by decide +kernel
theorem dL_setTopSpeed_21 : decode cL_setTopSpeed 21 = .ok (.iconst 0, 1) := by decide +kernel
theorem dL_setTopSpeed_22 : decode cL_setTopSpeed 22 = .ok (.ireturn, 1) := by decide +kernel
theorem dL_restore_0 : decode cL_restore 0 = .ok (.aload_n 2, 1) := by decide +kernel
theorem dL_restore_1 : decode cL_restore 1 = .ok (.iconst 0, 1) := by decide +kernel
theorem dL_restore_2 : decode cL_restore 2 = .ok (.aload_n 0, 1) := by decide +kernel
theorem dL_restore_3 : decode cL_restore 3 = .ok (.iload_n 1, 1) := by decide +kernel
theorem dL_restore_4 : decode cL_restore 4 = .ok (.invokevirtual 112, 3) := by decide +kernel
theorem dL_restore_7 : decode cL_restore 7 = .ok (.i2l, 1) := by decide +kernel
theorem dL_restore_8 : decode cL_restore 8 = .ok (.lastore, 1) := by decide +kernel
theorem dL_restore_9 : decode cL_restore 9 = .ok (.goto 9, 3) := by decide +kernel
theorem dL_restore_12 : decode cL_restore 12 = .ok (.astore_n 3, 1) := by decide +kernel
theorem dL_restore_13 : decode cL_restore 13 = .ok (.iconst 1, 1) := by decide +kernel
theorem dL_restore_14 : decode cL_restore 14 = .ok (.ireturn, 1) := by decide +kernel
theorem dL_restore_15 : decode cL_restore 15 = .ok (.astore_n 3, 1) := by decide +kernel
theorem dL_restore_16 : decode cL_restore 16 = .ok (.iconst 2, 1) := by decide +kernel
theorem dL_restore_17 : decode cL_restore 17 = .ok (.ireturn, 1) := by decide +kernel
theorem dL_restore_18 : decode cL_restore 18 = .ok (.iconst 0, 1) := by decide +kernel
theorem dL_restore_19 : decode cL_restore 19 = .ok (.ireturn, 1) := by decide +kernel
theorem dL_undo_0 : decode cL_undo 0 = .ok (.aload_n 1, 1) := by decide +kernel
theorem dL_undo_1 : decode cL_undo 1 = .ok (.iconst 0, 1) := by decide +kernel
theorem dL_undo_2 : decode cL_undo 2 = .ok (.aload_n 0, 1) := by decide +kernel
theorem dL_undo_3 : decode cL_undo 3 = .ok (.invokevirtual 115, 3) := by decide +kernel
theorem dL_undo_6 : decode cL_undo 6 = .ok (.i2l, 1) := by decide +kernel
theorem dL_undo_7 : decode cL_undo 7 = .ok (.lastore, 1) := by decide +kernel
theorem dL_undo_8 : decode cL_undo 8 = .ok (.goto 6, 3) := by decide +kernel
theorem dL_undo_11 : decode cL_undo 11 = .ok (.astore_n 2, 1) := by decide +kernel
theorem dL_undo_12 : decode cL_undo 12 = .ok (.iconst 1, 1) := by decide +kernel
theorem dL_undo_13 : decode cL_undo 13 = .ok (.ireturn, 1) := by decide +kernel
theorem dL_undo_14 : decode cL_undo 14 = .ok (.iconst 0, 1) := by decide +kernel
theorem dL_undo_15 : decode cL_undo 15 = .ok (.ireturn, 1) := by decide +kernel
theorem dL_save_0 : decode cL_save 0 = .ok (.aload_n 2, 1) := by decide +kernel
theorem dL_save_1 : decode cL_save 1 = .ok (.iconst 0, 1) := by decide +kernel
theorem dL_save_2 : decode cL_save 2 = .ok (.aload_n 0, 1) := by decide +kernel
theorem dL_save_3 : decode cL_save 3 = .ok (.iload_n 1, 1) := by decide +kernel
theorem dL_save_4 : decode cL_save 4 = .ok (.invokevirtual 119, 3) := by decide +kernel
theorem dL_save_7 : decode cL_save 7 = .ok (.i2l, 1) := by decide +kernel
theorem dL_save_8 : decode cL_save 8 = .ok (.lastore, 1) := by decide +kernel
theorem dL_save_9 : decode cL_save 9 = .ok (.goto 6, 3) := by decide +kernel
theorem dL_save_12 : decode cL_save 12 = .ok (.astore_n 3, 1) := by decide +kernel
theorem dL_save_13 : decode cL_save 13 = .ok (.iconst 1, 1) := by decide +kernel
theorem dL_save_14 : decode cL_save 14 = .ok (.ireturn, 1) := by decide +kernel
theorem dL_save_15 : decode cL_save 15 = .ok (.iconst 0, 1) := by decide +kernel
theorem dL_save_16 : decode cL_save 16 = .ok (.ireturn, 1) := by decide +kernel
theorem dL_writeTrain_0 : decode cL_writeTrain 0 = .ok (.aload_n 2, 1) := by decide +kernel
theorem dL_writeTrain_1 : decode cL_writeTrain 1 = .ok (.iconst 0, 1) := by decide +kernel
theorem dL_writeTrain_2 : decode cL_writeTrain 2 = .ok (.aload_n 0, 1) := by decide +kernel
theorem dL_writeTrain_3 : decode cL_writeTrain 3 = .ok (.iload_n 1, 1) := by decide +kernel
theorem dL_writeTrain_4 : decode cL_writeTrain 4 = .ok (.invokevirtual 122, 3) := by decide +kernel
theorem dL_writeTrain_7 : decode cL_writeTrain 7 = .ok (.i2l, 1) := by decide +kernel
theorem dL_writeTrain_8 : decode cL_writeTrain 8 = .ok (.lastore, 1) := by decide +kernel
theorem dL_writeTrain_9 : decode cL_writeTrain 9 = .ok (.goto 6, 3) := by decide +kernel
theorem dL_writeTrain_12 : decode cL_writeTrain 12 = .ok (.astore_n 3, 1) := by decide +kernel
theorem dL_writeTrain_13 : decode cL_writeTrain 13 = .ok (.iconst 1, 1) := by decide +kernel
theorem dL_writeTrain_14 : decode cL_writeTrain 14 = .ok (.ireturn, 1) := by decide +kernel
theorem dL_writeTrain_15 : decode cL_writeTrain 15 = .ok (.iconst 0, 1) := by decide +kernel
theorem dL_writeTrain_16 : decode cL_writeTrain 16 = .ok (.ireturn, 1) := by decide +kernel
theorem dL_outputByte_0 : decode cL_outputByte 0 = .ok (.aload_n 2, 1) := by decide +kernel
theorem dL_outputByte_1 : decode cL_outputByte 1 = .ok (.iconst 0, 1) := by decide +kernel
theorem dL_outputByte_2 : decode cL_outputByte 2 = .ok (.aload_n 0, 1) := by decide +kernel
theorem dL_outputByte_3 : decode cL_outputByte 3 = .ok (.iload_n 1, 1) := by decide +kernel
theorem dL_outputByte_4 : decode cL_outputByte 4 = .ok (.invokevirtual 125, 3) := by decide +kernel
theorem dL_outputByte_7 : decode cL_outputByte 7 = .ok (.i2l, 1) := by decide +kernel
theorem dL_outputByte_8 : decode cL_outputByte 8 = .ok (.lastore, 1) := by decide +kernel
theorem dL_outputByte_9 : decode cL_outputByte 9 = .ok (.goto 6, 3) := by decide +kernel
theorem dL_outputByte_12 : decode cL_outputByte 12 = .ok (.astore_n 3, 1) := by decide +kernel
