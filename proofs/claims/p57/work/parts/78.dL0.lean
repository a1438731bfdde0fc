theorem dL_next_0 : decode cL_next 0 = .ok (.aload_n 0, 1) := by decide +kernel
theorem dL_next_1 : decode cL_next 1 = .ok (.iconst 0, 1) := by decide +kernel
theorem dL_next_2 : decode cL_next 2 = .ok (.aload_n 0, 1) := by decide +kernel
theorem dL_next_3 : decode cL_next 3 = .ok (.iconst 0, 1) := by decide +kernel
theorem dL_next_4 : decode cL_next 4 = .ok (.iaload, 1) := by decide +kernel
theorem dL_next_5 : decode cL_next 5 = .ok (.ldc 7, 2) := by decide +kernel
theorem dL_next_7 : decode cL_next 7 = .ok (.imul, 1) := by decide +kernel
theorem dL_next_8 : decode cL_next 8 = .ok (.sipush 12345, 3) := by decide +kernel
theorem dL_next_11 : decode cL_next 11 = .ok (.iadd, 1) := by decide +kernel
theorem dL_next_12 : decode cL_next 12 = .ok (.iastore, 1) := by decide +kernel
theorem dL_next_13 : decode cL_next 13 = .ok (.aload_n 0, 1) := by decide +kernel
theorem dL_next_14 : decode cL_next 14 = .ok (.iconst 0, 1) := by decide +kernel
theorem dL_next_15 : decode cL_next 15 = .ok (.dup2, 1) := by decide +kernel
theorem dL_next_16 : decode cL_next 16 = .ok (.iaload, 1) := by decide +kernel
theorem dL_next_17 : decode cL_next 17 = .ok (.aload_n 0, 1) := by decide +kernel
theorem dL_next_18 : decode cL_next 18 = .ok (.iconst 0, 1) := by decide +kernel
theorem dL_next_19 : decode cL_next 19 = .ok (.iaload, 1) := by decide +kernel
theorem dL_next_20 : decode cL_next 20 = .ok (.bipush 15, 2) := by decide +kernel
theorem dL_next_22 : decode cL_next 22 = .ok (.iushr, 1) := by decide +kernel
theorem dL_next_23 : decode cL_next 23 = .ok (.ixor, 1) := by decide +kernel
theorem dL_next_24 : decode cL_next 24 = .ok (.iastore, 1) := by decide +kernel
theorem dL_next_25 : decode cL_next 25 = .ok (.aload_n 0, 1) := by decide +kernel
theorem dL_next_26 : decode cL_next 26 = .ok (.iconst 0, 1) := by decide +kernel
theorem dL_next_27 : decode cL_next 27 = .ok (.iaload, 1) := by decide +kernel
theorem dL_next_28 : decode cL_next 28 = .ok (.bipush 9, 2) := by decide +kernel
theorem dL_next_30 : decode cL_next 30 = .ok (.iushr, 1) := by decide +kernel
theorem dL_next_31 : decode cL_next 31 = .ok (.ireturn, 1) := by decide +kernel
theorem dL_type_0 : decode cL_type 0 = .ok (.iconst 0, 1) := by decide +kernel
theorem dL_type_1 : decode cL_type 1 = .ok (.istore_n 2, 1) := by decide +kernel
theorem dL_type_2 : decode cL_type 2 = .ok (.iconst 5, 1) := by decide +kernel
theorem dL_type_3 : decode cL_type 3 = .ok (.newarray .int, 2) := by decide +kernel
theorem dL_type_5 : decode cL_type 5 = .ok (.astore_n 3, 1) := by decide +kernel
theorem dL_type_6 : decode cL_type 6 = .ok (.iconst 0, 1) := by decide +kernel
theorem dL_type_7 : decode cL_type 7 = .ok (.istore 4, 2) := by decide +kernel
theorem dL_type_9 : decode cL_type 9 = .ok (.iload 4, 2) := by decide +kernel
theorem dL_type_11 : decode cL_type 11 = .ok (.aload_n 1, 1) := by decide +kernel
theorem dL_type_12 : decode cL_type 12 = .ok (.invokevirtual 8, 3) := by decide +kernel
theorem dL_type_15 : decode cL_type 15 = .ok (.if_icmp .ge 87, 3) := by decide +kernel
theorem dL_type_18 : decode cL_type 18 = .ok (.iconst 0, 1) := by decide +kernel
theorem dL_type_19 : decode cL_type 19 = .ok (.istore 5, 2) := by decide +kernel
theorem dL_type_21 : decode cL_type 21 = .ok (.iload 5, 2) := by decide +kernel
theorem dL_type_23 : decode cL_type 23 = .ok (.bipush 20, 2) := by decide +kernel
theorem dL_type_25 : decode cL_type 25 = .ok (.if_icmp .ge 51, 3) := by decide +kernel
theorem dL_type_28 : decode cL_type 28 = .ok (.aload_n 3, 1) := by decide +kernel
theorem dL_type_29 : decode cL_type 29 = .ok (.iload 5, 2) := by decide +kernel
theorem dL_type_31 : decode cL_type 31 = .ok (.iconst 4, 1) := by decide +kernel
theorem dL_type_32 : decode cL_type 32 = .ok (.idiv, 1) := by decide +kernel
theorem dL_type_33 : decode cL_type 33 = .ok (.aload_n 3, 1) := by decide +kernel
theorem dL_type_34 : decode cL_type 34 = .ok (.iload 5, 2) := by decide +kernel
theorem dL_type_36 : decode cL_type 36 = .ok (.iconst 4, 1) := by decide +kernel
theorem dL_type_37 : decode cL_type 37 = .ok (.idiv, 1) := by decide +kernel
theorem dL_type_38 : decode cL_type 38 = .ok (.iaload, 1) := by decide +kernel
theorem dL_type_39 : decode cL_type 39 = .ok (.bipush 8, 2) := by decide +kernel
theorem dL_type_41 : decode cL_type 41 = .ok (.ishl, 1) := by decide +kernel
theorem dL_type_42 : decode cL_type 42 = .ok (.iload 4, 2) := by decide +kernel
theorem dL_type_44 : decode cL_type 44 = .ok (.iload 5, 2) := by decide +kernel
theorem dL_type_46 : decode cL_type 46 = .ok (.iadd, 1) := by decide +kernel
theorem dL_type_47 : decode cL_type 47 = .ok (.aload_n 1, 1) := by decide +kernel
theorem dL_type_48 : decode cL_type 48 = .ok (.invokevirtual 8, 3) := by decide +kernel
theorem dL_type_51 : decode cL_type 51 = .ok (.if_icmp .ge 15, 3) := by decide +kernel
theorem dL_type_54 : decode cL_type 54 = .ok (.aload_n 1, 1) := by decide +kernel
theorem dL_type_55 : decode cL_type 55 = .ok (.iload 4, 2) := by decide +kernel
theorem dL_type_57 : decode cL_type 57 = .ok (.iload 5, 2) := by decide +kernel
theorem dL_type_59 : decode cL_type 59 = .ok (.iadd, 1) := by decide +kernel
theorem dL_type_60 : decode cL_type 60 = .ok (.invokevirtual 14, 3) := by decide +kernel
theorem dL_type_63 : decode cL_type 63 = .ok (.goto 5, 3) := by decide +kernel
theorem dL_type_66 : decode cL_type 66 = .ok (.bipush 32, 2) := by decide +kernel
theorem dL_type_68 : decode cL_type 68 = .ok (.ior, 1) := by decide +kernel
theorem dL_type_69 : decode cL_type 69 = .ok (.iastore, 1) := by decide +kernel
theorem dL_type_70 : decode cL_type 70 = .ok (.iinc 5 1, 3) := by decide +kernel
theorem dL_type_73 : decode cL_type 73 = .ok (.goto (-52), 3) := by decide +kernel
theorem dL_type_76 : decode cL_type 76 = .ok (.aload_n 0, 1) := by decide +kernel
theorem dL_type_77 : decode cL_type 77 = .ok (.aload_n 3, 1) := by decide +kernel
theorem dL_type_78 : decode cL_type 78 = .ok (.iconst 0, 1) := by decide +kernel
theorem dL_type_79 : decode cL_type 79 = .ok (.iaload, 1) := by decide +kernel
theorem dL_type_80 : decode cL_type 80 = .ok (.aload_n 3, 1) := by decide +kernel
theorem dL_type_81 : decode cL_type 81 = .ok (.iconst 1, 1) := by decide +kernel
theorem dL_type_82 : decode cL_type 82 = .ok (.iaload, 1) := by decide +kernel
theorem dL_type_83 : decode cL_type 83 = .ok (.aload_n 3, 1) := by decide +kernel
theorem dL_type_84 : decode cL_type 84 = .ok (.iconst 2, 1) := by decide +kernel
theorem dL_type_85 : decode cL_type 85 = .ok (.iaload, 1) := by decide +kernel
theorem dL_type_86 : decode cL_type 86 = .ok (.aload_n 3, 1) := by decide +kernel
theorem dL_type_87 : decode cL_type 87 = .ok (.iconst 3, 1) := by decide +kernel
theorem dL_type_88 : decode cL_type 88 = .ok (.iaload, 1) := by decide +kernel
theorem dL_type_89 : decode cL_type 89 = .ok (.aload_n 3, 1) := by decide +kernel
theorem dL_type_90 : decode cL_type 90 = .ok (.iconst 4, 1) := by decide +kernel
theorem dL_type_91 : decode cL_type 91 = .ok (.iaload, 1) := by decide +kernel
theorem dL_type_92 : decode cL_type 92 = .ok (.invokevirtual 18, 3) := by decide +kernel
theorem dL_type_95 : decode cL_type 95 = .ok (.istore_n 2, 1) := by decide +kernel
theorem dL_type_96 : decode cL_type 96 = .ok (.iinc 4 20, 3) := by decide +kernel
theorem dL_type_99 : decode cL_type 99 = .ok (.goto (-90), 3) := by decide +kernel
theorem dL_type_102 : decode cL_type 102 = .ok (.aload_n 1, 1) := by decide +kernel
theorem dL_type_103 : decode cL_type 103 = .ok (.invokevirtual 8, 3) := by decide +kernel
theorem dL_type_106 : decode cL_type 106 = .ok (.ireturn, 1) := by decide +kernel
theorem dL_load_0 : decode cL_load 0 = .ok (.aload_n 0, 1) := by decide +kernel
theorem dL_load_1 : decode cL_load 1 = .ok (.aload_n 1, 1) := by decide +kernel
theorem dL_load_2 : decode cL_load 2 = .ok (.invokestatic 24, 3) := by decide +kernel
theorem dL_load_5 : decode cL_load 5 = .ok (.istore_n 2, 1) := by decide +kernel
theorem dL_load_6 : decode cL_load 6 = .ok (.aload_n 0, 1) := by decide +kernel
theorem dL_load_7 : decode cL_load 7 = .ok (.iload_n 2, 1) := by decide +kernel
theorem dL_load_8 : decode cL_load 8 = .ok (.invokevirtual 30, 3) := by decide +kernel
theorem dL_load_11 : decode cL_load 11 = .ok (.ireturn, 1) := by decide +kernel
theorem dL_load_12 : decode cL_load 12 = .ok (.astore_n 3, 1) := by decide +kernel
theorem dL_load_13 : decode cL_load 13 = .ok (.bipush (-2), 2) := by decide +kernel
theorem dL_load_15 : decode cL_load 15 = .ok (.ireturn, 1) := by decide +kernel
theorem dL_load_16 : decode cL_load 16 = .ok (.astore_n 3, 1) := by decide +kernel
theorem dL_load_17 : decode cL_load 17 = .ok (.iconst (-1), 1) := by decide +kernel
theorem dL_load_18 : decode cL_load 18 = .ok (.ireturn, 1) := by decide +kernel
theorem dL_undone_0 : decode cL_undone 0 = .ok (.aload_n 0, 1) := by decide +kernel
theorem dL_undone_1 : decode cL_undone 1 = .ok (.invokevirtual 38, 3) := by decide +kernel
theorem dL_undone_4 : decode cL_undone 4 = .ok (.ireturn, 1) := by decide +kernel
theorem dL_undone_5 : decode cL_undone 5 = .ok (.astore_n 1, 1) := by decide +kernel
theorem dL_undone_6 : decode cL_undone 6 = .ok (.iconst (-1), 1) := by decide +kernel
theorem dL_undone_7 : decode cL_undone 7 = .ok (.ireturn, 1) := by decide +kernel
theorem dL_advanced_0 : decode cL_advanced 0 = .ok (.aload_n 0, 1) := by decide +kernel
theorem dL_advanced_1 : decode cL_advanced 1 = .ok (.iload_n 1, 1) := by decide +kernel
theorem dL_advanced_2 : decode cL_advanced 2 = .ok (.invokevirtual 43, 3) := by decide +kernel
theorem dL_advanced_5 : decode cL_advanced 5 = .ok (.ireturn, 1) := by decide +kernel
theorem dL_advanced_6 : decode cL_advanced 6 = .ok (.astore_n 2, 1) := by decide +kernel
theorem dL_advanced_7 : decode cL_advanced 7 = .ok (.bipush (-2), 2) := by decide +kernel
theorem dL_advanced_9 : decode cL_advanced 9 = .ok (.ireturn, 1) := by decide +kernel
theorem dL_advanced_10 : decode cL_advanced 10 = .ok (.astore_n 2, 1) := by decide +kernel
theorem dL_advanced_11 : decode cL_advanced 11 = .ok (.bipush (-3), 2) := by decide +kernel
theorem dL_advanced_13 : decode cL_advanced 13 = .ok (.ireturn, 1) := by decide +kernel
theorem dL_pulled_0 : decode cL_pulled 0 = .ok (.aload_n 0, 1) := by decide +kernel
theorem dL_pulled_1 : decode cL_pulled 1 = .ok (.iload_n 1, 1) := by decide +kernel
theorem dL_pulled_2 : decode cL_pulled 2 = .ok (.invokevirtual 46, 3) := by decide +kernel
theorem dL_pulled_5 : decode cL_pulled 5 = .ok (.ireturn, 1) := by decide +kernel
theorem dL_pulled_6 : decode cL_pulled 6 = .ok (.astore_n 2, 1) := by decide +kernel
theorem dL_pulled_7 : decode cL_pulled 7 = .ok (.bipush (-5), 2) := by decide +kernel
theorem dL_pulled_9 : decode cL_pulled 9 = .ok (.ireturn, 1) := by decide +kernel
theorem dL_pulled_10 : decode cL_pulled 10 = .ok (.astore_n 2, 1) := by decide +kernel
theorem dL_pulled_11 : decode cL_pulled 11 = .ok (.bipush (-3), 2) := by decide +kernel
theorem dL_pulled_13 : decode cL_pulled 13 = .ok (.ireturn, 1) := by decide +kernel
theorem dL_stopped_0 : decode cL_stopped 0 = .ok (.aload_n 0, 1) := by decide +kernel
theorem dL_stopped_1 : decode cL_stopped 1 = .ok (.iload_n 1, 1) := by decide +kernel
theorem dL_stopped_2 : decode cL_stopped 2 = .ok (.invokevirtual 49, 3) := by decide +kernel
theorem dL_stopped_5 : decode cL_stopped 5 = .ok (.ireturn, 1) := by decide +kernel
theorem dL_stopped_6 : decode cL_stopped 6 = .ok (.astore_n 2, 1) := by decide +kernel
theorem dL_stopped_7 : decode cL_stopped 7 = .ok (.bipush (-5), 2) := by decide +kernel
theorem dL_stopped_9 : decode cL_stopped 9 = .ok (.ireturn, 1) := by decide +kernel
theorem dL_stopped_10 : decode cL_stopped 10 = .ok (.astore_n 2, 1) := by decide +kernel
theorem dL_stopped_11 : decode cL_stopped 11 = .ok (.bipush (-3), 2) := by decide +kernel
theorem dL_stopped_13 : decode cL_stopped 13 = .ok (.ireturn, 1) := by decide +kernel
theorem dL_repaired_0 : decode cL_repaired 0 = .ok (.aload_n 0, 1) := by decide +kernel
theorem dL_repaired_1 : decode cL_repaired 1 = .ok (.iload_n 1, 1) := by decide +kernel
theorem dL_repaired_2 : decode cL_repaired 2 = .ok (.invokevirtual 52, 3) := by decide +kernel
theorem dL_repaired_5 : decode cL_repaired 5 = .ok (.ireturn, 1) := by decide +kernel
theorem dL_repaired_6 : decode cL_repaired 6 = .ok (.astore_n 2, 1) := by decide +kernel
theorem dL_repaired_7 : decode cL_repaired 7 = .ok (.bipush (-5), 2) := by decide +kernel
theorem dL_repaired_9 : decode cL_repaired 9 = .ok (.ireturn, 1) := by decide +kernel
theorem dL_repaired_10 : decode cL_repaired 10 = .ok (.astore_n 2, 1) := by decide +kernel
theorem dL_repaired_11 : decode cL_repaired 11 = .ok (.bipush (-3), 2) := by decide +kernel
theorem dL_repaired_13 : decode cL_repaired 13 = .ok (.ireturn, 1) := by decide +kernel
theorem dL_removed_0 : decode cL_removed 0 = .ok (.aload_n 0, 1) := by decide +kernel
theorem dL_removed_1 : decode cL_removed 1 = .ok (.iload_n 1, 1) := by decide +kernel
theorem dL_removed_2 : decode cL_removed 2 = .ok (.invokevirtual 55, 3) := by decide +kernel
theorem dL_removed_5 : decode cL_removed 5 = .ok (.ireturn, 1) := by decide +kernel
theorem dL_removed_6 : decode cL_removed 6 = .ok (.astore_n 2, 1) := by decide +kernel
theorem dL_removed_7 : decode cL_removed 7 = .ok (.bipush (-5), 2) := by decide +kernel
theorem dL_removed_9 : decode cL_removed 9 = .ok (.ireturn, 1) := by decide +kernel
theorem dL_added_0 : decode cL_added 0 = .ok (.aload_n 0, 1) := by decide +kernel
theorem dL_added_1 : decode cL_added 1 = .ok (.iload_n 1, 1) := by decide +kernel
theorem dL_added_2 : decode cL_added 2 = .ok (.iload_n 2, 1) := by decide +kernel
theorem dL_added_3 : decode cL_added 3 = .ok (.invokevirtual 58, 3) := by decide +kernel
theorem dL_added_6 : decode cL_added 6 = .ok (.ireturn, 1) := by decide +kernel
theorem dL_added_7 : decode cL_added 7 = .ok (.astore_n 3, 1) := by decide +kernel
theorem dL_added_8 : decode cL_added 8 = .ok (.bipush (-5), 2) := by decide +kernel
theorem dL_added_10 : decode cL_added 10 = .ok (.ireturn, 1) := by decide +kernel
theorem dL_added_11 : decode cL_added 11 = .ok (.astore_n 3, 1) := by decide +kernel
theorem dL_added_12 : decode cL_added 12 = .ok (.bipush (-2), 2) := by decide +kernel
theorem dL_added_14 : decode cL_added 14 = .ok (.ireturn, 1) := by decide +kernel
theorem dL_added_15 : decode cL_added 15 = .ok (.astore_n 3, 1) := by decide +kernel
theorem dL_added_16 : decode cL_added 16 = .ok (.bipush (-3), 2) := by decide +kernel
theorem dL_added_18 : decode cL_added 18 = .ok (.ireturn, 1) := by decide +kernel
theorem dL_timed_0 : decode cL_timed 0 = .ok (.aload_n 0, 1) := by decide +kernel
theorem dL_timed_1 : decode cL_timed 1 = .ok (.iload_n 1, 1) := by decide +kernel
theorem dL_timed_2 : decode cL_timed 2 = .ok (.iload_n 2, 1) := by decide +kernel
theorem dL_timed_3 : decode cL_timed 3 = .ok (.invokevirtual 62, 3) := by decide +kernel
theorem dL_timed_6 : decode cL_timed 6 = .ok (.ireturn, 1) := by decide +kernel
theorem dL_timed_7 : decode cL_timed 7 = .ok (.astore_n 3, 1) := by decide +kernel
theorem dL_timed_8 : decode cL_timed 8 = .ok (.bipush (-5), 2) := by decide +kernel
theorem dL_timed_10 : decode cL_timed 10 = .ok (.ireturn, 1) := by decide +kernel
theorem dL_timed_11 : decode cL_timed 11 = .ok (.astore_n 3, 1) := by decide +kernel
theorem dL_timed_12 : decode cL_timed 12 = .ok (.bipush (-2), 2) := by decide +kernel
theorem dL_timed_14 : decode cL_timed 14 = .ok (.ireturn, 1) := by decide +kernel
theorem dL_railway_0 : decode cL_railway 0 = .ok (.new 65, 3) := by decide +kernel
theorem dL_railway_3 : decode cL_railway 3 = .ok (.dup, 1) := by decide +kernel
theorem dL_railway_4 : decode cL_railway 4 = .ok (.ldc 67, 2) := by decide +kernel
theorem dL_railway_6 : decode cL_railway 6 = .ok (.invokespecial 69, 3) := by decide +kernel
theorem dL_railway_9 : decode cL_railway 9 = .ok (.astore_n 3, 1) := by decide +kernel
theorem dL_railway_10 : decode cL_railway 10 = .ok (.iconst 0, 1) := by decide +kernel
theorem dL_railway_11 : decode cL_railway 11 = .ok (.istore 4, 2) := by decide +kernel
theorem dL_railway_13 : decode cL_railway 13 = .ok (.iload 4, 2) := by decide +kernel
theorem dL_railway_15 : decode cL_railway 15 = .ok (.iload_n 0, 1) := by decide +kernel
theorem dL_railway_16 : decode cL_railway 16 = .ok (.if_icmp .ge 70, 3) := by decide +kernel
theorem dL_railway_19 : decode cL_railway 19 = .ok (.aload_n 3, 1) := by decide +kernel
theorem dL_railway_20 : decode cL_railway 20 = .ok (.ldc 72, 2) := by decide +kernel
theorem dL_railway_22 : decode cL_railway 22 = .ok (.invokevirtual 74, 3) := by decide +kernel
theorem dL_railway_25 : decode cL_railway 25 = .ok (.iconst 1, 1) := by decide +kernel
theorem dL_railway_26 : decode cL_railway 26 = .ok (.aload_n 2, 1) := by decide +kernel
theorem dL_railway_27 : decode cL_railway 27 = .ok (.invokestatic 77, 3) := by decide +kernel
theorem dL_railway_30 : decode cL_railway 30 = .ok (.bipush 12, 2) := by decide +kernel
theorem dL_railway_32 : decode cL_railway 32 = .ok (.irem, 1) := by decide +kernel
theorem dL_railway_33 : decode cL_railway 33 = .ok (.iadd, 1) := by decide +kernel
theorem dL_railway_34 : decode cL_railway 34 = .ok (.invokevirtual 81, 3) := by decide +kernel
theorem dL_railway_37 : decode cL_railway 37 = .ok (.bipush 32, 2) := by decide +kernel
theorem dL_railway_39 : decode cL_railway 39 = .ok (.invokevirtual 84, 3) := by decide +kernel
theorem dL_railway_42 : decode cL_railway 42 = .ok (.aload_n 2, 1) := by decide +kernel
theorem dL_railway_43 : decode cL_railway 43 = .ok (.invokestatic 77, 3) := by decide +kernel
theorem dL_railway_46 : decode cL_railway 46 = .ok (.bipush 10, 2) := by decide +kernel
theorem dL_railway_48 : decode cL_railway 48 = .ok (.irem, 1) := by decide +kernel
theorem dL_railway_49 : decode cL_railway 49 = .ok (.invokevirtual 81, 3) := by decide +kernel
theorem dL_railway_52 : decode cL_railway 52 = .ok (.pop, 1) := by decide +kernel
theorem dL_railway_53 : decode cL_railway 53 = .ok (.aload_n 2, 1) := by decide +kernel
theorem dL_railway_54 : decode cL_railway 54 = .ok (.invokestatic 77, 3) := by decide +kernel
theorem dL_railway_57 : decode cL_railway 57 = .ok (.iconst 3, 1) := by decide +kernel
theorem dL_railway_58 : decode cL_railway 58 = .ok (.irem, 1) := by decide +kernel
theorem dL_railway_59 : decode cL_railway 59 = .ok (.ifCond .ne 21, 3) := by decide +kernel
theorem dL_railway_62 : decode cL_railway 62 = .ok (.aload_n 3, 1) := by decide +kernel
theorem dL_railway_63 : decode cL_railway 63 = .ok (.ldc 87, 2) := by decide +kernel
theorem dL_railway_65 : decode cL_railway 65 = .ok (.invokevirtual 74, 3) := by decide +kernel
theorem dL_railway_68 : decode cL_railway 68 = .ok (.iconst 1, 1) := by decide +kernel
theorem dL_railway_69 : decode cL_railway 69 = .ok (.aload_n 2, 1) := by decide +kernel
theorem dL_railway_70 : decode cL_railway 70 = .ok (.invokestatic 77, 3) := by decide +kernel
theorem dL_railway_73 : decode cL_railway 73 = .ok (.iconst 5, 1) := by decide +kernel
theorem dL_railway_74 : decode cL_railway 74 = .ok (.irem, 1) := by decide +kernel
theorem dL_railway_75 : decode cL_railway 75 = .ok (.iadd, 1) := by decide +kernel
theorem dL_railway_76 : decode cL_railway 76 = .ok (.invokevirtual 81, 3) := by decide +kernel
theorem dL_railway_79 : decode cL_railway 79 = .ok (.pop, 1) := by decide +kernel
theorem dL_railway_80 : decode cL_railway 80 = .ok (.iinc 4 1, 3) := by decide +kernel
theorem dL_railway_83 : decode cL_railway 83 = .ok (.goto (-70), 3) := by decide +kernel
theorem dL_railway_86 : decode cL_railway 86 = .ok (.iconst 0, 1) := by decide +kernel
theorem dL_railway_87 : decode cL_railway 87 = .ok (.istore 4, 2) := by decide +kernel
theorem dL_railway_89 : decode cL_railway 89 = .ok (.iload 4, 2) := by decide +kernel
theorem dL_railway_91 : decode cL_railway 91 = .ok (.iload_n 1, 1) := by decide +kernel
theorem dL_railway_92 : decode cL_railway 92 = .ok (.if_icmp .ge 56, 3) := by decide +kernel
theorem dL_railway_95 : decode cL_railway 95 = .ok (.aload_n 3, 1) := by decide +kernel
theorem dL_railway_96 : decode cL_railway 96 = .ok (.ldc 89, 2) := by decide +kernel
theorem dL_railway_98 : decode cL_railway 98 = .ok (.invokevirtual 74, 3) := by decide +kernel
theorem dL_railway_101 : decode cL_railway 101 = .ok (.iconst 2, 1) := by decide +kernel
theorem dL_railway_102 : decode cL_railway 102 = .ok (.iload 4, 2) := by decide +kernel
theorem dL_railway_104 : decode cL_railway 104 = .ok (.imul, 1) := by decide +kernel
theorem dL_railway_105 : decode cL_railway 105 = .ok (.invokevirtual 81, 3) := by decide +kernel
theorem dL_railway_108 : decode cL_railway 108 = .ok (.bipush 32, 2) := by decide +kernel
theorem dL_railway_110 : decode cL_railway 110 = .ok (.invokevirtual 84, 3) := by decide +kernel
theorem dL_railway_113 : decode cL_railway 113 = .ok (.iconst 1, 1) := by decide +kernel
theorem dL_railway_114 : decode cL_railway 114 = .ok (.aload_n 2, 1) := by decide +kernel
theorem dL_railway_115 : decode cL_railway 115 = .ok (.invokestatic 77, 3) := by decide +kernel
theorem dL_railway_118 : decode cL_railway 118 = .ok (.bipush 12, 2) := by decide +kernel
theorem dL_railway_120 : decode cL_railway 120 = .ok (.irem, 1) := by decide +kernel
theorem dL_railway_121 : decode cL_railway 121 = .ok (.iadd, 1) := by decide +kernel
theorem dL_railway_122 : decode cL_railway 122 = .ok (.invokevirtual 81, 3) := by decide +kernel
theorem dL_railway_125 : decode cL_railway 125 = .ok (.bipush 32, 2) := by decide +kernel
theorem dL_railway_127 : decode cL_railway 127 = .ok (.invokevirtual 84, 3) := by decide +kernel
theorem dL_railway_130 : decode cL_railway 130 = .ok (.iconst 1, 1) := by decide +kernel
theorem dL_railway_131 : decode cL_railway 131 = .ok (.aload_n 2, 1) := by decide +kernel
theorem dL_railway_132 : decode cL_railway 132 = .ok (.invokestatic 77, 3) := by decide +kernel
theorem dL_railway_135 : decode cL_railway 135 = .ok (.iconst 5, 1) := by decide +kernel
theorem dL_railway_136 : decode cL_railway 136 = .ok (.irem, 1) := by decide +kernel
theorem dL_railway_137 : decode cL_railway 137 = .ok (.iadd, 1) := by decide +kernel
theorem dL_railway_138 : decode cL_railway 138 = .ok (.invokevirtual 81, 3) := by decide +kernel
theorem dL_railway_141 : decode cL_railway 141 = .ok (.pop, 1) := by decide +kernel
theorem dL_railway_142 : decode cL_railway 142 = .ok (.iinc 4 1, 3) := by decide +kernel
theorem dL_railway_145 : decode cL_railway 145 = .ok (.goto (-56), 3) := by decide +kernel
theorem dL_railway_148 : decode cL_railway 148 = .ok (.aload_n 3, 1) := by decide +kernel
theorem dL_railway_149 : decode cL_railway 149 = .ok (.invokevirtual 91, 3) := by decide +kernel
theorem dL_railway_152 : decode cL_railway 152 = .ok (.areturn, 1) := by decide +kernel
theorem dL_sum_0 : decode cL_sum 0 = .ok (.ldc2_w 95, 3) := by decide +kernel
theorem dL_sum_3 : decode cL_sum 3 = .ok (.aload_n 0, 1) := by decide +kernel
theorem dL_sum_4 : decode cL_sum 4 = .ok (.invokevirtual 97, 3) := by decide +kernel
theorem dL_sum_7 : decode cL_sum 7 = .ok (.i2l, 1) := by decide +kernel
theorem dL_sum_8 : decode cL_sum 8 = .ok (.lmul, 1) := by decide +kernel
theorem dL_sum_9 : decode cL_sum 9 = .ok (.aload_n 0, 1) := by decide +kernel
theorem dL_sum_10 : decode cL_sum 10 = .ok (.invokevirtual 100, 3) := by decide +kernel
theorem dL_sum_13 : decode cL_sum 13 = .ok (.i2l, 1) := by decide +kernel
theorem dL_sum_14 : decode cL_sum 14 = .ok (.ladd, 1) := by decide +kernel
theorem dL_sum_15 : decode cL_sum 15 = .ok (.lstore_n 1, 1) := by decide +kernel
theorem dL_sum_16 : decode cL_sum 16 = .ok (.iconst 0, 1) := by decide +kernel
theorem dL_sum_17 : decode cL_sum 17 = .ok (.istore_n 3, 1) := by decide +kernel
theorem dL_sum_18 : decode cL_sum 18 = .ok (.iload_n 3, 1) := by decide +kernel
theorem dL_sum_19 : decode cL_sum 19 = .ok (.aload_n 0, 1) := by decide +kernel
theorem dL_sum_20 : decode cL_sum 20 = .ok (.invokevirtual 103, 3) := by decide +kernel
theorem dL_sum_23 : decode cL_sum 23 = .ok (.if_icmp .ge 52, 3) := by decide +kernel
theorem dL_sum_26 : decode cL_sum 26 = .ok (.ldc2_w 95, 3) := by decide +kernel
theorem dL_sum_29 : decode cL_sum 29 = .ok (.ldc2_w 95, 3) := by decide +kernel
theorem dL_sum_32 : decode cL_sum 32 = .ok (.ldc2_w 95, 3) := by decide +kernel
theorem dL_sum_35 : decode cL_sum 35 = .ok (.lload_n 1, 1) := by decide +kernel
theorem dL_sum_36 : decode cL_sum 36 = .ok (.lmul, 1) := by decide +kernel
theorem dL_sum_37 : decode cL_sum 37 = .ok (.aload_n 0, 1) := by decide +kernel
theorem dL_sum_38 : decode cL_sum 38 = .ok (.iload_n 3, 1) := by decide +kernel
theorem dL_sum_39 : decode cL_sum 39 = .ok (.invokevirtual 106, 3) := by decide +kernel
theorem dL_sum_42 : decode cL_sum 42 = .ok (.i2l, 1) := by decide +kernel
theorem dL_sum_43 : decode cL_sum 43 = .ok (.ladd, 1) := by decide +kernel
theorem dL_sum_44 : decode cL_sum 44 = .ok (.lmul, 1) := by decide +kernel
theorem dL_sum_45 : decode cL_sum 45 = .ok (.aload_n 0, 1) := by decide +kernel
theorem dL_sum_46 : decode cL_sum 46 = .ok (.iload_n 3, 1) := by decide +kernel
theorem dL_sum_47 : decode cL_sum 47 = .ok (.invokevirtual 109, 3) := by decide +kernel
theorem dL_sum_50 : decode cL_sum 50 = .ok (.ifCond .eq 7, 3) := by decide +kernel
theorem dL_sum_53 : decode cL_sum 53 = .ok (.iconst 1, 1) := by decide +kernel
theorem dL_sum_54 : decode cL_sum 54 = .ok (.goto 4, 3) := by decide +kernel
theorem dL_sum_57 : decode cL_sum 57 = .ok (.iconst 0, 1) := by decide +kernel
theorem dL_sum_58 : decode cL_sum 58 = .ok (.i2l, 1) := by decide +kernel
theorem dL_sum_59 : decode cL_sum 59 = .ok (.ladd, 1) := by decide +kernel
theorem dL_sum_60 : decode cL_sum 60 = .ok (.lmul, 1) := by decide +kernel
theorem dL_sum_61 : decode cL_sum 61 = .ok (.aload_n 0, 1) := by decide +kernel
theorem dL_sum_62 : decode cL_sum 62 = .ok (.iload_n 3, 1) := by decide +kernel
theorem dL_sum_63 : decode cL_sum 63 = .ok (.invokevirtual 113, 3) := by decide +kernel
theorem dL_sum_66 : decode cL_sum 66 = .ok (.i2l, 1) := by decide +kernel
theorem dL_sum_67 : decode cL_sum 67 = .ok (.ladd, 1) := by decide +kernel
theorem dL_sum_68 : decode cL_sum 68 = .ok (.lstore_n 1, 1) := by decide +kernel
theorem dL_sum_69 : decode cL_sum 69 = .ok (.iinc 3 1, 3) := by decide +kernel
theorem dL_sum_72 : decode cL_sum 72 = .ok (.goto (-54), 3) := by decide +kernel
theorem dL_sum_75 : decode cL_sum 75 = .ok (.iconst 0, 1) := by decide +kernel
theorem dL_sum_76 : decode cL_sum 76 = .ok (.istore_n 3, 1) := by decide +kernel
theorem dL_sum_77 : decode cL_sum 77 = .ok (.iload_n 3, 1) := by decide +kernel
theorem dL_sum_78 : decode cL_sum 78 = .ok (.aload_n 0, 1) := by decide +kernel
theorem dL_sum_79 : decode cL_sum 79 = .ok (.invokevirtual 116, 3) := by decide +kernel
theorem dL_sum_82 : decode cL_sum 82 = .ok (.if_icmp .ge 101, 3) := by decide +kernel
theorem dL_sum_85 : decode cL_sum 85 = .ok (.ldc2_w 95, 3) := by decide +kernel
theorem dL_sum_88 : decode cL_sum 88 = .ok (.ldc2_w 95, 3) := by decide +kernel
theorem dL_sum_91 : decode cL_sum 91 = .ok (.ldc2_w 95, 3) := by decide +kernel
theorem dL_sum_94 : decode cL_sum 94 = .ok (.ldc2_w 95, 3) := by decide +kernel
theorem dL_sum_97 : decode cL_sum 97 = .ok (.lload_n 1, 1) := by decide +kernel
theorem dL_sum_98 : decode cL_sum 98 = .ok (.lmul, 1) := by decide +kernel
theorem dL_sum_99 : decode cL_sum 99 = .ok (.aload_n 0, 1) := by decide +kernel
theorem dL_sum_100 : decode cL_sum 100 = .ok (.iload_n 3, 1) := by decide +kernel
theorem dL_sum_101 : decode cL_sum 101 = .ok (.invokevirtual 119, 3) := by decide +kernel
theorem dL_sum_104 : decode cL_sum 104 = .ok (.i2l, 1) := by decide +kernel
theorem dL_sum_105 : decode cL_sum 105 = .ok (.ladd, 1) := by decide +kernel
theorem dL_sum_106 : decode cL_sum 106 = .ok (.lmul, 1) := by decide +kernel
theorem dL_sum_107 : decode cL_sum 107 = .ok (.aload_n 0, 1) := by decide +kernel
theorem dL_sum_108 : decode cL_sum 108 = .ok (.iload_n 3, 1) := by decide +kernel
theorem dL_sum_109 : decode cL_sum 109 = .ok (.invokevirtual 122, 3) := by decide +kernel
theorem dL_sum_112 : decode cL_sum 112 = .ok (.i2l, 1) := by decide +kernel
theorem dL_sum_113 : decode cL_sum 113 = .ok (.ladd, 1) := by decide +kernel
theorem dL_sum_114 : decode cL_sum 114 = .ok (.lmul, 1) := by decide +kernel
theorem dL_sum_115 : decode cL_sum 115 = .ok (.aload_n 0, 1) := by decide +kernel
theorem dL_sum_116 : decode cL_sum 116 = .ok (.iload_n 3, 1) := by decide +kernel
theorem dL_sum_117 : decode cL_sum 117 = .ok (.invokevirtual 125, 3) := by decide +kernel
theorem dL_sum_120 : decode cL_sum 120 = .ok (.i2l, 1) := by decide +kernel
theorem dL_sum_121 : decode cL_sum 121 = .ok (.ladd, 1) := by decide +kernel
theorem dL_sum_122 : decode cL_sum 122 = .ok (.lmul, 1) := by decide +kernel
theorem dL_sum_123 : decode cL_sum 123 = .ok (.aload_n 0, 1) := by decide +kernel
theorem dL_sum_124 : decode cL_sum 124 = .ok (.iload_n 3, 1) := by decide +kernel
theorem dL_sum_125 : decode cL_sum 125 = .ok (.invokevirtual 128, 3) := by decide +kernel
theorem dL_sum_128 : decode cL_sum 128 = .ok (.i2l, 1) := by decide +kernel
theorem dL_sum_129 : decode cL_sum 129 = .ok (.ladd, 1) := by decide +kernel
theorem dL_sum_130 : decode cL_sum 130 = .ok (.lstore_n 1, 1) := by decide +kernel
theorem dL_sum_131 : decode cL_sum 131 = .ok (.ldc2_w 95, 3) := by decide +kernel
theorem dL_sum_134 : decode cL_sum 134 = .ok (.lload_n 1, 1) := by decide +kernel
theorem dL_sum_135 : decode cL_sum 135 = .ok (.lmul, 1) := by decide +kernel
theorem dL_sum_136 : decode cL_sum 136 = .ok (.aload_n 0, 1) := by decide +kernel
theorem dL_sum_137 : decode cL_sum 137 = .ok (.iload_n 3, 1) := by decide +kernel
theorem dL_sum_138 : decode cL_sum 138 = .ok (.invokevirtual 131, 3) := by decide +kernel
theorem dL_sum_141 : decode cL_sum 141 = .ok (.i2l, 1) := by decide +kernel
theorem dL_sum_142 : decode cL_sum 142 = .ok (.ladd, 1) := by decide +kernel
theorem dL_sum_143 : decode cL_sum 143 = .ok (.lstore_n 1, 1) := by decide +kernel
theorem dL_sum_144 : decode cL_sum 144 = .ok (.iconst 0, 1) := by decide +kernel
theorem dL_sum_145 : decode cL_sum 145 = .ok (.istore 4, 2) := by decide +kernel
theorem dL_sum_147 : decode cL_sum 147 = .ok (.iload 4, 2) := by decide +kernel
theorem dL_sum_149 : decode cL_sum 149 = .ok (.aload_n 0, 1) := by decide +kernel
theorem dL_sum_150 : decode cL_sum 150 = .ok (.invokevirtual 103, 3) := by decide +kernel
theorem dL_sum_153 : decode cL_sum 153 = .ok (.if_icmp .ge 24, 3) := by decide +kernel
theorem dL_sum_156 : decode cL_sum 156 = .ok (.ldc2_w 95, 3) := by decide +kernel
theorem dL_sum_159 : decode cL_sum 159 = .ok (.lload_n 1, 1) := by decide +kernel
theorem dL_sum_160 : decode cL_sum 160 = .ok (.lmul, 1) := by decide +kernel
theorem dL_sum_161 : decode cL_sum 161 = .ok (.aload_n 0, 1) := by decide +kernel
theorem dL_sum_162 : decode cL_sum 162 = .ok (.iload_n 3, 1) := by decide +kernel
theorem dL_sum_163 : decode cL_sum 163 = .ok (.iload 4, 2) := by decide +kernel
theorem dL_sum_165 : decode cL_sum 165 = .ok (.invokevirtual 134, 3) := by decide +kernel
theorem dL_sum_168 : decode cL_sum 168 = .ok (.i2l, 1) := by decide +kernel
theorem dL_sum_169 : decode cL_sum 169 = .ok (.ladd, 1) := by decide +kernel
theorem dL_sum_170 : decode cL_sum 170 = .ok (.lstore_n 1, 1) := by decide +kernel
theorem dL_sum_171 : decode cL_sum 171 = .ok (.iinc 4 1, 3) := by decide +kernel
theorem dL_sum_174 : decode cL_sum 174 = .ok (.goto (-27), 3) := by decide +kernel
theorem dL_sum_177 : decode cL_sum 177 = .ok (.iinc 3 1, 3) := by decide +kernel
theorem dL_sum_180 : decode cL_sum 180 = .ok (.goto (-103), 3) := by decide +kernel
theorem dL_sum_183 : decode cL_sum 183 = .ok (.lload_n 1, 1) := by decide +kernel
theorem dL_sum_184 : decode cL_sum 184 = .ok (.lreturn, 1) := by decide +kernel
theorem dL_occupied_0 : decode cL_occupied 0 = .ok (.aload_n 0, 1) := by decide +kernel
theorem dL_occupied_1 : decode cL_occupied 1 = .ok (.iload_n 1, 1) := by decide +kernel
theorem dL_occupied_2 : decode cL_occupied 2 = .ok (.invokevirtual 137, 3) := by decide +kernel
theorem dL_occupied_5 : decode cL_occupied 5 = .ok (.ifCond .ge 11, 3) := by decide +kernel
theorem dL_occupied_8 : decode cL_occupied 8 = .ok (.aload_n 0, 1) := by decide +kernel
theorem dL_occupied_9 : decode cL_occupied 9 = .ok (.iload_n 1, 1) := by decide +kernel
theorem dL_occupied_10 : decode cL_occupied 10 = .ok (.invokevirtual 113, 3) := by decide +kernel
theorem dL_occupied_13 : decode cL_occupied 13 = .ok (.ifCond .le 7, 3) := by decide +kernel
theorem dL_occupied_16 : decode cL_occupied 16 = .ok (.iconst 1, 1) := by decide +kernel
theorem dL_occupied_17 : decode cL_occupied 17 = .ok (.goto 4, 3) := by decide +kernel
theorem dL_occupied_20 : decode cL_occupied 20 = .ok (.iconst 0, 1) := by decide +kernel
theorem dL_occupied_21 : decode cL_occupied 21 = .ok (.ireturn, 1) := by decide +kernel
theorem dL_blocks_0 : decode cL_blocks 0 = .ok (.iconst 0, 1) := by decide +kernel
theorem dL_blocks_1 : decode cL_blocks 1 = .ok (.istore_n 1, 1) := by decide +kernel
theorem dL_blocks_2 : decode cL_blocks 2 = .ok (.iconst 0, 1) := by decide +kernel
theorem dL_blocks_3 : decode cL_blocks 3 = .ok (.istore_n 2, 1) := by decide +kernel
theorem dL_blocks_4 : decode cL_blocks 4 = .ok (.iconst (-1), 1) := by decide +kernel
theorem dL_blocks_5 : decode cL_blocks 5 = .ok (.istore_n 3, 1) := by decide +kernel
theorem dL_blocks_6 : decode cL_blocks 6 = .ok (.iconst 0, 1) := by decide +kernel
theorem dL_blocks_7 : decode cL_blocks 7 = .ok (.istore 4, 2) := by decide +kernel
theorem dL_blocks_9 : decode cL_blocks 9 = .ok (.iconst 0, 1) := by decide +kernel
theorem dL_blocks_10 : decode cL_blocks 10 = .ok (.istore 5, 2) := by decide +kernel
theorem dL_blocks_12 : decode cL_blocks 12 = .ok (.iconst 0, 1) := by decide +kernel
theorem dL_blocks_13 : decode cL_blocks 13 = .ok (.istore 6, 2) := by decide +kernel
theorem dL_blocks_15 : decode cL_blocks 15 = .ok (.aload_n 0, 1) := by decide +kernel
theorem dL_blocks_16 : decode cL_blocks 16 = .ok (.invokevirtual 103, 3) := by decide +kernel
theorem dL_blocks_19 : decode cL_blocks 19 = .ok (.istore 7, 2) := by decide +kernel
theorem dL_blocks_21 : decode cL_blocks 21 = .ok (.aload_n 0, 1) := by decide +kernel
theorem dL_blocks_22 : decode cL_blocks 22 = .ok (.invokevirtual 140, 3) := by decide +kernel
theorem dL_blocks_25 : decode cL_blocks 25 = .ok (.ifCond .ne 14, 3) := by decide +kernel
theorem dL_blocks_28 : decode cL_blocks 28 = .ok (.aload_n 0, 1) := by decide +kernel
theorem dL_blocks_29 : decode cL_blocks 29 = .ok (.invokevirtual 143, 3) := by decide +kernel
theorem dL_blocks_32 : decode cL_blocks 32 = .ok (.ifCond .ne 7, 3) := by decide +kernel
theorem dL_blocks_35 : decode cL_blocks 35 = .ok (.iconst 1, 1) := by decide +kernel
theorem dL_blocks_36 : decode cL_blocks 36 = .ok (.goto 4, 3) := by decide +kernel
theorem dL_blocks_39 : decode cL_blocks 39 = .ok (.iconst 0, 1) := by decide +kernel
theorem dL_blocks_40 : decode cL_blocks 40 = .ok (.istore 8, 2) := by decide +kernel
theorem dL_blocks_42 : decode cL_blocks 42 = .ok (.iconst 0, 1) := by decide +kernel
theorem dL_blocks_43 : decode cL_blocks 43 = .ok (.istore 9, 2) := by decide +kernel
theorem dL_blocks_45 : decode cL_blocks 45 = .ok (.iload 9, 2) := by decide +kernel
theorem dL_blocks_47 : decode cL_blocks 47 = .ok (.iload 7, 2) := by decide +kernel
theorem dL_blocks_49 : decode cL_blocks 49 = .ok (.if_icmp .ge 309, 3) := by decide +kernel
theorem dL_blocks_52 : decode cL_blocks 52 = .ok (.iload 8, 2) := by decide +kernel
theorem dL_blocks_54 : decode cL_blocks 54 = .ok (.ifCond .eq 304, 3) := by decide +kernel
theorem dL_blocks_57 : decode cL_blocks 57 = .ok (.aload_n 0, 1) := by decide +kernel
theorem dL_blocks_58 : decode cL_blocks 58 = .ok (.iload 9, 2) := by decide +kernel
theorem dL_blocks_60 : decode cL_blocks 60 = .ok (.invokevirtual 137, 3) := by decide +kernel
theorem dL_blocks_63 : decode cL_blocks 63 = .ok (.istore 10, 2) := by decide +kernel
theorem dL_blocks_65 : decode cL_blocks 65 = .ok (.iload 9, 2) := by decide +kernel
theorem dL_blocks_67 : decode cL_blocks 67 = .ok (.iconst 1, 1) := by decide +kernel
theorem dL_blocks_68 : decode cL_blocks 68 = .ok (.iadd, 1) := by decide +kernel
theorem dL_blocks_69 : decode cL_blocks 69 = .ok (.iload 7, 2) := by decide +kernel
theorem dL_blocks_71 : decode cL_blocks 71 = .ok (.if_icmp .ne 7, 3) := by decide +kernel
theorem dL_blocks_74 : decode cL_blocks 74 = .ok (.iconst 0, 1) := by decide +kernel
theorem dL_blocks_75 : decode cL_blocks 75 = .ok (.goto 7, 3) := by decide +kernel
theorem dL_blocks_78 : decode cL_blocks 78 = .ok (.iload 9, 2) := by decide +kernel
theorem dL_blocks_80 : decode cL_blocks 80 = .ok (.iconst 1, 1) := by decide +kernel
theorem dL_blocks_81 : decode cL_blocks 81 = .ok (.iadd, 1) := by decide +kernel
theorem dL_blocks_82 : decode cL_blocks 82 = .ok (.istore 11, 2) := by decide +kernel
theorem dL_blocks_84 : decode cL_blocks 84 = .ok (.iload 10, 2) := by decide +kernel
theorem dL_blocks_86 : decode cL_blocks 86 = .ok (.ifCond .lt 7, 3) := by decide +kernel
theorem dL_blocks_89 : decode cL_blocks 89 = .ok (.iconst 1, 1) := by decide +kernel
theorem dL_blocks_90 : decode cL_blocks 90 = .ok (.goto 52, 3) := by decide +kernel
theorem dL_blocks_93 : decode cL_blocks 93 = .ok (.aload_n 0, 1) := by decide +kernel
theorem dL_blocks_94 : decode cL_blocks 94 = .ok (.iload 9, 2) := by decide +kernel
theorem dL_blocks_96 : decode cL_blocks 96 = .ok (.invokevirtual 113, 3) := by decide +kernel
theorem dL_blocks_99 : decode cL_blocks 99 = .ok (.ifCond .le 7, 3) := by decide +kernel
theorem dL_blocks_102 : decode cL_blocks 102 = .ok (.iconst 2, 1) := by decide +kernel
theorem dL_blocks_103 : decode cL_blocks 103 = .ok (.goto 39, 3) := by decide +kernel
theorem dL_blocks_106 : decode cL_blocks 106 = .ok (.aload_n 0, 1) := by decide +kernel
theorem dL_blocks_107 : decode cL_blocks 107 = .ok (.iload 9, 2) := by decide +kernel
theorem dL_blocks_109 : decode cL_blocks 109 = .ok (.invokevirtual 109, 3) := by decide +kernel
theorem dL_blocks_112 : decode cL_blocks 112 = .ok (.ifCond .eq 7, 3) := by decide +kernel
theorem dL_blocks_115 : decode cL_blocks 115 = .ok (.iconst 3, 1) := by decide +kernel
theorem dL_blocks_116 : decode cL_blocks 116 = .ok (.goto 26, 3) := by decide +kernel
theorem dL_blocks_119 : decode cL_blocks 119 = .ok (.aload_n 0, 1) := by decide +kernel
theorem dL_blocks_120 : decode cL_blocks 120 = .ok (.iload 9, 2) := by decide +kernel
theorem dL_blocks_122 : decode cL_blocks 122 = .ok (.invokevirtual 146, 3) := by decide +kernel
theorem dL_blocks_125 : decode cL_blocks 125 = .ok (.ifCond .eq 16, 3) := by decide +kernel
theorem dL_blocks_128 : decode cL_blocks 128 = .ok (.aload_n 0, 1) := by decide +kernel
theorem dL_blocks_129 : decode cL_blocks 129 = .ok (.iload 11, 2) := by decide +kernel
theorem dL_blocks_131 : decode cL_blocks 131 = .ok (.invokestatic 149, 3) := by decide +kernel
theorem dL_blocks_134 : decode cL_blocks 134 = .ok (.ifCond .eq 7, 3) := by decide +kernel
theorem dL_blocks_137 : decode cL_blocks 137 = .ok (.iconst 4, 1) := by decide +kernel
theorem dL_blocks_138 : decode cL_blocks 138 = .ok (.goto 4, 3) := by decide +kernel
theorem dL_blocks_141 : decode cL_blocks 141 = .ok (.iconst 0, 1) := by decide +kernel
theorem dL_blocks_142 : decode cL_blocks 142 = .ok (.istore 12, 2) := by decide +kernel
theorem dL_blocks_144 : decode cL_blocks 144 = .ok (.iconst 0, 1) := by decide +kernel
theorem dL_blocks_145 : decode cL_blocks 145 = .ok (.istore 13, 2) := by decide +kernel
theorem dL_blocks_147 : decode cL_blocks 147 = .ok (.iconst 0, 1) := by decide +kernel
theorem dL_blocks_148 : decode cL_blocks 148 = .ok (.istore 14, 2) := by decide +kernel
theorem dL_blocks_150 : decode cL_blocks 150 = .ok (.iload 14, 2) := by decide +kernel
theorem dL_blocks_152 : decode cL_blocks 152 = .ok (.aload_n 0, 1) := by decide +kernel
theorem dL_blocks_153 : decode cL_blocks 153 = .ok (.invokevirtual 116, 3) := by decide +kernel
theorem dL_blocks_156 : decode cL_blocks 156 = .ok (.if_icmp .ge 22, 3) := by decide +kernel
theorem dL_blocks_159 : decode cL_blocks 159 = .ok (.iload 13, 2) := by decide +kernel
theorem dL_blocks_161 : decode cL_blocks 161 = .ok (.aload_n 0, 1) := by decide +kernel
theorem dL_blocks_162 : decode cL_blocks 162 = .ok (.iload 14, 2) := by decide +kernel
theorem dL_blocks_164 : decode cL_blocks 164 = .ok (.iload 9, 2) := by decide +kernel
theorem dL_blocks_166 : decode cL_blocks 166 = .ok (.invokevirtual 134, 3) := by decide +kernel
