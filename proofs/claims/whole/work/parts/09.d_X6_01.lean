theorem dX6_next_90 : decode cX6_next 90 = .ok (.aload_n 0, 1) := by decide +kernel
theorem dX6_next_91 : decode cX6_next 91 = .ok (.getfield 104, 3) := by decide +kernel
theorem dX6_next_94 : decode cX6_next 94 = .ok (.if_icmp .ne 7, 3) := by decide +kernel
theorem dX6_next_97 : decode cX6_next 97 = .ok (.iconst 1, 1) := by decide +kernel
theorem dX6_next_98 : decode cX6_next 98 = .ok (.goto 4, 3) := by decide +kernel
theorem dX6_next_101 : decode cX6_next 101 = .ok (.iconst 0, 1) := by decide +kernel
theorem dX6_next_102 : decode cX6_next 102 = .ok (.istore_n 2, 1) := by decide +kernel
theorem dX6_next_103 : decode cX6_next 103 = .ok (.aload_n 0, 1) := by decide +kernel
theorem dX6_next_104 : decode cX6_next 104 = .ok (.aload_n 0, 1) := by decide +kernel
theorem dX6_next_105 : decode cX6_next 105 = .ok (.getfield 107, 3) := by decide +kernel
theorem dX6_next_108 : decode cX6_next 108 = .ok (.putfield 104, 3) := by decide +kernel
theorem dX6_next_111 : decode cX6_next 111 = .ok (.aload_n 0, 1) := by decide +kernel
theorem dX6_next_112 : decode cX6_next 112 = .ok (.getfield 107, 3) := by decide +kernel
theorem dX6_next_115 : decode cX6_next 115 = .ok (.aload_n 0, 1) := by decide +kernel
theorem dX6_next_116 : decode cX6_next 116 = .ok (.getfield 110, 3) := by decide +kernel
theorem dX6_next_119 : decode cX6_next 119 = .ok (.if_icmp .ne 11, 3) := by decide +kernel
theorem dX6_next_122 : decode cX6_next 122 = .ok (.aload_n 0, 1) := by decide +kernel
theorem dX6_next_123 : decode cX6_next 123 = .ok (.iconst 0, 1) := by decide +kernel
theorem dX6_next_124 : decode cX6_next 124 = .ok (.putfield 101, 3) := by decide +kernel
theorem dX6_next_127 : decode cX6_next 127 = .ok (.goto 82, 3) := by decide +kernel
theorem dX6_next_130 : decode cX6_next 130 = .ok (.aload_n 0, 1) := by decide +kernel
theorem dX6_next_131 : decode cX6_next 131 = .ok (.getfield 25, 3) := by decide +kernel
theorem dX6_next_134 : decode cX6_next 134 = .ok (.aload_n 0, 1) := by decide +kernel
theorem dX6_next_135 : decode cX6_next 135 = .ok (.getfield 107, 3) := by decide +kernel
theorem dX6_next_138 : decode cX6_next 138 = .ok (.baload, 1) := by decide +kernel
theorem dX6_next_139 : decode cX6_next 139 = .ok (.invokestatic 113, 3) := by decide +kernel
theorem dX6_next_142 : decode cX6_next 142 = .ok (.ifCond .eq 11, 3) := by decide +kernel
theorem dX6_next_145 : decode cX6_next 145 = .ok (.aload_n 0, 1) := by decide +kernel
theorem dX6_next_146 : decode cX6_next 146 = .ok (.iload_n 2, 1) := by decide +kernel
theorem dX6_next_147 : decode cX6_next 147 = .ok (.invokevirtual 116, 3) := by decide +kernel
theorem dX6_next_150 : decode cX6_next 150 = .ok (.goto 59, 3) := by decide +kernel
theorem dX6_next_153 : decode cX6_next 153 = .ok (.aload_n 0, 1) := by decide +kernel
theorem dX6_next_154 : decode cX6_next 154 = .ok (.getfield 25, 3) := by decide +kernel
theorem dX6_next_157 : decode cX6_next 157 = .ok (.aload_n 0, 1) := by decide +kernel
theorem dX6_next_158 : decode cX6_next 158 = .ok (.getfield 107, 3) := by decide +kernel
theorem dX6_next_161 : decode cX6_next 161 = .ok (.baload, 1) := by decide +kernel
theorem dX6_next_162 : decode cX6_next 162 = .ok (.invokestatic 120, 3) := by decide +kernel
theorem dX6_next_165 : decode cX6_next 165 = .ok (.ifCond .eq 11, 3) := by decide +kernel
theorem dX6_next_168 : decode cX6_next 168 = .ok (.aload_n 0, 1) := by decide +kernel
theorem dX6_next_169 : decode cX6_next 169 = .ok (.iload_n 2, 1) := by decide +kernel
theorem dX6_next_170 : decode cX6_next 170 = .ok (.invokevirtual 123, 3) := by decide +kernel
theorem dX6_next_173 : decode cX6_next 173 = .ok (.goto 36, 3) := by decide +kernel
theorem dX6_next_176 : decode cX6_next 176 = .ok (.aload_n 0, 1) := by decide +kernel
theorem dX6_next_177 : decode cX6_next 177 = .ok (.aload_n 0, 1) := by decide +kernel
theorem dX6_next_178 : decode cX6_next 178 = .ok (.getfield 107, 3) := by decide +kernel
theorem dX6_next_181 : decode cX6_next 181 = .ok (.iconst 1, 1) := by decide +kernel
theorem dX6_next_182 : decode cX6_next 182 = .ok (.iadd, 1) := by decide +kernel
theorem dX6_next_183 : decode cX6_next 183 = .ok (.putfield 104, 3) := by decide +kernel
theorem dX6_next_186 : decode cX6_next 186 = .ok (.aload_n 0, 1) := by decide +kernel
theorem dX6_next_187 : decode cX6_next 187 = .ok (.aload_n 0, 1) := by decide +kernel
theorem dX6_next_188 : decode cX6_next 188 = .ok (.getfield 25, 3) := by decide +kernel
theorem dX6_next_191 : decode cX6_next 191 = .ok (.aload_n 0, 1) := by decide +kernel
theorem dX6_next_192 : decode cX6_next 192 = .ok (.getfield 107, 3) := by decide +kernel
theorem dX6_next_195 : decode cX6_next 195 = .ok (.baload, 1) := by decide +kernel
theorem dX6_next_196 : decode cX6_next 196 = .ok (.bipush 59, 2) := by decide +kernel
theorem dX6_next_198 : decode cX6_next 198 = .ok (.if_icmp .ne 7, 3) := by decide +kernel
theorem dX6_next_201 : decode cX6_next 201 = .ok (.iconst 3, 1) := by decide +kernel
theorem dX6_next_202 : decode cX6_next 202 = .ok (.goto 4, 3) := by decide +kernel
theorem dX6_next_205 : decode cX6_next 205 = .ok (.iconst 4, 1) := by decide +kernel
theorem dX6_next_206 : decode cX6_next 206 = .ok (.putfield 101, 3) := by decide +kernel
theorem dX6_next_209 : decode cX6_next 209 = .ok (.return_, 1) := by decide +kernel
theorem dX6_scansWord_0 : decode cX6_scansWord 0 = .ok (.aload_n 0, 1) := by decide +kernel
theorem dX6_scansWord_1 : decode cX6_scansWord 1 = .ok (.getfield 104, 3) := by decide +kernel
theorem dX6_scansWord_4 : decode cX6_scansWord 4 = .ok (.aload_n 0, 1) := by decide +kernel
theorem dX6_scansWord_5 : decode cX6_scansWord 5 = .ok (.getfield 110, 3) := by decide +kernel
theorem dX6_scansWord_8 : decode cX6_scansWord 8 = .ok (.if_icmp .ge 31, 3) := by decide +kernel
theorem dX6_scansWord_11 : decode cX6_scansWord 11 = .ok (.aload_n 0, 1) := by decide +kernel
theorem dX6_scansWord_12 : decode cX6_scansWord 12 = .ok (.getfield 25, 3) := by decide +kernel
theorem dX6_scansWord_15 : decode cX6_scansWord 15 = .ok (.aload_n 0, 1) := by decide +kernel
theorem dX6_scansWord_16 : decode cX6_scansWord 16 = .ok (.getfield 104, 3) := by decide +kernel
theorem dX6_scansWord_19 : decode cX6_scansWord 19 = .ok (.baload, 1) := by decide +kernel
theorem dX6_scansWord_20 : decode cX6_scansWord 20 = .ok (.invokestatic 113, 3) := by decide +kernel
theorem dX6_scansWord_23 : decode cX6_scansWord 23 = .ok (.ifCond .eq 16, 3) := by decide +kernel
theorem dX6_scansWord_26 : decode cX6_scansWord 26 = .ok (.aload_n 0, 1) := by decide +kernel
theorem dX6_scansWord_27 : decode cX6_scansWord 27 = .ok (.dup, 1) := by decide +kernel
theorem dX6_scansWord_28 : decode cX6_scansWord 28 = .ok (.getfield 104, 3) := by decide +kernel
theorem dX6_scansWord_31 : decode cX6_scansWord 31 = .ok (.iconst 1, 1) := by decide +kernel
theorem dX6_scansWord_32 : decode cX6_scansWord 32 = .ok (.iadd, 1) := by decide +kernel
theorem dX6_scansWord_33 : decode cX6_scansWord 33 = .ok (.putfield 104, 3) := by decide +kernel
theorem dX6_scansWord_36 : decode cX6_scansWord 36 = .ok (.goto (-36), 3) := by decide +kernel
theorem dX6_scansWord_39 : decode cX6_scansWord 39 = .ok (.aload_n 0, 1) := by decide +kernel
theorem dX6_scansWord_40 : decode cX6_scansWord 40 = .ok (.iconst 1, 1) := by decide +kernel
theorem dX6_scansWord_41 : decode cX6_scansWord 41 = .ok (.putfield 101, 3) := by decide +kernel
theorem dX6_scansWord_44 : decode cX6_scansWord 44 = .ok (.iload_n 1, 1) := by decide +kernel
theorem dX6_scansWord_45 : decode cX6_scansWord 45 = .ok (.ifCond .eq 8, 3) := by decide +kernel
theorem dX6_scansWord_48 : decode cX6_scansWord 48 = .ok (.aload_n 0, 1) := by decide +kernel
theorem dX6_scansWord_49 : decode cX6_scansWord 49 = .ok (.iconst 4, 1) := by decide +kernel
theorem dX6_scansWord_50 : decode cX6_scansWord 50 = .ok (.putfield 101, 3) := by decide +kernel
theorem dX6_scansWord_53 : decode cX6_scansWord 53 = .ok (.return_, 1) := by decide +kernel
theorem dX6_scansNumber_0 : decode cX6_scansNumber 0 = .ok (.aload_n 0, 1) := by decide +kernel
theorem dX6_scansNumber_1 : decode cX6_scansNumber 1 = .ok (.iconst 0, 1) := by decide +kernel
theorem dX6_scansNumber_2 : decode cX6_scansNumber 2 = .ok (.putfield 126, 3) := by decide +kernel
theorem dX6_scansNumber_5 : decode cX6_scansNumber 5 = .ok (.aload_n 0, 1) := by decide +kernel
theorem dX6_scansNumber_6 : decode cX6_scansNumber 6 = .ok (.getfield 104, 3) := by decide +kernel
theorem dX6_scansNumber_9 : decode cX6_scansNumber 9 = .ok (.aload_n 0, 1) := by decide +kernel
theorem dX6_scansNumber_10 : decode cX6_scansNumber 10 = .ok (.getfield 110, 3) := by decide +kernel
theorem dX6_scansNumber_13 : decode cX6_scansNumber 13 = .ok (.if_icmp .ge 68, 3) := by decide +kernel
theorem dX6_scansNumber_16 : decode cX6_scansNumber 16 = .ok (.aload_n 0, 1) := by decide +kernel
theorem dX6_scansNumber_17 : decode cX6_scansNumber 17 = .ok (.getfield 25, 3) := by decide +kernel
theorem dX6_scansNumber_20 : decode cX6_scansNumber 20 = .ok (.aload_n 0, 1) := by decide +kernel
theorem dX6_scansNumber_21 : decode cX6_scansNumber 21 = .ok (.getfield 104, 3) := by decide +kernel
theorem dX6_scansNumber_24 : decode cX6_scansNumber 24 = .ok (.baload, 1) := by decide +kernel
theorem dX6_scansNumber_25 : decode cX6_scansNumber 25 = .ok (.invokestatic 120, 3) := by decide +kernel
theorem dX6_scansNumber_28 : decode cX6_scansNumber 28 = .ok (.ifCond .eq 53, 3) := by decide +kernel
theorem dX6_scansNumber_31 : decode cX6_scansNumber 31 = .ok (.aload_n 0, 1) := by decide +kernel
theorem dX6_scansNumber_32 : decode cX6_scansNumber 32 = .ok (.getfield 104, 3) := by decide +kernel
theorem dX6_scansNumber_35 : decode cX6_scansNumber 35 = .ok (.aload_n 0, 1) := by decide +kernel
theorem dX6_scansNumber_36 : decode cX6_scansNumber 36 = .ok (.getfield 107, 3) := by decide +kernel
theorem dX6_scansNumber_39 : decode cX6_scansNumber 39 = .ok (.isub, 1) := by decide +kernel
theorem dX6_scansNumber_40 : decode cX6_scansNumber 40 = .ok (.iconst 3, 1) := by decide +kernel
theorem dX6_scansNumber_41 : decode cX6_scansNumber 41 = .ok (.if_icmp .ge 27, 3) := by decide +kernel
theorem dX6_scansNumber_44 : decode cX6_scansNumber 44 = .ok (.aload_n 0, 1) := by decide +kernel
theorem dX6_scansNumber_45 : decode cX6_scansNumber 45 = .ok (.bipush 10, 2) := by decide +kernel
theorem dX6_scansNumber_47 : decode cX6_scansNumber 47 = .ok (.aload_n 0, 1) := by decide +kernel
theorem dX6_scansNumber_48 : decode cX6_scansNumber 48 = .ok (.getfield 126, 3) := by decide +kernel
theorem dX6_scansNumber_51 : decode cX6_scansNumber 51 = .ok (.imul, 1) := by decide +kernel
theorem dX6_scansNumber_52 : decode cX6_scansNumber 52 = .ok (.aload_n 0, 1) := by decide +kernel
theorem dX6_scansNumber_53 : decode cX6_scansNumber 53 = .ok (.getfield 25, 3) := by decide +kernel
theorem dX6_scansNumber_56 : decode cX6_scansNumber 56 = .ok (.aload_n 0, 1) := by decide +kernel
theorem dX6_scansNumber_57 : decode cX6_scansNumber 57 = .ok (.getfield 104, 3) := by decide +kernel
theorem dX6_scansNumber_60 : decode cX6_scansNumber 60 = .ok (.baload, 1) := by decide +kernel
theorem dX6_scansNumber_61 : decode cX6_scansNumber 61 = .ok (.iadd, 1) := by decide +kernel
theorem dX6_scansNumber_62 : decode cX6_scansNumber 62 = .ok (.bipush 48, 2) := by decide +kernel
theorem dX6_scansNumber_64 : decode cX6_scansNumber 64 = .ok (.isub, 1) := by decide +kernel
theorem dX6_scansNumber_65 : decode cX6_scansNumber 65 = .ok (.putfield 126, 3) := by decide +kernel
theorem dX6_scansNumber_68 : decode cX6_scansNumber 68 = .ok (.aload_n 0, 1) := by decide +kernel
theorem dX6_scansNumber_69 : decode cX6_scansNumber 69 = .ok (.dup, 1) := by decide +kernel
theorem dX6_scansNumber_70 : decode cX6_scansNumber 70 = .ok (.getfield 104, 3) := by decide +kernel
theorem dX6_scansNumber_73 : decode cX6_scansNumber 73 = .ok (.iconst 1, 1) := by decide +kernel
theorem dX6_scansNumber_74 : decode cX6_scansNumber 74 = .ok (.iadd, 1) := by decide +kernel
theorem dX6_scansNumber_75 : decode cX6_scansNumber 75 = .ok (.putfield 104, 3) := by decide +kernel
theorem dX6_scansNumber_78 : decode cX6_scansNumber 78 = .ok (.goto (-73), 3) := by decide +kernel
theorem dX6_scansNumber_81 : decode cX6_scansNumber 81 = .ok (.aload_n 0, 1) := by decide +kernel
theorem dX6_scansNumber_82 : decode cX6_scansNumber 82 = .ok (.iconst 2, 1) := by decide +kernel
theorem dX6_scansNumber_83 : decode cX6_scansNumber 83 = .ok (.putfield 101, 3) := by decide +kernel
theorem dX6_scansNumber_86 : decode cX6_scansNumber 86 = .ok (.iload_n 1, 1) := by decide +kernel
theorem dX6_scansNumber_87 : decode cX6_scansNumber 87 = .ok (.ifCond .ne 16, 3) := by decide +kernel
theorem dX6_scansNumber_90 : decode cX6_scansNumber 90 = .ok (.aload_n 0, 1) := by decide +kernel
theorem dX6_scansNumber_91 : decode cX6_scansNumber 91 = .ok (.getfield 104, 3) := by decide +kernel
theorem dX6_scansNumber_94 : decode cX6_scansNumber 94 = .ok (.aload_n 0, 1) := by decide +kernel
theorem dX6_scansNumber_95 : decode cX6_scansNumber 95 = .ok (.getfield 107, 3) := by decide +kernel
theorem dX6_scansNumber_98 : decode cX6_scansNumber 98 = .ok (.isub, 1) := by decide +kernel
theorem dX6_scansNumber_99 : decode cX6_scansNumber 99 = .ok (.iconst 3, 1) := by decide +kernel
theorem dX6_scansNumber_100 : decode cX6_scansNumber 100 = .ok (.if_icmp .le 8, 3) := by decide +kernel
theorem dX6_scansNumber_103 : decode cX6_scansNumber 103 = .ok (.aload_n 0, 1) := by decide +kernel
theorem dX6_scansNumber_104 : decode cX6_scansNumber 104 = .ok (.iconst 4, 1) := by decide +kernel
theorem dX6_scansNumber_105 : decode cX6_scansNumber 105 = .ok (.putfield 101, 3) := by decide +kernel
theorem dX6_scansNumber_108 : decode cX6_scansNumber 108 = .ok (.return_, 1) := by decide +kernel
theorem dX6_errs_0 : decode cX6_errs 0 = .ok (.aload_n 0, 1) := by decide +kernel
theorem dX6_errs_1 : decode cX6_errs 1 = .ok (.getfield 129, 3) := by decide +kernel
theorem dX6_errs_4 : decode cX6_errs 4 = .ok (.ifCond .ne 16, 3) := by decide +kernel
theorem dX6_errs_7 : decode cX6_errs 7 = .ok (.aload_n 0, 1) := by decide +kernel
theorem dX6_errs_8 : decode cX6_errs 8 = .ok (.iload_n 1, 1) := by decide +kernel
theorem dX6_errs_9 : decode cX6_errs 9 = .ok (.putfield 129, 3) := by decide +kernel
theorem dX6_errs_12 : decode cX6_errs 12 = .ok (.aload_n 0, 1) := by decide +kernel
theorem dX6_errs_13 : decode cX6_errs 13 = .ok (.aload_n 0, 1) := by decide +kernel
theorem dX6_errs_14 : decode cX6_errs 14 = .ok (.getfield 107, 3) := by decide +kernel
theorem dX6_errs_17 : decode cX6_errs 17 = .ok (.putfield 132, 3) := by decide +kernel
theorem dX6_errs_20 : decode cX6_errs 20 = .ok (.return_, 1) := by decide +kernel
theorem dX6_isKey_0 : decode cX6_isKey 0 = .ok (.aload_n 0, 1) := by decide +kernel
theorem dX6_isKey_1 : decode cX6_isKey 1 = .ok (.getfield 101, 3) := by decide +kernel
theorem dX6_isKey_4 : decode cX6_isKey 4 = .ok (.iconst 1, 1) := by decide +kernel
theorem dX6_isKey_5 : decode cX6_isKey 5 = .ok (.if_icmp .ne 17, 3) := by decide +kernel
theorem dX6_isKey_8 : decode cX6_isKey 8 = .ok (.aload_n 0, 1) := by decide +kernel
theorem dX6_isKey_9 : decode cX6_isKey 9 = .ok (.getfield 104, 3) := by decide +kernel
theorem dX6_isKey_12 : decode cX6_isKey 12 = .ok (.aload_n 0, 1) := by decide +kernel
theorem dX6_isKey_13 : decode cX6_isKey 13 = .ok (.getfield 107, 3) := by decide +kernel
theorem dX6_isKey_16 : decode cX6_isKey 16 = .ok (.isub, 1) := by decide +kernel
theorem dX6_isKey_17 : decode cX6_isKey 17 = .ok (.bipush 7, 2) := by decide +kernel
theorem dX6_isKey_19 : decode cX6_isKey 19 = .ok (.if_icmp .le 5, 3) := by decide +kernel
theorem dX6_isKey_22 : decode cX6_isKey 22 = .ok (.iconst 0, 1) := by decide +kernel
theorem dX6_isKey_23 : decode cX6_isKey 23 = .ok (.ireturn, 1) := by decide +kernel
theorem dX6_isKey_24 : decode cX6_isKey 24 = .ok (.iconst 0, 1) := by decide +kernel
theorem dX6_isKey_25 : decode cX6_isKey 25 = .ok (.istore_n 2, 1) := by decide +kernel
theorem dX6_isKey_26 : decode cX6_isKey 26 = .ok (.iload_n 2, 1) := by decide +kernel
theorem dX6_isKey_27 : decode cX6_isKey 27 = .ok (.bipush 7, 2) := by decide +kernel
theorem dX6_isKey_29 : decode cX6_isKey 29 = .ok (.if_icmp .ge 55, 3) := by decide +kernel
theorem dX6_isKey_32 : decode cX6_isKey 32 = .ok (.iload_n 2, 1) := by decide +kernel
theorem dX6_isKey_33 : decode cX6_isKey 33 = .ok (.aload_n 0, 1) := by decide +kernel
theorem dX6_isKey_34 : decode cX6_isKey 34 = .ok (.getfield 104, 3) := by decide +kernel
theorem dX6_isKey_37 : decode cX6_isKey 37 = .ok (.aload_n 0, 1) := by decide +kernel
theorem dX6_isKey_38 : decode cX6_isKey 38 = .ok (.getfield 107, 3) := by decide +kernel
theorem dX6_isKey_41 : decode cX6_isKey 41 = .ok (.isub, 1) := by decide +kernel
theorem dX6_isKey_42 : decode cX6_isKey 42 = .ok (.if_icmp .ge 17, 3) := by decide +kernel
theorem dX6_isKey_45 : decode cX6_isKey 45 = .ok (.aload_n 0, 1) := by decide +kernel
theorem dX6_isKey_46 : decode cX6_isKey 46 = .ok (.getfield 25, 3) := by decide +kernel
theorem dX6_isKey_49 : decode cX6_isKey 49 = .ok (.aload_n 0, 1) := by decide +kernel
theorem dX6_isKey_50 : decode cX6_isKey 50 = .ok (.getfield 107, 3) := by decide +kernel
theorem dX6_isKey_53 : decode cX6_isKey 53 = .ok (.iload_n 2, 1) := by decide +kernel
theorem dX6_isKey_54 : decode cX6_isKey 54 = .ok (.iadd, 1) := by decide +kernel
theorem dX6_isKey_55 : decode cX6_isKey 55 = .ok (.baload, 1) := by decide +kernel
theorem dX6_isKey_56 : decode cX6_isKey 56 = .ok (.goto 4, 3) := by decide +kernel
theorem dX6_isKey_59 : decode cX6_isKey 59 = .ok (.iconst 0, 1) := by decide +kernel
theorem dX6_isKey_60 : decode cX6_isKey 60 = .ok (.istore_n 3, 1) := by decide +kernel
theorem dX6_isKey_61 : decode cX6_isKey 61 = .ok (.iload_n 3, 1) := by decide +kernel
theorem dX6_isKey_62 : decode cX6_isKey 62 = .ok (.aload_n 0, 1) := by decide +kernel
theorem dX6_isKey_63 : decode cX6_isKey 63 = .ok (.getfield 7, 3) := by decide +kernel
theorem dX6_isKey_66 : decode cX6_isKey 66 = .ok (.bipush 7, 2) := by decide +kernel
theorem dX6_isKey_68 : decode cX6_isKey 68 = .ok (.iload_n 1, 1) := by decide +kernel
theorem dX6_isKey_69 : decode cX6_isKey 69 = .ok (.imul, 1) := by decide +kernel
theorem dX6_isKey_70 : decode cX6_isKey 70 = .ok (.iload_n 2, 1) := by decide +kernel
theorem dX6_isKey_71 : decode cX6_isKey 71 = .ok (.iadd, 1) := by decide +kernel
theorem dX6_isKey_72 : decode cX6_isKey 72 = .ok (.iaload, 1) := by decide +kernel
theorem dX6_isKey_73 : decode cX6_isKey 73 = .ok (.if_icmp .eq 5, 3) := by decide +kernel
theorem dX6_isKey_76 : decode cX6_isKey 76 = .ok (.iconst 0, 1) := by decide +kernel
theorem dX6_isKey_77 : decode cX6_isKey 77 = .ok (.ireturn, 1) := by decide +kernel
theorem dX6_isKey_78 : decode cX6_isKey 78 = .ok (.iinc 2 1, 3) := by decide +kernel
theorem dX6_isKey_81 : decode cX6_isKey 81 = .ok (.goto (-55), 3) := by decide +kernel
theorem dX6_isKey_84 : decode cX6_isKey 84 = .ok (.iconst 1, 1) := by decide +kernel
theorem dX6_isKey_85 : decode cX6_isKey 85 = .ok (.ireturn, 1) := by decide +kernel
theorem dX6_goesOn_0 : decode cX6_goesOn 0 = .ok (.aload_n 0, 1) := by decide +kernel
theorem dX6_goesOn_1 : decode cX6_goesOn 1 = .ok (.getfield 129, 3) := by decide +kernel
theorem dX6_goesOn_4 : decode cX6_goesOn 4 = .ok (.ifCond .ne 7, 3) := by decide +kernel
theorem dX6_goesOn_7 : decode cX6_goesOn 7 = .ok (.aload_n 0, 1) := by decide +kernel
theorem dX6_goesOn_8 : decode cX6_goesOn 8 = .ok (.invokevirtual 135, 3) := by decide +kernel
theorem dX6_goesOn_11 : decode cX6_goesOn 11 = .ok (.return_, 1) := by decide +kernel
theorem dX6_here_0 : decode cX6_here 0 = .ok (.aload_n 0, 1) := by decide +kernel
theorem dX6_here_1 : decode cX6_here 1 = .ok (.getfield 129, 3) := by decide +kernel
theorem dX6_here_4 : decode cX6_here 4 = .ok (.ifCond .ne 16, 3) := by decide +kernel
theorem dX6_here_7 : decode cX6_here 7 = .ok (.aload_n 0, 1) := by decide +kernel
theorem dX6_here_8 : decode cX6_here 8 = .ok (.getfield 101, 3) := by decide +kernel
theorem dX6_here_11 : decode cX6_here 11 = .ok (.iconst 2, 1) := by decide +kernel
theorem dX6_here_12 : decode cX6_here 12 = .ok (.if_icmp .eq 8, 3) := by decide +kernel
theorem dX6_here_15 : decode cX6_here 15 = .ok (.aload_n 0, 1) := by decide +kernel
theorem dX6_here_16 : decode cX6_here 16 = .ok (.iconst 1, 1) := by decide +kernel
theorem dX6_here_17 : decode cX6_here 17 = .ok (.invokevirtual 138, 3) := by decide +kernel
theorem dX6_here_20 : decode cX6_here 20 = .ok (.aload_n 0, 1) := by decide +kernel
theorem dX6_here_21 : decode cX6_here 21 = .ok (.getfield 129, 3) := by decide +kernel
theorem dX6_here_24 : decode cX6_here 24 = .ok (.ifCond .ne 20, 3) := by decide +kernel
theorem dX6_here_27 : decode cX6_here 27 = .ok (.aload_n 0, 1) := by decide +kernel
theorem dX6_here_28 : decode cX6_here 28 = .ok (.getfield 126, 3) := by decide +kernel
theorem dX6_here_31 : decode cX6_here 31 = .ok (.iload_n 1, 1) := by decide +kernel
theorem dX6_here_32 : decode cX6_here 32 = .ok (.iload_n 2, 1) := by decide +kernel
theorem dX6_here_33 : decode cX6_here 33 = .ok (.invokestatic 54, 3) := by decide +kernel
theorem dX6_here_36 : decode cX6_here 36 = .ok (.ifCond .ne 8, 3) := by decide +kernel
theorem dX6_here_39 : decode cX6_here 39 = .ok (.aload_n 0, 1) := by decide +kernel
theorem dX6_here_40 : decode cX6_here 40 = .ok (.iconst 2, 1) := by decide +kernel
theorem dX6_here_41 : decode cX6_here 41 = .ok (.invokevirtual 138, 3) := by decide +kernel
theorem dX6_here_44 : decode cX6_here 44 = .ok (.aload_n 0, 1) := by decide +kernel
theorem dX6_here_45 : decode cX6_here 45 = .ok (.getfield 129, 3) := by decide +kernel
theorem dX6_here_48 : decode cX6_here 48 = .ok (.ifCond .ne 10, 3) := by decide +kernel
theorem dX6_here_51 : decode cX6_here 51 = .ok (.aload_n 0, 1) := by decide +kernel
theorem dX6_here_52 : decode cX6_here 52 = .ok (.getfield 126, 3) := by decide +kernel
theorem dX6_here_55 : decode cX6_here 55 = .ok (.goto 4, 3) := by decide +kernel
theorem dX6_here_58 : decode cX6_here 58 = .ok (.iload_n 1, 1) := by decide +kernel
theorem dX6_here_59 : decode cX6_here 59 = .ok (.ireturn, 1) := by decide +kernel
theorem dX6_takesNumber_0 : decode cX6_takesNumber 0 = .ok (.aload_n 0, 1) := by decide +kernel
theorem dX6_takesNumber_1 : decode cX6_takesNumber 1 = .ok (.iload_n 1, 1) := by decide +kernel
theorem dX6_takesNumber_2 : decode cX6_takesNumber 2 = .ok (.iload_n 2, 1) := by decide +kernel
theorem dX6_takesNumber_3 : decode cX6_takesNumber 3 = .ok (.invokevirtual 141, 3) := by decide +kernel
theorem dX6_takesNumber_6 : decode cX6_takesNumber 6 = .ok (.istore_n 3, 1) := by decide +kernel
theorem dX6_takesNumber_7 : decode cX6_takesNumber 7 = .ok (.aload_n 0, 1) := by decide +kernel
theorem dX6_takesNumber_8 : decode cX6_takesNumber 8 = .ok (.invokevirtual 144, 3) := by decide +kernel
theorem dX6_takesNumber_11 : decode cX6_takesNumber 11 = .ok (.iload_n 3, 1) := by decide +kernel
theorem dX6_takesNumber_12 : decode cX6_takesNumber 12 = .ok (.ireturn, 1) := by decide +kernel
theorem dX6_blockHere_0 : decode cX6_blockHere 0 = .ok (.aload_n 0, 1) := by decide +kernel
theorem dX6_blockHere_1 : decode cX6_blockHere 1 = .ok (.iconst 0, 1) := by decide +kernel
theorem dX6_blockHere_2 : decode cX6_blockHere 2 = .ok (.aload_n 0, 1) := by decide +kernel
theorem dX6_blockHere_3 : decode cX6_blockHere 3 = .ok (.getfield 13, 3) := by decide +kernel
theorem dX6_blockHere_6 : decode cX6_blockHere 6 = .ok (.iconst 1, 1) := by decide +kernel
theorem dX6_blockHere_7 : decode cX6_blockHere 7 = .ok (.iaload, 1) := by decide +kernel
theorem dX6_blockHere_8 : decode cX6_blockHere 8 = .ok (.iconst 1, 1) := by decide +kernel
theorem dX6_blockHere_9 : decode cX6_blockHere 9 = .ok (.isub, 1) := by decide +kernel
theorem dX6_blockHere_10 : decode cX6_blockHere 10 = .ok (.invokevirtual 141, 3) := by decide +kernel
theorem dX6_blockHere_13 : decode cX6_blockHere 13 = .ok (.ireturn, 1) := by decide +kernel
theorem dX6_readsBlock_0 : decode cX6_readsBlock 0 = .ok (.aload_n 0, 1) := by decide +kernel
theorem dX6_readsBlock_1 : decode cX6_readsBlock 1 = .ok (.getfield 13, 3) := by decide +kernel
theorem dX6_readsBlock_4 : decode cX6_readsBlock 4 = .ok (.iconst 1, 1) := by decide +kernel
theorem dX6_readsBlock_5 : decode cX6_readsBlock 5 = .ok (.iaload, 1) := by decide +kernel
theorem dX6_readsBlock_6 : decode cX6_readsBlock 6 = .ok (.bipush 10, 2) := by decide +kernel
theorem dX6_readsBlock_8 : decode cX6_readsBlock 8 = .ok (.if_icmp .ne 9, 3) := by decide +kernel
theorem dX6_readsBlock_11 : decode cX6_readsBlock 11 = .ok (.aload_n 0, 1) := by decide +kernel
theorem dX6_readsBlock_12 : decode cX6_readsBlock 12 = .ok (.iconst 4, 1) := by decide +kernel
theorem dX6_readsBlock_13 : decode cX6_readsBlock 13 = .ok (.invokevirtual 138, 3) := by decide +kernel
theorem dX6_readsBlock_16 : decode cX6_readsBlock 16 = .ok (.return_, 1) := by decide +kernel
theorem dX6_readsBlock_17 : decode cX6_readsBlock 17 = .ok (.aload_n 0, 1) := by decide +kernel
theorem dX6_readsBlock_18 : decode cX6_readsBlock 18 = .ok (.invokevirtual 135, 3) := by decide +kernel
theorem dX6_readsBlock_21 : decode cX6_readsBlock 21 = .ok (.aload_n 0, 1) := by decide +kernel
theorem dX6_readsBlock_22 : decode cX6_readsBlock 22 = .ok (.iconst 1, 1) := by decide +kernel
theorem dX6_readsBlock_23 : decode cX6_readsBlock 23 = .ok (.bipush 20, 2) := by decide +kernel
theorem dX6_readsBlock_25 : decode cX6_readsBlock 25 = .ok (.invokevirtual 147, 3) := by decide +kernel
theorem dX6_readsBlock_28 : decode cX6_readsBlock 28 = .ok (.istore_n 1, 1) := by decide +kernel
theorem dX6_readsBlock_29 : decode cX6_readsBlock 29 = .ok (.aload_n 0, 1) := by decide +kernel
theorem dX6_readsBlock_30 : decode cX6_readsBlock 30 = .ok (.iconst 0, 1) := by decide +kernel
theorem dX6_readsBlock_31 : decode cX6_readsBlock 31 = .ok (.bipush 9, 2) := by decide +kernel
theorem dX6_readsBlock_33 : decode cX6_readsBlock 33 = .ok (.invokevirtual 147, 3) := by decide +kernel
theorem dX6_readsBlock_36 : decode cX6_readsBlock 36 = .ok (.istore_n 2, 1) := by decide +kernel
theorem dX6_readsBlock_37 : decode cX6_readsBlock 37 = .ok (.aload_n 0, 1) := by decide +kernel
theorem dX6_readsBlock_38 : decode cX6_readsBlock 38 = .ok (.getfield 129, 3) := by decide +kernel
theorem dX6_readsBlock_41 : decode cX6_readsBlock 41 = .ok (.ifCond .ne 15, 3) := by decide +kernel
theorem dX6_readsBlock_44 : decode cX6_readsBlock 44 = .ok (.aload_n 0, 1) := by decide +kernel
theorem dX6_readsBlock_45 : decode cX6_readsBlock 45 = .ok (.iconst 2, 1) := by decide +kernel
theorem dX6_readsBlock_46 : decode cX6_readsBlock 46 = .ok (.invokevirtual 150, 3) := by decide +kernel
theorem dX6_readsBlock_49 : decode cX6_readsBlock 49 = .ok (.ifCond .eq 7, 3) := by decide +kernel
theorem dX6_readsBlock_52 : decode cX6_readsBlock 52 = .ok (.iconst 1, 1) := by decide +kernel
theorem dX6_readsBlock_53 : decode cX6_readsBlock 53 = .ok (.goto 4, 3) := by decide +kernel
theorem dX6_readsBlock_56 : decode cX6_readsBlock 56 = .ok (.iconst 0, 1) := by decide +kernel
theorem dX6_readsBlock_57 : decode cX6_readsBlock 57 = .ok (.istore_n 3, 1) := by decide +kernel
theorem dX6_readsBlock_58 : decode cX6_readsBlock 58 = .ok (.iconst 5, 1) := by decide +kernel
theorem dX6_readsBlock_59 : decode cX6_readsBlock 59 = .ok (.istore 4, 2) := by decide +kernel
theorem dX6_readsBlock_61 : decode cX6_readsBlock 61 = .ok (.iload_n 3, 1) := by decide +kernel
theorem dX6_readsBlock_62 : decode cX6_readsBlock 62 = .ok (.iconst 1, 1) := by decide +kernel
theorem dX6_readsBlock_63 : decode cX6_readsBlock 63 = .ok (.if_icmp .ne 15, 3) := by decide +kernel
theorem dX6_readsBlock_66 : decode cX6_readsBlock 66 = .ok (.aload_n 0, 1) := by decide +kernel
theorem dX6_readsBlock_67 : decode cX6_readsBlock 67 = .ok (.invokevirtual 135, 3) := by decide +kernel
theorem dX6_readsBlock_70 : decode cX6_readsBlock 70 = .ok (.aload_n 0, 1) := by decide +kernel
theorem dX6_readsBlock_71 : decode cX6_readsBlock 71 = .ok (.iconst 1, 1) := by decide +kernel
theorem dX6_readsBlock_72 : decode cX6_readsBlock 72 = .ok (.iconst 5, 1) := by decide +kernel
theorem dX6_readsBlock_73 : decode cX6_readsBlock 73 = .ok (.invokevirtual 147, 3) := by decide +kernel
theorem dX6_readsBlock_76 : decode cX6_readsBlock 76 = .ok (.istore 4, 2) := by decide +kernel
theorem dX6_readsBlock_78 : decode cX6_readsBlock 78 = .ok (.aload_n 0, 1) := by decide +kernel
theorem dX6_readsBlock_79 : decode cX6_readsBlock 79 = .ok (.getfield 129, 3) := by decide +kernel
theorem dX6_readsBlock_82 : decode cX6_readsBlock 82 = .ok (.ifCond .ne 12, 3) := by decide +kernel
theorem dX6_readsBlock_85 : decode cX6_readsBlock 85 = .ok (.aload_n 0, 1) := by decide +kernel
theorem dX6_readsBlock_86 : decode cX6_readsBlock 86 = .ok (.iload_n 1, 1) := by decide +kernel
theorem dX6_readsBlock_87 : decode cX6_readsBlock 87 = .ok (.iload_n 2, 1) := by decide +kernel
theorem dX6_readsBlock_88 : decode cX6_readsBlock 88 = .ok (.iload 4, 2) := by decide +kernel
theorem dX6_readsBlock_90 : decode cX6_readsBlock 90 = .ok (.iload_n 3, 1) := by decide +kernel
theorem dX6_readsBlock_91 : decode cX6_readsBlock 91 = .ok (.invokevirtual 36, 3) := by decide +kernel
theorem dX6_readsBlock_94 : decode cX6_readsBlock 94 = .ok (.return_, 1) := by decide +kernel
theorem dX6_readsTrain_0 : decode cX6_readsTrain 0 = .ok (.aload_n 0, 1) := by decide +kernel
theorem dX6_readsTrain_1 : decode cX6_readsTrain 1 = .ok (.getfield 13, 3) := by decide +kernel
theorem dX6_readsTrain_4 : decode cX6_readsTrain 4 = .ok (.iconst 2, 1) := by decide +kernel
theorem dX6_readsTrain_5 : decode cX6_readsTrain 5 = .ok (.iaload, 1) := by decide +kernel
theorem dX6_readsTrain_6 : decode cX6_readsTrain 6 = .ok (.iconst 5, 1) := by decide +kernel
theorem dX6_readsTrain_7 : decode cX6_readsTrain 7 = .ok (.if_icmp .ne 9, 3) := by decide +kernel
theorem dX6_readsTrain_10 : decode cX6_readsTrain 10 = .ok (.aload_n 0, 1) := by decide +kernel
theorem dX6_readsTrain_11 : decode cX6_readsTrain 11 = .ok (.iconst 4, 1) := by decide +kernel
theorem dX6_readsTrain_12 : decode cX6_readsTrain 12 = .ok (.invokevirtual 138, 3) := by decide +kernel
theorem dX6_readsTrain_15 : decode cX6_readsTrain 15 = .ok (.return_, 1) := by decide +kernel
theorem dX6_readsTrain_16 : decode cX6_readsTrain 16 = .ok (.aload_n 0, 1) := by decide +kernel
theorem dX6_readsTrain_17 : decode cX6_readsTrain 17 = .ok (.invokevirtual 135, 3) := by decide +kernel
theorem dX6_readsTrain_20 : decode cX6_readsTrain 20 = .ok (.aload_n 0, 1) := by decide +kernel
theorem dX6_readsTrain_21 : decode cX6_readsTrain 21 = .ok (.invokevirtual 153, 3) := by decide +kernel
theorem dX6_readsTrain_24 : decode cX6_readsTrain 24 = .ok (.istore_n 1, 1) := by decide +kernel
theorem dX6_readsTrain_25 : decode cX6_readsTrain 25 = .ok (.aload_n 0, 1) := by decide +kernel
theorem dX6_readsTrain_26 : decode cX6_readsTrain 26 = .ok (.getfield 129, 3) := by decide +kernel
theorem dX6_readsTrain_29 : decode cX6_readsTrain 29 = .ok (.ifCond .ne 16, 3) := by decide +kernel
theorem dX6_readsTrain_32 : decode cX6_readsTrain 32 = .ok (.aload_n 0, 1) := by decide +kernel
theorem dX6_readsTrain_33 : decode cX6_readsTrain 33 = .ok (.iload_n 1, 1) := by decide +kernel
theorem dX6_readsTrain_34 : decode cX6_readsTrain 34 = .ok (.invokevirtual 67, 3) := by decide +kernel
theorem dX6_readsTrain_37 : decode cX6_readsTrain 37 = .ok (.ifCond .eq 8, 3) := by decide +kernel
theorem dX6_readsTrain_40 : decode cX6_readsTrain 40 = .ok (.aload_n 0, 1) := by decide +kernel
theorem dX6_readsTrain_41 : decode cX6_readsTrain 41 = .ok (.iconst 3, 1) := by decide +kernel
theorem dX6_readsTrain_42 : decode cX6_readsTrain 42 = .ok (.invokevirtual 138, 3) := by decide +kernel
theorem dX6_readsTrain_45 : decode cX6_readsTrain 45 = .ok (.aload_n 0, 1) := by decide +kernel
theorem dX6_readsTrain_46 : decode cX6_readsTrain 46 = .ok (.invokevirtual 144, 3) := by decide +kernel
theorem dX6_readsTrain_49 : decode cX6_readsTrain 49 = .ok (.aload_n 0, 1) := by decide +kernel
theorem dX6_readsTrain_50 : decode cX6_readsTrain 50 = .ok (.iconst 1, 1) := by decide +kernel
theorem dX6_readsTrain_51 : decode cX6_readsTrain 51 = .ok (.bipush 12, 2) := by decide +kernel
theorem dX6_readsTrain_53 : decode cX6_readsTrain 53 = .ok (.invokevirtual 147, 3) := by decide +kernel
theorem dX6_readsTrain_56 : decode cX6_readsTrain 56 = .ok (.istore_n 2, 1) := by decide +kernel
theorem dX6_readsTrain_57 : decode cX6_readsTrain 57 = .ok (.aload_n 0, 1) := by decide +kernel
theorem dX6_readsTrain_58 : decode cX6_readsTrain 58 = .ok (.iconst 1, 1) := by decide +kernel
theorem dX6_readsTrain_59 : decode cX6_readsTrain 59 = .ok (.iconst 5, 1) := by decide +kernel
theorem dX6_readsTrain_60 : decode cX6_readsTrain 60 = .ok (.invokevirtual 147, 3) := by decide +kernel
theorem dX6_readsTrain_63 : decode cX6_readsTrain 63 = .ok (.istore_n 3, 1) := by decide +kernel
theorem dX6_readsTrain_64 : decode cX6_readsTrain 64 = .ok (.aload_n 0, 1) := by decide +kernel
theorem dX6_readsTrain_65 : decode cX6_readsTrain 65 = .ok (.getfield 129, 3) := by decide +kernel
theorem dX6_readsTrain_68 : decode cX6_readsTrain 68 = .ok (.ifCond .ne 10, 3) := by decide +kernel
theorem dX6_readsTrain_71 : decode cX6_readsTrain 71 = .ok (.aload_n 0, 1) := by decide +kernel
theorem dX6_readsTrain_72 : decode cX6_readsTrain 72 = .ok (.iload_n 1, 1) := by decide +kernel
theorem dX6_readsTrain_73 : decode cX6_readsTrain 73 = .ok (.iload_n 2, 1) := by decide +kernel
theorem dX6_readsTrain_74 : decode cX6_readsTrain 74 = .ok (.iload_n 3, 1) := by decide +kernel
theorem dX6_readsTrain_75 : decode cX6_readsTrain 75 = .ok (.invokevirtual 40, 3) := by decide +kernel
theorem dX6_readsTrain_78 : decode cX6_readsTrain 78 = .ok (.return_, 1) := by decide +kernel
theorem dX6_readsPull_0 : decode cX6_readsPull 0 = .ok (.aload_n 0, 1) := by decide +kernel
theorem dX6_readsPull_1 : decode cX6_readsPull 1 = .ok (.invokevirtual 135, 3) := by decide +kernel
theorem dX6_readsPull_4 : decode cX6_readsPull 4 = .ok (.aload_n 0, 1) := by decide +kernel
theorem dX6_readsPull_5 : decode cX6_readsPull 5 = .ok (.invokevirtual 153, 3) := by decide +kernel
theorem dX6_readsPull_8 : decode cX6_readsPull 8 = .ok (.istore_n 1, 1) := by decide +kernel
theorem dX6_readsPull_9 : decode cX6_readsPull 9 = .ok (.aload_n 0, 1) := by decide +kernel
theorem dX6_readsPull_10 : decode cX6_readsPull 10 = .ok (.getfield 129, 3) := by decide +kernel
theorem dX6_readsPull_13 : decode cX6_readsPull 13 = .ok (.ifCond .ne 16, 3) := by decide +kernel
theorem dX6_readsPull_16 : decode cX6_readsPull 16 = .ok (.aload_n 0, 1) := by decide +kernel
theorem dX6_readsPull_17 : decode cX6_readsPull 17 = .ok (.iload_n 1, 1) := by decide +kernel
theorem dX6_readsPull_18 : decode cX6_readsPull 18 = .ok (.invokevirtual 156, 3) := by decide +kernel
theorem dX6_readsPull_21 : decode cX6_readsPull 21 = .ok (.ifCond .eq 8, 3) := by decide +kernel
theorem dX6_readsPull_24 : decode cX6_readsPull 24 = .ok (.aload_n 0, 1) := by decide +kernel
theorem dX6_readsPull_25 : decode cX6_readsPull 25 = .ok (.iconst 5, 1) := by decide +kernel
theorem dX6_readsPull_26 : decode cX6_readsPull 26 = .ok (.invokevirtual 138, 3) := by decide +kernel
theorem dX6_readsPull_29 : decode cX6_readsPull 29 = .ok (.aload_n 0, 1) := by decide +kernel
theorem dX6_readsPull_30 : decode cX6_readsPull 30 = .ok (.getfield 129, 3) := by decide +kernel
theorem dX6_readsPull_33 : decode cX6_readsPull 33 = .ok (.ifCond .ne 19, 3) := by decide +kernel
theorem dX6_readsPull_36 : decode cX6_readsPull 36 = .ok (.aload_n 0, 1) := by decide +kernel
theorem dX6_readsPull_37 : decode cX6_readsPull 37 = .ok (.getfield 13, 3) := by decide +kernel
theorem dX6_readsPull_40 : decode cX6_readsPull 40 = .ok (.iload_n 1, 1) := by decide +kernel
theorem dX6_readsPull_41 : decode cX6_readsPull 41 = .ok (.invokestatic 44, 3) := by decide +kernel
theorem dX6_readsPull_44 : decode cX6_readsPull 44 = .ok (.iconst 4, 1) := by decide +kernel
theorem dX6_readsPull_45 : decode cX6_readsPull 45 = .ok (.iadd, 1) := by decide +kernel
theorem dX6_readsPull_46 : decode cX6_readsPull 46 = .ok (.iconst 1, 1) := by decide +kernel
theorem dX6_readsPull_47 : decode cX6_readsPull 47 = .ok (.iastore, 1) := by decide +kernel
theorem dX6_readsPull_48 : decode cX6_readsPull 48 = .ok (.aload_n 0, 1) := by decide +kernel
theorem dX6_readsPull_49 : decode cX6_readsPull 49 = .ok (.invokevirtual 135, 3) := by decide +kernel
theorem dX6_readsPull_52 : decode cX6_readsPull 52 = .ok (.return_, 1) := by decide +kernel
theorem dX6_readsDanger_0 : decode cX6_readsDanger 0 = .ok (.aload_n 0, 1) := by decide +kernel
theorem dX6_readsDanger_1 : decode cX6_readsDanger 1 = .ok (.invokevirtual 135, 3) := by decide +kernel
theorem dX6_readsDanger_4 : decode cX6_readsDanger 4 = .ok (.aload_n 0, 1) := by decide +kernel
theorem dX6_readsDanger_5 : decode cX6_readsDanger 5 = .ok (.invokevirtual 153, 3) := by decide +kernel
theorem dX6_readsDanger_8 : decode cX6_readsDanger 8 = .ok (.istore_n 1, 1) := by decide +kernel
theorem dX6_readsDanger_9 : decode cX6_readsDanger 9 = .ok (.aload_n 0, 1) := by decide +kernel
theorem dX6_readsDanger_10 : decode cX6_readsDanger 10 = .ok (.getfield 129, 3) := by decide +kernel
theorem dX6_readsDanger_13 : decode cX6_readsDanger 13 = .ok (.ifCond .ne 22, 3) := by decide +kernel
theorem dX6_readsDanger_16 : decode cX6_readsDanger 16 = .ok (.aload_n 0, 1) := by decide +kernel
theorem dX6_readsDanger_17 : decode cX6_readsDanger 17 = .ok (.getfield 13, 3) := by decide +kernel
theorem dX6_readsDanger_20 : decode cX6_readsDanger 20 = .ok (.iload_n 1, 1) := by decide +kernel
theorem dX6_readsDanger_21 : decode cX6_readsDanger 21 = .ok (.invokestatic 44, 3) := by decide +kernel
theorem dX6_readsDanger_24 : decode cX6_readsDanger 24 = .ok (.iconst 4, 1) := by decide +kernel
theorem dX6_readsDanger_25 : decode cX6_readsDanger 25 = .ok (.iadd, 1) := by decide +kernel
theorem dX6_readsDanger_26 : decode cX6_readsDanger 26 = .ok (.iaload, 1) := by decide +kernel
theorem dX6_readsDanger_27 : decode cX6_readsDanger 27 = .ok (.ifCond .ne 8, 3) := by decide +kernel
theorem dX6_readsDanger_30 : decode cX6_readsDanger 30 = .ok (.aload_n 0, 1) := by decide +kernel
theorem dX6_readsDanger_31 : decode cX6_readsDanger 31 = .ok (.iconst 5, 1) := by decide +kernel
theorem dX6_readsDanger_32 : decode cX6_readsDanger 32 = .ok (.invokevirtual 138, 3) := by decide +kernel
theorem dX6_readsDanger_35 : decode cX6_readsDanger 35 = .ok (.aload_n 0, 1) := by decide +kernel
theorem dX6_readsDanger_36 : decode cX6_readsDanger 36 = .ok (.getfield 129, 3) := by decide +kernel
theorem dX6_readsDanger_39 : decode cX6_readsDanger 39 = .ok (.ifCond .ne 19, 3) := by decide +kernel
theorem dX6_readsDanger_42 : decode cX6_readsDanger 42 = .ok (.aload_n 0, 1) := by decide +kernel
theorem dX6_readsDanger_43 : decode cX6_readsDanger 43 = .ok (.getfield 13, 3) := by decide +kernel
theorem dX6_readsDanger_46 : decode cX6_readsDanger 46 = .ok (.iload_n 1, 1) := by decide +kernel
theorem dX6_readsDanger_47 : decode cX6_readsDanger 47 = .ok (.invokestatic 44, 3) := by decide +kernel
theorem dX6_readsDanger_50 : decode cX6_readsDanger 50 = .ok (.iconst 4, 1) := by decide +kernel
theorem dX6_readsDanger_51 : decode cX6_readsDanger 51 = .ok (.iadd, 1) := by decide +kernel
theorem dX6_readsDanger_52 : decode cX6_readsDanger 52 = .ok (.iconst 0, 1) := by decide +kernel
theorem dX6_readsDanger_53 : decode cX6_readsDanger 53 = .ok (.iastore, 1) := by decide +kernel
theorem dX6_readsDanger_54 : decode cX6_readsDanger 54 = .ok (.aload_n 0, 1) := by decide +kernel
theorem dX6_readsDanger_55 : decode cX6_readsDanger 55 = .ok (.invokevirtual 135, 3) := by decide +kernel
theorem dX6_readsDanger_58 : decode cX6_readsDanger 58 = .ok (.return_, 1) := by decide +kernel
theorem dX6_readsRepair_0 : decode cX6_readsRepair 0 = .ok (.aload_n 0, 1) := by decide +kernel
theorem dX6_readsRepair_1 : decode cX6_readsRepair 1 = .ok (.invokevirtual 135, 3) := by decide +kernel
theorem dX6_readsRepair_4 : decode cX6_readsRepair 4 = .ok (.aload_n 0, 1) := by decide +kernel
theorem dX6_readsRepair_5 : decode cX6_readsRepair 5 = .ok (.invokevirtual 153, 3) := by decide +kernel
theorem dX6_readsRepair_8 : decode cX6_readsRepair 8 = .ok (.istore_n 1, 1) := by decide +kernel
theorem dX6_readsRepair_9 : decode cX6_readsRepair 9 = .ok (.aload_n 0, 1) := by decide +kernel
theorem dX6_readsRepair_10 : decode cX6_readsRepair 10 = .ok (.getfield 129, 3) := by decide +kernel
theorem dX6_readsRepair_13 : decode cX6_readsRepair 13 = .ok (.ifCond .ne 17, 3) := by decide +kernel
theorem dX6_readsRepair_16 : decode cX6_readsRepair 16 = .ok (.aload_n 0, 1) := by decide +kernel
theorem dX6_readsRepair_17 : decode cX6_readsRepair 17 = .ok (.iload_n 1, 1) := by decide +kernel
theorem dX6_readsRepair_18 : decode cX6_readsRepair 18 = .ok (.invokevirtual 61, 3) := by decide +kernel
theorem dX6_readsRepair_21 : decode cX6_readsRepair 21 = .ok (.iconst (-1), 1) := by decide +kernel
theorem dX6_readsRepair_22 : decode cX6_readsRepair 22 = .ok (.if_icmp .eq 8, 3) := by decide +kernel
theorem dX6_readsRepair_25 : decode cX6_readsRepair 25 = .ok (.aload_n 0, 1) := by decide +kernel
theorem dX6_readsRepair_26 : decode cX6_readsRepair 26 = .ok (.iconst 5, 1) := by decide +kernel
theorem dX6_readsRepair_27 : decode cX6_readsRepair 27 = .ok (.invokevirtual 138, 3) := by decide +kernel
theorem dX6_readsRepair_30 : decode cX6_readsRepair 30 = .ok (.aload_n 0, 1) := by decide +kernel
theorem dX6_readsRepair_31 : decode cX6_readsRepair 31 = .ok (.getfield 129, 3) := by decide +kernel
theorem dX6_readsRepair_34 : decode cX6_readsRepair 34 = .ok (.ifCond .ne 19, 3) := by decide +kernel
theorem dX6_readsRepair_37 : decode cX6_readsRepair 37 = .ok (.aload_n 0, 1) := by decide +kernel
theorem dX6_readsRepair_38 : decode cX6_readsRepair 38 = .ok (.getfield 13, 3) := by decide +kernel
theorem dX6_readsRepair_41 : decode cX6_readsRepair 41 = .ok (.iload_n 1, 1) := by decide +kernel
theorem dX6_readsRepair_42 : decode cX6_readsRepair 42 = .ok (.invokestatic 44, 3) := by decide +kernel
theorem dX6_readsRepair_45 : decode cX6_readsRepair 45 = .ok (.iconst 1, 1) := by decide +kernel
theorem dX6_readsRepair_46 : decode cX6_readsRepair 46 = .ok (.iadd, 1) := by decide +kernel
theorem dX6_readsRepair_47 : decode cX6_readsRepair 47 = .ok (.iconst 0, 1) := by decide +kernel
theorem dX6_readsRepair_48 : decode cX6_readsRepair 48 = .ok (.iastore, 1) := by decide +kernel
theorem dX6_readsRepair_49 : decode cX6_readsRepair 49 = .ok (.aload_n 0, 1) := by decide +kernel
theorem dX6_readsRepair_50 : decode cX6_readsRepair 50 = .ok (.invokevirtual 135, 3) := by decide +kernel
theorem dX6_readsRepair_53 : decode cX6_readsRepair 53 = .ok (.return_, 1) := by decide +kernel
theorem dX6_readsTicks_0 : decode cX6_readsTicks 0 = .ok (.aload_n 0, 1) := by decide +kernel
theorem dX6_readsTicks_1 : decode cX6_readsTicks 1 = .ok (.invokevirtual 135, 3) := by decide +kernel
theorem dX6_readsTicks_4 : decode cX6_readsTicks 4 = .ok (.sipush 9999, 3) := by decide +kernel
theorem dX6_readsTicks_7 : decode cX6_readsTicks 7 = .ok (.aload_n 0, 1) := by decide +kernel
theorem dX6_readsTicks_8 : decode cX6_readsTicks 8 = .ok (.getfield 13, 3) := by decide +kernel
theorem dX6_readsTicks_11 : decode cX6_readsTicks 11 = .ok (.iconst 0, 1) := by decide +kernel
theorem dX6_readsTicks_12 : decode cX6_readsTicks 12 = .ok (.iaload, 1) := by decide +kernel
theorem dX6_readsTicks_13 : decode cX6_readsTicks 13 = .ok (.isub, 1) := by decide +kernel
theorem dX6_readsTicks_14 : decode cX6_readsTicks 14 = .ok (.istore_n 1, 1) := by decide +kernel
theorem dX6_readsTicks_15 : decode cX6_readsTicks 15 = .ok (.aload_n 0, 1) := by decide +kernel
theorem dX6_readsTicks_16 : decode cX6_readsTicks 16 = .ok (.iconst 1, 1) := by decide +kernel
theorem dX6_readsTicks_17 : decode cX6_readsTicks 17 = .ok (.iload_n 1, 1) := by decide +kernel
theorem dX6_readsTicks_18 : decode cX6_readsTicks 18 = .ok (.bipush 99, 2) := by decide +kernel
theorem dX6_readsTicks_20 : decode cX6_readsTicks 20 = .ok (.if_icmp .ge 7, 3) := by decide +kernel
theorem dX6_readsTicks_23 : decode cX6_readsTicks 23 = .ok (.iload_n 1, 1) := by decide +kernel
theorem dX6_readsTicks_24 : decode cX6_readsTicks 24 = .ok (.goto 5, 3) := by decide +kernel
theorem dX6_readsTicks_27 : decode cX6_readsTicks 27 = .ok (.bipush 99, 2) := by decide +kernel
theorem dX6_readsTicks_29 : decode cX6_readsTicks 29 = .ok (.invokevirtual 147, 3) := by decide +kernel
theorem dX6_readsTicks_32 : decode cX6_readsTicks 32 = .ok (.istore_n 2, 1) := by decide +kernel
theorem dX6_readsTicks_33 : decode cX6_readsTicks 33 = .ok (.aload_n 0, 1) := by decide +kernel
theorem dX6_readsTicks_34 : decode cX6_readsTicks 34 = .ok (.aload_n 0, 1) := by decide +kernel
theorem dX6_readsTicks_35 : decode cX6_readsTicks 35 = .ok (.getfield 129, 3) := by decide +kernel
theorem dX6_readsTicks_38 : decode cX6_readsTicks 38 = .ok (.ifCond .ne 7, 3) := by decide +kernel
theorem dX6_readsTicks_41 : decode cX6_readsTicks 41 = .ok (.iload_n 2, 1) := by decide +kernel
theorem dX6_readsTicks_42 : decode cX6_readsTicks 42 = .ok (.goto 4, 3) := by decide +kernel
theorem dX6_readsTicks_45 : decode cX6_readsTicks 45 = .ok (.iconst 0, 1) := by decide +kernel
theorem dX6_readsTicks_46 : decode cX6_readsTicks 46 = .ok (.invokevirtual 48, 3) := by decide +kernel
theorem dX6_readsTicks_49 : decode cX6_readsTicks 49 = .ok (.istore_n 3, 1) := by decide +kernel
theorem dX6_readsTicks_50 : decode cX6_readsTicks 50 = .ok (.return_, 1) := by decide +kernel
theorem dX6_readsLine_0 : decode cX6_readsLine 0 = .ok (.aload_n 0, 1) := by decide +kernel
theorem dX6_readsLine_1 : decode cX6_readsLine 1 = .ok (.iconst 1, 1) := by decide +kernel
theorem dX6_readsLine_2 : decode cX6_readsLine 2 = .ok (.invokevirtual 150, 3) := by decide +kernel
theorem dX6_readsLine_5 : decode cX6_readsLine 5 = .ok (.ifCond .eq 10, 3) := by decide +kernel
theorem dX6_readsLine_8 : decode cX6_readsLine 8 = .ok (.aload_n 0, 1) := by decide +kernel
theorem dX6_readsLine_9 : decode cX6_readsLine 9 = .ok (.invokevirtual 159, 3) := by decide +kernel
theorem dX6_readsLine_12 : decode cX6_readsLine 12 = .ok (.goto 85, 3) := by decide +kernel
theorem dX6_readsLine_15 : decode cX6_readsLine 15 = .ok (.aload_n 0, 1) := by decide +kernel
theorem dX6_readsLine_16 : decode cX6_readsLine 16 = .ok (.iconst 3, 1) := by decide +kernel
theorem dX6_readsLine_17 : decode cX6_readsLine 17 = .ok (.invokevirtual 150, 3) := by decide +kernel
theorem dX6_readsLine_20 : decode cX6_readsLine 20 = .ok (.ifCond .eq 10, 3) := by decide +kernel
theorem dX6_readsLine_23 : decode cX6_readsLine 23 = .ok (.aload_n 0, 1) := by decide +kernel
theorem dX6_readsLine_24 : decode cX6_readsLine 24 = .ok (.invokevirtual 162, 3) := by decide +kernel
theorem dX6_readsLine_27 : decode cX6_readsLine 27 = .ok (.goto 70, 3) := by decide +kernel
theorem dX6_readsLine_30 : decode cX6_readsLine 30 = .ok (.aload_n 0, 1) := by decide +kernel
theorem dX6_readsLine_31 : decode cX6_readsLine 31 = .ok (.iconst 4, 1) := by decide +kernel
theorem dX6_readsLine_32 : decode cX6_readsLine 32 = .ok (.invokevirtual 150, 3) := by decide +kernel
theorem dX6_readsLine_35 : decode cX6_readsLine 35 = .ok (.ifCond .eq 10, 3) := by decide +kernel
theorem dX6_readsLine_38 : decode cX6_readsLine 38 = .ok (.aload_n 0, 1) := by decide +kernel
theorem dX6_readsLine_39 : decode cX6_readsLine 39 = .ok (.invokevirtual 165, 3) := by decide +kernel
theorem dX6_readsLine_42 : decode cX6_readsLine 42 = .ok (.goto 55, 3) := by decide +kernel
theorem dX6_readsLine_45 : decode cX6_readsLine 45 = .ok (.aload_n 0, 1) := by decide +kernel
theorem dX6_readsLine_46 : decode cX6_readsLine 46 = .ok (.iconst 5, 1) := by decide +kernel
theorem dX6_readsLine_47 : decode cX6_readsLine 47 = .ok (.invokevirtual 150, 3) := by decide +kernel
theorem dX6_readsLine_50 : decode cX6_readsLine 50 = .ok (.ifCond .eq 10, 3) := by decide +kernel
theorem dX6_readsLine_53 : decode cX6_readsLine 53 = .ok (.aload_n 0, 1) := by decide +kernel
theorem dX6_readsLine_54 : decode cX6_readsLine 54 = .ok (.invokevirtual 168, 3) := by decide +kernel
theorem dX6_readsLine_57 : decode cX6_readsLine 57 = .ok (.goto 40, 3) := by decide +kernel
theorem dX6_readsLine_60 : decode cX6_readsLine 60 = .ok (.aload_n 0, 1) := by decide +kernel
theorem dX6_readsLine_61 : decode cX6_readsLine 61 = .ok (.bipush 6, 2) := by decide +kernel
theorem dX6_readsLine_63 : decode cX6_readsLine 63 = .ok (.invokevirtual 150, 3) := by decide +kernel
theorem dX6_readsLine_66 : decode cX6_readsLine 66 = .ok (.ifCond .eq 10, 3) := by decide +kernel
theorem dX6_readsLine_69 : decode cX6_readsLine 69 = .ok (.aload_n 0, 1) := by decide +kernel
theorem dX6_readsLine_70 : decode cX6_readsLine 70 = .ok (.invokevirtual 171, 3) := by decide +kernel
theorem dX6_readsLine_73 : decode cX6_readsLine 73 = .ok (.goto 24, 3) := by decide +kernel
theorem dX6_readsLine_76 : decode cX6_readsLine 76 = .ok (.aload_n 0, 1) := by decide +kernel
theorem dX6_readsLine_77 : decode cX6_readsLine 77 = .ok (.bipush 7, 2) := by decide +kernel
theorem dX6_readsLine_79 : decode cX6_readsLine 79 = .ok (.invokevirtual 150, 3) := by decide +kernel
theorem dX6_readsLine_82 : decode cX6_readsLine 82 = .ok (.ifCond .eq 10, 3) := by decide +kernel
theorem dX6_readsLine_85 : decode cX6_readsLine 85 = .ok (.aload_n 0, 1) := by decide +kernel
theorem dX6_readsLine_86 : decode cX6_readsLine 86 = .ok (.invokevirtual 174, 3) := by decide +kernel
theorem dX6_readsLine_89 : decode cX6_readsLine 89 = .ok (.goto 8, 3) := by decide +kernel
theorem dX6_readsLine_92 : decode cX6_readsLine 92 = .ok (.aload_n 0, 1) := by decide +kernel
theorem dX6_readsLine_93 : decode cX6_readsLine 93 = .ok (.iconst 1, 1) := by decide +kernel
theorem dX6_readsLine_94 : decode cX6_readsLine 94 = .ok (.invokevirtual 138, 3) := by decide +kernel
theorem dX6_readsLine_97 : decode cX6_readsLine 97 = .ok (.return_, 1) := by decide +kernel
theorem dX6_readsText_0 : decode cX6_readsText 0 = .ok (.iconst 0, 1) := by decide +kernel
theorem dX6_readsText_1 : decode cX6_readsText 1 = .ok (.istore_n 2, 1) := by decide +kernel
theorem dX6_readsText_2 : decode cX6_readsText 2 = .ok (.iload_n 2, 1) := by decide +kernel
theorem dX6_readsText_3 : decode cX6_readsText 3 = .ok (.sipush 140, 3) := by decide +kernel
theorem dX6_readsText_6 : decode cX6_readsText 6 = .ok (.if_icmp .ge 16, 3) := by decide +kernel
theorem dX6_readsText_9 : decode cX6_readsText 9 = .ok (.aload_n 0, 1) := by decide +kernel
theorem dX6_readsText_10 : decode cX6_readsText 10 = .ok (.getfield 13, 3) := by decide +kernel
theorem dX6_readsText_13 : decode cX6_readsText 13 = .ok (.iload_n 2, 1) := by decide +kernel
theorem dX6_readsText_14 : decode cX6_readsText 14 = .ok (.iconst 0, 1) := by decide +kernel
theorem dX6_readsText_15 : decode cX6_readsText 15 = .ok (.iastore, 1) := by decide +kernel
theorem dX6_readsText_16 : decode cX6_readsText 16 = .ok (.iinc 2 1, 3) := by decide +kernel
theorem dX6_readsText_19 : decode cX6_readsText 19 = .ok (.goto (-17), 3) := by decide +kernel
theorem dX6_readsText_22 : decode cX6_readsText 22 = .ok (.aload_n 0, 1) := by decide +kernel
theorem dX6_readsText_23 : decode cX6_readsText 23 = .ok (.iload_n 1, 1) := by decide +kernel
theorem dX6_readsText_24 : decode cX6_readsText 24 = .ok (.putfield 110, 3) := by decide +kernel
theorem dX6_readsText_27 : decode cX6_readsText 27 = .ok (.aload_n 0, 1) := by decide +kernel
theorem dX6_readsText_28 : decode cX6_readsText 28 = .ok (.iconst 0, 1) := by decide +kernel
theorem dX6_readsText_29 : decode cX6_readsText 29 = .ok (.putfield 129, 3) := by decide +kernel
theorem dX6_readsText_32 : decode cX6_readsText 32 = .ok (.aload_n 0, 1) := by decide +kernel
theorem dX6_readsText_33 : decode cX6_readsText 33 = .ok (.iconst 0, 1) := by decide +kernel
theorem dX6_readsText_34 : decode cX6_readsText 34 = .ok (.putfield 101, 3) := by decide +kernel
theorem dX6_readsText_37 : decode cX6_readsText 37 = .ok (.aload_n 0, 1) := by decide +kernel
theorem dX6_readsText_38 : decode cX6_readsText 38 = .ok (.iconst 0, 1) := by decide +kernel
theorem dX6_readsText_39 : decode cX6_readsText 39 = .ok (.putfield 104, 3) := by decide +kernel
theorem dX6_readsText_42 : decode cX6_readsText 42 = .ok (.aload_n 0, 1) := by decide +kernel
theorem dX6_readsText_43 : decode cX6_readsText 43 = .ok (.invokevirtual 135, 3) := by decide +kernel
theorem dX6_readsText_46 : decode cX6_readsText 46 = .ok (.aload_n 0, 1) := by decide +kernel
theorem dX6_readsText_47 : decode cX6_readsText 47 = .ok (.iconst 0, 1) := by decide +kernel
theorem dX6_readsText_48 : decode cX6_readsText 48 = .ok (.invokevirtual 150, 3) := by decide +kernel
theorem dX6_readsText_51 : decode cX6_readsText 51 = .ok (.ifCond .eq 10, 3) := by decide +kernel
theorem dX6_readsText_54 : decode cX6_readsText 54 = .ok (.aload_n 0, 1) := by decide +kernel
theorem dX6_readsText_55 : decode cX6_readsText 55 = .ok (.invokevirtual 135, 3) := by decide +kernel
theorem dX6_readsText_58 : decode cX6_readsText 58 = .ok (.goto 8, 3) := by decide +kernel
theorem dX6_readsText_61 : decode cX6_readsText 61 = .ok (.aload_n 0, 1) := by decide +kernel
theorem dX6_readsText_62 : decode cX6_readsText 62 = .ok (.iconst 1, 1) := by decide +kernel
theorem dX6_readsText_63 : decode cX6_readsText 63 = .ok (.invokevirtual 138, 3) := by decide +kernel
theorem dX6_readsText_66 : decode cX6_readsText 66 = .ok (.aload_n 0, 1) := by decide +kernel
theorem dX6_readsText_67 : decode cX6_readsText 67 = .ok (.getfield 129, 3) := by decide +kernel
theorem dX6_readsText_70 : decode cX6_readsText 70 = .ok (.ifCond .ne 37, 3) := by decide +kernel
theorem dX6_readsText_73 : decode cX6_readsText 73 = .ok (.aload_n 0, 1) := by decide +kernel
theorem dX6_readsText_74 : decode cX6_readsText 74 = .ok (.getfield 101, 3) := by decide +kernel
theorem dX6_readsText_77 : decode cX6_readsText 77 = .ok (.ifCond .eq 30, 3) := by decide +kernel
theorem dX6_readsText_80 : decode cX6_readsText 80 = .ok (.aload_n 0, 1) := by decide +kernel
theorem dX6_readsText_81 : decode cX6_readsText 81 = .ok (.getfield 101, 3) := by decide +kernel
theorem dX6_readsText_84 : decode cX6_readsText 84 = .ok (.iconst 3, 1) := by decide +kernel
theorem dX6_readsText_85 : decode cX6_readsText 85 = .ok (.if_icmp .ne 14, 3) := by decide +kernel
theorem dX6_readsText_88 : decode cX6_readsText 88 = .ok (.aload_n 0, 1) := by decide +kernel
theorem dX6_readsText_89 : decode cX6_readsText 89 = .ok (.invokevirtual 135, 3) := by decide +kernel
theorem dX6_readsText_92 : decode cX6_readsText 92 = .ok (.aload_n 0, 1) := by decide +kernel
theorem dX6_readsText_93 : decode cX6_readsText 93 = .ok (.invokevirtual 177, 3) := by decide +kernel
theorem dX6_readsText_96 : decode cX6_readsText 96 = .ok (.goto (-30), 3) := by decide +kernel
theorem dX6_readsText_99 : decode cX6_readsText 99 = .ok (.aload_n 0, 1) := by decide +kernel
theorem dX6_readsText_100 : decode cX6_readsText 100 = .ok (.iconst 1, 1) := by decide +kernel
theorem dX6_readsText_101 : decode cX6_readsText 101 = .ok (.invokevirtual 138, 3) := by decide +kernel
theorem dX6_readsText_104 : decode cX6_readsText 104 = .ok (.goto (-38), 3) := by decide +kernel
theorem dX6_readsText_107 : decode cX6_readsText 107 = .ok (.return_, 1) := by decide +kernel
theorem dX6_feeds_0 : decode cX6_feeds 0 = .ok (.aload_n 0, 1) := by decide +kernel
theorem dX6_feeds_1 : decode cX6_feeds 1 = .ok (.getfield 25, 3) := by decide +kernel
theorem dX6_feeds_4 : decode cX6_feeds 4 = .ok (.aload_n 0, 1) := by decide +kernel
theorem dX6_feeds_5 : decode cX6_feeds 5 = .ok (.getfield 180, 3) := by decide +kernel
theorem dX6_feeds_8 : decode cX6_feeds 8 = .ok (.iload_n 1, 1) := by decide +kernel
theorem dX6_feeds_9 : decode cX6_feeds 9 = .ok (.bipush 24, 2) := by decide +kernel
theorem dX6_feeds_11 : decode cX6_feeds 11 = .ok (.ishr, 1) := by decide +kernel
theorem dX6_feeds_12 : decode cX6_feeds 12 = .ok (.i2b, 1) := by decide +kernel
theorem dX6_feeds_13 : decode cX6_feeds 13 = .ok (.bastore, 1) := by decide +kernel
theorem dX6_feeds_14 : decode cX6_feeds 14 = .ok (.aload_n 0, 1) := by decide +kernel
theorem dX6_feeds_15 : decode cX6_feeds 15 = .ok (.getfield 25, 3) := by decide +kernel
theorem dX6_feeds_18 : decode cX6_feeds 18 = .ok (.aload_n 0, 1) := by decide +kernel
theorem dX6_feeds_19 : decode cX6_feeds 19 = .ok (.getfield 180, 3) := by decide +kernel
theorem dX6_feeds_22 : decode cX6_feeds 22 = .ok (.iconst 1, 1) := by decide +kernel
theorem dX6_feeds_23 : decode cX6_feeds 23 = .ok (.iadd, 1) := by decide +kernel
theorem dX6_feeds_24 : decode cX6_feeds 24 = .ok (.iload_n 1, 1) := by decide +kernel
theorem dX6_feeds_25 : decode cX6_feeds 25 = .ok (.bipush 16, 2) := by decide +kernel
theorem dX6_feeds_27 : decode cX6_feeds 27 = .ok (.ishr, 1) := by decide +kernel
theorem dX6_feeds_28 : decode cX6_feeds 28 = .ok (.i2b, 1) := by decide +kernel
theorem dX6_feeds_29 : decode cX6_feeds 29 = .ok (.bastore, 1) := by decide +kernel
theorem dX6_feeds_30 : decode cX6_feeds 30 = .ok (.aload_n 0, 1) := by decide +kernel
theorem dX6_feeds_31 : decode cX6_feeds 31 = .ok (.getfield 25, 3) := by decide +kernel
theorem dX6_feeds_34 : decode cX6_feeds 34 = .ok (.aload_n 0, 1) := by decide +kernel
theorem dX6_feeds_35 : decode cX6_feeds 35 = .ok (.getfield 180, 3) := by decide +kernel
theorem dX6_feeds_38 : decode cX6_feeds 38 = .ok (.iconst 2, 1) := by decide +kernel
theorem dX6_feeds_39 : decode cX6_feeds 39 = .ok (.iadd, 1) := by decide +kernel
theorem dX6_feeds_40 : decode cX6_feeds 40 = .ok (.iload_n 1, 1) := by decide +kernel
theorem dX6_feeds_41 : decode cX6_feeds 41 = .ok (.bipush 8, 2) := by decide +kernel
theorem dX6_feeds_43 : decode cX6_feeds 43 = .ok (.ishr, 1) := by decide +kernel
theorem dX6_feeds_44 : decode cX6_feeds 44 = .ok (.i2b, 1) := by decide +kernel
theorem dX6_feeds_45 : decode cX6_feeds 45 = .ok (.bastore, 1) := by decide +kernel
theorem dX6_feeds_46 : decode cX6_feeds 46 = .ok (.aload_n 0, 1) := by decide +kernel
theorem dX6_feeds_47 : decode cX6_feeds 47 = .ok (.getfield 25, 3) := by decide +kernel
theorem dX6_feeds_50 : decode cX6_feeds 50 = .ok (.aload_n 0, 1) := by decide +kernel
theorem dX6_feeds_51 : decode cX6_feeds 51 = .ok (.getfield 180, 3) := by decide +kernel
theorem dX6_feeds_54 : decode cX6_feeds 54 = .ok (.iconst 3, 1) := by decide +kernel
theorem dX6_feeds_55 : decode cX6_feeds 55 = .ok (.iadd, 1) := by decide +kernel
theorem dX6_feeds_56 : decode cX6_feeds 56 = .ok (.iload_n 1, 1) := by decide +kernel
theorem dX6_feeds_57 : decode cX6_feeds 57 = .ok (.i2b, 1) := by decide +kernel
theorem dX6_feeds_58 : decode cX6_feeds 58 = .ok (.bastore, 1) := by decide +kernel
theorem dX6_feeds_59 : decode cX6_feeds 59 = .ok (.aload_n 0, 1) := by decide +kernel
theorem dX6_feeds_60 : decode cX6_feeds 60 = .ok (.dup, 1) := by decide +kernel
theorem dX6_feeds_61 : decode cX6_feeds 61 = .ok (.getfield 180, 3) := by decide +kernel
theorem dX6_feeds_64 : decode cX6_feeds 64 = .ok (.iconst 4, 1) := by decide +kernel
theorem dX6_feeds_65 : decode cX6_feeds 65 = .ok (.iadd, 1) := by decide +kernel
theorem dX6_feeds_66 : decode cX6_feeds 66 = .ok (.putfield 180, 3) := by decide +kernel
theorem dX6_feeds_69 : decode cX6_feeds 69 = .ok (.return_, 1) := by decide +kernel
theorem dX6_append_0 : decode cX6_append 0 = .ok (.aload_n 0, 1) := by decide +kernel
theorem dX6_append_1 : decode cX6_append 1 = .ok (.getfield 180, 3) := by decide +kernel
theorem dX6_append_4 : decode cX6_append 4 = .ok (.sipush 580, 3) := by decide +kernel
theorem dX6_append_7 : decode cX6_append 7 = .ok (.if_icmp .le 9, 3) := by decide +kernel
theorem dX6_append_10 : decode cX6_append 10 = .ok (.aload_n 0, 1) := by decide +kernel
theorem dX6_append_11 : decode cX6_append 11 = .ok (.iconst 1, 1) := by decide +kernel
theorem dX6_append_12 : decode cX6_append 12 = .ok (.invokevirtual 183, 3) := by decide +kernel
theorem dX6_append_15 : decode cX6_append 15 = .ok (.ireturn, 1) := by decide +kernel
theorem dX6_append_16 : decode cX6_append 16 = .ok (.aload_n 0, 1) := by decide +kernel
theorem dX6_append_17 : decode cX6_append 17 = .ok (.iload_n 1, 1) := by decide +kernel
theorem dX6_append_18 : decode cX6_append 18 = .ok (.invokevirtual 186, 3) := by decide +kernel
theorem dX6_append_21 : decode cX6_append 21 = .ok (.aload_n 0, 1) := by decide +kernel
theorem dX6_append_22 : decode cX6_append 22 = .ok (.iload_n 2, 1) := by decide +kernel
theorem dX6_append_23 : decode cX6_append 23 = .ok (.invokevirtual 186, 3) := by decide +kernel
theorem dX6_append_26 : decode cX6_append 26 = .ok (.aload_n 0, 1) := by decide +kernel
theorem dX6_append_27 : decode cX6_append 27 = .ok (.iload_n 3, 1) := by decide +kernel
theorem dX6_append_28 : decode cX6_append 28 = .ok (.invokevirtual 186, 3) := by decide +kernel
theorem dX6_append_31 : decode cX6_append 31 = .ok (.aload_n 0, 1) := by decide +kernel
theorem dX6_append_32 : decode cX6_append 32 = .ok (.iload 4, 2) := by decide +kernel
theorem dX6_append_34 : decode cX6_append 34 = .ok (.invokevirtual 186, 3) := by decide +kernel
theorem dX6_append_37 : decode cX6_append 37 = .ok (.aload_n 0, 1) := by decide +kernel
theorem dX6_append_38 : decode cX6_append 38 = .ok (.iload 5, 2) := by decide +kernel
theorem dX6_append_40 : decode cX6_append 40 = .ok (.invokevirtual 186, 3) := by decide +kernel
theorem dX6_append_43 : decode cX6_append 43 = .ok (.aload_n 0, 1) := by decide +kernel
theorem dX6_append_44 : decode cX6_append 44 = .ok (.aload_n 0, 1) := by decide +kernel
theorem dX6_append_45 : decode cX6_append 45 = .ok (.getfield 180, 3) := by decide +kernel
theorem dX6_append_48 : decode cX6_append 48 = .ok (.invokevirtual 189, 3) := by decide +kernel
theorem dX6_append_51 : decode cX6_append 51 = .ok (.ireturn, 1) := by decide +kernel
theorem dX6_load_0 : decode cX6_load 0 = .ok (.iload_n 1, 1) := by decide +kernel
theorem dX6_load_1 : decode cX6_load 1 = .ok (.iconst 0, 1) := by decide +kernel
theorem dX6_load_2 : decode cX6_load 2 = .ok (.aload_n 0, 1) := by decide +kernel
theorem dX6_load_3 : decode cX6_load 3 = .ok (.getfield 180, 3) := by decide +kernel
theorem dX6_load_6 : decode cX6_load 6 = .ok (.invokestatic 54, 3) := by decide +kernel
theorem dX6_load_9 : decode cX6_load 9 = .ok (.ifCond .ne 9, 3) := by decide +kernel
theorem dX6_load_12 : decode cX6_load 12 = .ok (.aload_n 0, 1) := by decide +kernel
theorem dX6_load_13 : decode cX6_load 13 = .ok (.iconst 1, 1) := by decide +kernel
theorem dX6_load_14 : decode cX6_load 14 = .ok (.invokevirtual 183, 3) := by decide +kernel
theorem dX6_load_17 : decode cX6_load 17 = .ok (.ireturn, 1) := by decide +kernel
theorem dX6_load_18 : decode cX6_load 18 = .ok (.aload_n 0, 1) := by decide +kernel
theorem dX6_load_19 : decode cX6_load 19 = .ok (.invokevirtual 192, 3) := by decide +kernel
theorem dX6_load_22 : decode cX6_load 22 = .ok (.aload_n 0, 1) := by decide +kernel
theorem dX6_load_23 : decode cX6_load 23 = .ok (.iload_n 1, 1) := by decide +kernel
theorem dX6_load_24 : decode cX6_load 24 = .ok (.invokevirtual 195, 3) := by decide +kernel
theorem dX6_load_27 : decode cX6_load 27 = .ok (.aload_n 0, 1) := by decide +kernel
theorem dX6_load_28 : decode cX6_load 28 = .ok (.iconst 0, 1) := by decide +kernel
theorem dX6_load_29 : decode cX6_load 29 = .ok (.putfield 180, 3) := by decide +kernel
theorem dX6_load_32 : decode cX6_load 32 = .ok (.aload_n 0, 1) := by decide +kernel
theorem dX6_load_33 : decode cX6_load 33 = .ok (.aload_n 0, 1) := by decide +kernel
theorem dX6_load_34 : decode cX6_load 34 = .ok (.getfield 129, 3) := by decide +kernel
theorem dX6_load_37 : decode cX6_load 37 = .ok (.putfield 198, 3) := by decide +kernel
theorem dX6_load_40 : decode cX6_load 40 = .ok (.aload_n 0, 1) := by decide +kernel
theorem dX6_load_41 : decode cX6_load 41 = .ok (.aload_n 0, 1) := by decide +kernel
theorem dX6_load_42 : decode cX6_load 42 = .ok (.getfield 129, 3) := by decide +kernel
theorem dX6_load_45 : decode cX6_load 45 = .ok (.ifCond .ne 7, 3) := by decide +kernel
theorem dX6_load_48 : decode cX6_load 48 = .ok (.iconst (-1), 1) := by decide +kernel
theorem dX6_load_49 : decode cX6_load 49 = .ok (.goto 7, 3) := by decide +kernel
theorem dX6_load_52 : decode cX6_load 52 = .ok (.aload_n 0, 1) := by decide +kernel
theorem dX6_load_53 : decode cX6_load 53 = .ok (.getfield 132, 3) := by decide +kernel
theorem dX6_load_56 : decode cX6_load 56 = .ok (.putfield 32, 3) := by decide +kernel
theorem dX6_load_59 : decode cX6_load 59 = .ok (.aload_n 0, 1) := by decide +kernel
theorem dX6_load_60 : decode cX6_load 60 = .ok (.getfield 129, 3) := by decide +kernel
theorem dX6_load_63 : decode cX6_load 63 = .ok (.ifCond .eq 13, 3) := by decide +kernel
theorem dX6_load_66 : decode cX6_load 66 = .ok (.aload_n 0, 1) := by decide +kernel
theorem dX6_load_67 : decode cX6_load 67 = .ok (.invokevirtual 201, 3) := by decide +kernel
theorem dX6_load_70 : decode cX6_load 70 = .ok (.aload_n 0, 1) := by decide +kernel
theorem dX6_load_71 : decode cX6_load 71 = .ok (.iconst 2, 1) := by decide +kernel
theorem dX6_load_72 : decode cX6_load 72 = .ok (.invokevirtual 183, 3) := by decide +kernel
theorem dX6_load_75 : decode cX6_load 75 = .ok (.ireturn, 1) := by decide +kernel
theorem dX6_load_76 : decode cX6_load 76 = .ok (.aload_n 0, 1) := by decide +kernel
theorem dX6_load_77 : decode cX6_load 77 = .ok (.iconst 0, 1) := by decide +kernel
theorem dX6_load_78 : decode cX6_load 78 = .ok (.putfield 95, 3) := by decide +kernel
theorem dX6_load_81 : decode cX6_load 81 = .ok (.aload_n 0, 1) := by decide +kernel
theorem dX6_load_82 : decode cX6_load 82 = .ok (.iconst 0, 1) := by decide +kernel
theorem dX6_load_83 : decode cX6_load 83 = .ok (.putfield 204, 3) := by decide +kernel
theorem dX6_load_86 : decode cX6_load 86 = .ok (.aload_n 0, 1) := by decide +kernel
theorem dX6_load_87 : decode cX6_load 87 = .ok (.aload_n 0, 1) := by decide +kernel
theorem dX6_load_88 : decode cX6_load 88 = .ok (.getfield 13, 3) := by decide +kernel
theorem dX6_load_91 : decode cX6_load 91 = .ok (.iconst 1, 1) := by decide +kernel
theorem dX6_load_92 : decode cX6_load 92 = .ok (.iaload, 1) := by decide +kernel
theorem dX6_load_93 : decode cX6_load 93 = .ok (.invokevirtual 189, 3) := by decide +kernel
theorem dX6_load_96 : decode cX6_load 96 = .ok (.ireturn, 1) := by decide +kernel
theorem dX6_errorKind_0 : decode cX6_errorKind 0 = .ok (.aload_n 0, 1) := by decide +kernel
theorem dX6_errorKind_1 : decode cX6_errorKind 1 = .ok (.aload_n 0, 1) := by decide +kernel
theorem dX6_errorKind_2 : decode cX6_errorKind 2 = .ok (.getfield 198, 3) := by decide +kernel
theorem dX6_errorKind_5 : decode cX6_errorKind 5 = .ok (.invokevirtual 189, 3) := by decide +kernel
theorem dX6_errorKind_8 : decode cX6_errorKind 8 = .ok (.ireturn, 1) := by decide +kernel
theorem dX6_errorOffset_0 : decode cX6_errorOffset 0 = .ok (.aload_n 0, 1) := by decide +kernel
theorem dX6_errorOffset_1 : decode cX6_errorOffset 1 = .ok (.aload_n 0, 1) := by decide +kernel
theorem dX6_errorOffset_2 : decode cX6_errorOffset 2 = .ok (.getfield 32, 3) := by decide +kernel
theorem dX6_errorOffset_5 : decode cX6_errorOffset 5 = .ok (.invokevirtual 189, 3) := by decide +kernel
theorem dX6_errorOffset_8 : decode cX6_errorOffset 8 = .ok (.ireturn, 1) := by decide +kernel
theorem dX6_tick_0 : decode cX6_tick 0 = .ok (.aload_n 0, 1) := by decide +kernel
theorem dX6_tick_1 : decode cX6_tick 1 = .ok (.aload_n 0, 1) := by decide +kernel
theorem dX6_tick_2 : decode cX6_tick 2 = .ok (.getfield 13, 3) := by decide +kernel
theorem dX6_tick_5 : decode cX6_tick 5 = .ok (.iconst 0, 1) := by decide +kernel
theorem dX6_tick_6 : decode cX6_tick 6 = .ok (.iaload, 1) := by decide +kernel
theorem dX6_tick_7 : decode cX6_tick 7 = .ok (.invokevirtual 189, 3) := by decide +kernel
theorem dX6_tick_10 : decode cX6_tick 10 = .ok (.ireturn, 1) := by decide +kernel
theorem dX6_blockCount_0 : decode cX6_blockCount 0 = .ok (.aload_n 0, 1) := by decide +kernel
theorem dX6_blockCount_1 : decode cX6_blockCount 1 = .ok (.aload_n 0, 1) := by decide +kernel
theorem dX6_blockCount_2 : decode cX6_blockCount 2 = .ok (.getfield 13, 3) := by decide +kernel
theorem dX6_blockCount_5 : decode cX6_blockCount 5 = .ok (.iconst 1, 1) := by decide +kernel
theorem dX6_blockCount_6 : decode cX6_blockCount 6 = .ok (.iaload, 1) := by decide +kernel
theorem dX6_blockCount_7 : decode cX6_blockCount 7 = .ok (.invokevirtual 189, 3) := by decide +kernel
theorem dX6_blockCount_10 : decode cX6_blockCount 10 = .ok (.ireturn, 1) := by decide +kernel
theorem dX6_lengthOf_0 : decode cX6_lengthOf 0 = .ok (.aload_n 0, 1) := by decide +kernel
theorem dX6_lengthOf_1 : decode cX6_lengthOf 1 = .ok (.iload_n 1, 1) := by decide +kernel
theorem dX6_lengthOf_2 : decode cX6_lengthOf 2 = .ok (.invokevirtual 207, 3) := by decide +kernel
theorem dX6_lengthOf_5 : decode cX6_lengthOf 5 = .ok (.ifCond .ne 9, 3) := by decide +kernel
theorem dX6_lengthOf_8 : decode cX6_lengthOf 8 = .ok (.aload_n 0, 1) := by decide +kernel
theorem dX6_lengthOf_9 : decode cX6_lengthOf 9 = .ok (.iconst 1, 1) := by decide +kernel
theorem dX6_lengthOf_10 : decode cX6_lengthOf 10 = .ok (.invokevirtual 183, 3) := by decide +kernel
theorem dX6_lengthOf_13 : decode cX6_lengthOf 13 = .ok (.ireturn, 1) := by decide +kernel
theorem dX6_lengthOf_14 : decode cX6_lengthOf 14 = .ok (.aload_n 0, 1) := by decide +kernel
theorem dX6_lengthOf_15 : decode cX6_lengthOf 15 = .ok (.aload_n 0, 1) := by decide +kernel
theorem dX6_lengthOf_16 : decode cX6_lengthOf 16 = .ok (.getfield 13, 3) := by decide +kernel
theorem dX6_lengthOf_19 : decode cX6_lengthOf 19 = .ok (.iload_n 1, 1) := by decide +kernel
theorem dX6_lengthOf_20 : decode cX6_lengthOf 20 = .ok (.invokestatic 44, 3) := by decide +kernel
theorem dX6_lengthOf_23 : decode cX6_lengthOf 23 = .ok (.iconst 0, 1) := by decide +kernel
theorem dX6_lengthOf_24 : decode cX6_lengthOf 24 = .ok (.iadd, 1) := by decide +kernel
theorem dX6_lengthOf_25 : decode cX6_lengthOf 25 = .ok (.iaload, 1) := by decide +kernel
theorem dX6_lengthOf_26 : decode cX6_lengthOf 26 = .ok (.invokevirtual 189, 3) := by decide +kernel
theorem dX6_lengthOf_29 : decode cX6_lengthOf 29 = .ok (.ireturn, 1) := by decide +kernel
theorem dX6_depthOf_0 : decode cX6_depthOf 0 = .ok (.aload_n 0, 1) := by decide +kernel
theorem dX6_depthOf_1 : decode cX6_depthOf 1 = .ok (.iload_n 1, 1) := by decide +kernel
theorem dX6_depthOf_2 : decode cX6_depthOf 2 = .ok (.invokevirtual 207, 3) := by decide +kernel
theorem dX6_depthOf_5 : decode cX6_depthOf 5 = .ok (.ifCond .ne 9, 3) := by decide +kernel
theorem dX6_depthOf_8 : decode cX6_depthOf 8 = .ok (.aload_n 0, 1) := by decide +kernel
theorem dX6_depthOf_9 : decode cX6_depthOf 9 = .ok (.iconst 1, 1) := by decide +kernel
theorem dX6_depthOf_10 : decode cX6_depthOf 10 = .ok (.invokevirtual 183, 3) := by decide +kernel
theorem dX6_depthOf_13 : decode cX6_depthOf 13 = .ok (.ireturn, 1) := by decide +kernel
theorem dX6_depthOf_14 : decode cX6_depthOf 14 = .ok (.aload_n 0, 1) := by decide +kernel
theorem dX6_depthOf_15 : decode cX6_depthOf 15 = .ok (.aload_n 0, 1) := by decide +kernel
theorem dX6_depthOf_16 : decode cX6_depthOf 16 = .ok (.getfield 13, 3) := by decide +kernel
theorem dX6_depthOf_19 : decode cX6_depthOf 19 = .ok (.iload_n 1, 1) := by decide +kernel
theorem dX6_depthOf_20 : decode cX6_depthOf 20 = .ok (.invokestatic 44, 3) := by decide +kernel
theorem dX6_depthOf_23 : decode cX6_depthOf 23 = .ok (.iconst 1, 1) := by decide +kernel
theorem dX6_depthOf_24 : decode cX6_depthOf 24 = .ok (.iadd, 1) := by decide +kernel
theorem dX6_depthOf_25 : decode cX6_depthOf 25 = .ok (.iaload, 1) := by decide +kernel
theorem dX6_depthOf_26 : decode cX6_depthOf 26 = .ok (.invokevirtual 189, 3) := by decide +kernel
theorem dX6_depthOf_29 : decode cX6_depthOf 29 = .ok (.ireturn, 1) := by decide +kernel
theorem dX6_isBend_0 : decode cX6_isBend 0 = .ok (.aload_n 0, 1) := by decide +kernel
theorem dX6_isBend_1 : decode cX6_isBend 1 = .ok (.iload_n 1, 1) := by decide +kernel
theorem dX6_isBend_2 : decode cX6_isBend 2 = .ok (.invokevirtual 207, 3) := by decide +kernel
theorem dX6_isBend_5 : decode cX6_isBend 5 = .ok (.ifCond .ne 8, 3) := by decide +kernel
theorem dX6_isBend_8 : decode cX6_isBend 8 = .ok (.aload_n 0, 1) := by decide +kernel
theorem dX6_isBend_9 : decode cX6_isBend 9 = .ok (.invokevirtual 210, 3) := by decide +kernel
theorem dX6_isBend_12 : decode cX6_isBend 12 = .ok (.ireturn, 1) := by decide +kernel
theorem dX6_isBend_13 : decode cX6_isBend 13 = .ok (.aload_n 0, 1) := by decide +kernel
theorem dX6_isBend_14 : decode cX6_isBend 14 = .ok (.aload_n 0, 1) := by decide +kernel
theorem dX6_isBend_15 : decode cX6_isBend 15 = .ok (.getfield 13, 3) := by decide +kernel
theorem dX6_isBend_18 : decode cX6_isBend 18 = .ok (.iload_n 1, 1) := by decide +kernel
theorem dX6_isBend_19 : decode cX6_isBend 19 = .ok (.invokestatic 44, 3) := by decide +kernel
theorem dX6_isBend_22 : decode cX6_isBend 22 = .ok (.iconst 3, 1) := by decide +kernel
theorem dX6_isBend_23 : decode cX6_isBend 23 = .ok (.iadd, 1) := by decide +kernel
theorem dX6_isBend_24 : decode cX6_isBend 24 = .ok (.iaload, 1) := by decide +kernel
theorem dX6_isBend_25 : decode cX6_isBend 25 = .ok (.iconst 1, 1) := by decide +kernel
theorem dX6_isBend_26 : decode cX6_isBend 26 = .ok (.if_icmp .ne 7, 3) := by decide +kernel
theorem dX6_isBend_29 : decode cX6_isBend 29 = .ok (.iconst 1, 1) := by decide +kernel
theorem dX6_isBend_30 : decode cX6_isBend 30 = .ok (.goto 4, 3) := by decide +kernel
theorem dX6_isBend_33 : decode cX6_isBend 33 = .ok (.iconst 0, 1) := by decide +kernel
theorem dX6_isBend_34 : decode cX6_isBend 34 = .ok (.invokevirtual 214, 3) := by decide +kernel
theorem dX6_isBend_37 : decode cX6_isBend 37 = .ok (.ireturn, 1) := by decide +kernel
theorem dX6_limitOf_0 : decode cX6_limitOf 0 = .ok (.aload_n 0, 1) := by decide +kernel
theorem dX6_limitOf_1 : decode cX6_limitOf 1 = .ok (.iload_n 1, 1) := by decide +kernel
theorem dX6_limitOf_2 : decode cX6_limitOf 2 = .ok (.invokevirtual 207, 3) := by decide +kernel
theorem dX6_limitOf_5 : decode cX6_limitOf 5 = .ok (.ifCond .ne 9, 3) := by decide +kernel
theorem dX6_limitOf_8 : decode cX6_limitOf 8 = .ok (.aload_n 0, 1) := by decide +kernel
theorem dX6_limitOf_9 : decode cX6_limitOf 9 = .ok (.iconst 1, 1) := by decide +kernel
theorem dX6_limitOf_10 : decode cX6_limitOf 10 = .ok (.invokevirtual 183, 3) := by decide +kernel
theorem dX6_limitOf_13 : decode cX6_limitOf 13 = .ok (.ireturn, 1) := by decide +kernel
theorem dX6_limitOf_14 : decode cX6_limitOf 14 = .ok (.aload_n 0, 1) := by decide +kernel
theorem dX6_limitOf_15 : decode cX6_limitOf 15 = .ok (.aload_n 0, 1) := by decide +kernel
theorem dX6_limitOf_16 : decode cX6_limitOf 16 = .ok (.getfield 13, 3) := by decide +kernel
theorem dX6_limitOf_19 : decode cX6_limitOf 19 = .ok (.iload_n 1, 1) := by decide +kernel
theorem dX6_limitOf_20 : decode cX6_limitOf 20 = .ok (.invokestatic 44, 3) := by decide +kernel
theorem dX6_limitOf_23 : decode cX6_limitOf 23 = .ok (.iconst 2, 1) := by decide +kernel
theorem dX6_limitOf_24 : decode cX6_limitOf 24 = .ok (.iadd, 1) := by decide +kernel
theorem dX6_limitOf_25 : decode cX6_limitOf 25 = .ok (.iaload, 1) := by decide +kernel
theorem dX6_limitOf_26 : decode cX6_limitOf 26 = .ok (.invokevirtual 189, 3) := by decide +kernel
theorem dX6_limitOf_29 : decode cX6_limitOf 29 = .ok (.ireturn, 1) := by decide +kernel
theorem dX6_isClear_0 : decode cX6_isClear 0 = .ok (.aload_n 0, 1) := by decide +kernel
theorem dX6_isClear_1 : decode cX6_isClear 1 = .ok (.iload_n 1, 1) := by decide +kernel
theorem dX6_isClear_2 : decode cX6_isClear 2 = .ok (.invokevirtual 207, 3) := by decide +kernel
theorem dX6_isClear_5 : decode cX6_isClear 5 = .ok (.ifCond .ne 8, 3) := by decide +kernel
theorem dX6_isClear_8 : decode cX6_isClear 8 = .ok (.aload_n 0, 1) := by decide +kernel
theorem dX6_isClear_9 : decode cX6_isClear 9 = .ok (.invokevirtual 210, 3) := by decide +kernel
theorem dX6_isClear_12 : decode cX6_isClear 12 = .ok (.ireturn, 1) := by decide +kernel
theorem dX6_isClear_13 : decode cX6_isClear 13 = .ok (.aload_n 0, 1) := by decide +kernel
theorem dX6_isClear_14 : decode cX6_isClear 14 = .ok (.aload_n 0, 1) := by decide +kernel
theorem dX6_isClear_15 : decode cX6_isClear 15 = .ok (.getfield 13, 3) := by decide +kernel
theorem dX6_isClear_18 : decode cX6_isClear 18 = .ok (.iload_n 1, 1) := by decide +kernel
theorem dX6_isClear_19 : decode cX6_isClear 19 = .ok (.invokestatic 44, 3) := by decide +kernel
theorem dX6_isClear_22 : decode cX6_isClear 22 = .ok (.iconst 4, 1) := by decide +kernel
theorem dX6_isClear_23 : decode cX6_isClear 23 = .ok (.iadd, 1) := by decide +kernel
theorem dX6_isClear_24 : decode cX6_isClear 24 = .ok (.iaload, 1) := by decide +kernel
theorem dX6_isClear_25 : decode cX6_isClear 25 = .ok (.iconst 1, 1) := by decide +kernel
theorem dX6_isClear_26 : decode cX6_isClear 26 = .ok (.if_icmp .ne 7, 3) := by decide +kernel
theorem dX6_isClear_29 : decode cX6_isClear 29 = .ok (.iconst 1, 1) := by decide +kernel
theorem dX6_isClear_30 : decode cX6_isClear 30 = .ok (.goto 4, 3) := by decide +kernel
theorem dX6_isClear_33 : decode cX6_isClear 33 = .ok (.iconst 0, 1) := by decide +kernel
theorem dX6_isClear_34 : decode cX6_isClear 34 = .ok (.invokevirtual 214, 3) := by decide +kernel
theorem dX6_isClear_37 : decode cX6_isClear 37 = .ok (.ireturn, 1) := by decide +kernel
theorem dX6_trainIn_0 : decode cX6_trainIn 0 = .ok (.aload_n 0, 1) := by decide +kernel
theorem dX6_trainIn_1 : decode cX6_trainIn 1 = .ok (.iload_n 1, 1) := by decide +kernel
theorem dX6_trainIn_2 : decode cX6_trainIn 2 = .ok (.invokevirtual 207, 3) := by decide +kernel
theorem dX6_trainIn_5 : decode cX6_trainIn 5 = .ok (.ifCond .ne 9, 3) := by decide +kernel
theorem dX6_trainIn_8 : decode cX6_trainIn 8 = .ok (.aload_n 0, 1) := by decide +kernel
theorem dX6_trainIn_9 : decode cX6_trainIn 9 = .ok (.iconst 1, 1) := by decide +kernel
theorem dX6_trainIn_10 : decode cX6_trainIn 10 = .ok (.invokevirtual 183, 3) := by decide +kernel
theorem dX6_trainIn_13 : decode cX6_trainIn 13 = .ok (.ireturn, 1) := by decide +kernel
theorem dX6_trainIn_14 : decode cX6_trainIn 14 = .ok (.aload_n 0, 1) := by decide +kernel
theorem dX6_trainIn_15 : decode cX6_trainIn 15 = .ok (.aload_n 0, 1) := by decide +kernel
theorem dX6_trainIn_16 : decode cX6_trainIn 16 = .ok (.iload_n 1, 1) := by decide +kernel
theorem dX6_trainIn_17 : decode cX6_trainIn 17 = .ok (.invokevirtual 61, 3) := by decide +kernel
theorem dX6_trainIn_20 : decode cX6_trainIn 20 = .ok (.invokevirtual 189, 3) := by decide +kernel
theorem dX6_trainIn_23 : decode cX6_trainIn 23 = .ok (.ireturn, 1) := by decide +kernel
theorem dX6_lostIn_0 : decode cX6_lostIn 0 = .ok (.aload_n 0, 1) := by decide +kernel
theorem dX6_lostIn_1 : decode cX6_lostIn 1 = .ok (.iload_n 1, 1) := by decide +kernel
theorem dX6_lostIn_2 : decode cX6_lostIn 2 = .ok (.invokevirtual 207, 3) := by decide +kernel
theorem dX6_lostIn_5 : decode cX6_lostIn 5 = .ok (.ifCond .ne 9, 3) := by decide +kernel
theorem dX6_lostIn_8 : decode cX6_lostIn 8 = .ok (.aload_n 0, 1) := by decide +kernel
theorem dX6_lostIn_9 : decode cX6_lostIn 9 = .ok (.iconst 1, 1) := by decide +kernel
theorem dX6_lostIn_10 : decode cX6_lostIn 10 = .ok (.invokevirtual 183, 3) := by decide +kernel
theorem dX6_lostIn_13 : decode cX6_lostIn 13 = .ok (.ireturn, 1) := by decide +kernel
theorem dX6_lostIn_14 : decode cX6_lostIn 14 = .ok (.aload_n 0, 1) := by decide +kernel
theorem dX6_lostIn_15 : decode cX6_lostIn 15 = .ok (.aload_n 0, 1) := by decide +kernel
theorem dX6_lostIn_16 : decode cX6_lostIn 16 = .ok (.getfield 13, 3) := by decide +kernel
theorem dX6_lostIn_19 : decode cX6_lostIn 19 = .ok (.iload_n 1, 1) := by decide +kernel
theorem dX6_lostIn_20 : decode cX6_lostIn 20 = .ok (.invokestatic 44, 3) := by decide +kernel
theorem dX6_lostIn_23 : decode cX6_lostIn 23 = .ok (.iconst 5, 1) := by decide +kernel
theorem dX6_lostIn_24 : decode cX6_lostIn 24 = .ok (.iadd, 1) := by decide +kernel
theorem dX6_lostIn_25 : decode cX6_lostIn 25 = .ok (.iaload, 1) := by decide +kernel
theorem dX6_lostIn_26 : decode cX6_lostIn 26 = .ok (.invokevirtual 189, 3) := by decide +kernel
theorem dX6_lostIn_29 : decode cX6_lostIn 29 = .ok (.ireturn, 1) := by decide +kernel
theorem dX6_departuresFrom_0 : decode cX6_departuresFrom 0 = .ok (.aload_n 0, 1) := by decide +kernel
theorem dX6_departuresFrom_1 : decode cX6_departuresFrom 1 = .ok (.iload_n 1, 1) := by decide +kernel
theorem dX6_departuresFrom_2 : decode cX6_departuresFrom 2 = .ok (.invokevirtual 207, 3) := by decide +kernel
theorem dX6_departuresFrom_5 : decode cX6_departuresFrom 5 = .ok (.ifCond .ne 9, 3) := by decide +kernel
theorem dX6_departuresFrom_8 : decode cX6_departuresFrom 8 = .ok (.aload_n 0, 1) := by decide +kernel
theorem dX6_departuresFrom_9 : decode cX6_departuresFrom 9 = .ok (.iconst 1, 1) := by decide +kernel
theorem dX6_departuresFrom_10 : decode cX6_departuresFrom 10 = .ok (.invokevirtual 183, 3) := by decide +kernel
theorem dX6_departuresFrom_13 : decode cX6_departuresFrom 13 = .ok (.ireturn, 1) := by decide +kernel
theorem dX6_departuresFrom_14 : decode cX6_departuresFrom 14 = .ok (.iconst 0, 1) := by decide +kernel
theorem dX6_departuresFrom_15 : decode cX6_departuresFrom 15 = .ok (.istore_n 2, 1) := by decide +kernel
theorem dX6_departuresFrom_16 : decode cX6_departuresFrom 16 = .ok (.iconst 0, 1) := by decide +kernel
theorem dX6_departuresFrom_17 : decode cX6_departuresFrom 17 = .ok (.istore_n 3, 1) := by decide +kernel
theorem dX6_departuresFrom_18 : decode cX6_departuresFrom 18 = .ok (.iload_n 3, 1) := by decide +kernel
theorem dX6_departuresFrom_19 : decode cX6_departuresFrom 19 = .ok (.aload_n 0, 1) := by decide +kernel
theorem dX6_departuresFrom_20 : decode cX6_departuresFrom 20 = .ok (.getfield 13, 3) := by decide +kernel
theorem dX6_departuresFrom_23 : decode cX6_departuresFrom 23 = .ok (.iconst 2, 1) := by decide +kernel
theorem dX6_departuresFrom_24 : decode cX6_departuresFrom 24 = .ok (.iaload, 1) := by decide +kernel
theorem dX6_departuresFrom_25 : decode cX6_departuresFrom 25 = .ok (.if_icmp .ge 22, 3) := by decide +kernel
theorem dX6_departuresFrom_28 : decode cX6_departuresFrom 28 = .ok (.iload_n 2, 1) := by decide +kernel
theorem dX6_departuresFrom_29 : decode cX6_departuresFrom 29 = .ok (.aload_n 0, 1) := by decide +kernel
theorem dX6_departuresFrom_30 : decode cX6_departuresFrom 30 = .ok (.getfield 13, 3) := by decide +kernel
theorem dX6_departuresFrom_33 : decode cX6_departuresFrom 33 = .ok (.iload_n 3, 1) := by decide +kernel
theorem dX6_departuresFrom_34 : decode cX6_departuresFrom 34 = .ok (.iload_n 1, 1) := by decide +kernel
theorem dX6_departuresFrom_35 : decode cX6_departuresFrom 35 = .ok (.invokestatic 74, 3) := by decide +kernel
theorem dX6_departuresFrom_38 : decode cX6_departuresFrom 38 = .ok (.iaload, 1) := by decide +kernel
theorem dX6_departuresFrom_39 : decode cX6_departuresFrom 39 = .ok (.iadd, 1) := by decide +kernel
theorem dX6_departuresFrom_40 : decode cX6_departuresFrom 40 = .ok (.istore_n 2, 1) := by decide +kernel
theorem dX6_departuresFrom_41 : decode cX6_departuresFrom 41 = .ok (.iinc 3 1, 3) := by decide +kernel
theorem dX6_departuresFrom_44 : decode cX6_departuresFrom 44 = .ok (.goto (-26), 3) := by decide +kernel
theorem dX6_departuresFrom_47 : decode cX6_departuresFrom 47 = .ok (.aload_n 0, 1) := by decide +kernel
theorem dX6_departuresFrom_48 : decode cX6_departuresFrom 48 = .ok (.iload_n 2, 1) := by decide +kernel
theorem dX6_departuresFrom_49 : decode cX6_departuresFrom 49 = .ok (.invokevirtual 189, 3) := by decide +kernel
theorem dX6_departuresFrom_52 : decode cX6_departuresFrom 52 = .ok (.ireturn, 1) := by decide +kernel
theorem dX6_obstacle_0 : decode cX6_obstacle 0 = .ok (.aload_n 0, 1) := by decide +kernel
theorem dX6_obstacle_1 : decode cX6_obstacle 1 = .ok (.iload_n 1, 1) := by decide +kernel
theorem dX6_obstacle_2 : decode cX6_obstacle 2 = .ok (.invokevirtual 207, 3) := by decide +kernel
theorem dX6_obstacle_5 : decode cX6_obstacle 5 = .ok (.ifCond .ne 9, 3) := by decide +kernel
theorem dX6_obstacle_8 : decode cX6_obstacle 8 = .ok (.aload_n 0, 1) := by decide +kernel
theorem dX6_obstacle_9 : decode cX6_obstacle 9 = .ok (.iconst 1, 1) := by decide +kernel
theorem dX6_obstacle_10 : decode cX6_obstacle 10 = .ok (.invokevirtual 183, 3) := by decide +kernel
theorem dX6_obstacle_13 : decode cX6_obstacle 13 = .ok (.ireturn, 1) := by decide +kernel
theorem dX6_obstacle_14 : decode cX6_obstacle 14 = .ok (.aload_n 0, 1) := by decide +kernel
theorem dX6_obstacle_15 : decode cX6_obstacle 15 = .ok (.aload_n 0, 1) := by decide +kernel
theorem dX6_obstacle_16 : decode cX6_obstacle 16 = .ok (.iload_n 1, 1) := by decide +kernel
theorem dX6_obstacle_17 : decode cX6_obstacle 17 = .ok (.invokevirtual 156, 3) := by decide +kernel
theorem dX6_obstacle_20 : decode cX6_obstacle 20 = .ok (.invokevirtual 189, 3) := by decide +kernel
theorem dX6_obstacle_23 : decode cX6_obstacle 23 = .ok (.ireturn, 1) := by decide +kernel
theorem dX6_freeLevers_0 : decode cX6_freeLevers 0 = .ok (.iconst 0, 1) := by decide +kernel
theorem dX6_freeLevers_1 : decode cX6_freeLevers 1 = .ok (.istore_n 1, 1) := by decide +kernel
theorem dX6_freeLevers_2 : decode cX6_freeLevers 2 = .ok (.iconst 0, 1) := by decide +kernel
theorem dX6_freeLevers_3 : decode cX6_freeLevers 3 = .ok (.istore_n 2, 1) := by decide +kernel
theorem dX6_freeLevers_4 : decode cX6_freeLevers 4 = .ok (.iload_n 2, 1) := by decide +kernel
theorem dX6_freeLevers_5 : decode cX6_freeLevers 5 = .ok (.aload_n 0, 1) := by decide +kernel
theorem dX6_freeLevers_6 : decode cX6_freeLevers 6 = .ok (.getfield 13, 3) := by decide +kernel
theorem dX6_freeLevers_9 : decode cX6_freeLevers 9 = .ok (.iconst 1, 1) := by decide +kernel
theorem dX6_freeLevers_10 : decode cX6_freeLevers 10 = .ok (.iaload, 1) := by decide +kernel
theorem dX6_freeLevers_11 : decode cX6_freeLevers 11 = .ok (.if_icmp .ge 20, 3) := by decide +kernel
theorem dX6_freeLevers_14 : decode cX6_freeLevers 14 = .ok (.aload_n 0, 1) := by decide +kernel
theorem dX6_freeLevers_15 : decode cX6_freeLevers 15 = .ok (.iload_n 2, 1) := by decide +kernel
theorem dX6_freeLevers_16 : decode cX6_freeLevers 16 = .ok (.invokevirtual 156, 3) := by decide +kernel
theorem dX6_freeLevers_19 : decode cX6_freeLevers 19 = .ok (.ifCond .ne 6, 3) := by decide +kernel
theorem dX6_freeLevers_22 : decode cX6_freeLevers 22 = .ok (.iinc 1 1, 3) := by decide +kernel
theorem dX6_freeLevers_25 : decode cX6_freeLevers 25 = .ok (.iinc 2 1, 3) := by decide +kernel
theorem dX6_freeLevers_28 : decode cX6_freeLevers 28 = .ok (.goto (-24), 3) := by decide +kernel
theorem dX6_freeLevers_31 : decode cX6_freeLevers 31 = .ok (.aload_n 0, 1) := by decide +kernel
theorem dX6_freeLevers_32 : decode cX6_freeLevers 32 = .ok (.iload_n 1, 1) := by decide +kernel
theorem dX6_freeLevers_33 : decode cX6_freeLevers 33 = .ok (.invokevirtual 189, 3) := by decide +kernel
theorem dX6_freeLevers_36 : decode cX6_freeLevers 36 = .ok (.ireturn, 1) := by decide +kernel
theorem dX6_emptyBlocks_0 : decode cX6_emptyBlocks 0 = .ok (.iconst 0, 1) := by decide +kernel
theorem dX6_emptyBlocks_1 : decode cX6_emptyBlocks 1 = .ok (.istore_n 1, 1) := by decide +kernel
theorem dX6_emptyBlocks_2 : decode cX6_emptyBlocks 2 = .ok (.iconst 0, 1) := by decide +kernel
theorem dX6_emptyBlocks_3 : decode cX6_emptyBlocks 3 = .ok (.istore_n 2, 1) := by decide +kernel
theorem dX6_emptyBlocks_4 : decode cX6_emptyBlocks 4 = .ok (.iload_n 2, 1) := by decide +kernel
theorem dX6_emptyBlocks_5 : decode cX6_emptyBlocks 5 = .ok (.aload_n 0, 1) := by decide +kernel
theorem dX6_emptyBlocks_6 : decode cX6_emptyBlocks 6 = .ok (.getfield 13, 3) := by decide +kernel
theorem dX6_emptyBlocks_9 : decode cX6_emptyBlocks 9 = .ok (.iconst 1, 1) := by decide +kernel
theorem dX6_emptyBlocks_10 : decode cX6_emptyBlocks 10 = .ok (.iaload, 1) := by decide +kernel
theorem dX6_emptyBlocks_11 : decode cX6_emptyBlocks 11 = .ok (.if_icmp .ge 20, 3) := by decide +kernel
theorem dX6_emptyBlocks_14 : decode cX6_emptyBlocks 14 = .ok (.aload_n 0, 1) := by decide +kernel
theorem dX6_emptyBlocks_15 : decode cX6_emptyBlocks 15 = .ok (.iload_n 2, 1) := by decide +kernel
theorem dX6_emptyBlocks_16 : decode cX6_emptyBlocks 16 = .ok (.invokevirtual 67, 3) := by decide +kernel
theorem dX6_emptyBlocks_19 : decode cX6_emptyBlocks 19 = .ok (.ifCond .ne 6, 3) := by decide +kernel
theorem dX6_emptyBlocks_22 : decode cX6_emptyBlocks 22 = .ok (.iinc 1 1, 3) := by decide +kernel
theorem dX6_emptyBlocks_25 : decode cX6_emptyBlocks 25 = .ok (.iinc 2 1, 3) := by decide +kernel
theorem dX6_emptyBlocks_28 : decode cX6_emptyBlocks 28 = .ok (.goto (-24), 3) := by decide +kernel
theorem dX6_emptyBlocks_31 : decode cX6_emptyBlocks 31 = .ok (.aload_n 0, 1) := by decide +kernel
theorem dX6_emptyBlocks_32 : decode cX6_emptyBlocks 32 = .ok (.iload_n 1, 1) := by decide +kernel
theorem dX6_emptyBlocks_33 : decode cX6_emptyBlocks 33 = .ok (.invokevirtual 189, 3) := by decide +kernel
theorem dX6_emptyBlocks_36 : decode cX6_emptyBlocks 36 = .ok (.ireturn, 1) := by decide +kernel
theorem dX6_deepestBlock_0 : decode cX6_deepestBlock 0 = .ok (.iconst (-1), 1) := by decide +kernel
theorem dX6_deepestBlock_1 : decode cX6_deepestBlock 1 = .ok (.istore_n 1, 1) := by decide +kernel
theorem dX6_deepestBlock_2 : decode cX6_deepestBlock 2 = .ok (.iconst 0, 1) := by decide +kernel
theorem dX6_deepestBlock_3 : decode cX6_deepestBlock 3 = .ok (.istore_n 2, 1) := by decide +kernel
theorem dX6_deepestBlock_4 : decode cX6_deepestBlock 4 = .ok (.iload_n 2, 1) := by decide +kernel
theorem dX6_deepestBlock_5 : decode cX6_deepestBlock 5 = .ok (.aload_n 0, 1) := by decide +kernel
theorem dX6_deepestBlock_6 : decode cX6_deepestBlock 6 = .ok (.getfield 13, 3) := by decide +kernel
theorem dX6_deepestBlock_9 : decode cX6_deepestBlock 9 = .ok (.iconst 1, 1) := by decide +kernel
theorem dX6_deepestBlock_10 : decode cX6_deepestBlock 10 = .ok (.iaload, 1) := by decide +kernel
theorem dX6_deepestBlock_11 : decode cX6_deepestBlock 11 = .ok (.if_icmp .ge 41, 3) := by decide +kernel
theorem dX6_deepestBlock_14 : decode cX6_deepestBlock 14 = .ok (.iload_n 1, 1) := by decide +kernel
theorem dX6_deepestBlock_15 : decode cX6_deepestBlock 15 = .ok (.iconst (-1), 1) := by decide +kernel
theorem dX6_deepestBlock_16 : decode cX6_deepestBlock 16 = .ok (.if_icmp .eq 28, 3) := by decide +kernel
theorem dX6_deepestBlock_19 : decode cX6_deepestBlock 19 = .ok (.aload_n 0, 1) := by decide +kernel
theorem dX6_deepestBlock_20 : decode cX6_deepestBlock 20 = .ok (.getfield 13, 3) := by decide +kernel
theorem dX6_deepestBlock_23 : decode cX6_deepestBlock 23 = .ok (.iload_n 2, 1) := by decide +kernel
theorem dX6_deepestBlock_24 : decode cX6_deepestBlock 24 = .ok (.invokestatic 44, 3) := by decide +kernel
theorem dX6_deepestBlock_27 : decode cX6_deepestBlock 27 = .ok (.iconst 1, 1) := by decide +kernel
theorem dX6_deepestBlock_28 : decode cX6_deepestBlock 28 = .ok (.iadd, 1) := by decide +kernel
theorem dX6_deepestBlock_29 : decode cX6_deepestBlock 29 = .ok (.iaload, 1) := by decide +kernel
theorem dX6_deepestBlock_30 : decode cX6_deepestBlock 30 = .ok (.aload_n 0, 1) := by decide +kernel
theorem dX6_deepestBlock_31 : decode cX6_deepestBlock 31 = .ok (.getfield 13, 3) := by decide +kernel
theorem dX6_deepestBlock_34 : decode cX6_deepestBlock 34 = .ok (.iload_n 1, 1) := by decide +kernel
theorem dX6_deepestBlock_35 : decode cX6_deepestBlock 35 = .ok (.invokestatic 44, 3) := by decide +kernel
theorem dX6_deepestBlock_38 : decode cX6_deepestBlock 38 = .ok (.iconst 1, 1) := by decide +kernel
theorem dX6_deepestBlock_39 : decode cX6_deepestBlock 39 = .ok (.iadd, 1) := by decide +kernel
theorem dX6_deepestBlock_40 : decode cX6_deepestBlock 40 = .ok (.iaload, 1) := by decide +kernel
theorem dX6_deepestBlock_41 : decode cX6_deepestBlock 41 = .ok (.if_icmp .le 5, 3) := by decide +kernel
theorem dX6_deepestBlock_44 : decode cX6_deepestBlock 44 = .ok (.iload_n 2, 1) := by decide +kernel
theorem dX6_deepestBlock_45 : decode cX6_deepestBlock 45 = .ok (.istore_n 1, 1) := by decide +kernel
theorem dX6_deepestBlock_46 : decode cX6_deepestBlock 46 = .ok (.iinc 2 1, 3) := by decide +kernel
theorem dX6_deepestBlock_49 : decode cX6_deepestBlock 49 = .ok (.goto (-45), 3) := by decide +kernel
theorem dX6_deepestBlock_52 : decode cX6_deepestBlock 52 = .ok (.aload_n 0, 1) := by decide +kernel
theorem dX6_deepestBlock_53 : decode cX6_deepestBlock 53 = .ok (.iload_n 1, 1) := by decide +kernel
theorem dX6_deepestBlock_54 : decode cX6_deepestBlock 54 = .ok (.invokevirtual 189, 3) := by decide +kernel
theorem dX6_deepestBlock_57 : decode cX6_deepestBlock 57 = .ok (.ireturn, 1) := by decide +kernel
theorem dX6_isFirstDepth_0 : decode cX6_isFirstDepth 0 = .ok (.iconst 0, 1) := by decide +kernel
theorem dX6_isFirstDepth_1 : decode cX6_isFirstDepth 1 = .ok (.istore_n 2, 1) := by decide +kernel
theorem dX6_isFirstDepth_2 : decode cX6_isFirstDepth 2 = .ok (.iload_n 2, 1) := by decide +kernel
theorem dX6_isFirstDepth_3 : decode cX6_isFirstDepth 3 = .ok (.iload_n 1, 1) := by decide +kernel
theorem dX6_isFirstDepth_4 : decode cX6_isFirstDepth 4 = .ok (.if_icmp .ge 36, 3) := by decide +kernel
theorem dX6_isFirstDepth_7 : decode cX6_isFirstDepth 7 = .ok (.aload_n 0, 1) := by decide +kernel
theorem dX6_isFirstDepth_8 : decode cX6_isFirstDepth 8 = .ok (.getfield 13, 3) := by decide +kernel
theorem dX6_isFirstDepth_11 : decode cX6_isFirstDepth 11 = .ok (.iload_n 2, 1) := by decide +kernel
theorem dX6_isFirstDepth_12 : decode cX6_isFirstDepth 12 = .ok (.invokestatic 44, 3) := by decide +kernel
theorem dX6_isFirstDepth_15 : decode cX6_isFirstDepth 15 = .ok (.iconst 1, 1) := by decide +kernel
theorem dX6_isFirstDepth_16 : decode cX6_isFirstDepth 16 = .ok (.iadd, 1) := by decide +kernel
theorem dX6_isFirstDepth_17 : decode cX6_isFirstDepth 17 = .ok (.iaload, 1) := by decide +kernel
theorem dX6_isFirstDepth_18 : decode cX6_isFirstDepth 18 = .ok (.aload_n 0, 1) := by decide +kernel
theorem dX6_isFirstDepth_19 : decode cX6_isFirstDepth 19 = .ok (.getfield 13, 3) := by decide +kernel
theorem dX6_isFirstDepth_22 : decode cX6_isFirstDepth 22 = .ok (.iload_n 1, 1) := by decide +kernel
theorem dX6_isFirstDepth_23 : decode cX6_isFirstDepth 23 = .ok (.invokestatic 44, 3) := by decide +kernel
theorem dX6_isFirstDepth_26 : decode cX6_isFirstDepth 26 = .ok (.iconst 1, 1) := by decide +kernel
theorem dX6_isFirstDepth_27 : decode cX6_isFirstDepth 27 = .ok (.iadd, 1) := by decide +kernel
theorem dX6_isFirstDepth_28 : decode cX6_isFirstDepth 28 = .ok (.iaload, 1) := by decide +kernel
theorem dX6_isFirstDepth_29 : decode cX6_isFirstDepth 29 = .ok (.if_icmp .ne 5, 3) := by decide +kernel
theorem dX6_isFirstDepth_32 : decode cX6_isFirstDepth 32 = .ok (.iconst 0, 1) := by decide +kernel
theorem dX6_isFirstDepth_33 : decode cX6_isFirstDepth 33 = .ok (.ireturn, 1) := by decide +kernel
theorem dX6_isFirstDepth_34 : decode cX6_isFirstDepth 34 = .ok (.iinc 2 1, 3) := by decide +kernel
theorem dX6_isFirstDepth_37 : decode cX6_isFirstDepth 37 = .ok (.goto (-35), 3) := by decide +kernel
theorem dX6_isFirstDepth_40 : decode cX6_isFirstDepth 40 = .ok (.iconst 1, 1) := by decide +kernel
theorem dX6_isFirstDepth_41 : decode cX6_isFirstDepth 41 = .ok (.ireturn, 1) := by decide +kernel
theorem dX6_differentDepths_0 : decode cX6_differentDepths 0 = .ok (.iconst 0, 1) := by decide +kernel
theorem dX6_differentDepths_1 : decode cX6_differentDepths 1 = .ok (.istore_n 1, 1) := by decide +kernel
theorem dX6_differentDepths_2 : decode cX6_differentDepths 2 = .ok (.iconst 0, 1) := by decide +kernel
theorem dX6_differentDepths_3 : decode cX6_differentDepths 3 = .ok (.istore_n 2, 1) := by decide +kernel
theorem dX6_differentDepths_4 : decode cX6_differentDepths 4 = .ok (.iload_n 2, 1) := by decide +kernel
theorem dX6_differentDepths_5 : decode cX6_differentDepths 5 = .ok (.aload_n 0, 1) := by decide +kernel
theorem dX6_differentDepths_6 : decode cX6_differentDepths 6 = .ok (.getfield 13, 3) := by decide +kernel
theorem dX6_differentDepths_9 : decode cX6_differentDepths 9 = .ok (.iconst 1, 1) := by decide +kernel
theorem dX6_differentDepths_10 : decode cX6_differentDepths 10 = .ok (.iaload, 1) := by decide +kernel
theorem dX6_differentDepths_11 : decode cX6_differentDepths 11 = .ok (.if_icmp .ge 20, 3) := by decide +kernel
theorem dX6_differentDepths_14 : decode cX6_differentDepths 14 = .ok (.aload_n 0, 1) := by decide +kernel
theorem dX6_differentDepths_15 : decode cX6_differentDepths 15 = .ok (.iload_n 2, 1) := by decide +kernel
theorem dX6_differentDepths_16 : decode cX6_differentDepths 16 = .ok (.invokevirtual 218, 3) := by decide +kernel
theorem dX6_differentDepths_19 : decode cX6_differentDepths 19 = .ok (.ifCond .eq 6, 3) := by decide +kernel
theorem dX6_differentDepths_22 : decode cX6_differentDepths 22 = .ok (.iinc 1 1, 3) := by decide +kernel
theorem dX6_differentDepths_25 : decode cX6_differentDepths 25 = .ok (.iinc 2 1, 3) := by decide +kernel
theorem dX6_differentDepths_28 : decode cX6_differentDepths 28 = .ok (.goto (-24), 3) := by decide +kernel
theorem dX6_differentDepths_31 : decode cX6_differentDepths 31 = .ok (.aload_n 0, 1) := by decide +kernel
theorem dX6_differentDepths_32 : decode cX6_differentDepths 32 = .ok (.iload_n 1, 1) := by decide +kernel
theorem dX6_differentDepths_33 : decode cX6_differentDepths 33 = .ok (.invokevirtual 189, 3) := by decide +kernel
theorem dX6_differentDepths_36 : decode cX6_differentDepths 36 = .ok (.ireturn, 1) := by decide +kernel
theorem dX6_trainCount_0 : decode cX6_trainCount 0 = .ok (.aload_n 0, 1) := by decide +kernel
theorem dX6_trainCount_1 : decode cX6_trainCount 1 = .ok (.aload_n 0, 1) := by decide +kernel
theorem dX6_trainCount_2 : decode cX6_trainCount 2 = .ok (.getfield 13, 3) := by decide +kernel
theorem dX6_trainCount_5 : decode cX6_trainCount 5 = .ok (.iconst 2, 1) := by decide +kernel
theorem dX6_trainCount_6 : decode cX6_trainCount 6 = .ok (.iaload, 1) := by decide +kernel
theorem dX6_trainCount_7 : decode cX6_trainCount 7 = .ok (.invokevirtual 189, 3) := by decide +kernel
theorem dX6_trainCount_10 : decode cX6_trainCount 10 = .ok (.ireturn, 1) := by decide +kernel
theorem dX6_blockOf_0 : decode cX6_blockOf 0 = .ok (.aload_n 0, 1) := by decide +kernel
theorem dX6_blockOf_1 : decode cX6_blockOf 1 = .ok (.iload_n 1, 1) := by decide +kernel
theorem dX6_blockOf_2 : decode cX6_blockOf 2 = .ok (.invokevirtual 221, 3) := by decide +kernel
theorem dX6_blockOf_5 : decode cX6_blockOf 5 = .ok (.ifCond .ne 9, 3) := by decide +kernel
theorem dX6_blockOf_8 : decode cX6_blockOf 8 = .ok (.aload_n 0, 1) := by decide +kernel
theorem dX6_blockOf_9 : decode cX6_blockOf 9 = .ok (.iconst 1, 1) := by decide +kernel
theorem dX6_blockOf_10 : decode cX6_blockOf 10 = .ok (.invokevirtual 183, 3) := by decide +kernel
theorem dX6_blockOf_13 : decode cX6_blockOf 13 = .ok (.ireturn, 1) := by decide +kernel
theorem dX6_blockOf_14 : decode cX6_blockOf 14 = .ok (.aload_n 0, 1) := by decide +kernel
theorem dX6_blockOf_15 : decode cX6_blockOf 15 = .ok (.aload_n 0, 1) := by decide +kernel
theorem dX6_blockOf_16 : decode cX6_blockOf 16 = .ok (.getfield 13, 3) := by decide +kernel
theorem dX6_blockOf_19 : decode cX6_blockOf 19 = .ok (.iload_n 1, 1) := by decide +kernel
theorem dX6_blockOf_20 : decode cX6_blockOf 20 = .ok (.invokestatic 58, 3) := by decide +kernel
theorem dX6_blockOf_23 : decode cX6_blockOf 23 = .ok (.iconst 2, 1) := by decide +kernel
theorem dX6_blockOf_24 : decode cX6_blockOf 24 = .ok (.iadd, 1) := by decide +kernel
theorem dX6_blockOf_25 : decode cX6_blockOf 25 = .ok (.iaload, 1) := by decide +kernel
theorem dX6_blockOf_26 : decode cX6_blockOf 26 = .ok (.invokevirtual 189, 3) := by decide +kernel
theorem dX6_blockOf_29 : decode cX6_blockOf 29 = .ok (.ireturn, 1) := by decide +kernel
theorem dX6_positionOf_0 : decode cX6_positionOf 0 = .ok (.aload_n 0, 1) := by decide +kernel
theorem dX6_positionOf_1 : decode cX6_positionOf 1 = .ok (.iload_n 1, 1) := by decide +kernel
theorem dX6_positionOf_2 : decode cX6_positionOf 2 = .ok (.invokevirtual 221, 3) := by decide +kernel
theorem dX6_positionOf_5 : decode cX6_positionOf 5 = .ok (.ifCond .ne 9, 3) := by decide +kernel
theorem dX6_positionOf_8 : decode cX6_positionOf 8 = .ok (.aload_n 0, 1) := by decide +kernel
theorem dX6_positionOf_9 : decode cX6_positionOf 9 = .ok (.iconst 1, 1) := by decide +kernel
theorem dX6_positionOf_10 : decode cX6_positionOf 10 = .ok (.invokevirtual 183, 3) := by decide +kernel
theorem dX6_positionOf_13 : decode cX6_positionOf 13 = .ok (.ireturn, 1) := by decide +kernel
theorem dX6_positionOf_14 : decode cX6_positionOf 14 = .ok (.aload_n 0, 1) := by decide +kernel
theorem dX6_positionOf_15 : decode cX6_positionOf 15 = .ok (.aload_n 0, 1) := by decide +kernel
theorem dX6_positionOf_16 : decode cX6_positionOf 16 = .ok (.getfield 13, 3) := by decide +kernel
theorem dX6_positionOf_19 : decode cX6_positionOf 19 = .ok (.iload_n 1, 1) := by decide +kernel
theorem dX6_positionOf_20 : decode cX6_positionOf 20 = .ok (.invokestatic 58, 3) := by decide +kernel
theorem dX6_positionOf_23 : decode cX6_positionOf 23 = .ok (.iconst 3, 1) := by decide +kernel
theorem dX6_positionOf_24 : decode cX6_positionOf 24 = .ok (.iadd, 1) := by decide +kernel
theorem dX6_positionOf_25 : decode cX6_positionOf 25 = .ok (.iaload, 1) := by decide +kernel
theorem dX6_positionOf_26 : decode cX6_positionOf 26 = .ok (.invokevirtual 189, 3) := by decide +kernel
theorem dX6_positionOf_29 : decode cX6_positionOf 29 = .ok (.ireturn, 1) := by decide +kernel
theorem dX6_wagonsOf_0 : decode cX6_wagonsOf 0 = .ok (.aload_n 0, 1) := by decide +kernel
theorem dX6_wagonsOf_1 : decode cX6_wagonsOf 1 = .ok (.iload_n 1, 1) := by decide +kernel
theorem dX6_wagonsOf_2 : decode cX6_wagonsOf 2 = .ok (.invokevirtual 221, 3) := by decide +kernel
theorem dX6_wagonsOf_5 : decode cX6_wagonsOf 5 = .ok (.ifCond .ne 9, 3) := by decide +kernel
theorem dX6_wagonsOf_8 : decode cX6_wagonsOf 8 = .ok (.aload_n 0, 1) := by decide +kernel
theorem dX6_wagonsOf_9 : decode cX6_wagonsOf 9 = .ok (.iconst 1, 1) := by decide +kernel
theorem dX6_wagonsOf_10 : decode cX6_wagonsOf 10 = .ok (.invokevirtual 183, 3) := by decide +kernel
theorem dX6_wagonsOf_13 : decode cX6_wagonsOf 13 = .ok (.ireturn, 1) := by decide +kernel
theorem dX6_wagonsOf_14 : decode cX6_wagonsOf 14 = .ok (.aload_n 0, 1) := by decide +kernel
theorem dX6_wagonsOf_15 : decode cX6_wagonsOf 15 = .ok (.aload_n 0, 1) := by decide +kernel
theorem dX6_wagonsOf_16 : decode cX6_wagonsOf 16 = .ok (.getfield 13, 3) := by decide +kernel
theorem dX6_wagonsOf_19 : decode cX6_wagonsOf 19 = .ok (.iload_n 1, 1) := by decide +kernel
theorem dX6_wagonsOf_20 : decode cX6_wagonsOf 20 = .ok (.invokestatic 58, 3) := by decide +kernel
theorem dX6_wagonsOf_23 : decode cX6_wagonsOf 23 = .ok (.iconst 0, 1) := by decide +kernel
theorem dX6_wagonsOf_24 : decode cX6_wagonsOf 24 = .ok (.iadd, 1) := by decide +kernel
theorem dX6_wagonsOf_25 : decode cX6_wagonsOf 25 = .ok (.iaload, 1) := by decide +kernel
theorem dX6_wagonsOf_26 : decode cX6_wagonsOf 26 = .ok (.invokevirtual 189, 3) := by decide +kernel
theorem dX6_wagonsOf_29 : decode cX6_wagonsOf 29 = .ok (.ireturn, 1) := by decide +kernel
theorem dX6_topSpeedOf_0 : decode cX6_topSpeedOf 0 = .ok (.aload_n 0, 1) := by decide +kernel
theorem dX6_topSpeedOf_1 : decode cX6_topSpeedOf 1 = .ok (.iload_n 1, 1) := by decide +kernel
theorem dX6_topSpeedOf_2 : decode cX6_topSpeedOf 2 = .ok (.invokevirtual 221, 3) := by decide +kernel
theorem dX6_topSpeedOf_5 : decode cX6_topSpeedOf 5 = .ok (.ifCond .ne 9, 3) := by decide +kernel
theorem dX6_topSpeedOf_8 : decode cX6_topSpeedOf 8 = .ok (.aload_n 0, 1) := by decide +kernel
theorem dX6_topSpeedOf_9 : decode cX6_topSpeedOf 9 = .ok (.iconst 1, 1) := by decide +kernel
