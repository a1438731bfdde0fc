theorem dX0_init_0 : decode cX0_init 0 = .ok (.aload_n 0, 1) := by decide +kernel
theorem dX0_init_1 : decode cX0_init 1 = .ok (.invokespecial 1, 3) := by decide +kernel
theorem dX0_init_4 : decode cX0_init 4 = .ok (.aload_n 0, 1) := by decide +kernel
theorem dX0_init_5 : decode cX0_init 5 = .ok (.bipush 10, 2) := by decide +kernel
theorem dX0_init_7 : decode cX0_init 7 = .ok (.anewarray 9, 3) := by decide +kernel
theorem dX0_init_10 : decode cX0_init 10 = .ok (.putfield 11, 3) := by decide +kernel
theorem dX0_init_13 : decode cX0_init 13 = .ok (.iconst 0, 1) := by decide +kernel
theorem dX0_init_14 : decode cX0_init 14 = .ok (.istore_n 1, 1) := by decide +kernel
theorem dX0_init_15 : decode cX0_init 15 = .ok (.iload_n 1, 1) := by decide +kernel
theorem dX0_init_16 : decode cX0_init 16 = .ok (.bipush 10, 2) := by decide +kernel
theorem dX0_init_18 : decode cX0_init 18 = .ok (.if_icmp .ge 22, 3) := by decide +kernel
theorem dX0_init_21 : decode cX0_init 21 = .ok (.aload_n 0, 1) := by decide +kernel
theorem dX0_init_22 : decode cX0_init 22 = .ok (.getfield 11, 3) := by decide +kernel
theorem dX0_init_25 : decode cX0_init 25 = .ok (.iload_n 1, 1) := by decide +kernel
theorem dX0_init_26 : decode cX0_init 26 = .ok (.new 9, 3) := by decide +kernel
theorem dX0_init_29 : decode cX0_init 29 = .ok (.dup, 1) := by decide +kernel
theorem dX0_init_30 : decode cX0_init 30 = .ok (.invokespecial 15, 3) := by decide +kernel
theorem dX0_init_33 : decode cX0_init 33 = .ok (.aastore, 1) := by decide +kernel
theorem dX0_init_34 : decode cX0_init 34 = .ok (.iinc 1 1, 3) := by decide +kernel
theorem dX0_init_37 : decode cX0_init 37 = .ok (.goto (-22), 3) := by decide +kernel
theorem dX0_init_40 : decode cX0_init 40 = .ok (.return_, 1) := by decide +kernel
theorem dX0_record_0 : decode cX0_record 0 = .ok (.aload_n 0, 1) := by decide +kernel
theorem dX0_record_1 : decode cX0_record 1 = .ok (.getfield 11, 3) := by decide +kernel
theorem dX0_record_4 : decode cX0_record 4 = .ok (.aload_n 0, 1) := by decide +kernel
theorem dX0_record_5 : decode cX0_record 5 = .ok (.getfield 16, 3) := by decide +kernel
theorem dX0_record_8 : decode cX0_record 8 = .ok (.aaload, 1) := by decide +kernel
theorem dX0_record_9 : decode cX0_record 9 = .ok (.astore_n 2, 1) := by decide +kernel
theorem dX0_record_10 : decode cX0_record 10 = .ok (.aload_n 2, 1) := by decide +kernel
theorem dX0_record_11 : decode cX0_record 11 = .ok (.ifnonnull 4, 3) := by decide +kernel
theorem dX0_record_14 : decode cX0_record 14 = .ok (.return_, 1) := by decide +kernel
theorem dX0_record_15 : decode cX0_record 15 = .ok (.aload_n 2, 1) := by decide +kernel
theorem dX0_record_16 : decode cX0_record 16 = .ok (.aload_n 1, 1) := by decide +kernel
theorem dX0_record_17 : decode cX0_record 17 = .ok (.invokevirtual 20, 3) := by decide +kernel
theorem dX0_record_20 : decode cX0_record 20 = .ok (.aload_n 0, 1) := by decide +kernel
theorem dX0_record_21 : decode cX0_record 21 = .ok (.aload_n 0, 1) := by decide +kernel
theorem dX0_record_22 : decode cX0_record 22 = .ok (.getfield 16, 3) := by decide +kernel
theorem dX0_record_25 : decode cX0_record 25 = .ok (.iconst 1, 1) := by decide +kernel
theorem dX0_record_26 : decode cX0_record 26 = .ok (.iadd, 1) := by decide +kernel
theorem dX0_record_27 : decode cX0_record 27 = .ok (.bipush 10, 2) := by decide +kernel
theorem dX0_record_29 : decode cX0_record 29 = .ok (.if_icmp .ge 12, 3) := by decide +kernel
theorem dX0_record_32 : decode cX0_record 32 = .ok (.aload_n 0, 1) := by decide +kernel
theorem dX0_record_33 : decode cX0_record 33 = .ok (.getfield 16, 3) := by decide +kernel
theorem dX0_record_36 : decode cX0_record 36 = .ok (.iconst 1, 1) := by decide +kernel
theorem dX0_record_37 : decode cX0_record 37 = .ok (.iadd, 1) := by decide +kernel
theorem dX0_record_38 : decode cX0_record 38 = .ok (.goto 4, 3) := by decide +kernel
theorem dX0_record_41 : decode cX0_record 41 = .ok (.iconst 0, 1) := by decide +kernel
theorem dX0_record_42 : decode cX0_record 42 = .ok (.putfield 16, 3) := by decide +kernel
theorem dX0_record_45 : decode cX0_record 45 = .ok (.aload_n 0, 1) := by decide +kernel
theorem dX0_record_46 : decode cX0_record 46 = .ok (.aload_n 0, 1) := by decide +kernel
theorem dX0_record_47 : decode cX0_record 47 = .ok (.getfield 24, 3) := by decide +kernel
theorem dX0_record_50 : decode cX0_record 50 = .ok (.iconst 1, 1) := by decide +kernel
theorem dX0_record_51 : decode cX0_record 51 = .ok (.iadd, 1) := by decide +kernel
theorem dX0_record_52 : decode cX0_record 52 = .ok (.bipush 10, 2) := by decide +kernel
theorem dX0_record_54 : decode cX0_record 54 = .ok (.invokestatic 27, 3) := by decide +kernel
theorem dX0_record_57 : decode cX0_record 57 = .ok (.putfield 24, 3) := by decide +kernel
theorem dX0_record_60 : decode cX0_record 60 = .ok (.return_, 1) := by decide +kernel
theorem dX0_takeBack_0 : decode cX0_takeBack 0 = .ok (.aload_n 0, 1) := by decide +kernel
theorem dX0_takeBack_1 : decode cX0_takeBack 1 = .ok (.getfield 16, 3) := by decide +kernel
theorem dX0_takeBack_4 : decode cX0_takeBack 4 = .ok (.ifCond .le 12, 3) := by decide +kernel
theorem dX0_takeBack_7 : decode cX0_takeBack 7 = .ok (.aload_n 0, 1) := by decide +kernel
theorem dX0_takeBack_8 : decode cX0_takeBack 8 = .ok (.getfield 16, 3) := by decide +kernel
theorem dX0_takeBack_11 : decode cX0_takeBack 11 = .ok (.iconst 1, 1) := by decide +kernel
theorem dX0_takeBack_12 : decode cX0_takeBack 12 = .ok (.isub, 1) := by decide +kernel
theorem dX0_takeBack_13 : decode cX0_takeBack 13 = .ok (.goto 5, 3) := by decide +kernel
theorem dX0_takeBack_16 : decode cX0_takeBack 16 = .ok (.bipush 9, 2) := by decide +kernel
theorem dX0_takeBack_18 : decode cX0_takeBack 18 = .ok (.istore_n 2, 1) := by decide +kernel
theorem dX0_takeBack_19 : decode cX0_takeBack 19 = .ok (.aload_n 0, 1) := by decide +kernel
theorem dX0_takeBack_20 : decode cX0_takeBack 20 = .ok (.getfield 11, 3) := by decide +kernel
theorem dX0_takeBack_23 : decode cX0_takeBack 23 = .ok (.iload_n 2, 1) := by decide +kernel
theorem dX0_takeBack_24 : decode cX0_takeBack 24 = .ok (.aaload, 1) := by decide +kernel
theorem dX0_takeBack_25 : decode cX0_takeBack 25 = .ok (.astore_n 3, 1) := by decide +kernel
theorem dX0_takeBack_26 : decode cX0_takeBack 26 = .ok (.aload_n 3, 1) := by decide +kernel
theorem dX0_takeBack_27 : decode cX0_takeBack 27 = .ok (.ifnull 11, 3) := by decide +kernel
theorem dX0_takeBack_30 : decode cX0_takeBack 30 = .ok (.aload_n 0, 1) := by decide +kernel
theorem dX0_takeBack_31 : decode cX0_takeBack 31 = .ok (.getfield 24, 3) := by decide +kernel
theorem dX0_takeBack_34 : decode cX0_takeBack 34 = .ok (.iconst 1, 1) := by decide +kernel
theorem dX0_takeBack_35 : decode cX0_takeBack 35 = .ok (.if_icmp .ge 4, 3) := by decide +kernel
theorem dX0_takeBack_38 : decode cX0_takeBack 38 = .ok (.return_, 1) := by decide +kernel
theorem dX0_takeBack_39 : decode cX0_takeBack 39 = .ok (.aload_n 1, 1) := by decide +kernel
theorem dX0_takeBack_40 : decode cX0_takeBack 40 = .ok (.aload_n 3, 1) := by decide +kernel
theorem dX0_takeBack_41 : decode cX0_takeBack 41 = .ok (.invokevirtual 20, 3) := by decide +kernel
theorem dX0_takeBack_44 : decode cX0_takeBack 44 = .ok (.aload_n 0, 1) := by decide +kernel
theorem dX0_takeBack_45 : decode cX0_takeBack 45 = .ok (.iload_n 2, 1) := by decide +kernel
theorem dX0_takeBack_46 : decode cX0_takeBack 46 = .ok (.putfield 16, 3) := by decide +kernel
theorem dX0_takeBack_49 : decode cX0_takeBack 49 = .ok (.aload_n 0, 1) := by decide +kernel
theorem dX0_takeBack_50 : decode cX0_takeBack 50 = .ok (.dup, 1) := by decide +kernel
theorem dX0_takeBack_51 : decode cX0_takeBack 51 = .ok (.getfield 24, 3) := by decide +kernel
theorem dX0_takeBack_54 : decode cX0_takeBack 54 = .ok (.iconst 1, 1) := by decide +kernel
theorem dX0_takeBack_55 : decode cX0_takeBack 55 = .ok (.isub, 1) := by decide +kernel
theorem dX0_takeBack_56 : decode cX0_takeBack 56 = .ok (.putfield 24, 3) := by decide +kernel
theorem dX0_takeBack_59 : decode cX0_takeBack 59 = .ok (.return_, 1) := by decide +kernel
theorem dX0_forget_0 : decode cX0_forget 0 = .ok (.aload_n 0, 1) := by decide +kernel
theorem dX0_forget_1 : decode cX0_forget 1 = .ok (.iconst 0, 1) := by decide +kernel
theorem dX0_forget_2 : decode cX0_forget 2 = .ok (.putfield 24, 3) := by decide +kernel
theorem dX0_forget_5 : decode cX0_forget 5 = .ok (.return_, 1) := by decide +kernel
theorem dX1_init_0 : decode cX1_init 0 = .ok (.aload_n 0, 1) := by decide +kernel
theorem dX1_init_1 : decode cX1_init 1 = .ok (.invokespecial 1, 3) := by decide +kernel
theorem dX1_init_4 : decode cX1_init 4 = .ok (.aload_n 0, 1) := by decide +kernel
theorem dX1_init_5 : decode cX1_init 5 = .ok (.bipush 64, 2) := by decide +kernel
theorem dX1_init_7 : decode cX1_init 7 = .ok (.newarray .byte, 2) := by decide +kernel
theorem dX1_init_9 : decode cX1_init 9 = .ok (.putfield 9, 3) := by decide +kernel
theorem dX1_init_12 : decode cX1_init 12 = .ok (.return_, 1) := by decide +kernel
theorem dX2_init_0 : decode cX2_init 0 = .ok (.aload_n 0, 1) := by decide +kernel
theorem dX2_init_1 : decode cX2_init 1 = .ok (.invokespecial 3, 3) := by decide +kernel
theorem dX2_init_4 : decode cX2_init 4 = .ok (.aload_n 0, 1) := by decide +kernel
theorem dX2_init_5 : decode cX2_init 5 = .ok (.sipush 600, 3) := by decide +kernel
theorem dX2_init_8 : decode cX2_init 8 = .ok (.newarray .byte, 2) := by decide +kernel
theorem dX2_init_10 : decode cX2_init 10 = .ok (.putfield 11, 3) := by decide +kernel
theorem dX2_init_13 : decode cX2_init 13 = .ok (.aload_n 0, 1) := by decide +kernel
theorem dX2_init_14 : decode cX2_init 14 = .ok (.iconst (-1), 1) := by decide +kernel
theorem dX2_init_15 : decode cX2_init 15 = .ok (.putfield 15, 3) := by decide +kernel
theorem dX2_init_18 : decode cX2_init 18 = .ok (.aload_n 0, 1) := by decide +kernel
theorem dX2_init_19 : decode cX2_init 19 = .ok (.new 19, 3) := by decide +kernel
theorem dX2_init_22 : decode cX2_init 22 = .ok (.dup, 1) := by decide +kernel
theorem dX2_init_23 : decode cX2_init 23 = .ok (.invokespecial 21, 3) := by decide +kernel
theorem dX2_init_26 : decode cX2_init 26 = .ok (.putfield 22, 3) := by decide +kernel
theorem dX2_init_29 : decode cX2_init 29 = .ok (.return_, 1) := by decide +kernel
theorem dX2_hasRoom_0 : decode cX2_hasRoom 0 = .ok (.aload_n 0, 1) := by decide +kernel
theorem dX2_hasRoom_1 : decode cX2_hasRoom 1 = .ok (.getfield 26, 3) := by decide +kernel
theorem dX2_hasRoom_4 : decode cX2_hasRoom 4 = .ok (.iload_n 1, 1) := by decide +kernel
theorem dX2_hasRoom_5 : decode cX2_hasRoom 5 = .ok (.iadd, 1) := by decide +kernel
theorem dX2_hasRoom_6 : decode cX2_hasRoom 6 = .ok (.sipush 600, 3) := by decide +kernel
theorem dX2_hasRoom_9 : decode cX2_hasRoom 9 = .ok (.if_icmp .gt 7, 3) := by decide +kernel
theorem dX2_hasRoom_12 : decode cX2_hasRoom 12 = .ok (.iconst 1, 1) := by decide +kernel
theorem dX2_hasRoom_13 : decode cX2_hasRoom 13 = .ok (.goto 4, 3) := by decide +kernel
theorem dX2_hasRoom_16 : decode cX2_hasRoom 16 = .ok (.iconst 0, 1) := by decide +kernel
theorem dX2_hasRoom_17 : decode cX2_hasRoom 17 = .ok (.ireturn, 1) := by decide +kernel
theorem dX2_putInt_0 : decode cX2_putInt 0 = .ok (.aload_n 0, 1) := by decide +kernel
theorem dX2_putInt_1 : decode cX2_putInt 1 = .ok (.iload_n 1, 1) := by decide +kernel
theorem dX2_putInt_2 : decode cX2_putInt 2 = .ok (.bipush 24, 2) := by decide +kernel
theorem dX2_putInt_4 : decode cX2_putInt 4 = .ok (.ishr, 1) := by decide +kernel
theorem dX2_putInt_5 : decode cX2_putInt 5 = .ok (.invokevirtual 29, 3) := by decide +kernel
theorem dX2_putInt_8 : decode cX2_putInt 8 = .ok (.aload_n 0, 1) := by decide +kernel
theorem dX2_putInt_9 : decode cX2_putInt 9 = .ok (.iload_n 1, 1) := by decide +kernel
theorem dX2_putInt_10 : decode cX2_putInt 10 = .ok (.bipush 16, 2) := by decide +kernel
theorem dX2_putInt_12 : decode cX2_putInt 12 = .ok (.ishr, 1) := by decide +kernel
theorem dX2_putInt_13 : decode cX2_putInt 13 = .ok (.invokevirtual 29, 3) := by decide +kernel
theorem dX2_putInt_16 : decode cX2_putInt 16 = .ok (.aload_n 0, 1) := by decide +kernel
theorem dX2_putInt_17 : decode cX2_putInt 17 = .ok (.iload_n 1, 1) := by decide +kernel
theorem dX2_putInt_18 : decode cX2_putInt 18 = .ok (.bipush 8, 2) := by decide +kernel
theorem dX2_putInt_20 : decode cX2_putInt 20 = .ok (.ishr, 1) := by decide +kernel
theorem dX2_putInt_21 : decode cX2_putInt 21 = .ok (.invokevirtual 29, 3) := by decide +kernel
theorem dX2_putInt_24 : decode cX2_putInt 24 = .ok (.aload_n 0, 1) := by decide +kernel
theorem dX2_putInt_25 : decode cX2_putInt 25 = .ok (.iload_n 1, 1) := by decide +kernel
theorem dX2_putInt_26 : decode cX2_putInt 26 = .ok (.invokevirtual 29, 3) := by decide +kernel
theorem dX2_putInt_29 : decode cX2_putInt 29 = .ok (.return_, 1) := by decide +kernel
theorem dX2_putText_0 : decode cX2_putText 0 = .ok (.iconst 0, 1) := by decide +kernel
theorem dX2_putText_1 : decode cX2_putText 1 = .ok (.istore_n 2, 1) := by decide +kernel
theorem dX2_putText_2 : decode cX2_putText 2 = .ok (.iload_n 2, 1) := by decide +kernel
theorem dX2_putText_3 : decode cX2_putText 3 = .ok (.aload_n 1, 1) := by decide +kernel
theorem dX2_putText_4 : decode cX2_putText 4 = .ok (.invokevirtual 33, 3) := by decide +kernel
theorem dX2_putText_7 : decode cX2_putText 7 = .ok (.if_icmp .ge 18, 3) := by decide +kernel
theorem dX2_putText_10 : decode cX2_putText 10 = .ok (.aload_n 0, 1) := by decide +kernel
theorem dX2_putText_11 : decode cX2_putText 11 = .ok (.aload_n 1, 1) := by decide +kernel
theorem dX2_putText_12 : decode cX2_putText 12 = .ok (.iload_n 2, 1) := by decide +kernel
theorem dX2_putText_13 : decode cX2_putText 13 = .ok (.invokevirtual 39, 3) := by decide +kernel
theorem dX2_putText_16 : decode cX2_putText 16 = .ok (.invokevirtual 29, 3) := by decide +kernel
theorem dX2_putText_19 : decode cX2_putText 19 = .ok (.iinc 2 1, 3) := by decide +kernel
theorem dX2_putText_22 : decode cX2_putText 22 = .ok (.goto (-20), 3) := by decide +kernel
theorem dX2_putText_25 : decode cX2_putText 25 = .ok (.return_, 1) := by decide +kernel
theorem dX2_put_0 : decode cX2_put 0 = .ok (.aload_n 0, 1) := by decide +kernel
theorem dX2_put_1 : decode cX2_put 1 = .ok (.getfield 26, 3) := by decide +kernel
theorem dX2_put_4 : decode cX2_put 4 = .ok (.sipush 600, 3) := by decide +kernel
theorem dX2_put_7 : decode cX2_put 7 = .ok (.if_icmp .ge 24, 3) := by decide +kernel
theorem dX2_put_10 : decode cX2_put 10 = .ok (.aload_n 0, 1) := by decide +kernel
theorem dX2_put_11 : decode cX2_put 11 = .ok (.getfield 11, 3) := by decide +kernel
theorem dX2_put_14 : decode cX2_put 14 = .ok (.aload_n 0, 1) := by decide +kernel
theorem dX2_put_15 : decode cX2_put 15 = .ok (.getfield 26, 3) := by decide +kernel
theorem dX2_put_18 : decode cX2_put 18 = .ok (.iload_n 1, 1) := by decide +kernel
theorem dX2_put_19 : decode cX2_put 19 = .ok (.i2b, 1) := by decide +kernel
theorem dX2_put_20 : decode cX2_put 20 = .ok (.bastore, 1) := by decide +kernel
theorem dX2_put_21 : decode cX2_put 21 = .ok (.aload_n 0, 1) := by decide +kernel
theorem dX2_put_22 : decode cX2_put 22 = .ok (.dup, 1) := by decide +kernel
theorem dX2_put_23 : decode cX2_put 23 = .ok (.getfield 26, 3) := by decide +kernel
theorem dX2_put_26 : decode cX2_put 26 = .ok (.iconst 1, 1) := by decide +kernel
theorem dX2_put_27 : decode cX2_put 27 = .ok (.iadd, 1) := by decide +kernel
theorem dX2_put_28 : decode cX2_put 28 = .ok (.putfield 26, 3) := by decide +kernel
theorem dX2_put_31 : decode cX2_put 31 = .ok (.return_, 1) := by decide +kernel
theorem dX2_parseText_0 : decode cX2_parseText 0 = .ok (.aload_n 0, 1) := by decide +kernel
theorem dX2_parseText_1 : decode cX2_parseText 1 = .ok (.iload_n 1, 1) := by decide +kernel
theorem dX2_parseText_2 : decode cX2_parseText 2 = .ok (.aload_n 0, 1) := by decide +kernel
theorem dX2_parseText_3 : decode cX2_parseText 3 = .ok (.getfield 26, 3) := by decide +kernel
theorem dX2_parseText_6 : decode cX2_parseText 6 = .ok (.invokestatic 43, 3) := by decide +kernel
theorem dX2_parseText_9 : decode cX2_parseText 9 = .ok (.putfield 49, 3) := by decide +kernel
theorem dX2_parseText_12 : decode cX2_parseText 12 = .ok (.aload_n 0, 1) := by decide +kernel
theorem dX2_parseText_13 : decode cX2_parseText 13 = .ok (.iconst 0, 1) := by decide +kernel
theorem dX2_parseText_14 : decode cX2_parseText 14 = .ok (.putfield 26, 3) := by decide +kernel
theorem dX2_parseText_17 : decode cX2_parseText 17 = .ok (.aload_n 0, 1) := by decide +kernel
theorem dX2_parseText_18 : decode cX2_parseText 18 = .ok (.iconst 0, 1) := by decide +kernel
theorem dX2_parseText_19 : decode cX2_parseText 19 = .ok (.putfield 52, 3) := by decide +kernel
theorem dX2_parseText_22 : decode cX2_parseText 22 = .ok (.aload_n 0, 1) := by decide +kernel
theorem dX2_parseText_23 : decode cX2_parseText 23 = .ok (.iconst (-1), 1) := by decide +kernel
theorem dX2_parseText_24 : decode cX2_parseText 24 = .ok (.putfield 15, 3) := by decide +kernel
theorem dX2_parseText_27 : decode cX2_parseText 27 = .ok (.aload_n 0, 1) := by decide +kernel
theorem dX2_parseText_28 : decode cX2_parseText 28 = .ok (.getfield 22, 3) := by decide +kernel
theorem dX2_parseText_31 : decode cX2_parseText 31 = .ok (.invokevirtual 55, 3) := by decide +kernel
theorem dX2_parseText_34 : decode cX2_parseText 34 = .ok (.aload_n 0, 1) := by decide +kernel
theorem dX2_parseText_35 : decode cX2_parseText 35 = .ok (.iconst 0, 1) := by decide +kernel
theorem dX2_parseText_36 : decode cX2_parseText 36 = .ok (.putfield 58, 3) := by decide +kernel
theorem dX2_parseText_39 : decode cX2_parseText 39 = .ok (.aload_n 0, 1) := by decide +kernel
theorem dX2_parseText_40 : decode cX2_parseText 40 = .ok (.iconst 0, 1) := by decide +kernel
theorem dX2_parseText_41 : decode cX2_parseText 41 = .ok (.putfield 61, 3) := by decide +kernel
theorem dX2_parseText_44 : decode cX2_parseText 44 = .ok (.aload_n 0, 1) := by decide +kernel
theorem dX2_parseText_45 : decode cX2_parseText 45 = .ok (.iconst 0, 1) := by decide +kernel
theorem dX2_parseText_46 : decode cX2_parseText 46 = .ok (.putfield 64, 3) := by decide +kernel
theorem dX2_parseText_49 : decode cX2_parseText 49 = .ok (.aload_n 0, 1) := by decide +kernel
theorem dX2_parseText_50 : decode cX2_parseText 50 = .ok (.invokevirtual 67, 3) := by decide +kernel
theorem dX2_parseText_53 : decode cX2_parseText 53 = .ok (.aload_n 0, 1) := by decide +kernel
theorem dX2_parseText_54 : decode cX2_parseText 54 = .ok (.ldc 70, 2) := by decide +kernel
theorem dX2_parseText_56 : decode cX2_parseText 56 = .ok (.invokevirtual 72, 3) := by decide +kernel
theorem dX2_parseText_59 : decode cX2_parseText 59 = .ok (.ifCond .ne 13, 3) := by decide +kernel
theorem dX2_parseText_62 : decode cX2_parseText 62 = .ok (.aload_n 0, 1) := by decide +kernel
theorem dX2_parseText_63 : decode cX2_parseText 63 = .ok (.iconst 1, 1) := by decide +kernel
theorem dX2_parseText_64 : decode cX2_parseText 64 = .ok (.aload_n 0, 1) := by decide +kernel
theorem dX2_parseText_65 : decode cX2_parseText 65 = .ok (.getfield 61, 3) := by decide +kernel
theorem dX2_parseText_68 : decode cX2_parseText 68 = .ok (.invokevirtual 76, 3) := by decide +kernel
theorem dX2_parseText_71 : decode cX2_parseText 71 = .ok (.ireturn, 1) := by decide +kernel
theorem dX2_parseText_72 : decode cX2_parseText 72 = .ok (.iconst 0, 1) := by decide +kernel
theorem dX2_parseText_73 : decode cX2_parseText 73 = .ok (.istore_n 2, 1) := by decide +kernel
theorem dX2_parseText_74 : decode cX2_parseText 74 = .ok (.iload_n 2, 1) := by decide +kernel
theorem dX2_parseText_75 : decode cX2_parseText 75 = .ok (.sipush 600, 3) := by decide +kernel
theorem dX2_parseText_78 : decode cX2_parseText 78 = .ok (.if_icmp .ge 30, 3) := by decide +kernel
theorem dX2_parseText_81 : decode cX2_parseText 81 = .ok (.aload_n 0, 1) := by decide +kernel
theorem dX2_parseText_82 : decode cX2_parseText 82 = .ok (.getfield 58, 3) := by decide +kernel
theorem dX2_parseText_85 : decode cX2_parseText 85 = .ok (.iconst 3, 1) := by decide +kernel
theorem dX2_parseText_86 : decode cX2_parseText 86 = .ok (.if_icmp .ne 22, 3) := by decide +kernel
theorem dX2_parseText_89 : decode cX2_parseText 89 = .ok (.aload_n 0, 1) := by decide +kernel
theorem dX2_parseText_90 : decode cX2_parseText 90 = .ok (.invokevirtual 67, 3) := by decide +kernel
theorem dX2_parseText_93 : decode cX2_parseText 93 = .ok (.aload_n 0, 1) := by decide +kernel
theorem dX2_parseText_94 : decode cX2_parseText 94 = .ok (.invokevirtual 80, 3) := by decide +kernel
theorem dX2_parseText_97 : decode cX2_parseText 97 = .ok (.ifCond .ne 5, 3) := by decide +kernel
theorem dX2_parseText_100 : decode cX2_parseText 100 = .ok (.iconst 0, 1) := by decide +kernel
theorem dX2_parseText_101 : decode cX2_parseText 101 = .ok (.ireturn, 1) := by decide +kernel
theorem dX2_parseText_102 : decode cX2_parseText 102 = .ok (.iinc 2 1, 3) := by decide +kernel
theorem dX2_parseText_105 : decode cX2_parseText 105 = .ok (.goto (-31), 3) := by decide +kernel
theorem dX2_parseText_108 : decode cX2_parseText 108 = .ok (.aload_n 0, 1) := by decide +kernel
theorem dX2_parseText_109 : decode cX2_parseText 109 = .ok (.getfield 58, 3) := by decide +kernel
theorem dX2_parseText_112 : decode cX2_parseText 112 = .ok (.ifCond .eq 15, 3) := by decide +kernel
theorem dX2_parseText_115 : decode cX2_parseText 115 = .ok (.aload_n 0, 1) := by decide +kernel
theorem dX2_parseText_116 : decode cX2_parseText 116 = .ok (.iconst 1, 1) := by decide +kernel
theorem dX2_parseText_117 : decode cX2_parseText 117 = .ok (.aload_n 0, 1) := by decide +kernel
theorem dX2_parseText_118 : decode cX2_parseText 118 = .ok (.getfield 61, 3) := by decide +kernel
theorem dX2_parseText_121 : decode cX2_parseText 121 = .ok (.invokevirtual 76, 3) := by decide +kernel
theorem dX2_parseText_124 : decode cX2_parseText 124 = .ok (.ifCond .eq 7, 3) := by decide +kernel
theorem dX2_parseText_127 : decode cX2_parseText 127 = .ok (.iconst 1, 1) := by decide +kernel
theorem dX2_parseText_128 : decode cX2_parseText 128 = .ok (.goto 4, 3) := by decide +kernel
theorem dX2_parseText_131 : decode cX2_parseText 131 = .ok (.iconst 0, 1) := by decide +kernel
theorem dX2_parseText_132 : decode cX2_parseText 132 = .ok (.ireturn, 1) := by decide +kernel
theorem dX2_parseLine_0 : decode cX2_parseLine 0 = .ok (.aload_n 0, 1) := by decide +kernel
theorem dX2_parseLine_1 : decode cX2_parseLine 1 = .ok (.ldc 84, 2) := by decide +kernel
theorem dX2_parseLine_3 : decode cX2_parseLine 3 = .ok (.invokevirtual 72, 3) := by decide +kernel
theorem dX2_parseLine_6 : decode cX2_parseLine 6 = .ok (.ifCond .eq 8, 3) := by decide +kernel
theorem dX2_parseLine_9 : decode cX2_parseLine 9 = .ok (.aload_n 0, 1) := by decide +kernel
theorem dX2_parseLine_10 : decode cX2_parseLine 10 = .ok (.invokevirtual 86, 3) := by decide +kernel
theorem dX2_parseLine_13 : decode cX2_parseLine 13 = .ok (.ireturn, 1) := by decide +kernel
theorem dX2_parseLine_14 : decode cX2_parseLine 14 = .ok (.aload_n 0, 1) := by decide +kernel
theorem dX2_parseLine_15 : decode cX2_parseLine 15 = .ok (.ldc 89, 2) := by decide +kernel
theorem dX2_parseLine_17 : decode cX2_parseLine 17 = .ok (.invokevirtual 72, 3) := by decide +kernel
theorem dX2_parseLine_20 : decode cX2_parseLine 20 = .ok (.ifCond .eq 8, 3) := by decide +kernel
theorem dX2_parseLine_23 : decode cX2_parseLine 23 = .ok (.aload_n 0, 1) := by decide +kernel
theorem dX2_parseLine_24 : decode cX2_parseLine 24 = .ok (.invokevirtual 91, 3) := by decide +kernel
theorem dX2_parseLine_27 : decode cX2_parseLine 27 = .ok (.ireturn, 1) := by decide +kernel
theorem dX2_parseLine_28 : decode cX2_parseLine 28 = .ok (.aload_n 0, 1) := by decide +kernel
theorem dX2_parseLine_29 : decode cX2_parseLine 29 = .ok (.ldc 94, 2) := by decide +kernel
theorem dX2_parseLine_31 : decode cX2_parseLine 31 = .ok (.invokevirtual 72, 3) := by decide +kernel
theorem dX2_parseLine_34 : decode cX2_parseLine 34 = .ok (.ifCond .eq 43, 3) := by decide +kernel
theorem dX2_parseLine_37 : decode cX2_parseLine 37 = .ok (.aload_n 0, 1) := by decide +kernel
theorem dX2_parseLine_38 : decode cX2_parseLine 38 = .ok (.iconst 1, 1) := by decide +kernel
theorem dX2_parseLine_39 : decode cX2_parseLine 39 = .ok (.bipush 99, 2) := by decide +kernel
theorem dX2_parseLine_41 : decode cX2_parseLine 41 = .ok (.sipush 9999, 3) := by decide +kernel
theorem dX2_parseLine_44 : decode cX2_parseLine 44 = .ok (.aload_n 0, 1) := by decide +kernel
theorem dX2_parseLine_45 : decode cX2_parseLine 45 = .ok (.getfield 22, 3) := by decide +kernel
theorem dX2_parseLine_48 : decode cX2_parseLine 48 = .ok (.getfield 96, 3) := by decide +kernel
theorem dX2_parseLine_51 : decode cX2_parseLine 51 = .ok (.isub, 1) := by decide +kernel
theorem dX2_parseLine_52 : decode cX2_parseLine 52 = .ok (.invokestatic 43, 3) := by decide +kernel
theorem dX2_parseLine_55 : decode cX2_parseLine 55 = .ok (.invokevirtual 99, 3) := by decide +kernel
theorem dX2_parseLine_58 : decode cX2_parseLine 58 = .ok (.istore_n 1, 1) := by decide +kernel
theorem dX2_parseLine_59 : decode cX2_parseLine 59 = .ok (.iload_n 1, 1) := by decide +kernel
theorem dX2_parseLine_60 : decode cX2_parseLine 60 = .ok (.iconst (-1), 1) := by decide +kernel
theorem dX2_parseLine_61 : decode cX2_parseLine 61 = .ok (.if_icmp .ne 5, 3) := by decide +kernel
theorem dX2_parseLine_64 : decode cX2_parseLine 64 = .ok (.iconst 0, 1) := by decide +kernel
theorem dX2_parseLine_65 : decode cX2_parseLine 65 = .ok (.ireturn, 1) := by decide +kernel
theorem dX2_parseLine_66 : decode cX2_parseLine 66 = .ok (.aload_n 0, 1) := by decide +kernel
theorem dX2_parseLine_67 : decode cX2_parseLine 67 = .ok (.getfield 22, 3) := by decide +kernel
theorem dX2_parseLine_70 : decode cX2_parseLine 70 = .ok (.iload_n 1, 1) := by decide +kernel
theorem dX2_parseLine_71 : decode cX2_parseLine 71 = .ok (.invokevirtual 102, 3) := by decide +kernel
theorem dX2_parseLine_74 : decode cX2_parseLine 74 = .ok (.pop, 1) := by decide +kernel
theorem dX2_parseLine_75 : decode cX2_parseLine 75 = .ok (.iconst 1, 1) := by decide +kernel
theorem dX2_parseLine_76 : decode cX2_parseLine 76 = .ok (.ireturn, 1) := by decide +kernel
theorem dX2_parseLine_77 : decode cX2_parseLine 77 = .ok (.aload_n 0, 1) := by decide +kernel
theorem dX2_parseLine_78 : decode cX2_parseLine 78 = .ok (.ldc 106, 2) := by decide +kernel
theorem dX2_parseLine_80 : decode cX2_parseLine 80 = .ok (.invokevirtual 72, 3) := by decide +kernel
theorem dX2_parseLine_83 : decode cX2_parseLine 83 = .ok (.ifCond .eq 37, 3) := by decide +kernel
theorem dX2_parseLine_86 : decode cX2_parseLine 86 = .ok (.aload_n 0, 1) := by decide +kernel
theorem dX2_parseLine_87 : decode cX2_parseLine 87 = .ok (.iconst 0, 1) := by decide +kernel
theorem dX2_parseLine_88 : decode cX2_parseLine 88 = .ok (.aload_n 0, 1) := by decide +kernel
theorem dX2_parseLine_89 : decode cX2_parseLine 89 = .ok (.getfield 22, 3) := by decide +kernel
theorem dX2_parseLine_92 : decode cX2_parseLine 92 = .ok (.getfield 108, 3) := by decide +kernel
theorem dX2_parseLine_95 : decode cX2_parseLine 95 = .ok (.iconst 1, 1) := by decide +kernel
theorem dX2_parseLine_96 : decode cX2_parseLine 96 = .ok (.isub, 1) := by decide +kernel
theorem dX2_parseLine_97 : decode cX2_parseLine 97 = .ok (.invokevirtual 99, 3) := by decide +kernel
theorem dX2_parseLine_100 : decode cX2_parseLine 100 = .ok (.istore_n 1, 1) := by decide +kernel
theorem dX2_parseLine_101 : decode cX2_parseLine 101 = .ok (.iload_n 1, 1) := by decide +kernel
theorem dX2_parseLine_102 : decode cX2_parseLine 102 = .ok (.iconst (-1), 1) := by decide +kernel
theorem dX2_parseLine_103 : decode cX2_parseLine 103 = .ok (.if_icmp .eq 15, 3) := by decide +kernel
theorem dX2_parseLine_106 : decode cX2_parseLine 106 = .ok (.aload_n 0, 1) := by decide +kernel
theorem dX2_parseLine_107 : decode cX2_parseLine 107 = .ok (.iload_n 1, 1) := by decide +kernel
theorem dX2_parseLine_108 : decode cX2_parseLine 108 = .ok (.invokevirtual 111, 3) := by decide +kernel
theorem dX2_parseLine_111 : decode cX2_parseLine 111 = .ok (.ifCond .eq 7, 3) := by decide +kernel
theorem dX2_parseLine_114 : decode cX2_parseLine 114 = .ok (.iconst 1, 1) := by decide +kernel
theorem dX2_parseLine_115 : decode cX2_parseLine 115 = .ok (.goto 4, 3) := by decide +kernel
theorem dX2_parseLine_118 : decode cX2_parseLine 118 = .ok (.iconst 0, 1) := by decide +kernel
theorem dX2_parseLine_119 : decode cX2_parseLine 119 = .ok (.ireturn, 1) := by decide +kernel
theorem dX2_parseLine_120 : decode cX2_parseLine 120 = .ok (.aload_n 0, 1) := by decide +kernel
theorem dX2_parseLine_121 : decode cX2_parseLine 121 = .ok (.ldc 115, 2) := by decide +kernel
theorem dX2_parseLine_123 : decode cX2_parseLine 123 = .ok (.invokevirtual 72, 3) := by decide +kernel
theorem dX2_parseLine_126 : decode cX2_parseLine 126 = .ok (.ifCond .eq 37, 3) := by decide +kernel
theorem dX2_parseLine_129 : decode cX2_parseLine 129 = .ok (.aload_n 0, 1) := by decide +kernel
theorem dX2_parseLine_130 : decode cX2_parseLine 130 = .ok (.iconst 0, 1) := by decide +kernel
theorem dX2_parseLine_131 : decode cX2_parseLine 131 = .ok (.aload_n 0, 1) := by decide +kernel
theorem dX2_parseLine_132 : decode cX2_parseLine 132 = .ok (.getfield 22, 3) := by decide +kernel
theorem dX2_parseLine_135 : decode cX2_parseLine 135 = .ok (.getfield 108, 3) := by decide +kernel
theorem dX2_parseLine_138 : decode cX2_parseLine 138 = .ok (.iconst 1, 1) := by decide +kernel
theorem dX2_parseLine_139 : decode cX2_parseLine 139 = .ok (.isub, 1) := by decide +kernel
theorem dX2_parseLine_140 : decode cX2_parseLine 140 = .ok (.invokevirtual 99, 3) := by decide +kernel
theorem dX2_parseLine_143 : decode cX2_parseLine 143 = .ok (.istore_n 1, 1) := by decide +kernel
theorem dX2_parseLine_144 : decode cX2_parseLine 144 = .ok (.iload_n 1, 1) := by decide +kernel
theorem dX2_parseLine_145 : decode cX2_parseLine 145 = .ok (.iconst (-1), 1) := by decide +kernel
theorem dX2_parseLine_146 : decode cX2_parseLine 146 = .ok (.if_icmp .eq 15, 3) := by decide +kernel
theorem dX2_parseLine_149 : decode cX2_parseLine 149 = .ok (.aload_n 0, 1) := by decide +kernel
theorem dX2_parseLine_150 : decode cX2_parseLine 150 = .ok (.iload_n 1, 1) := by decide +kernel
theorem dX2_parseLine_151 : decode cX2_parseLine 151 = .ok (.invokevirtual 117, 3) := by decide +kernel
theorem dX2_parseLine_154 : decode cX2_parseLine 154 = .ok (.ifCond .eq 7, 3) := by decide +kernel
theorem dX2_parseLine_157 : decode cX2_parseLine 157 = .ok (.iconst 1, 1) := by decide +kernel
theorem dX2_parseLine_158 : decode cX2_parseLine 158 = .ok (.goto 4, 3) := by decide +kernel
theorem dX2_parseLine_161 : decode cX2_parseLine 161 = .ok (.iconst 0, 1) := by decide +kernel
theorem dX2_parseLine_162 : decode cX2_parseLine 162 = .ok (.ireturn, 1) := by decide +kernel
theorem dX2_parseLine_163 : decode cX2_parseLine 163 = .ok (.aload_n 0, 1) := by decide +kernel
theorem dX2_parseLine_164 : decode cX2_parseLine 164 = .ok (.ldc 120, 2) := by decide +kernel
theorem dX2_parseLine_166 : decode cX2_parseLine 166 = .ok (.invokevirtual 72, 3) := by decide +kernel
theorem dX2_parseLine_169 : decode cX2_parseLine 169 = .ok (.ifCond .eq 37, 3) := by decide +kernel
theorem dX2_parseLine_172 : decode cX2_parseLine 172 = .ok (.aload_n 0, 1) := by decide +kernel
theorem dX2_parseLine_173 : decode cX2_parseLine 173 = .ok (.iconst 0, 1) := by decide +kernel
theorem dX2_parseLine_174 : decode cX2_parseLine 174 = .ok (.aload_n 0, 1) := by decide +kernel
theorem dX2_parseLine_175 : decode cX2_parseLine 175 = .ok (.getfield 22, 3) := by decide +kernel
theorem dX2_parseLine_178 : decode cX2_parseLine 178 = .ok (.getfield 108, 3) := by decide +kernel
theorem dX2_parseLine_181 : decode cX2_parseLine 181 = .ok (.iconst 1, 1) := by decide +kernel
theorem dX2_parseLine_182 : decode cX2_parseLine 182 = .ok (.isub, 1) := by decide +kernel
theorem dX2_parseLine_183 : decode cX2_parseLine 183 = .ok (.invokevirtual 99, 3) := by decide +kernel
theorem dX2_parseLine_186 : decode cX2_parseLine 186 = .ok (.istore_n 1, 1) := by decide +kernel
theorem dX2_parseLine_187 : decode cX2_parseLine 187 = .ok (.iload_n 1, 1) := by decide +kernel
theorem dX2_parseLine_188 : decode cX2_parseLine 188 = .ok (.iconst (-1), 1) := by decide +kernel
theorem dX2_parseLine_189 : decode cX2_parseLine 189 = .ok (.if_icmp .eq 15, 3) := by decide +kernel
theorem dX2_parseLine_192 : decode cX2_parseLine 192 = .ok (.aload_n 0, 1) := by decide +kernel
theorem dX2_parseLine_193 : decode cX2_parseLine 193 = .ok (.iload_n 1, 1) := by decide +kernel
theorem dX2_parseLine_194 : decode cX2_parseLine 194 = .ok (.invokevirtual 122, 3) := by decide +kernel
theorem dX2_parseLine_197 : decode cX2_parseLine 197 = .ok (.ifCond .eq 7, 3) := by decide +kernel
theorem dX2_parseLine_200 : decode cX2_parseLine 200 = .ok (.iconst 1, 1) := by decide +kernel
theorem dX2_parseLine_201 : decode cX2_parseLine 201 = .ok (.goto 4, 3) := by decide +kernel
theorem dX2_parseLine_204 : decode cX2_parseLine 204 = .ok (.iconst 0, 1) := by decide +kernel
theorem dX2_parseLine_205 : decode cX2_parseLine 205 = .ok (.ireturn, 1) := by decide +kernel
theorem dX2_parseLine_206 : decode cX2_parseLine 206 = .ok (.aload_n 0, 1) := by decide +kernel
theorem dX2_parseLine_207 : decode cX2_parseLine 207 = .ok (.iconst 1, 1) := by decide +kernel
theorem dX2_parseLine_208 : decode cX2_parseLine 208 = .ok (.aload_n 0, 1) := by decide +kernel
theorem dX2_parseLine_209 : decode cX2_parseLine 209 = .ok (.getfield 61, 3) := by decide +kernel
theorem dX2_parseLine_212 : decode cX2_parseLine 212 = .ok (.invokevirtual 76, 3) := by decide +kernel
theorem dX2_parseLine_215 : decode cX2_parseLine 215 = .ok (.ireturn, 1) := by decide +kernel
theorem dX2_parseBlock_0 : decode cX2_parseBlock 0 = .ok (.aload_n 0, 1) := by decide +kernel
theorem dX2_parseBlock_1 : decode cX2_parseBlock 1 = .ok (.getfield 22, 3) := by decide +kernel
theorem dX2_parseBlock_4 : decode cX2_parseBlock 4 = .ok (.getfield 108, 3) := by decide +kernel
theorem dX2_parseBlock_7 : decode cX2_parseBlock 7 = .ok (.bipush 10, 2) := by decide +kernel
theorem dX2_parseBlock_9 : decode cX2_parseBlock 9 = .ok (.if_icmp .lt 13, 3) := by decide +kernel
theorem dX2_parseBlock_12 : decode cX2_parseBlock 12 = .ok (.aload_n 0, 1) := by decide +kernel
theorem dX2_parseBlock_13 : decode cX2_parseBlock 13 = .ok (.iconst 4, 1) := by decide +kernel
theorem dX2_parseBlock_14 : decode cX2_parseBlock 14 = .ok (.aload_n 0, 1) := by decide +kernel
theorem dX2_parseBlock_15 : decode cX2_parseBlock 15 = .ok (.getfield 125, 3) := by decide +kernel
theorem dX2_parseBlock_18 : decode cX2_parseBlock 18 = .ok (.invokevirtual 76, 3) := by decide +kernel
theorem dX2_parseBlock_21 : decode cX2_parseBlock 21 = .ok (.ireturn, 1) := by decide +kernel
theorem dX2_parseBlock_22 : decode cX2_parseBlock 22 = .ok (.aload_n 0, 1) := by decide +kernel
theorem dX2_parseBlock_23 : decode cX2_parseBlock 23 = .ok (.iconst 1, 1) := by decide +kernel
theorem dX2_parseBlock_24 : decode cX2_parseBlock 24 = .ok (.bipush 20, 2) := by decide +kernel
theorem dX2_parseBlock_26 : decode cX2_parseBlock 26 = .ok (.invokevirtual 99, 3) := by decide +kernel
theorem dX2_parseBlock_29 : decode cX2_parseBlock 29 = .ok (.istore_n 1, 1) := by decide +kernel
theorem dX2_parseBlock_30 : decode cX2_parseBlock 30 = .ok (.iload_n 1, 1) := by decide +kernel
theorem dX2_parseBlock_31 : decode cX2_parseBlock 31 = .ok (.iconst (-1), 1) := by decide +kernel
theorem dX2_parseBlock_32 : decode cX2_parseBlock 32 = .ok (.if_icmp .ne 5, 3) := by decide +kernel
theorem dX2_parseBlock_35 : decode cX2_parseBlock 35 = .ok (.iconst 0, 1) := by decide +kernel
theorem dX2_parseBlock_36 : decode cX2_parseBlock 36 = .ok (.ireturn, 1) := by decide +kernel
theorem dX2_parseBlock_37 : decode cX2_parseBlock 37 = .ok (.aload_n 0, 1) := by decide +kernel
theorem dX2_parseBlock_38 : decode cX2_parseBlock 38 = .ok (.iconst 0, 1) := by decide +kernel
theorem dX2_parseBlock_39 : decode cX2_parseBlock 39 = .ok (.bipush 9, 2) := by decide +kernel
theorem dX2_parseBlock_41 : decode cX2_parseBlock 41 = .ok (.invokevirtual 99, 3) := by decide +kernel
theorem dX2_parseBlock_44 : decode cX2_parseBlock 44 = .ok (.istore_n 2, 1) := by decide +kernel
theorem dX2_parseBlock_45 : decode cX2_parseBlock 45 = .ok (.iload_n 2, 1) := by decide +kernel
theorem dX2_parseBlock_46 : decode cX2_parseBlock 46 = .ok (.iconst (-1), 1) := by decide +kernel
theorem dX2_parseBlock_47 : decode cX2_parseBlock 47 = .ok (.if_icmp .ne 5, 3) := by decide +kernel
theorem dX2_parseBlock_50 : decode cX2_parseBlock 50 = .ok (.iconst 0, 1) := by decide +kernel
theorem dX2_parseBlock_51 : decode cX2_parseBlock 51 = .ok (.ireturn, 1) := by decide +kernel
theorem dX2_parseBlock_52 : decode cX2_parseBlock 52 = .ok (.iconst 0, 1) := by decide +kernel
theorem dX2_parseBlock_53 : decode cX2_parseBlock 53 = .ok (.istore_n 3, 1) := by decide +kernel
theorem dX2_parseBlock_54 : decode cX2_parseBlock 54 = .ok (.aload_n 0, 1) := by decide +kernel
theorem dX2_parseBlock_55 : decode cX2_parseBlock 55 = .ok (.ldc 128, 2) := by decide +kernel
theorem dX2_parseBlock_57 : decode cX2_parseBlock 57 = .ok (.invokevirtual 72, 3) := by decide +kernel
theorem dX2_parseBlock_60 : decode cX2_parseBlock 60 = .ok (.ifCond .eq 10, 3) := by decide +kernel
theorem dX2_parseBlock_63 : decode cX2_parseBlock 63 = .ok (.aload_n 0, 1) := by decide +kernel
theorem dX2_parseBlock_64 : decode cX2_parseBlock 64 = .ok (.iconst 1, 1) := by decide +kernel
theorem dX2_parseBlock_65 : decode cX2_parseBlock 65 = .ok (.iconst 5, 1) := by decide +kernel
theorem dX2_parseBlock_66 : decode cX2_parseBlock 66 = .ok (.invokevirtual 99, 3) := by decide +kernel
theorem dX2_parseBlock_69 : decode cX2_parseBlock 69 = .ok (.istore_n 3, 1) := by decide +kernel
theorem dX2_parseBlock_70 : decode cX2_parseBlock 70 = .ok (.iload_n 3, 1) := by decide +kernel
theorem dX2_parseBlock_71 : decode cX2_parseBlock 71 = .ok (.iconst (-1), 1) := by decide +kernel
theorem dX2_parseBlock_72 : decode cX2_parseBlock 72 = .ok (.if_icmp .ne 5, 3) := by decide +kernel
theorem dX2_parseBlock_75 : decode cX2_parseBlock 75 = .ok (.iconst 0, 1) := by decide +kernel
theorem dX2_parseBlock_76 : decode cX2_parseBlock 76 = .ok (.ireturn, 1) := by decide +kernel
theorem dX2_parseBlock_77 : decode cX2_parseBlock 77 = .ok (.aload_n 0, 1) := by decide +kernel
theorem dX2_parseBlock_78 : decode cX2_parseBlock 78 = .ok (.getfield 22, 3) := by decide +kernel
theorem dX2_parseBlock_81 : decode cX2_parseBlock 81 = .ok (.iload_n 1, 1) := by decide +kernel
theorem dX2_parseBlock_82 : decode cX2_parseBlock 82 = .ok (.iload_n 2, 1) := by decide +kernel
theorem dX2_parseBlock_83 : decode cX2_parseBlock 83 = .ok (.iload_n 3, 1) := by decide +kernel
theorem dX2_parseBlock_84 : decode cX2_parseBlock 84 = .ok (.invokevirtual 130, 3) := by decide +kernel
theorem dX2_parseBlock_87 : decode cX2_parseBlock 87 = .ok (.iconst 1, 1) := by decide +kernel
theorem dX2_parseBlock_88 : decode cX2_parseBlock 88 = .ok (.ireturn, 1) := by decide +kernel
theorem dX2_parseTrain_0 : decode cX2_parseTrain 0 = .ok (.aload_n 0, 1) := by decide +kernel
theorem dX2_parseTrain_1 : decode cX2_parseTrain 1 = .ok (.getfield 22, 3) := by decide +kernel
theorem dX2_parseTrain_4 : decode cX2_parseTrain 4 = .ok (.getfield 134, 3) := by decide +kernel
theorem dX2_parseTrain_7 : decode cX2_parseTrain 7 = .ok (.iconst 5, 1) := by decide +kernel
theorem dX2_parseTrain_8 : decode cX2_parseTrain 8 = .ok (.if_icmp .lt 13, 3) := by decide +kernel
theorem dX2_parseTrain_11 : decode cX2_parseTrain 11 = .ok (.aload_n 0, 1) := by decide +kernel
theorem dX2_parseTrain_12 : decode cX2_parseTrain 12 = .ok (.iconst 4, 1) := by decide +kernel
theorem dX2_parseTrain_13 : decode cX2_parseTrain 13 = .ok (.aload_n 0, 1) := by decide +kernel
theorem dX2_parseTrain_14 : decode cX2_parseTrain 14 = .ok (.getfield 125, 3) := by decide +kernel
theorem dX2_parseTrain_17 : decode cX2_parseTrain 17 = .ok (.invokevirtual 76, 3) := by decide +kernel
theorem dX2_parseTrain_20 : decode cX2_parseTrain 20 = .ok (.ireturn, 1) := by decide +kernel
theorem dX2_parseTrain_21 : decode cX2_parseTrain 21 = .ok (.aload_n 0, 1) := by decide +kernel
theorem dX2_parseTrain_22 : decode cX2_parseTrain 22 = .ok (.iconst 0, 1) := by decide +kernel
theorem dX2_parseTrain_23 : decode cX2_parseTrain 23 = .ok (.aload_n 0, 1) := by decide +kernel
theorem dX2_parseTrain_24 : decode cX2_parseTrain 24 = .ok (.getfield 22, 3) := by decide +kernel
theorem dX2_parseTrain_27 : decode cX2_parseTrain 27 = .ok (.getfield 108, 3) := by decide +kernel
theorem dX2_parseTrain_30 : decode cX2_parseTrain 30 = .ok (.iconst 1, 1) := by decide +kernel
theorem dX2_parseTrain_31 : decode cX2_parseTrain 31 = .ok (.isub, 1) := by decide +kernel
theorem dX2_parseTrain_32 : decode cX2_parseTrain 32 = .ok (.invokevirtual 99, 3) := by decide +kernel
theorem dX2_parseTrain_35 : decode cX2_parseTrain 35 = .ok (.istore_n 1, 1) := by decide +kernel
theorem dX2_parseTrain_36 : decode cX2_parseTrain 36 = .ok (.iload_n 1, 1) := by decide +kernel
theorem dX2_parseTrain_37 : decode cX2_parseTrain 37 = .ok (.iconst (-1), 1) := by decide +kernel
theorem dX2_parseTrain_38 : decode cX2_parseTrain 38 = .ok (.if_icmp .ne 5, 3) := by decide +kernel
theorem dX2_parseTrain_41 : decode cX2_parseTrain 41 = .ok (.iconst 0, 1) := by decide +kernel
theorem dX2_parseTrain_42 : decode cX2_parseTrain 42 = .ok (.ireturn, 1) := by decide +kernel
theorem dX2_parseTrain_43 : decode cX2_parseTrain 43 = .ok (.aload_n 0, 1) := by decide +kernel
theorem dX2_parseTrain_44 : decode cX2_parseTrain 44 = .ok (.getfield 22, 3) := by decide +kernel
theorem dX2_parseTrain_47 : decode cX2_parseTrain 47 = .ok (.iload_n 1, 1) := by decide +kernel
theorem dX2_parseTrain_48 : decode cX2_parseTrain 48 = .ok (.invokevirtual 137, 3) := by decide +kernel
theorem dX2_parseTrain_51 : decode cX2_parseTrain 51 = .ok (.ifCond .eq 13, 3) := by decide +kernel
theorem dX2_parseTrain_54 : decode cX2_parseTrain 54 = .ok (.aload_n 0, 1) := by decide +kernel
theorem dX2_parseTrain_55 : decode cX2_parseTrain 55 = .ok (.iconst 3, 1) := by decide +kernel
theorem dX2_parseTrain_56 : decode cX2_parseTrain 56 = .ok (.aload_n 0, 1) := by decide +kernel
theorem dX2_parseTrain_57 : decode cX2_parseTrain 57 = .ok (.getfield 125, 3) := by decide +kernel
theorem dX2_parseTrain_60 : decode cX2_parseTrain 60 = .ok (.invokevirtual 76, 3) := by decide +kernel
theorem dX2_parseTrain_63 : decode cX2_parseTrain 63 = .ok (.ireturn, 1) := by decide +kernel
theorem dX2_parseTrain_64 : decode cX2_parseTrain 64 = .ok (.aload_n 0, 1) := by decide +kernel
theorem dX2_parseTrain_65 : decode cX2_parseTrain 65 = .ok (.iconst 1, 1) := by decide +kernel
theorem dX2_parseTrain_66 : decode cX2_parseTrain 66 = .ok (.bipush 12, 2) := by decide +kernel
theorem dX2_parseTrain_68 : decode cX2_parseTrain 68 = .ok (.invokevirtual 99, 3) := by decide +kernel
theorem dX2_parseTrain_71 : decode cX2_parseTrain 71 = .ok (.istore_n 2, 1) := by decide +kernel
theorem dX2_parseTrain_72 : decode cX2_parseTrain 72 = .ok (.iload_n 2, 1) := by decide +kernel
theorem dX2_parseTrain_73 : decode cX2_parseTrain 73 = .ok (.iconst (-1), 1) := by decide +kernel
theorem dX2_parseTrain_74 : decode cX2_parseTrain 74 = .ok (.if_icmp .ne 5, 3) := by decide +kernel
theorem dX2_parseTrain_77 : decode cX2_parseTrain 77 = .ok (.iconst 0, 1) := by decide +kernel
theorem dX2_parseTrain_78 : decode cX2_parseTrain 78 = .ok (.ireturn, 1) := by decide +kernel
theorem dX2_parseTrain_79 : decode cX2_parseTrain 79 = .ok (.aload_n 0, 1) := by decide +kernel
theorem dX2_parseTrain_80 : decode cX2_parseTrain 80 = .ok (.iconst 1, 1) := by decide +kernel
theorem dX2_parseTrain_81 : decode cX2_parseTrain 81 = .ok (.iconst 5, 1) := by decide +kernel
theorem dX2_parseTrain_82 : decode cX2_parseTrain 82 = .ok (.invokevirtual 99, 3) := by decide +kernel
theorem dX2_parseTrain_85 : decode cX2_parseTrain 85 = .ok (.istore_n 3, 1) := by decide +kernel
theorem dX2_parseTrain_86 : decode cX2_parseTrain 86 = .ok (.iload_n 3, 1) := by decide +kernel
theorem dX2_parseTrain_87 : decode cX2_parseTrain 87 = .ok (.iconst (-1), 1) := by decide +kernel
theorem dX2_parseTrain_88 : decode cX2_parseTrain 88 = .ok (.if_icmp .ne 5, 3) := by decide +kernel
theorem dX2_parseTrain_91 : decode cX2_parseTrain 91 = .ok (.iconst 0, 1) := by decide +kernel
theorem dX2_parseTrain_92 : decode cX2_parseTrain 92 = .ok (.ireturn, 1) := by decide +kernel
theorem dX2_parseTrain_93 : decode cX2_parseTrain 93 = .ok (.aload_n 0, 1) := by decide +kernel
theorem dX2_parseTrain_94 : decode cX2_parseTrain 94 = .ok (.getfield 22, 3) := by decide +kernel
theorem dX2_parseTrain_97 : decode cX2_parseTrain 97 = .ok (.iload_n 1, 1) := by decide +kernel
theorem dX2_parseTrain_98 : decode cX2_parseTrain 98 = .ok (.iload_n 2, 1) := by decide +kernel
theorem dX2_parseTrain_99 : decode cX2_parseTrain 99 = .ok (.iload_n 3, 1) := by decide +kernel
theorem dX2_parseTrain_100 : decode cX2_parseTrain 100 = .ok (.invokevirtual 140, 3) := by decide +kernel
theorem dX2_parseTrain_103 : decode cX2_parseTrain 103 = .ok (.iconst 1, 1) := by decide +kernel
theorem dX2_parseTrain_104 : decode cX2_parseTrain 104 = .ok (.ireturn, 1) := by decide +kernel
theorem dX2_pullLever_0 : decode cX2_pullLever 0 = .ok (.aload_n 0, 1) := by decide +kernel
theorem dX2_pullLever_1 : decode cX2_pullLever 1 = .ok (.getfield 22, 3) := by decide +kernel
theorem dX2_pullLever_4 : decode cX2_pullLever 4 = .ok (.iload_n 1, 1) := by decide +kernel
theorem dX2_pullLever_5 : decode cX2_pullLever 5 = .ok (.invokevirtual 143, 3) := by decide +kernel
theorem dX2_pullLever_8 : decode cX2_pullLever 8 = .ok (.ifCond .eq 13, 3) := by decide +kernel
theorem dX2_pullLever_11 : decode cX2_pullLever 11 = .ok (.aload_n 0, 1) := by decide +kernel
theorem dX2_pullLever_12 : decode cX2_pullLever 12 = .ok (.iconst 5, 1) := by decide +kernel
theorem dX2_pullLever_13 : decode cX2_pullLever 13 = .ok (.aload_n 0, 1) := by decide +kernel
theorem dX2_pullLever_14 : decode cX2_pullLever 14 = .ok (.getfield 125, 3) := by decide +kernel
theorem dX2_pullLever_17 : decode cX2_pullLever 17 = .ok (.invokevirtual 76, 3) := by decide +kernel
theorem dX2_pullLever_20 : decode cX2_pullLever 20 = .ok (.ireturn, 1) := by decide +kernel
theorem dX2_pullLever_21 : decode cX2_pullLever 21 = .ok (.aload_n 0, 1) := by decide +kernel
theorem dX2_pullLever_22 : decode cX2_pullLever 22 = .ok (.getfield 22, 3) := by decide +kernel
theorem dX2_pullLever_25 : decode cX2_pullLever 25 = .ok (.getfield 146, 3) := by decide +kernel
