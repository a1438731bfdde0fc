theorem dX0_init_0 : decode cX0_init 0 = .ok (.aload_n 0, 1) := by decide +kernel
theorem dX0_init_1 : decode cX0_init 1 = .ok (.invokespecial 1, 3) := by decide +kernel
theorem dX0_init_4 : decode cX0_init 4 = .ok (.aload_n 0, 1) := by decide +kernel
theorem dX0_init_5 : decode cX0_init 5 = .ok (.bipush 10, 2) := by decide +kernel
theorem dX0_init_7 : decode cX0_init 7 = .ok (.anewarray 9, 3) := by decide +kernel
theorem dX0_init_10 : decode cX0_init 10 = .ok (.putfield 11, 3) := by decide +kernel
theorem dX0_init_13 : decode cX0_init 13 = .ok (.iconst 0, 1) := by decide +kernel
theorem dX0_init_14 : decode cX0_init 14 = .ok (.istore_n 1, 1) := by decide +kernel
theorem dX0_init_15 : decode cX0_init 15 = .ok (.iload_n 1, 1) := by decide +kernel
theorem dX0_init_16 : decode cX0_init 16 = .ok (.bipush 10, 2) := by decide +kernel
theorem dX0_init_18 : decode cX0_init 18 = .ok (.if_icmp .ge 22, 3) := by decide +kernel
theorem dX0_init_21 : decode cX0_init 21 = .ok (.aload_n 0, 1) := by decide +kernel
theorem dX0_init_22 : decode cX0_init 22 = .ok (.getfield 11, 3) := by decide +kernel
theorem dX0_init_25 : decode cX0_init 25 = .ok (.iload_n 1, 1) := by decide +kernel
theorem dX0_init_26 : decode cX0_init 26 = .ok (.new 9, 3) := by decide +kernel
theorem dX0_init_29 : decode cX0_init 29 = .ok (.dup, 1) := by decide +kernel
theorem dX0_init_30 : decode cX0_init 30 = .ok (.invokespecial 15, 3) := by decide +kernel
theorem dX0_init_33 : decode cX0_init 33 = .ok (.aastore, 1) := by decide +kernel
theorem dX0_init_34 : decode cX0_init 34 = .ok (.iinc 1 1, 3) := by decide +kernel
theorem dX0_init_37 : decode cX0_init 37 = .ok (.goto (-22), 3) := by decide +kernel
theorem dX0_init_40 : decode cX0_init 40 = .ok (.return_, 1) := by decide +kernel
theorem dX0_record_0 : decode cX0_record 0 = .ok (.aload_n 0, 1) := by decide +kernel
theorem dX0_record_1 : decode cX0_record 1 = .ok (.getfield 11, 3) := by decide +kernel
theorem dX0_record_4 : decode cX0_record 4 = .ok (.aload_n 0, 1) := by decide +kernel
theorem dX0_record_5 : decode cX0_record 5 = .ok (.getfield 16, 3) := by decide +kernel
theorem dX0_record_8 : decode cX0_record 8 = .ok (.aaload, 1) := by decide +kernel
theorem dX0_record_9 : decode cX0_record 9 = .ok (.astore_n 2, 1) := by decide +kernel
theorem dX0_record_10 : decode cX0_record 10 = .ok (.aload_n 2, 1) := by decide +kernel
theorem dX0_record_11 : decode cX0_record 11 = .ok (.ifnonnull 4, 3) := by decide +kernel
theorem dX0_record_14 : decode cX0_record 14 = .ok (.return_, 1) := by decide +kernel
theorem dX0_record_15 : decode cX0_record 15 = .ok (.aload_n 2, 1) := by decide +kernel
theorem dX0_record_16 : decode cX0_record 16 = .ok (.aload_n 1, 1) := by decide +kernel
theorem dX0_record_17 : decode cX0_record 17 = .ok (.invokevirtual 20, 3) := by decide +kernel
theorem dX0_record_20 : decode cX0_record 20 = .ok (.aload_n 0, 1) := by decide +kernel
theorem dX0_record_21 : decode cX0_record 21 = .ok (.aload_n 0, 1) := by decide +kernel
theorem dX0_record_22 : decode cX0_record 22 = .ok (.getfield 16, 3) := by decide +kernel
theorem dX0_record_25 : decode cX0_record 25 = .ok (.iconst 1, 1) := by decide +kernel
theorem dX0_record_26 : decode cX0_record 26 = .ok (.iadd, 1) := by decide +kernel
theorem dX0_record_27 : decode cX0_record 27 = .ok (.bipush 10, 2) := by decide +kernel
theorem dX0_record_29 : decode cX0_record 29 = .ok (.if_icmp .ge 12, 3) := by decide +kernel
theorem dX0_record_32 : decode cX0_record 32 = .ok (.aload_n 0, 1) := by decide +kernel
theorem dX0_record_33 : decode cX0_record 33 = .ok (.getfield 16, 3) := by decide +kernel
theorem dX0_record_36 : decode cX0_record 36 = .ok (.iconst 1, 1) := by decide +kernel
theorem dX0_record_37 : decode cX0_record 37 = .ok (.iadd, 1) := by decide +kernel
theorem dX0_record_38 : decode cX0_record 38 = .ok (.goto 4, 3) := by decide +kernel
theorem dX0_record_41 : decode cX0_record 41 = .ok (.iconst 0, 1) := by decide +kernel
theorem dX0_record_42 : decode cX0_record 42 = .ok (.putfield 16, 3) := by decide +kernel
theorem dX0_record_45 : decode cX0_record 45 = .ok (.aload_n 0, 1) := by decide +kernel
theorem dX0_record_46 : decode cX0_record 46 = .ok (.aload_n 0, 1) := by decide +kernel
theorem dX0_record_47 : decode cX0_record 47 = .ok (.getfield 24, 3) := by decide +kernel
theorem dX0_record_50 : decode cX0_record 50 = .ok (.iconst 1, 1) := by decide +kernel
theorem dX0_record_51 : decode cX0_record 51 = .ok (.iadd, 1) := by decide +kernel
theorem dX0_record_52 : decode cX0_record 52 = .ok (.bipush 10, 2) := by decide +kernel
theorem dX0_record_54 : decode cX0_record 54 = .ok (.invokestatic 27, 3) := by decide +kernel
theorem dX0_record_57 : decode cX0_record 57 = .ok (.putfield 24, 3) := by decide +kernel
theorem dX0_record_60 : decode cX0_record 60 = .ok (.return_, 1) := by decide +kernel
theorem dX0_takeBack_0 : decode cX0_takeBack 0 = .ok (.aload_n 0, 1) := by decide +kernel
theorem dX0_takeBack_1 : decode cX0_takeBack 1 = .ok (.getfield 16, 3) := by decide +kernel
theorem dX0_takeBack_4 : decode cX0_takeBack 4 = .ok (.ifCond .le 12, 3) := by decide +kernel
theorem dX0_takeBack_7 : decode cX0_takeBack 7 = .ok (.aload_n 0, 1) := by decide +kernel
theorem dX0_takeBack_8 : decode cX0_takeBack 8 = .ok (.getfield 16, 3) := by decide +kernel
theorem dX0_takeBack_11 : decode cX0_takeBack 11 = .ok (.iconst 1, 1) := by decide +kernel
theorem dX0_takeBack_12 : decode cX0_takeBack 12 = .ok (.isub, 1) := by decide +kernel
theorem dX0_takeBack_13 : decode cX0_takeBack 13 = .ok (.goto 5, 3) := by decide +kernel
theorem dX0_takeBack_16 : decode cX0_takeBack 16 = .ok (.bipush 9, 2) := by decide +kernel
theorem dX0_takeBack_18 : decode cX0_takeBack 18 = .ok (.istore_n 2, 1) := by decide +kernel
theorem dX0_takeBack_19 : decode cX0_takeBack 19 = .ok (.aload_n 0, 1) := by decide +kernel
theorem dX0_takeBack_20 : decode cX0_takeBack 20 = .ok (.getfield 11, 3) := by decide +kernel
theorem dX0_takeBack_23 : decode cX0_takeBack 23 = .ok (.iload_n 2, 1) := by decide +kernel
theorem dX0_takeBack_24 : decode cX0_takeBack 24 = .ok (.aaload, 1) := by decide +kernel
theorem dX0_takeBack_25 : decode cX0_takeBack 25 = .ok (.astore_n 3, 1) := by decide +kernel
theorem dX0_takeBack_26 : decode cX0_takeBack 26 = .ok (.aload_n 3, 1) := by decide +kernel
theorem dX0_takeBack_27 : decode cX0_takeBack 27 = .ok (.ifnull 11, 3) := by decide +kernel
theorem dX0_takeBack_30 : decode cX0_takeBack 30 = .ok (.aload_n 0, 1) := by decide +kernel
theorem dX0_takeBack_31 : decode cX0_takeBack 31 = .ok (.getfield 24, 3) := by decide +kernel
theorem dX0_takeBack_34 : decode cX0_takeBack 34 = .ok (.iconst 1, 1) := by decide +kernel
theorem dX0_takeBack_35 : decode cX0_takeBack 35 = .ok (.if_icmp .ge 4, 3) := by decide +kernel
theorem dX0_takeBack_38 : decode cX0_takeBack 38 = .ok (.return_, 1) := by decide +kernel
theorem dX0_takeBack_39 : decode cX0_takeBack 39 = .ok (.aload_n 1, 1) := by decide +kernel
theorem dX0_takeBack_40 : decode cX0_takeBack 40 = .ok (.aload_n 3, 1) := by decide +kernel
theorem dX0_takeBack_41 : decode cX0_takeBack 41 = .ok (.invokevirtual 20, 3) := by decide +kernel
theorem dX0_takeBack_44 : decode cX0_takeBack 44 = .ok (.aload_n 0, 1) := by decide +kernel
theorem dX0_takeBack_45 : decode cX0_takeBack 45 = .ok (.iload_n 2, 1) := by decide +kernel
theorem dX0_takeBack_46 : decode cX0_takeBack 46 = .ok (.putfield 16, 3) := by decide +kernel
theorem dX0_takeBack_49 : decode cX0_takeBack 49 = .ok (.aload_n 0, 1) := by decide +kernel
theorem dX0_takeBack_50 : decode cX0_takeBack 50 = .ok (.dup, 1) := by decide +kernel
theorem dX0_takeBack_51 : decode cX0_takeBack 51 = .ok (.getfield 24, 3) := by decide +kernel
theorem dX0_takeBack_54 : decode cX0_takeBack 54 = .ok (.iconst 1, 1) := by decide +kernel
theorem dX0_takeBack_55 : decode cX0_takeBack 55 = .ok (.isub, 1) := by decide +kernel
theorem dX0_takeBack_56 : decode cX0_takeBack 56 = .ok (.putfield 24, 3) := by decide +kernel
theorem dX0_takeBack_59 : decode cX0_takeBack 59 = .ok (.return_, 1) := by decide +kernel
theorem dX0_forget_0 : decode cX0_forget 0 = .ok (.aload_n 0, 1) := by decide +kernel
theorem dX0_forget_1 : decode cX0_forget 1 = .ok (.iconst 0, 1) := by decide +kernel
theorem dX0_forget_2 : decode cX0_forget 2 = .ok (.putfield 24, 3) := by decide +kernel
theorem dX0_forget_5 : decode cX0_forget 5 = .ok (.return_, 1) := by decide +kernel
theorem dX1_init_0 : decode cX1_init 0 = .ok (.aload_n 0, 1) := by decide +kernel
theorem dX1_init_1 : decode cX1_init 1 = .ok (.invokespecial 1, 3) := by decide +kernel
theorem dX1_init_4 : decode cX1_init 4 = .ok (.aload_n 0, 1) := by decide +kernel
theorem dX1_init_5 : decode cX1_init 5 = .ok (.bipush 64, 2) := by decide +kernel
theorem dX1_init_7 : decode cX1_init 7 = .ok (.newarray .byte, 2) := by decide +kernel
theorem dX1_init_9 : decode cX1_init 9 = .ok (.putfield 9, 3) := by decide +kernel
theorem dX1_init_12 : decode cX1_init 12 = .ok (.return_, 1) := by decide +kernel
theorem dX1_put_0 : decode cX1_put 0 = .ok (.aload_n 0, 1) := by decide +kernel
theorem dX1_put_1 : decode cX1_put 1 = .ok (.getfield 13, 3) := by decide +kernel
theorem dX1_put_4 : decode cX1_put 4 = .ok (.bipush 64, 2) := by decide +kernel
theorem dX1_put_6 : decode cX1_put 6 = .ok (.if_icmp .ge 24, 3) := by decide +kernel
theorem dX1_put_9 : decode cX1_put 9 = .ok (.aload_n 0, 1) := by decide +kernel
theorem dX1_put_10 : decode cX1_put 10 = .ok (.getfield 9, 3) := by decide +kernel
theorem dX1_put_13 : decode cX1_put 13 = .ok (.aload_n 0, 1) := by decide +kernel
theorem dX1_put_14 : decode cX1_put 14 = .ok (.getfield 13, 3) := by decide +kernel
theorem dX1_put_17 : decode cX1_put 17 = .ok (.iload_n 1, 1) := by decide +kernel
theorem dX1_put_18 : decode cX1_put 18 = .ok (.i2b, 1) := by decide +kernel
theorem dX1_put_19 : decode cX1_put 19 = .ok (.bastore, 1) := by decide +kernel
theorem dX1_put_20 : decode cX1_put 20 = .ok (.aload_n 0, 1) := by decide +kernel
theorem dX1_put_21 : decode cX1_put 21 = .ok (.dup, 1) := by decide +kernel
theorem dX1_put_22 : decode cX1_put 22 = .ok (.getfield 13, 3) := by decide +kernel
theorem dX1_put_25 : decode cX1_put 25 = .ok (.iconst 1, 1) := by decide +kernel
theorem dX1_put_26 : decode cX1_put 26 = .ok (.iadd, 1) := by decide +kernel
theorem dX1_put_27 : decode cX1_put 27 = .ok (.putfield 13, 3) := by decide +kernel
theorem dX1_put_30 : decode cX1_put 30 = .ok (.return_, 1) := by decide +kernel
theorem dX1_putNumber_0 : decode cX1_putNumber 0 = .ok (.iload_n 1, 1) := by decide +kernel
theorem dX1_putNumber_1 : decode cX1_putNumber 1 = .ok (.bipush 10, 2) := by decide +kernel
theorem dX1_putNumber_3 : decode cX1_putNumber 3 = .ok (.if_icmp .lt 15, 3) := by decide +kernel
theorem dX1_putNumber_6 : decode cX1_putNumber 6 = .ok (.aload_n 0, 1) := by decide +kernel
theorem dX1_putNumber_7 : decode cX1_putNumber 7 = .ok (.bipush 48, 2) := by decide +kernel
theorem dX1_putNumber_9 : decode cX1_putNumber 9 = .ok (.iload_n 1, 1) := by decide +kernel
theorem dX1_putNumber_10 : decode cX1_putNumber 10 = .ok (.bipush 10, 2) := by decide +kernel
theorem dX1_putNumber_12 : decode cX1_putNumber 12 = .ok (.idiv, 1) := by decide +kernel
theorem dX1_putNumber_13 : decode cX1_putNumber 13 = .ok (.iadd, 1) := by decide +kernel
theorem dX1_putNumber_14 : decode cX1_putNumber 14 = .ok (.i2c, 1) := by decide +kernel
theorem dX1_putNumber_15 : decode cX1_putNumber 15 = .ok (.invokevirtual 17, 3) := by decide +kernel
theorem dX1_putNumber_18 : decode cX1_putNumber 18 = .ok (.aload_n 0, 1) := by decide +kernel
theorem dX1_putNumber_19 : decode cX1_putNumber 19 = .ok (.bipush 48, 2) := by decide +kernel
theorem dX1_putNumber_21 : decode cX1_putNumber 21 = .ok (.iload_n 1, 1) := by decide +kernel
theorem dX1_putNumber_22 : decode cX1_putNumber 22 = .ok (.bipush 10, 2) := by decide +kernel
theorem dX1_putNumber_24 : decode cX1_putNumber 24 = .ok (.irem, 1) := by decide +kernel
theorem dX1_putNumber_25 : decode cX1_putNumber 25 = .ok (.iadd, 1) := by decide +kernel
theorem dX1_putNumber_26 : decode cX1_putNumber 26 = .ok (.i2c, 1) := by decide +kernel
theorem dX1_putNumber_27 : decode cX1_putNumber 27 = .ok (.invokevirtual 17, 3) := by decide +kernel
theorem dX1_putNumber_30 : decode cX1_putNumber 30 = .ok (.return_, 1) := by decide +kernel
theorem dX2_init_0 : decode cX2_init 0 = .ok (.aload_n 0, 1) := by decide +kernel
theorem dX2_init_1 : decode cX2_init 1 = .ok (.invokespecial 3, 3) := by decide +kernel
theorem dX2_init_4 : decode cX2_init 4 = .ok (.aload_n 0, 1) := by decide +kernel
theorem dX2_init_5 : decode cX2_init 5 = .ok (.sipush 600, 3) := by decide +kernel
theorem dX2_init_8 : decode cX2_init 8 = .ok (.newarray .byte, 2) := by decide +kernel
theorem dX2_init_10 : decode cX2_init 10 = .ok (.putfield 11, 3) := by decide +kernel
theorem dX2_init_13 : decode cX2_init 13 = .ok (.aload_n 0, 1) := by decide +kernel
theorem dX2_init_14 : decode cX2_init 14 = .ok (.iconst (-1), 1) := by decide +kernel
theorem dX2_init_15 : decode cX2_init 15 = .ok (.putfield 15, 3) := by decide +kernel
theorem dX2_init_18 : decode cX2_init 18 = .ok (.aload_n 0, 1) := by decide +kernel
theorem dX2_init_19 : decode cX2_init 19 = .ok (.new 19, 3) := by decide +kernel
theorem dX2_init_22 : decode cX2_init 22 = .ok (.dup, 1) := by decide +kernel
theorem dX2_init_23 : decode cX2_init 23 = .ok (.invokespecial 21, 3) := by decide +kernel
theorem dX2_init_26 : decode cX2_init 26 = .ok (.putfield 22, 3) := by decide +kernel
theorem dX2_init_29 : decode cX2_init 29 = .ok (.return_, 1) := by decide +kernel
theorem dX2_hasRoom_0 : decode cX2_hasRoom 0 = .ok (.aload_n 0, 1) := by decide +kernel
theorem dX2_hasRoom_1 : decode cX2_hasRoom 1 = .ok (.getfield 26, 3) := by decide +kernel
theorem dX2_hasRoom_4 : decode cX2_hasRoom 4 = .ok (.iload_n 1, 1) := by decide +kernel
theorem dX2_hasRoom_5 : decode cX2_hasRoom 5 = .ok (.iadd, 1) := by decide +kernel
theorem dX2_hasRoom_6 : decode cX2_hasRoom 6 = .ok (.sipush 600, 3) := by decide +kernel
theorem dX2_hasRoom_9 : decode cX2_hasRoom 9 = .ok (.if_icmp .gt 7, 3) := by decide +kernel
theorem dX2_hasRoom_12 : decode cX2_hasRoom 12 = .ok (.iconst 1, 1) := by decide +kernel
theorem dX2_hasRoom_13 : decode cX2_hasRoom 13 = .ok (.goto 4, 3) := by decide +kernel
theorem dX2_hasRoom_16 : decode cX2_hasRoom 16 = .ok (.iconst 0, 1) := by decide +kernel
theorem dX2_hasRoom_17 : decode cX2_hasRoom 17 = .ok (.ireturn, 1) := by decide +kernel
theorem dX2_putInt_0 : decode cX2_putInt 0 = .ok (.aload_n 0, 1) := by decide +kernel
theorem dX2_putInt_1 : decode cX2_putInt 1 = .ok (.iload_n 1, 1) := by decide +kernel
theorem dX2_putInt_2 : decode cX2_putInt 2 = .ok (.bipush 24, 2) := by decide +kernel
theorem dX2_putInt_4 : decode cX2_putInt 4 = .ok (.ishr, 1) := by decide +kernel
theorem dX2_putInt_5 : decode cX2_putInt 5 = .ok (.invokevirtual 29, 3) := by decide +kernel
theorem dX2_putInt_8 : decode cX2_putInt 8 = .ok (.aload_n 0, 1) := by decide +kernel
theorem dX2_putInt_9 : decode cX2_putInt 9 = .ok (.iload_n 1, 1) := by decide +kernel
theorem dX2_putInt_10 : decode cX2_putInt 10 = .ok (.bipush 16, 2) := by decide +kernel
theorem dX2_putInt_12 : decode cX2_putInt 12 = .ok (.ishr, 1) := by decide +kernel
theorem dX2_putInt_13 : decode cX2_putInt 13 = .ok (.invokevirtual 29, 3) := by decide +kernel
theorem dX2_putInt_16 : decode cX2_putInt 16 = .ok (.aload_n 0, 1) := by decide +kernel
theorem dX2_putInt_17 : decode cX2_putInt 17 = .ok (.iload_n 1, 1) := by decide +kernel
theorem dX2_putInt_18 : decode cX2_putInt 18 = .ok (.bipush 8, 2) := by decide +kernel
theorem dX2_putInt_20 : decode cX2_putInt 20 = .ok (.ishr, 1) := by decide +kernel
theorem dX2_putInt_21 : decode cX2_putInt 21 = .ok (.invokevirtual 29, 3) := by decide +kernel
theorem dX2_putInt_24 : decode cX2_putInt 24 = .ok (.aload_n 0, 1) := by decide +kernel
theorem dX2_putInt_25 : decode cX2_putInt 25 = .ok (.iload_n 1, 1) := by decide +kernel
theorem dX2_putInt_26 : decode cX2_putInt 26 = .ok (.invokevirtual 29, 3) := by decide +kernel
theorem dX2_putInt_29 : decode cX2_putInt 29 = .ok (.return_, 1) := by decide +kernel
theorem dX2_putText_0 : decode cX2_putText 0 = .ok (.iconst 0, 1) := by decide +kernel
theorem dX2_putText_1 : decode cX2_putText 1 = .ok (.istore_n 2, 1) := by decide +kernel
theorem dX2_putText_2 : decode cX2_putText 2 = .ok (.iload_n 2, 1) := by decide +kernel
theorem dX2_putText_3 : decode cX2_putText 3 = .ok (.aload_n 1, 1) := by decide +kernel
theorem dX2_putText_4 : decode cX2_putText 4 = .ok (.invokevirtual 33, 3) := by decide +kernel
theorem dX2_putText_7 : decode cX2_putText 7 = .ok (.if_icmp .ge 18, 3) := by decide +kernel
theorem dX2_putText_10 : decode cX2_putText 10 = .ok (.aload_n 0, 1) := by decide +kernel
theorem dX2_putText_11 : decode cX2_putText 11 = .ok (.aload_n 1, 1) := by decide +kernel
theorem dX2_putText_12 : decode cX2_putText 12 = .ok (.iload_n 2, 1) := by decide +kernel
theorem dX2_putText_13 : decode cX2_putText 13 = .ok (.invokevirtual 39, 3) := by decide +kernel
theorem dX2_putText_16 : decode cX2_putText 16 = .ok (.invokevirtual 29, 3) := by decide +kernel
theorem dX2_putText_19 : decode cX2_putText 19 = .ok (.iinc 2 1, 3) := by decide +kernel
theorem dX2_putText_22 : decode cX2_putText 22 = .ok (.goto (-20), 3) := by decide +kernel
theorem dX2_putText_25 : decode cX2_putText 25 = .ok (.return_, 1) := by decide +kernel
theorem dX2_put_0 : decode cX2_put 0 = .ok (.aload_n 0, 1) := by decide +kernel
theorem dX2_put_1 : decode cX2_put 1 = .ok (.getfield 26, 3) := by decide +kernel
theorem dX2_put_4 : decode cX2_put 4 = .ok (.sipush 600, 3) := by decide +kernel
theorem dX2_put_7 : decode cX2_put 7 = .ok (.if_icmp .ge 24, 3) := by decide +kernel
theorem dX2_put_10 : decode cX2_put 10 = .ok (.aload_n 0, 1) := by decide +kernel
theorem dX2_put_11 : decode cX2_put 11 = .ok (.getfield 11, 3) := by decide +kernel
theorem dX2_put_14 : decode cX2_put 14 = .ok (.aload_n 0, 1) := by decide +kernel
theorem dX2_put_15 : decode cX2_put 15 = .ok (.getfield 26, 3) := by decide +kernel
theorem dX2_put_18 : decode cX2_put 18 = .ok (.iload_n 1, 1) := by decide +kernel
theorem dX2_put_19 : decode cX2_put 19 = .ok (.i2b, 1) := by decide +kernel
theorem dX2_put_20 : decode cX2_put 20 = .ok (.bastore, 1) := by decide +kernel
theorem dX2_put_21 : decode cX2_put 21 = .ok (.aload_n 0, 1) := by decide +kernel
theorem dX2_put_22 : decode cX2_put 22 = .ok (.dup, 1) := by decide +kernel
theorem dX2_put_23 : decode cX2_put 23 = .ok (.getfield 26, 3) := by decide +kernel
theorem dX2_put_26 : decode cX2_put 26 = .ok (.iconst 1, 1) := by decide +kernel
theorem dX2_put_27 : decode cX2_put 27 = .ok (.iadd, 1) := by decide +kernel
theorem dX2_put_28 : decode cX2_put 28 = .ok (.putfield 26, 3) := by decide +kernel
theorem dX2_put_31 : decode cX2_put 31 = .ok (.return_, 1) := by decide +kernel
theorem dX2_parseText_0 : decode cX2_parseText 0 = .ok (.aload_n 0, 1) := by decide +kernel
theorem dX2_parseText_1 : decode cX2_parseText 1 = .ok (.iload_n 1, 1) := by decide +kernel
theorem dX2_parseText_2 : decode cX2_parseText 2 = .ok (.aload_n 0, 1) := by decide +kernel
theorem dX2_parseText_3 : decode cX2_parseText 3 = .ok (.getfield 26, 3) := by decide +kernel
theorem dX2_parseText_6 : decode cX2_parseText 6 = .ok (.invokestatic 43, 3) := by decide +kernel
theorem dX2_parseText_9 : decode cX2_parseText 9 = .ok (.putfield 49, 3) := by decide +kernel
theorem dX2_parseText_12 : decode cX2_parseText 12 = .ok (.aload_n 0, 1) := by decide +kernel
theorem dX2_parseText_13 : decode cX2_parseText 13 = .ok (.iconst 0, 1) := by decide +kernel
theorem dX2_parseText_14 : decode cX2_parseText 14 = .ok (.putfield 26, 3) := by decide +kernel
theorem dX2_parseText_17 : decode cX2_parseText 17 = .ok (.aload_n 0, 1) := by decide +kernel
theorem dX2_parseText_18 : decode cX2_parseText 18 = .ok (.iconst 0, 1) := by decide +kernel
theorem dX2_parseText_19 : decode cX2_parseText 19 = .ok (.putfield 52, 3) := by decide +kernel
theorem dX2_parseText_22 : decode cX2_parseText 22 = .ok (.aload_n 0, 1) := by decide +kernel
theorem dX2_parseText_23 : decode cX2_parseText 23 = .ok (.iconst (-1), 1) := by decide +kernel
theorem dX2_parseText_24 : decode cX2_parseText 24 = .ok (.putfield 15, 3) := by decide +kernel
theorem dX2_parseText_27 : decode cX2_parseText 27 = .ok (.aload_n 0, 1) := by decide +kernel
theorem dX2_parseText_28 : decode cX2_parseText 28 = .ok (.getfield 22, 3) := by decide +kernel
theorem dX2_parseText_31 : decode cX2_parseText 31 = .ok (.invokevirtual 55, 3) := by decide +kernel
theorem dX2_parseText_34 : decode cX2_parseText 34 = .ok (.aload_n 0, 1) := by decide +kernel
theorem dX2_parseText_35 : decode cX2_parseText 35 = .ok (.iconst 0, 1) := by decide +kernel
theorem dX2_parseText_36 : decode cX2_parseText 36 = .ok (.putfield 58, 3) := by decide +kernel
theorem dX2_parseText_39 : decode cX2_parseText 39 = .ok (.aload_n 0, 1) := by decide +kernel
theorem dX2_parseText_40 : decode cX2_parseText 40 = .ok (.iconst 0, 1) := by decide +kernel
theorem dX2_parseText_41 : decode cX2_parseText 41 = .ok (.putfield 61, 3) := by decide +kernel
theorem dX2_parseText_44 : decode cX2_parseText 44 = .ok (.aload_n 0, 1) := by decide +kernel
theorem dX2_parseText_45 : decode cX2_parseText 45 = .ok (.iconst 0, 1) := by decide +kernel
theorem dX2_parseText_46 : decode cX2_parseText 46 = .ok (.putfield 64, 3) := by decide +kernel
theorem dX2_parseText_49 : decode cX2_parseText 49 = .ok (.aload_n 0, 1) := by decide +kernel
theorem dX2_parseText_50 : decode cX2_parseText 50 = .ok (.invokevirtual 67, 3) := by decide +kernel
theorem dX2_parseText_53 : decode cX2_parseText 53 = .ok (.aload_n 0, 1) := by decide +kernel
theorem dX2_parseText_54 : decode cX2_parseText 54 = .ok (.ldc 70, 2) := by decide +kernel
theorem dX2_parseText_56 : decode cX2_parseText 56 = .ok (.invokevirtual 72, 3) := by decide +kernel
theorem dX2_parseText_59 : decode cX2_parseText 59 = .ok (.ifCond .ne 13, 3) := by decide +kernel
theorem dX2_parseText_62 : decode cX2_parseText 62 = .ok (.aload_n 0, 1) := by decide +kernel
theorem dX2_parseText_63 : decode cX2_parseText 63 = .ok (.iconst 1, 1) := by decide +kernel
theorem dX2_parseText_64 : decode cX2_parseText 64 = .ok (.aload_n 0, 1) := by decide +kernel
theorem dX2_parseText_65 : decode cX2_parseText 65 = .ok (.getfield 61, 3) := by decide +kernel
theorem dX2_parseText_68 : decode cX2_parseText 68 = .ok (.invokevirtual 76, 3) := by decide +kernel
theorem dX2_parseText_71 : decode cX2_parseText 71 = .ok (.ireturn, 1) := by decide +kernel
theorem dX2_parseText_72 : decode cX2_parseText 72 = .ok (.iconst 0, 1) := by decide +kernel
theorem dX2_parseText_73 : decode cX2_parseText 73 = .ok (.istore_n 2, 1) := by decide +kernel
theorem dX2_parseText_74 : decode cX2_parseText 74 = .ok (.iload_n 2, 1) := by decide +kernel
theorem dX2_parseText_75 : decode cX2_parseText 75 = .ok (.sipush 600, 3) := by decide +kernel
theorem dX2_parseText_78 : decode cX2_parseText 78 = .ok (.if_icmp .ge 30, 3) := by decide +kernel
theorem dX2_parseText_81 : decode cX2_parseText 81 = .ok (.aload_n 0, 1) := by decide +kernel
theorem dX2_parseText_82 : decode cX2_parseText 82 = .ok (.getfield 58, 3) := by decide +kernel
theorem dX2_parseText_85 : decode cX2_parseText 85 = .ok (.iconst 3, 1) := by decide +kernel
theorem dX2_parseText_86 : decode cX2_parseText 86 = .ok (.if_icmp .ne 22, 3) := by decide +kernel
theorem dX2_parseText_89 : decode cX2_parseText 89 = .ok (.aload_n 0, 1) := by decide +kernel
theorem dX2_parseText_90 : decode cX2_parseText 90 = .ok (.invokevirtual 67, 3) := by decide +kernel
theorem dX2_parseText_93 : decode cX2_parseText 93 = .ok (.aload_n 0, 1) := by decide +kernel
theorem dX2_parseText_94 : decode cX2_parseText 94 = .ok (.invokevirtual 80, 3) := by decide +kernel
theorem dX2_parseText_97 : decode cX2_parseText 97 = .ok (.ifCond .ne 5, 3) := by decide +kernel
theorem dX2_parseText_100 : decode cX2_parseText 100 = .ok (.iconst 0, 1) := by decide +kernel
theorem dX2_parseText_101 : decode cX2_parseText 101 = .ok (.ireturn, 1) := by decide +kernel
theorem dX2_parseText_102 : decode cX2_parseText 102 = .ok (.iinc 2 1, 3) := by decide +kernel
theorem dX2_parseText_105 : decode cX2_parseText 105 = .ok (.goto (-31), 3) := by decide +kernel
theorem dX2_parseText_108 : decode cX2_parseText 108 = .ok (.aload_n 0, 1) := by decide +kernel
theorem dX2_parseText_109 : decode cX2_parseText 109 = .ok (.getfield 58, 3) := by decide +kernel
theorem dX2_parseText_112 : decode cX2_parseText 112 = .ok (.ifCond .eq 15, 3) := by decide +kernel
theorem dX2_parseText_115 : decode cX2_parseText 115 = .ok (.aload_n 0, 1) := by decide +kernel
theorem dX2_parseText_116 : decode cX2_parseText 116 = .ok (.iconst 1, 1) := by decide +kernel
theorem dX2_parseText_117 : decode cX2_parseText 117 = .ok (.aload_n 0, 1) := by decide +kernel
theorem dX2_parseText_118 : decode cX2_parseText 118 = .ok (.getfield 61, 3) := by decide +kernel
theorem dX2_parseText_121 : decode cX2_parseText 121 = .ok (.invokevirtual 76, 3) := by decide +kernel
theorem dX2_parseText_124 : decode cX2_parseText 124 = .ok (.ifCond .eq 7, 3) := by decide +kernel
theorem dX2_parseText_127 : decode cX2_parseText 127 = .ok (.iconst 1, 1) := by decide +kernel
theorem dX2_parseText_128 : decode cX2_parseText 128 = .ok (.goto 4, 3) := by decide +kernel
theorem dX2_parseText_131 : decode cX2_parseText 131 = .ok (.iconst 0, 1) := by decide +kernel
theorem dX2_parseText_132 : decode cX2_parseText 132 = .ok (.ireturn, 1) := by decide +kernel
theorem dX2_parseLine_0 : decode cX2_parseLine 0 = .ok (.aload_n 0, 1) := by decide +kernel
theorem dX2_parseLine_1 : decode cX2_parseLine 1 = .ok (.ldc 84, 2) := by decide +kernel
theorem dX2_parseLine_3 : decode cX2_parseLine 3 = .ok (.invokevirtual 72, 3) := by decide +kernel
theorem dX2_parseLine_6 : decode cX2_parseLine 6 = .ok (.ifCond .eq 8, 3) := by decide +kernel
theorem dX2_parseLine_9 : decode cX2_parseLine 9 = .ok (.aload_n 0, 1) := by decide +kernel
theorem dX2_parseLine_10 : decode cX2_parseLine 10 = .ok (.invokevirtual 86, 3) := by decide +kernel
theorem dX2_parseLine_13 : decode cX2_parseLine 13 = .ok (.ireturn, 1) := by decide +kernel
theorem dX2_parseLine_14 : decode cX2_parseLine 14 = .ok (.aload_n 0, 1) := by decide +kernel
theorem dX2_parseLine_15 : decode cX2_parseLine 15 = .ok (.ldc 89, 2) := by decide +kernel
theorem dX2_parseLine_17 : decode cX2_parseLine 17 = .ok (.invokevirtual 72, 3) := by decide +kernel
theorem dX2_parseLine_20 : decode cX2_parseLine 20 = .ok (.ifCond .eq 8, 3) := by decide +kernel
theorem dX2_parseLine_23 : decode cX2_parseLine 23 = .ok (.aload_n 0, 1) := by decide +kernel
theorem dX2_parseLine_24 : decode cX2_parseLine 24 = .ok (.invokevirtual 91, 3) := by decide +kernel
theorem dX2_parseLine_27 : decode cX2_parseLine 27 = .ok (.ireturn, 1) := by decide +kernel
theorem dX2_parseLine_28 : decode cX2_parseLine 28 = .ok (.aload_n 0, 1) := by decide +kernel
theorem dX2_parseLine_29 : decode cX2_parseLine 29 = .ok (.ldc 94, 2) := by decide +kernel
theorem dX2_parseLine_31 : decode cX2_parseLine 31 = .ok (.invokevirtual 72, 3) := by decide +kernel
theorem dX2_parseLine_34 : decode cX2_parseLine 34 = .ok (.ifCond .eq 43, 3) := by decide +kernel
theorem dX2_parseLine_37 : decode cX2_parseLine 37 = .ok (.aload_n 0, 1) := by decide +kernel
theorem dX2_parseLine_38 : decode cX2_parseLine 38 = .ok (.iconst 1, 1) := by decide +kernel
theorem dX2_parseLine_39 : decode cX2_parseLine 39 = .ok (.bipush 99, 2) := by decide +kernel
theorem dX2_parseLine_41 : decode cX2_parseLine 41 = .ok (.sipush 9999, 3) := by decide +kernel
theorem dX2_parseLine_44 : decode cX2_parseLine 44 = .ok (.aload_n 0, 1) := by decide +kernel
theorem dX2_parseLine_45 : decode cX2_parseLine 45 = .ok (.getfield 22, 3) := by decide +kernel
theorem dX2_parseLine_48 : decode cX2_parseLine 48 = .ok (.getfield 96, 3) := by decide +kernel
theorem dX2_parseLine_51 : decode cX2_parseLine 51 = .ok (.isub, 1) := by decide +kernel
theorem dX2_parseLine_52 : decode cX2_parseLine 52 = .ok (.invokestatic 43, 3) := by decide +kernel
theorem dX2_parseLine_55 : decode cX2_parseLine 55 = .ok (.invokevirtual 99, 3) := by decide +kernel
theorem dX2_parseLine_58 : decode cX2_parseLine 58 = .ok (.istore_n 1, 1) := by decide +kernel
theorem dX2_parseLine_59 : decode cX2_parseLine 59 = .ok (.iload_n 1, 1) := by decide +kernel
theorem dX2_parseLine_60 : decode cX2_parseLine 60 = .ok (.iconst (-1), 1) := by decide +kernel
theorem dX2_parseLine_61 : decode cX2_parseLine 61 = .ok (.if_icmp .ne 5, 3) := by decide +kernel
theorem dX2_parseLine_64 : decode cX2_parseLine 64 = .ok (.iconst 0, 1) := by decide +kernel
theorem dX2_parseLine_65 : decode cX2_parseLine 65 = .ok (.ireturn, 1) := by decide +kernel
theorem dX2_parseLine_66 : decode cX2_parseLine 66 = .ok (.aload_n 0, 1) := by decide +kernel
theorem dX2_parseLine_67 : decode cX2_parseLine 67 = .ok (.getfield 22, 3) := by decide +kernel
theorem dX2_parseLine_70 : decode cX2_parseLine 70 = .ok (.iload_n 1, 1) := by decide +kernel
theorem dX2_parseLine_71 : decode cX2_parseLine 71 = .ok (.invokevirtual 102, 3) := by decide +kernel
theorem dX2_parseLine_74 : decode cX2_parseLine 74 = .ok (.pop, 1) := by decide +kernel
theorem dX2_parseLine_75 : decode cX2_parseLine 75 = .ok (.iconst 1, 1) := by decide +kernel
theorem dX2_parseLine_76 : decode cX2_parseLine 76 = .ok (.ireturn, 1) := by decide +kernel
theorem dX2_parseLine_77 : decode cX2_parseLine 77 = .ok (.aload_n 0, 1) := by decide +kernel
theorem dX2_parseLine_78 : decode cX2_parseLine 78 = .ok (.ldc 106, 2) := by decide +kernel
theorem dX2_parseLine_80 : decode cX2_parseLine 80 = .ok (.invokevirtual 72, 3) := by decide +kernel
theorem dX2_parseLine_83 : decode cX2_parseLine 83 = .ok (.ifCond .eq 37, 3) := by decide +kernel
theorem dX2_parseLine_86 : decode cX2_parseLine 86 = .ok (.aload_n 0, 1) := by decide +kernel
theorem dX2_parseLine_87 : decode cX2_parseLine 87 = .ok (.iconst 0, 1) := by decide +kernel
theorem dX2_parseLine_88 : decode cX2_parseLine 88 = .ok (.aload_n 0, 1) := by decide +kernel
theorem dX2_parseLine_89 : decode cX2_parseLine 89 = .ok (.getfield 22, 3) := by decide +kernel
theorem dX2_parseLine_92 : decode cX2_parseLine 92 = .ok (.getfield 108, 3) := by decide +kernel
theorem dX2_parseLine_95 : decode cX2_parseLine 95 = .ok (.iconst 1, 1) := by decide +kernel
theorem dX2_parseLine_96 : decode cX2_parseLine 96 = .ok (.isub, 1) := by decide +kernel
theorem dX2_parseLine_97 : decode cX2_parseLine 97 = .ok (.invokevirtual 99, 3) := by decide +kernel
theorem dX2_parseLine_100 : decode cX2_parseLine 100 = .ok (.istore_n 1, 1) := by decide +kernel
theorem dX2_parseLine_101 : decode cX2_parseLine 101 = .ok (.iload_n 1, 1) := by decide +kernel
theorem dX2_parseLine_102 : decode cX2_parseLine 102 = .ok (.iconst (-1), 1) := by decide +kernel
theorem dX2_parseLine_103 : decode cX2_parseLine 103 = .ok (.if_icmp .eq 15, 3) := by decide +kernel
theorem dX2_parseLine_106 : decode cX2_parseLine 106 = .ok (.aload_n 0, 1) := by decide +kernel
theorem dX2_parseLine_107 : decode cX2_parseLine 107 = .ok (.iload_n 1, 1) := by decide +kernel
theorem dX2_parseLine_108 : decode cX2_parseLine 108 = .ok (.invokevirtual 111, 3) := by decide +kernel
theorem dX2_parseLine_111 : decode cX2_parseLine 111 = .ok (.ifCond .eq 7, 3) := by decide +kernel
theorem dX2_parseLine_114 : decode cX2_parseLine 114 = .ok (.iconst 1, 1) := by decide +kernel
theorem dX2_parseLine_115 : decode cX2_parseLine 115 = .ok (.goto 4, 3) := by decide +kernel
theorem dX2_parseLine_118 : decode cX2_parseLine 118 = .ok (.iconst 0, 1) := by decide +kernel
theorem dX2_parseLine_119 : decode cX2_parseLine 119 = .ok (.ireturn, 1) := by decide +kernel
theorem dX2_parseLine_120 : decode cX2_parseLine 120 = .ok (.aload_n 0, 1) := by decide +kernel
theorem dX2_parseLine_121 : decode cX2_parseLine 121 = .ok (.ldc 115, 2) := by decide +kernel
theorem dX2_parseLine_123 : decode cX2_parseLine 123 = .ok (.invokevirtual 72, 3) := by decide +kernel
theorem dX2_parseLine_126 : decode cX2_parseLine 126 = .ok (.ifCond .eq 37, 3) := by decide +kernel
theorem dX2_parseLine_129 : decode cX2_parseLine 129 = .ok (.aload_n 0, 1) := by decide +kernel
theorem dX2_parseLine_130 : decode cX2_parseLine 130 = .ok (.iconst 0, 1) := by decide +kernel
theorem dX2_parseLine_131 : decode cX2_parseLine 131 = .ok (.aload_n 0, 1) := by decide +kernel
theorem dX2_parseLine_132 : decode cX2_parseLine 132 = .ok (.getfield 22, 3) := by decide +kernel
theorem dX2_parseLine_135 : decode cX2_parseLine 135 = .ok (.getfield 108, 3) := by decide +kernel
theorem dX2_parseLine_138 : decode cX2_parseLine 138 = .ok (.iconst 1, 1) := by decide +kernel
theorem dX2_parseLine_139 : decode cX2_parseLine 139 = .ok (.isub, 1) := by decide +kernel
theorem dX2_parseLine_140 : decode cX2_parseLine 140 = .ok (.invokevirtual 99, 3) := by decide +kernel
theorem dX2_parseLine_143 : decode cX2_parseLine 143 = .ok (.istore_n 1, 1) := by decide +kernel
theorem dX2_parseLine_144 : decode cX2_parseLine 144 = .ok (.iload_n 1, 1) := by decide +kernel
theorem dX2_parseLine_145 : decode cX2_parseLine 145 = .ok (.iconst (-1), 1) := by decide +kernel
theorem dX2_parseLine_146 : decode cX2_parseLine 146 = .ok (.if_icmp .eq 15, 3) := by decide +kernel
theorem dX2_parseLine_149 : decode cX2_parseLine 149 = .ok (.aload_n 0, 1) := by decide +kernel
theorem dX2_parseLine_150 : decode cX2_parseLine 150 = .ok (.iload_n 1, 1) := by decide +kernel
theorem dX2_parseLine_151 : decode cX2_parseLine 151 = .ok (.invokevirtual 117, 3) := by decide +kernel
theorem dX2_parseLine_154 : decode cX2_parseLine 154 = .ok (.ifCond .eq 7, 3) := by decide +kernel
theorem dX2_parseLine_157 : decode cX2_parseLine 157 = .ok (.iconst 1, 1) := by decide +kernel
theorem dX2_parseLine_158 : decode cX2_parseLine 158 = .ok (.goto 4, 3) := by decide +kernel
theorem dX2_parseLine_161 : decode cX2_parseLine 161 = .ok (.iconst 0, 1) := by decide +kernel
theorem dX2_parseLine_162 : decode cX2_parseLine 162 = .ok (.ireturn, 1) := by decide +kernel
theorem dX2_parseLine_163 : decode cX2_parseLine 163 = .ok (.aload_n 0, 1) := by decide +kernel
theorem dX2_parseLine_164 : decode cX2_parseLine 164 = .ok (.ldc 120, 2) := by decide +kernel
theorem dX2_parseLine_166 : decode cX2_parseLine 166 = .ok (.invokevirtual 72, 3) := by decide +kernel
theorem dX2_parseLine_169 : decode cX2_parseLine 169 = .ok (.ifCond .eq 37, 3) := by decide +kernel
theorem dX2_parseLine_172 : decode cX2_parseLine 172 = .ok (.aload_n 0, 1) := by decide +kernel
theorem dX2_parseLine_173 : decode cX2_parseLine 173 = .ok (.iconst 0, 1) := by decide +kernel
theorem dX2_parseLine_174 : decode cX2_parseLine 174 = .ok (.aload_n 0, 1) := by decide +kernel
theorem dX2_parseLine_175 : decode cX2_parseLine 175 = .ok (.getfield 22, 3) := by decide +kernel
theorem dX2_parseLine_178 : decode cX2_parseLine 178 = .ok (.getfield 108, 3) := by decide +kernel
theorem dX2_parseLine_181 : decode cX2_parseLine 181 = .ok (.iconst 1, 1) := by decide +kernel
theorem dX2_parseLine_182 : decode cX2_parseLine 182 = .ok (.isub, 1) := by decide +kernel
theorem dX2_parseLine_183 : decode cX2_parseLine 183 = .ok (.invokevirtual 99, 3) := by decide +kernel
theorem dX2_parseLine_186 : decode cX2_parseLine 186 = .ok (.istore_n 1, 1) := by decide +kernel
theorem dX2_parseLine_187 : decode cX2_parseLine 187 = .ok (.iload_n 1, 1) := by decide +kernel
theorem dX2_parseLine_188 : decode cX2_parseLine 188 = .ok (.iconst (-1), 1) := by decide +kernel
theorem dX2_parseLine_189 : decode cX2_parseLine 189 = .ok (.if_icmp .eq 15, 3) := by decide +kernel
theorem dX2_parseLine_192 : decode cX2_parseLine 192 = .ok (.aload_n 0, 1) := by decide +kernel
theorem dX2_parseLine_193 : decode cX2_parseLine 193 = .ok (.iload_n 1, 1) := by decide +kernel
theorem dX2_parseLine_194 : decode cX2_parseLine 194 = .ok (.invokevirtual 122, 3) := by decide +kernel
theorem dX2_parseLine_197 : decode cX2_parseLine 197 = .ok (.ifCond .eq 7, 3) := by decide +kernel
theorem dX2_parseLine_200 : decode cX2_parseLine 200 = .ok (.iconst 1, 1) := by decide +kernel
theorem dX2_parseLine_201 : decode cX2_parseLine 201 = .ok (.goto 4, 3) := by decide +kernel
theorem dX2_parseLine_204 : decode cX2_parseLine 204 = .ok (.iconst 0, 1) := by decide +kernel
theorem dX2_parseLine_205 : decode cX2_parseLine 205 = .ok (.ireturn, 1) := by decide +kernel
theorem dX2_parseLine_206 : decode cX2_parseLine 206 = .ok (.aload_n 0, 1) := by decide +kernel
theorem dX2_parseLine_207 : decode cX2_parseLine 207 = .ok (.iconst 1, 1) := by decide +kernel
theorem dX2_parseLine_208 : decode cX2_parseLine 208 = .ok (.aload_n 0, 1) := by decide +kernel
theorem dX2_parseLine_209 : decode cX2_parseLine 209 = .ok (.getfield 61, 3) := by decide +kernel
theorem dX2_parseLine_212 : decode cX2_parseLine 212 = .ok (.invokevirtual 76, 3) := by decide +kernel
theorem dX2_parseLine_215 : decode cX2_parseLine 215 = .ok (.ireturn, 1) := by decide +kernel
theorem dX2_parseBlock_0 : decode cX2_parseBlock 0 = .ok (.aload_n 0, 1) := by decide +kernel
theorem dX2_parseBlock_1 : decode cX2_parseBlock 1 = .ok (.getfield 22, 3) := by decide +kernel
theorem dX2_parseBlock_4 : decode cX2_parseBlock 4 = .ok (.getfield 108, 3) := by decide +kernel
theorem dX2_parseBlock_7 : decode cX2_parseBlock 7 = .ok (.bipush 10, 2) := by decide +kernel
theorem dX2_parseBlock_9 : decode cX2_parseBlock 9 = .ok (.if_icmp .lt 13, 3) := by decide +kernel
theorem dX2_parseBlock_12 : decode cX2_parseBlock 12 = .ok (.aload_n 0, 1) := by decide +kernel
theorem dX2_parseBlock_13 : decode cX2_parseBlock 13 = .ok (.iconst 4, 1) := by decide +kernel
theorem dX2_parseBlock_14 : decode cX2_parseBlock 14 = .ok (.aload_n 0, 1) := by decide +kernel
theorem dX2_parseBlock_15 : decode cX2_parseBlock 15 = .ok (.getfield 125, 3) := by decide +kernel
theorem dX2_parseBlock_18 : decode cX2_parseBlock 18 = .ok (.invokevirtual 76, 3) := by decide +kernel
theorem dX2_parseBlock_21 : decode cX2_parseBlock 21 = .ok (.ireturn, 1) := by decide +kernel
theorem dX2_parseBlock_22 : decode cX2_parseBlock 22 = .ok (.aload_n 0, 1) := by decide +kernel
theorem dX2_parseBlock_23 : decode cX2_parseBlock 23 = .ok (.iconst 1, 1) := by decide +kernel
theorem dX2_parseBlock_24 : decode cX2_parseBlock 24 = .ok (.bipush 20, 2) := by decide +kernel
theorem dX2_parseBlock_26 : decode cX2_parseBlock 26 = .ok (.invokevirtual 99, 3) := by decide +kernel
theorem dX2_parseBlock_29 : decode cX2_parseBlock 29 = .ok (.istore_n 1, 1) := by decide +kernel
theorem dX2_parseBlock_30 : decode cX2_parseBlock 30 = .ok (.iload_n 1, 1) := by decide +kernel
theorem dX2_parseBlock_31 : decode cX2_parseBlock 31 = .ok (.iconst (-1), 1) := by decide +kernel
theorem dX2_parseBlock_32 : decode cX2_parseBlock 32 = .ok (.if_icmp .ne 5, 3) := by decide +kernel
theorem dX2_parseBlock_35 : decode cX2_parseBlock 35 = .ok (.iconst 0, 1) := by decide +kernel
theorem dX2_parseBlock_36 : decode cX2_parseBlock 36 = .ok (.ireturn, 1) := by decide +kernel
theorem dX2_parseBlock_37 : decode cX2_parseBlock 37 = .ok (.aload_n 0, 1) := by decide +kernel
theorem dX2_parseBlock_38 : decode cX2_parseBlock 38 = .ok (.iconst 0, 1) := by decide +kernel
theorem dX2_parseBlock_39 : decode cX2_parseBlock 39 = .ok (.bipush 9, 2) := by decide +kernel
theorem dX2_parseBlock_41 : decode cX2_parseBlock 41 = .ok (.invokevirtual 99, 3) := by decide +kernel
theorem dX2_parseBlock_44 : decode cX2_parseBlock 44 = .ok (.istore_n 2, 1) := by decide +kernel
theorem dX2_parseBlock_45 : decode cX2_parseBlock 45 = .ok (.iload_n 2, 1) := by decide +kernel
theorem dX2_parseBlock_46 : decode cX2_parseBlock 46 = .ok (.iconst (-1), 1) := by decide +kernel
theorem dX2_parseBlock_47 : decode cX2_parseBlock 47 = .ok (.if_icmp .ne 5, 3) := by decide +kernel
theorem dX2_parseBlock_50 : decode cX2_parseBlock 50 = .ok (.iconst 0, 1) := by decide +kernel
theorem dX2_parseBlock_51 : decode cX2_parseBlock 51 = .ok (.ireturn, 1) := by decide +kernel
theorem dX2_parseBlock_52 : decode cX2_parseBlock 52 = .ok (.iconst 0, 1) := by decide +kernel
theorem dX2_parseBlock_53 : decode cX2_parseBlock 53 = .ok (.istore_n 3, 1) := by decide +kernel
theorem dX2_parseBlock_54 : decode cX2_parseBlock 54 = .ok (.aload_n 0, 1) := by decide +kernel
theorem dX2_parseBlock_55 : decode cX2_parseBlock 55 = .ok (.ldc 128, 2) := by decide +kernel
theorem dX2_parseBlock_57 : decode cX2_parseBlock 57 = .ok (.invokevirtual 72, 3) := by decide +kernel
theorem dX2_parseBlock_60 : decode cX2_parseBlock 60 = .ok (.ifCond .eq 10, 3) := by decide +kernel
theorem dX2_parseBlock_63 : decode cX2_parseBlock 63 = .ok (.aload_n 0, 1) := by decide +kernel
theorem dX2_parseBlock_64 : decode cX2_parseBlock 64 = .ok (.iconst 1, 1) := by decide +kernel
theorem dX2_parseBlock_65 : decode cX2_parseBlock 65 = .ok (.iconst 5, 1) := by decide +kernel
theorem dX2_parseBlock_66 : decode cX2_parseBlock 66 = .ok (.invokevirtual 99, 3) := by decide +kernel
theorem dX2_parseBlock_69 : decode cX2_parseBlock 69 = .ok (.istore_n 3, 1) := by decide +kernel
theorem dX2_parseBlock_70 : decode cX2_parseBlock 70 = .ok (.iload_n 3, 1) := by decide +kernel
theorem dX2_parseBlock_71 : decode cX2_parseBlock 71 = .ok (.iconst (-1), 1) := by decide +kernel
theorem dX2_parseBlock_72 : decode cX2_parseBlock 72 = .ok (.if_icmp .ne 5, 3) := by decide +kernel
theorem dX2_parseBlock_75 : decode cX2_parseBlock 75 = .ok (.iconst 0, 1) := by decide +kernel
theorem dX2_parseBlock_76 : decode cX2_parseBlock 76 = .ok (.ireturn, 1) := by decide +kernel
theorem dX2_parseBlock_77 : decode cX2_parseBlock 77 = .ok (.aload_n 0, 1) := by decide +kernel
theorem dX2_parseBlock_78 : decode cX2_parseBlock 78 = .ok (.getfield 22, 3) := by decide +kernel
theorem dX2_parseBlock_81 : decode cX2_parseBlock 81 = .ok (.iload_n 1, 1) := by decide +kernel
theorem dX2_parseBlock_82 : decode cX2_parseBlock 82 = .ok (.iload_n 2, 1) := by decide +kernel
theorem dX2_parseBlock_83 : decode cX2_parseBlock 83 = .ok (.iload_n 3, 1) := by decide +kernel
theorem dX2_parseBlock_84 : decode cX2_parseBlock 84 = .ok (.invokevirtual 130, 3) := by decide +kernel
theorem dX2_parseBlock_87 : decode cX2_parseBlock 87 = .ok (.iconst 1, 1) := by decide +kernel
theorem dX2_parseBlock_88 : decode cX2_parseBlock 88 = .ok (.ireturn, 1) := by decide +kernel
theorem dX2_parseTrain_0 : decode cX2_parseTrain 0 = .ok (.aload_n 0, 1) := by decide +kernel
theorem dX2_parseTrain_1 : decode cX2_parseTrain 1 = .ok (.getfield 22, 3) := by decide +kernel
theorem dX2_parseTrain_4 : decode cX2_parseTrain 4 = .ok (.getfield 134, 3) := by decide +kernel
theorem dX2_parseTrain_7 : decode cX2_parseTrain 7 = .ok (.iconst 5, 1) := by decide +kernel
theorem dX2_parseTrain_8 : decode cX2_parseTrain 8 = .ok (.if_icmp .lt 13, 3) := by decide +kernel
theorem dX2_parseTrain_11 : decode cX2_parseTrain 11 = .ok (.aload_n 0, 1) := by decide +kernel
theorem dX2_parseTrain_12 : decode cX2_parseTrain 12 = .ok (.iconst 4, 1) := by decide +kernel
theorem dX2_parseTrain_13 : decode cX2_parseTrain 13 = .ok (.aload_n 0, 1) := by decide +kernel
theorem dX2_parseTrain_14 : decode cX2_parseTrain 14 = .ok (.getfield 125, 3) := by decide +kernel
theorem dX2_parseTrain_17 : decode cX2_parseTrain 17 = .ok (.invokevirtual 76, 3) := by decide +kernel
theorem dX2_parseTrain_20 : decode cX2_parseTrain 20 = .ok (.ireturn, 1) := by decide +kernel
theorem dX2_parseTrain_21 : decode cX2_parseTrain 21 = .ok (.aload_n 0, 1) := by decide +kernel
theorem dX2_parseTrain_22 : decode cX2_parseTrain 22 = .ok (.iconst 0, 1) := by decide +kernel
theorem dX2_parseTrain_23 : decode cX2_parseTrain 23 = .ok (.aload_n 0, 1) := by decide +kernel
theorem dX2_parseTrain_24 : decode cX2_parseTrain 24 = .ok (.getfield 22, 3) := by decide +kernel
theorem dX2_parseTrain_27 : decode cX2_parseTrain 27 = .ok (.getfield 108, 3) := by decide +kernel
theorem dX2_parseTrain_30 : decode cX2_parseTrain 30 = .ok (.iconst 1, 1) := by decide +kernel
theorem dX2_parseTrain_31 : decode cX2_parseTrain 31 = .ok (.isub, 1) := by decide +kernel
theorem dX2_parseTrain_32 : decode cX2_parseTrain 32 = .ok (.invokevirtual 99, 3) := by decide +kernel
theorem dX2_parseTrain_35 : decode cX2_parseTrain 35 = .ok (.istore_n 1, 1) := by decide +kernel
theorem dX2_parseTrain_36 : decode cX2_parseTrain 36 = .ok (.iload_n 1, 1) := by decide +kernel
theorem dX2_parseTrain_37 : decode cX2_parseTrain 37 = .ok (.iconst (-1), 1) := by decide +kernel
theorem dX2_parseTrain_38 : decode cX2_parseTrain 38 = .ok (.if_icmp .ne 5, 3) := by decide +kernel
theorem dX2_parseTrain_41 : decode cX2_parseTrain 41 = .ok (.iconst 0, 1) := by decide +kernel
theorem dX2_parseTrain_42 : decode cX2_parseTrain 42 = .ok (.ireturn, 1) := by decide +kernel
theorem dX2_parseTrain_43 : decode cX2_parseTrain 43 = .ok (.aload_n 0, 1) := by decide +kernel
theorem dX2_parseTrain_44 : decode cX2_parseTrain 44 = .ok (.getfield 22, 3) := by decide +kernel
theorem dX2_parseTrain_47 : decode cX2_parseTrain 47 = .ok (.iload_n 1, 1) := by decide +kernel
theorem dX2_parseTrain_48 : decode cX2_parseTrain 48 = .ok (.invokevirtual 137, 3) := by decide +kernel
theorem dX2_parseTrain_51 : decode cX2_parseTrain 51 = .ok (.ifCond .eq 13, 3) := by decide +kernel
theorem dX2_parseTrain_54 : decode cX2_parseTrain 54 = .ok (.aload_n 0, 1) := by decide +kernel
theorem dX2_parseTrain_55 : decode cX2_parseTrain 55 = .ok (.iconst 3, 1) := by decide +kernel
theorem dX2_parseTrain_56 : decode cX2_parseTrain 56 = .ok (.aload_n 0, 1) := by decide +kernel
theorem dX2_parseTrain_57 : decode cX2_parseTrain 57 = .ok (.getfield 125, 3) := by decide +kernel
theorem dX2_parseTrain_60 : decode cX2_parseTrain 60 = .ok (.invokevirtual 76, 3) := by decide +kernel
theorem dX2_parseTrain_63 : decode cX2_parseTrain 63 = .ok (.ireturn, 1) := by decide +kernel
theorem dX2_parseTrain_64 : decode cX2_parseTrain 64 = .ok (.aload_n 0, 1) := by decide +kernel
theorem dX2_parseTrain_65 : decode cX2_parseTrain 65 = .ok (.iconst 1, 1) := by decide +kernel
theorem dX2_parseTrain_66 : decode cX2_parseTrain 66 = .ok (.bipush 12, 2) := by decide +kernel
theorem dX2_parseTrain_68 : decode cX2_parseTrain 68 = .ok (.invokevirtual 99, 3) := by decide +kernel
theorem dX2_parseTrain_71 : decode cX2_parseTrain 71 = .ok (.istore_n 2, 1) := by decide +kernel
theorem dX2_parseTrain_72 : decode cX2_parseTrain 72 = .ok (.iload_n 2, 1) := by decide +kernel
theorem dX2_parseTrain_73 : decode cX2_parseTrain 73 = .ok (.iconst (-1), 1) := by decide +kernel
theorem dX2_parseTrain_74 : decode cX2_parseTrain 74 = .ok (.if_icmp .ne 5, 3) := by decide +kernel
theorem dX2_parseTrain_77 : decode cX2_parseTrain 77 = .ok (.iconst 0, 1) := by decide +kernel
theorem dX2_parseTrain_78 : decode cX2_parseTrain 78 = .ok (.ireturn, 1) := by decide +kernel
theorem dX2_parseTrain_79 : decode cX2_parseTrain 79 = .ok (.aload_n 0, 1) := by decide +kernel
theorem dX2_parseTrain_80 : decode cX2_parseTrain 80 = .ok (.iconst 1, 1) := by decide +kernel
theorem dX2_parseTrain_81 : decode cX2_parseTrain 81 = .ok (.iconst 5, 1) := by decide +kernel
theorem dX2_parseTrain_82 : decode cX2_parseTrain 82 = .ok (.invokevirtual 99, 3) := by decide +kernel
theorem dX2_parseTrain_85 : decode cX2_parseTrain 85 = .ok (.istore_n 3, 1) := by decide +kernel
theorem dX2_parseTrain_86 : decode cX2_parseTrain 86 = .ok (.iload_n 3, 1) := by decide +kernel
theorem dX2_parseTrain_87 : decode cX2_parseTrain 87 = .ok (.iconst (-1), 1) := by decide +kernel
theorem dX2_parseTrain_88 : decode cX2_parseTrain 88 = .ok (.if_icmp .ne 5, 3) := by decide +kernel
theorem dX2_parseTrain_91 : decode cX2_parseTrain 91 = .ok (.iconst 0, 1) := by decide +kernel
theorem dX2_parseTrain_92 : decode cX2_parseTrain 92 = .ok (.ireturn, 1) := by decide +kernel
theorem dX2_parseTrain_93 : decode cX2_parseTrain 93 = .ok (.aload_n 0, 1) := by decide +kernel
theorem dX2_parseTrain_94 : decode cX2_parseTrain 94 = .ok (.getfield 22, 3) := by decide +kernel
theorem dX2_parseTrain_97 : decode cX2_parseTrain 97 = .ok (.iload_n 1, 1) := by decide +kernel
theorem dX2_parseTrain_98 : decode cX2_parseTrain 98 = .ok (.iload_n 2, 1) := by decide +kernel
theorem dX2_parseTrain_99 : decode cX2_parseTrain 99 = .ok (.iload_n 3, 1) := by decide +kernel
theorem dX2_parseTrain_100 : decode cX2_parseTrain 100 = .ok (.invokevirtual 140, 3) := by decide +kernel
theorem dX2_parseTrain_103 : decode cX2_parseTrain 103 = .ok (.iconst 1, 1) := by decide +kernel
theorem dX2_parseTrain_104 : decode cX2_parseTrain 104 = .ok (.ireturn, 1) := by decide +kernel
theorem dX2_pullLever_0 : decode cX2_pullLever 0 = .ok (.aload_n 0, 1) := by decide +kernel
theorem dX2_pullLever_1 : decode cX2_pullLever 1 = .ok (.getfield 22, 3) := by decide +kernel
theorem dX2_pullLever_4 : decode cX2_pullLever 4 = .ok (.iload_n 1, 1) := by decide +kernel
theorem dX2_pullLever_5 : decode cX2_pullLever 5 = .ok (.invokevirtual 143, 3) := by decide +kernel
theorem dX2_pullLever_8 : decode cX2_pullLever 8 = .ok (.ifCond .eq 13, 3) := by decide +kernel
theorem dX2_pullLever_11 : decode cX2_pullLever 11 = .ok (.aload_n 0, 1) := by decide +kernel
theorem dX2_pullLever_12 : decode cX2_pullLever 12 = .ok (.iconst 5, 1) := by decide +kernel
theorem dX2_pullLever_13 : decode cX2_pullLever 13 = .ok (.aload_n 0, 1) := by decide +kernel
theorem dX2_pullLever_14 : decode cX2_pullLever 14 = .ok (.getfield 125, 3) := by decide +kernel
theorem dX2_pullLever_17 : decode cX2_pullLever 17 = .ok (.invokevirtual 76, 3) := by decide +kernel
theorem dX2_pullLever_20 : decode cX2_pullLever 20 = .ok (.ireturn, 1) := by decide +kernel
theorem dX2_pullLever_21 : decode cX2_pullLever 21 = .ok (.aload_n 0, 1) := by decide +kernel
theorem dX2_pullLever_22 : decode cX2_pullLever 22 = .ok (.getfield 22, 3) := by decide +kernel
theorem dX2_pullLever_25 : decode cX2_pullLever 25 = .ok (.getfield 146, 3) := by decide +kernel
theorem dX2_pullLever_28 : decode cX2_pullLever 28 = .ok (.iload_n 1, 1) := by decide +kernel
theorem dX2_pullLever_29 : decode cX2_pullLever 29 = .ok (.iconst 1, 1) := by decide +kernel
theorem dX2_pullLever_30 : decode cX2_pullLever 30 = .ok (.bastore, 1) := by decide +kernel
theorem dX2_pullLever_31 : decode cX2_pullLever 31 = .ok (.iconst 1, 1) := by decide +kernel
theorem dX2_pullLever_32 : decode cX2_pullLever 32 = .ok (.ireturn, 1) := by decide +kernel
theorem dX2_showDanger_0 : decode cX2_showDanger 0 = .ok (.aload_n 0, 1) := by decide +kernel
theorem dX2_showDanger_1 : decode cX2_showDanger 1 = .ok (.getfield 22, 3) := by decide +kernel
theorem dX2_showDanger_4 : decode cX2_showDanger 4 = .ok (.getfield 146, 3) := by decide +kernel
theorem dX2_showDanger_7 : decode cX2_showDanger 7 = .ok (.iload_n 1, 1) := by decide +kernel
theorem dX2_showDanger_8 : decode cX2_showDanger 8 = .ok (.baload, 1) := by decide +kernel
theorem dX2_showDanger_9 : decode cX2_showDanger 9 = .ok (.ifCond .ne 13, 3) := by decide +kernel
theorem dX2_showDanger_12 : decode cX2_showDanger 12 = .ok (.aload_n 0, 1) := by decide +kernel
theorem dX2_showDanger_13 : decode cX2_showDanger 13 = .ok (.iconst 5, 1) := by decide +kernel
theorem dX2_showDanger_14 : decode cX2_showDanger 14 = .ok (.aload_n 0, 1) := by decide +kernel
theorem dX2_showDanger_15 : decode cX2_showDanger 15 = .ok (.getfield 125, 3) := by decide +kernel
theorem dX2_showDanger_18 : decode cX2_showDanger 18 = .ok (.invokevirtual 76, 3) := by decide +kernel
theorem dX2_showDanger_21 : decode cX2_showDanger 21 = .ok (.ireturn, 1) := by decide +kernel
theorem dX2_showDanger_22 : decode cX2_showDanger 22 = .ok (.aload_n 0, 1) := by decide +kernel
theorem dX2_showDanger_23 : decode cX2_showDanger 23 = .ok (.getfield 22, 3) := by decide +kernel
theorem dX2_showDanger_26 : decode cX2_showDanger 26 = .ok (.getfield 146, 3) := by decide +kernel
theorem dX2_showDanger_29 : decode cX2_showDanger 29 = .ok (.iload_n 1, 1) := by decide +kernel
theorem dX2_showDanger_30 : decode cX2_showDanger 30 = .ok (.iconst 0, 1) := by decide +kernel
theorem dX2_showDanger_31 : decode cX2_showDanger 31 = .ok (.bastore, 1) := by decide +kernel
theorem dX2_showDanger_32 : decode cX2_showDanger 32 = .ok (.iconst 1, 1) := by decide +kernel
theorem dX2_showDanger_33 : decode cX2_showDanger 33 = .ok (.ireturn, 1) := by decide +kernel
theorem dX2_mend_0 : decode cX2_mend 0 = .ok (.aload_n 0, 1) := by decide +kernel
theorem dX2_mend_1 : decode cX2_mend 1 = .ok (.getfield 22, 3) := by decide +kernel
theorem dX2_mend_4 : decode cX2_mend 4 = .ok (.getfield 150, 3) := by decide +kernel
theorem dX2_mend_7 : decode cX2_mend 7 = .ok (.iload_n 1, 1) := by decide +kernel
theorem dX2_mend_8 : decode cX2_mend 8 = .ok (.iaload, 1) := by decide +kernel
theorem dX2_mend_9 : decode cX2_mend 9 = .ok (.iconst (-1), 1) := by decide +kernel
theorem dX2_mend_10 : decode cX2_mend 10 = .ok (.if_icmp .eq 13, 3) := by decide +kernel
theorem dX2_mend_13 : decode cX2_mend 13 = .ok (.aload_n 0, 1) := by decide +kernel
theorem dX2_mend_14 : decode cX2_mend 14 = .ok (.iconst 5, 1) := by decide +kernel
theorem dX2_mend_15 : decode cX2_mend 15 = .ok (.aload_n 0, 1) := by decide +kernel
theorem dX2_mend_16 : decode cX2_mend 16 = .ok (.getfield 125, 3) := by decide +kernel
theorem dX2_mend_19 : decode cX2_mend 19 = .ok (.invokevirtual 76, 3) := by decide +kernel
theorem dX2_mend_22 : decode cX2_mend 22 = .ok (.ireturn, 1) := by decide +kernel
theorem dX2_mend_23 : decode cX2_mend 23 = .ok (.aload_n 0, 1) := by decide +kernel
theorem dX2_mend_24 : decode cX2_mend 24 = .ok (.getfield 22, 3) := by decide +kernel
theorem dX2_mend_27 : decode cX2_mend 27 = .ok (.getfield 154, 3) := by decide +kernel
theorem dX2_mend_30 : decode cX2_mend 30 = .ok (.iload_n 1, 1) := by decide +kernel
theorem dX2_mend_31 : decode cX2_mend 31 = .ok (.iconst 0, 1) := by decide +kernel
theorem dX2_mend_32 : decode cX2_mend 32 = .ok (.iastore, 1) := by decide +kernel
theorem dX2_mend_33 : decode cX2_mend 33 = .ok (.iconst 1, 1) := by decide +kernel
theorem dX2_mend_34 : decode cX2_mend 34 = .ok (.ireturn, 1) := by decide +kernel
theorem dX2_fail_0 : decode cX2_fail 0 = .ok (.aload_n 0, 1) := by decide +kernel
theorem dX2_fail_1 : decode cX2_fail 1 = .ok (.iload_n 1, 1) := by decide +kernel
theorem dX2_fail_2 : decode cX2_fail 2 = .ok (.putfield 52, 3) := by decide +kernel
theorem dX2_fail_5 : decode cX2_fail 5 = .ok (.aload_n 0, 1) := by decide +kernel
theorem dX2_fail_6 : decode cX2_fail 6 = .ok (.iload_n 2, 1) := by decide +kernel
theorem dX2_fail_7 : decode cX2_fail 7 = .ok (.putfield 15, 3) := by decide +kernel
theorem dX2_fail_10 : decode cX2_fail 10 = .ok (.iconst 0, 1) := by decide +kernel
theorem dX2_fail_11 : decode cX2_fail 11 = .ok (.ireturn, 1) := by decide +kernel
theorem dX2_takeWord_0 : decode cX2_takeWord 0 = .ok (.aload_n 0, 1) := by decide +kernel
theorem dX2_takeWord_1 : decode cX2_takeWord 1 = .ok (.getfield 58, 3) := by decide +kernel
theorem dX2_takeWord_4 : decode cX2_takeWord 4 = .ok (.iconst 1, 1) := by decide +kernel
theorem dX2_takeWord_5 : decode cX2_takeWord 5 = .ok (.if_icmp .ne 19, 3) := by decide +kernel
theorem dX2_takeWord_8 : decode cX2_takeWord 8 = .ok (.aload_n 0, 1) := by decide +kernel
theorem dX2_takeWord_9 : decode cX2_takeWord 9 = .ok (.getfield 64, 3) := by decide +kernel
theorem dX2_takeWord_12 : decode cX2_takeWord 12 = .ok (.aload_n 0, 1) := by decide +kernel
theorem dX2_takeWord_13 : decode cX2_takeWord 13 = .ok (.getfield 61, 3) := by decide +kernel
theorem dX2_takeWord_16 : decode cX2_takeWord 16 = .ok (.isub, 1) := by decide +kernel
theorem dX2_takeWord_17 : decode cX2_takeWord 17 = .ok (.aload_n 1, 1) := by decide +kernel
theorem dX2_takeWord_18 : decode cX2_takeWord 18 = .ok (.invokevirtual 33, 3) := by decide +kernel
theorem dX2_takeWord_21 : decode cX2_takeWord 21 = .ok (.if_icmp .eq 5, 3) := by decide +kernel
theorem dX2_takeWord_24 : decode cX2_takeWord 24 = .ok (.iconst 0, 1) := by decide +kernel
theorem dX2_takeWord_25 : decode cX2_takeWord 25 = .ok (.ireturn, 1) := by decide +kernel
theorem dX2_takeWord_26 : decode cX2_takeWord 26 = .ok (.iconst 0, 1) := by decide +kernel
theorem dX2_takeWord_27 : decode cX2_takeWord 27 = .ok (.istore_n 2, 1) := by decide +kernel
theorem dX2_takeWord_28 : decode cX2_takeWord 28 = .ok (.iload_n 2, 1) := by decide +kernel
theorem dX2_takeWord_29 : decode cX2_takeWord 29 = .ok (.aload_n 1, 1) := by decide +kernel
theorem dX2_takeWord_30 : decode cX2_takeWord 30 = .ok (.invokevirtual 33, 3) := by decide +kernel
theorem dX2_takeWord_33 : decode cX2_takeWord 33 = .ok (.if_icmp .ge 30, 3) := by decide +kernel
theorem dX2_takeWord_36 : decode cX2_takeWord 36 = .ok (.aload_n 0, 1) := by decide +kernel
theorem dX2_takeWord_37 : decode cX2_takeWord 37 = .ok (.getfield 11, 3) := by decide +kernel
theorem dX2_takeWord_40 : decode cX2_takeWord 40 = .ok (.aload_n 0, 1) := by decide +kernel
theorem dX2_takeWord_41 : decode cX2_takeWord 41 = .ok (.getfield 61, 3) := by decide +kernel
theorem dX2_takeWord_44 : decode cX2_takeWord 44 = .ok (.iload_n 2, 1) := by decide +kernel
theorem dX2_takeWord_45 : decode cX2_takeWord 45 = .ok (.iadd, 1) := by decide +kernel
theorem dX2_takeWord_46 : decode cX2_takeWord 46 = .ok (.baload, 1) := by decide +kernel
theorem dX2_takeWord_47 : decode cX2_takeWord 47 = .ok (.aload_n 1, 1) := by decide +kernel
theorem dX2_takeWord_48 : decode cX2_takeWord 48 = .ok (.iload_n 2, 1) := by decide +kernel
theorem dX2_takeWord_49 : decode cX2_takeWord 49 = .ok (.invokevirtual 39, 3) := by decide +kernel
theorem dX2_takeWord_52 : decode cX2_takeWord 52 = .ok (.if_icmp .eq 5, 3) := by decide +kernel
theorem dX2_takeWord_55 : decode cX2_takeWord 55 = .ok (.iconst 0, 1) := by decide +kernel
theorem dX2_takeWord_56 : decode cX2_takeWord 56 = .ok (.ireturn, 1) := by decide +kernel
theorem dX2_takeWord_57 : decode cX2_takeWord 57 = .ok (.iinc 2 1, 3) := by decide +kernel
theorem dX2_takeWord_60 : decode cX2_takeWord 60 = .ok (.goto (-32), 3) := by decide +kernel
theorem dX2_takeWord_63 : decode cX2_takeWord 63 = .ok (.aload_n 0, 1) := by decide +kernel
theorem dX2_takeWord_64 : decode cX2_takeWord 64 = .ok (.invokevirtual 67, 3) := by decide +kernel
theorem dX2_takeWord_67 : decode cX2_takeWord 67 = .ok (.iconst 1, 1) := by decide +kernel
theorem dX2_takeWord_68 : decode cX2_takeWord 68 = .ok (.ireturn, 1) := by decide +kernel
theorem dX2_takeNumber_0 : decode cX2_takeNumber 0 = .ok (.aload_n 0, 1) := by decide +kernel
theorem dX2_takeNumber_1 : decode cX2_takeNumber 1 = .ok (.getfield 58, 3) := by decide +kernel
theorem dX2_takeNumber_4 : decode cX2_takeNumber 4 = .ok (.iconst 2, 1) := by decide +kernel
theorem dX2_takeNumber_5 : decode cX2_takeNumber 5 = .ok (.if_icmp .ne 16, 3) := by decide +kernel
theorem dX2_takeNumber_8 : decode cX2_takeNumber 8 = .ok (.aload_n 0, 1) := by decide +kernel
theorem dX2_takeNumber_9 : decode cX2_takeNumber 9 = .ok (.getfield 64, 3) := by decide +kernel
theorem dX2_takeNumber_12 : decode cX2_takeNumber 12 = .ok (.aload_n 0, 1) := by decide +kernel
theorem dX2_takeNumber_13 : decode cX2_takeNumber 13 = .ok (.getfield 61, 3) := by decide +kernel
theorem dX2_takeNumber_16 : decode cX2_takeNumber 16 = .ok (.isub, 1) := by decide +kernel
theorem dX2_takeNumber_17 : decode cX2_takeNumber 17 = .ok (.iconst 3, 1) := by decide +kernel
theorem dX2_takeNumber_18 : decode cX2_takeNumber 18 = .ok (.if_icmp .le 15, 3) := by decide +kernel
theorem dX2_takeNumber_21 : decode cX2_takeNumber 21 = .ok (.aload_n 0, 1) := by decide +kernel
theorem dX2_takeNumber_22 : decode cX2_takeNumber 22 = .ok (.iconst 1, 1) := by decide +kernel
theorem dX2_takeNumber_23 : decode cX2_takeNumber 23 = .ok (.aload_n 0, 1) := by decide +kernel
theorem dX2_takeNumber_24 : decode cX2_takeNumber 24 = .ok (.getfield 61, 3) := by decide +kernel
theorem dX2_takeNumber_27 : decode cX2_takeNumber 27 = .ok (.invokevirtual 76, 3) := by decide +kernel
theorem dX2_takeNumber_30 : decode cX2_takeNumber 30 = .ok (.pop, 1) := by decide +kernel
theorem dX2_takeNumber_31 : decode cX2_takeNumber 31 = .ok (.iconst (-1), 1) := by decide +kernel
theorem dX2_takeNumber_32 : decode cX2_takeNumber 32 = .ok (.ireturn, 1) := by decide +kernel
theorem dX2_takeNumber_33 : decode cX2_takeNumber 33 = .ok (.iconst 0, 1) := by decide +kernel
theorem dX2_takeNumber_34 : decode cX2_takeNumber 34 = .ok (.istore_n 3, 1) := by decide +kernel
theorem dX2_takeNumber_35 : decode cX2_takeNumber 35 = .ok (.aload_n 0, 1) := by decide +kernel
theorem dX2_takeNumber_36 : decode cX2_takeNumber 36 = .ok (.getfield 61, 3) := by decide +kernel
theorem dX2_takeNumber_39 : decode cX2_takeNumber 39 = .ok (.istore 4, 2) := by decide +kernel
theorem dX2_takeNumber_41 : decode cX2_takeNumber 41 = .ok (.iload 4, 2) := by decide +kernel
theorem dX2_takeNumber_43 : decode cX2_takeNumber 43 = .ok (.aload_n 0, 1) := by decide +kernel
theorem dX2_takeNumber_44 : decode cX2_takeNumber 44 = .ok (.getfield 64, 3) := by decide +kernel
theorem dX2_takeNumber_47 : decode cX2_takeNumber 47 = .ok (.if_icmp .ge 25, 3) := by decide +kernel
theorem dX2_takeNumber_50 : decode cX2_takeNumber 50 = .ok (.iload_n 3, 1) := by decide +kernel
theorem dX2_takeNumber_51 : decode cX2_takeNumber 51 = .ok (.bipush 10, 2) := by decide +kernel
theorem dX2_takeNumber_53 : decode cX2_takeNumber 53 = .ok (.imul, 1) := by decide +kernel
theorem dX2_takeNumber_54 : decode cX2_takeNumber 54 = .ok (.aload_n 0, 1) := by decide +kernel
theorem dX2_takeNumber_55 : decode cX2_takeNumber 55 = .ok (.getfield 11, 3) := by decide +kernel
theorem dX2_takeNumber_58 : decode cX2_takeNumber 58 = .ok (.iload 4, 2) := by decide +kernel
theorem dX2_takeNumber_60 : decode cX2_takeNumber 60 = .ok (.baload, 1) := by decide +kernel
theorem dX2_takeNumber_61 : decode cX2_takeNumber 61 = .ok (.iadd, 1) := by decide +kernel
theorem dX2_takeNumber_62 : decode cX2_takeNumber 62 = .ok (.bipush 48, 2) := by decide +kernel
theorem dX2_takeNumber_64 : decode cX2_takeNumber 64 = .ok (.isub, 1) := by decide +kernel
theorem dX2_takeNumber_65 : decode cX2_takeNumber 65 = .ok (.istore_n 3, 1) := by decide +kernel
theorem dX2_takeNumber_66 : decode cX2_takeNumber 66 = .ok (.iinc 4 1, 3) := by decide +kernel
theorem dX2_takeNumber_69 : decode cX2_takeNumber 69 = .ok (.goto (-28), 3) := by decide +kernel
theorem dX2_takeNumber_72 : decode cX2_takeNumber 72 = .ok (.iload_n 3, 1) := by decide +kernel
theorem dX2_takeNumber_73 : decode cX2_takeNumber 73 = .ok (.iload_n 1, 1) := by decide +kernel
theorem dX2_takeNumber_74 : decode cX2_takeNumber 74 = .ok (.if_icmp .lt 8, 3) := by decide +kernel
theorem dX2_takeNumber_77 : decode cX2_takeNumber 77 = .ok (.iload_n 3, 1) := by decide +kernel
theorem dX2_takeNumber_78 : decode cX2_takeNumber 78 = .ok (.iload_n 2, 1) := by decide +kernel
theorem dX2_takeNumber_79 : decode cX2_takeNumber 79 = .ok (.if_icmp .le 15, 3) := by decide +kernel
theorem dX2_takeNumber_82 : decode cX2_takeNumber 82 = .ok (.aload_n 0, 1) := by decide +kernel
theorem dX2_takeNumber_83 : decode cX2_takeNumber 83 = .ok (.iconst 2, 1) := by decide +kernel
theorem dX2_takeNumber_84 : decode cX2_takeNumber 84 = .ok (.aload_n 0, 1) := by decide +kernel
theorem dX2_takeNumber_85 : decode cX2_takeNumber 85 = .ok (.getfield 61, 3) := by decide +kernel
theorem dX2_takeNumber_88 : decode cX2_takeNumber 88 = .ok (.invokevirtual 76, 3) := by decide +kernel
theorem dX2_takeNumber_91 : decode cX2_takeNumber 91 = .ok (.pop, 1) := by decide +kernel
theorem dX2_takeNumber_92 : decode cX2_takeNumber 92 = .ok (.iconst (-1), 1) := by decide +kernel
theorem dX2_takeNumber_93 : decode cX2_takeNumber 93 = .ok (.ireturn, 1) := by decide +kernel
theorem dX2_takeNumber_94 : decode cX2_takeNumber 94 = .ok (.aload_n 0, 1) := by decide +kernel
theorem dX2_takeNumber_95 : decode cX2_takeNumber 95 = .ok (.invokevirtual 67, 3) := by decide +kernel
theorem dX2_takeNumber_98 : decode cX2_takeNumber 98 = .ok (.iload_n 3, 1) := by decide +kernel
theorem dX2_takeNumber_99 : decode cX2_takeNumber 99 = .ok (.ireturn, 1) := by decide +kernel
theorem dX2_readToken_0 : decode cX2_readToken 0 = .ok (.aload_n 0, 1) := by decide +kernel
theorem dX2_readToken_1 : decode cX2_readToken 1 = .ok (.getfield 58, 3) := by decide +kernel
theorem dX2_readToken_4 : decode cX2_readToken 4 = .ok (.iconst 1, 1) := by decide +kernel
theorem dX2_readToken_5 : decode cX2_readToken 5 = .ok (.if_icmp .eq 11, 3) := by decide +kernel
theorem dX2_readToken_8 : decode cX2_readToken 8 = .ok (.aload_n 0, 1) := by decide +kernel
theorem dX2_readToken_9 : decode cX2_readToken 9 = .ok (.getfield 58, 3) := by decide +kernel
theorem dX2_readToken_12 : decode cX2_readToken 12 = .ok (.iconst 2, 1) := by decide +kernel
theorem dX2_readToken_13 : decode cX2_readToken 13 = .ok (.if_icmp .ne 7, 3) := by decide +kernel
theorem dX2_readToken_16 : decode cX2_readToken 16 = .ok (.iconst 1, 1) := by decide +kernel
theorem dX2_readToken_17 : decode cX2_readToken 17 = .ok (.goto 4, 3) := by decide +kernel
theorem dX2_readToken_20 : decode cX2_readToken 20 = .ok (.iconst 0, 1) := by decide +kernel
theorem dX2_readToken_21 : decode cX2_readToken 21 = .ok (.istore_n 1, 1) := by decide +kernel
theorem dX2_readToken_22 : decode cX2_readToken 22 = .ok (.aload_n 0, 1) := by decide +kernel
theorem dX2_readToken_23 : decode cX2_readToken 23 = .ok (.getfield 64, 3) := by decide +kernel
theorem dX2_readToken_26 : decode cX2_readToken 26 = .ok (.istore_n 2, 1) := by decide +kernel
theorem dX2_readToken_27 : decode cX2_readToken 27 = .ok (.aload_n 0, 1) := by decide +kernel
theorem dX2_readToken_28 : decode cX2_readToken 28 = .ok (.aload_n 0, 1) := by decide +kernel
theorem dX2_readToken_29 : decode cX2_readToken 29 = .ok (.getfield 61, 3) := by decide +kernel
theorem dX2_readToken_32 : decode cX2_readToken 32 = .ok (.putfield 125, 3) := by decide +kernel
theorem dX2_readToken_35 : decode cX2_readToken 35 = .ok (.aload_n 0, 1) := by decide +kernel
theorem dX2_readToken_36 : decode cX2_readToken 36 = .ok (.iload_n 2, 1) := by decide +kernel
theorem dX2_readToken_37 : decode cX2_readToken 37 = .ok (.putfield 61, 3) := by decide +kernel
theorem dX2_readToken_40 : decode cX2_readToken 40 = .ok (.aload_n 0, 1) := by decide +kernel
theorem dX2_readToken_41 : decode cX2_readToken 41 = .ok (.getfield 61, 3) := by decide +kernel
theorem dX2_readToken_44 : decode cX2_readToken 44 = .ok (.aload_n 0, 1) := by decide +kernel
theorem dX2_readToken_45 : decode cX2_readToken 45 = .ok (.getfield 49, 3) := by decide +kernel
theorem dX2_readToken_48 : decode cX2_readToken 48 = .ok (.if_icmp .ge 44, 3) := by decide +kernel
theorem dX2_readToken_51 : decode cX2_readToken 51 = .ok (.aload_n 0, 1) := by decide +kernel
theorem dX2_readToken_52 : decode cX2_readToken 52 = .ok (.getfield 11, 3) := by decide +kernel
theorem dX2_readToken_55 : decode cX2_readToken 55 = .ok (.aload_n 0, 1) := by decide +kernel
theorem dX2_readToken_56 : decode cX2_readToken 56 = .ok (.getfield 61, 3) := by decide +kernel
theorem dX2_readToken_59 : decode cX2_readToken 59 = .ok (.baload, 1) := by decide +kernel
theorem dX2_readToken_60 : decode cX2_readToken 60 = .ok (.bipush 32, 2) := by decide +kernel
theorem dX2_readToken_62 : decode cX2_readToken 62 = .ok (.if_icmp .eq 17, 3) := by decide +kernel
theorem dX2_readToken_65 : decode cX2_readToken 65 = .ok (.aload_n 0, 1) := by decide +kernel
theorem dX2_readToken_66 : decode cX2_readToken 66 = .ok (.getfield 11, 3) := by decide +kernel
theorem dX2_readToken_69 : decode cX2_readToken 69 = .ok (.aload_n 0, 1) := by decide +kernel
theorem dX2_readToken_70 : decode cX2_readToken 70 = .ok (.getfield 61, 3) := by decide +kernel
theorem dX2_readToken_73 : decode cX2_readToken 73 = .ok (.baload, 1) := by decide +kernel
theorem dX2_readToken_74 : decode cX2_readToken 74 = .ok (.bipush 10, 2) := by decide +kernel
theorem dX2_readToken_76 : decode cX2_readToken 76 = .ok (.if_icmp .ne 16, 3) := by decide +kernel
theorem dX2_readToken_79 : decode cX2_readToken 79 = .ok (.aload_n 0, 1) := by decide +kernel
theorem dX2_readToken_80 : decode cX2_readToken 80 = .ok (.dup, 1) := by decide +kernel
theorem dX2_readToken_81 : decode cX2_readToken 81 = .ok (.getfield 61, 3) := by decide +kernel
theorem dX2_readToken_84 : decode cX2_readToken 84 = .ok (.iconst 1, 1) := by decide +kernel
theorem dX2_readToken_85 : decode cX2_readToken 85 = .ok (.iadd, 1) := by decide +kernel
theorem dX2_readToken_86 : decode cX2_readToken 86 = .ok (.putfield 61, 3) := by decide +kernel
theorem dX2_readToken_89 : decode cX2_readToken 89 = .ok (.goto (-49), 3) := by decide +kernel
theorem dX2_readToken_92 : decode cX2_readToken 92 = .ok (.aload_n 0, 1) := by decide +kernel
theorem dX2_readToken_93 : decode cX2_readToken 93 = .ok (.aload_n 0, 1) := by decide +kernel
theorem dX2_readToken_94 : decode cX2_readToken 94 = .ok (.getfield 61, 3) := by decide +kernel
theorem dX2_readToken_97 : decode cX2_readToken 97 = .ok (.putfield 64, 3) := by decide +kernel
theorem dX2_readToken_100 : decode cX2_readToken 100 = .ok (.aload_n 0, 1) := by decide +kernel
theorem dX2_readToken_101 : decode cX2_readToken 101 = .ok (.getfield 61, 3) := by decide +kernel
theorem dX2_readToken_104 : decode cX2_readToken 104 = .ok (.aload_n 0, 1) := by decide +kernel
theorem dX2_readToken_105 : decode cX2_readToken 105 = .ok (.getfield 49, 3) := by decide +kernel
theorem dX2_readToken_108 : decode cX2_readToken 108 = .ok (.if_icmp .lt 9, 3) := by decide +kernel
theorem dX2_readToken_111 : decode cX2_readToken 111 = .ok (.aload_n 0, 1) := by decide +kernel
theorem dX2_readToken_112 : decode cX2_readToken 112 = .ok (.iconst 0, 1) := by decide +kernel
theorem dX2_readToken_113 : decode cX2_readToken 113 = .ok (.putfield 58, 3) := by decide +kernel
theorem dX2_readToken_116 : decode cX2_readToken 116 = .ok (.return_, 1) := by decide +kernel
theorem dX2_readToken_117 : decode cX2_readToken 117 = .ok (.aload_n 0, 1) := by decide +kernel
theorem dX2_readToken_118 : decode cX2_readToken 118 = .ok (.getfield 11, 3) := by decide +kernel
theorem dX2_readToken_121 : decode cX2_readToken 121 = .ok (.aload_n 0, 1) := by decide +kernel
theorem dX2_readToken_122 : decode cX2_readToken 122 = .ok (.getfield 61, 3) := by decide +kernel
theorem dX2_readToken_125 : decode cX2_readToken 125 = .ok (.baload, 1) := by decide +kernel
theorem dX2_readToken_126 : decode cX2_readToken 126 = .ok (.istore_n 3, 1) := by decide +kernel
theorem dX2_readToken_127 : decode cX2_readToken 127 = .ok (.iload_n 3, 1) := by decide +kernel
theorem dX2_readToken_128 : decode cX2_readToken 128 = .ok (.bipush 97, 2) := by decide +kernel
theorem dX2_readToken_130 : decode cX2_readToken 130 = .ok (.if_icmp .lt 29, 3) := by decide +kernel
theorem dX2_readToken_133 : decode cX2_readToken 133 = .ok (.iload_n 3, 1) := by decide +kernel
theorem dX2_readToken_134 : decode cX2_readToken 134 = .ok (.bipush 122, 2) := by decide +kernel
theorem dX2_readToken_136 : decode cX2_readToken 136 = .ok (.if_icmp .gt 23, 3) := by decide +kernel
theorem dX2_readToken_139 : decode cX2_readToken 139 = .ok (.aload_n 0, 1) := by decide +kernel
theorem dX2_readToken_140 : decode cX2_readToken 140 = .ok (.iconst 1, 1) := by decide +kernel
theorem dX2_readToken_141 : decode cX2_readToken 141 = .ok (.putfield 58, 3) := by decide +kernel
theorem dX2_readToken_144 : decode cX2_readToken 144 = .ok (.aload_n 0, 1) := by decide +kernel
theorem dX2_readToken_145 : decode cX2_readToken 145 = .ok (.aload_n 0, 1) := by decide +kernel
theorem dX2_readToken_146 : decode cX2_readToken 146 = .ok (.bipush 97, 2) := by decide +kernel
theorem dX2_readToken_148 : decode cX2_readToken 148 = .ok (.bipush 122, 2) := by decide +kernel
theorem dX2_readToken_150 : decode cX2_readToken 150 = .ok (.invokevirtual 157, 3) := by decide +kernel
theorem dX2_readToken_153 : decode cX2_readToken 153 = .ok (.putfield 64, 3) := by decide +kernel
theorem dX2_readToken_156 : decode cX2_readToken 156 = .ok (.goto 60, 3) := by decide +kernel
theorem dX2_readToken_159 : decode cX2_readToken 159 = .ok (.iload_n 3, 1) := by decide +kernel
theorem dX2_readToken_160 : decode cX2_readToken 160 = .ok (.bipush 48, 2) := by decide +kernel
theorem dX2_readToken_162 : decode cX2_readToken 162 = .ok (.if_icmp .lt 29, 3) := by decide +kernel
theorem dX2_readToken_165 : decode cX2_readToken 165 = .ok (.iload_n 3, 1) := by decide +kernel
theorem dX2_readToken_166 : decode cX2_readToken 166 = .ok (.bipush 57, 2) := by decide +kernel
theorem dX2_readToken_168 : decode cX2_readToken 168 = .ok (.if_icmp .gt 23, 3) := by decide +kernel
theorem dX2_readToken_171 : decode cX2_readToken 171 = .ok (.aload_n 0, 1) := by decide +kernel
theorem dX2_readToken_172 : decode cX2_readToken 172 = .ok (.iconst 2, 1) := by decide +kernel
theorem dX2_readToken_173 : decode cX2_readToken 173 = .ok (.putfield 58, 3) := by decide +kernel
theorem dX2_readToken_176 : decode cX2_readToken 176 = .ok (.aload_n 0, 1) := by decide +kernel
theorem dX2_readToken_177 : decode cX2_readToken 177 = .ok (.aload_n 0, 1) := by decide +kernel
theorem dX2_readToken_178 : decode cX2_readToken 178 = .ok (.bipush 48, 2) := by decide +kernel
theorem dX2_readToken_180 : decode cX2_readToken 180 = .ok (.bipush 57, 2) := by decide +kernel
theorem dX2_readToken_182 : decode cX2_readToken 182 = .ok (.invokevirtual 157, 3) := by decide +kernel
theorem dX2_readToken_185 : decode cX2_readToken 185 = .ok (.putfield 64, 3) := by decide +kernel
theorem dX2_readToken_188 : decode cX2_readToken 188 = .ok (.goto 28, 3) := by decide +kernel
theorem dX2_readToken_191 : decode cX2_readToken 191 = .ok (.aload_n 0, 1) := by decide +kernel
theorem dX2_readToken_192 : decode cX2_readToken 192 = .ok (.iload_n 3, 1) := by decide +kernel
theorem dX2_readToken_193 : decode cX2_readToken 193 = .ok (.bipush 59, 2) := by decide +kernel
theorem dX2_readToken_195 : decode cX2_readToken 195 = .ok (.if_icmp .ne 7, 3) := by decide +kernel
theorem dX2_readToken_198 : decode cX2_readToken 198 = .ok (.iconst 3, 1) := by decide +kernel
theorem dX2_readToken_199 : decode cX2_readToken 199 = .ok (.goto 4, 3) := by decide +kernel
theorem dX2_readToken_202 : decode cX2_readToken 202 = .ok (.iconst 4, 1) := by decide +kernel
theorem dX2_readToken_203 : decode cX2_readToken 203 = .ok (.putfield 58, 3) := by decide +kernel
theorem dX2_readToken_206 : decode cX2_readToken 206 = .ok (.aload_n 0, 1) := by decide +kernel
theorem dX2_readToken_207 : decode cX2_readToken 207 = .ok (.aload_n 0, 1) := by decide +kernel
theorem dX2_readToken_208 : decode cX2_readToken 208 = .ok (.getfield 61, 3) := by decide +kernel
theorem dX2_readToken_211 : decode cX2_readToken 211 = .ok (.iconst 1, 1) := by decide +kernel
theorem dX2_readToken_212 : decode cX2_readToken 212 = .ok (.iadd, 1) := by decide +kernel
theorem dX2_readToken_213 : decode cX2_readToken 213 = .ok (.putfield 64, 3) := by decide +kernel
theorem dX2_readToken_216 : decode cX2_readToken 216 = .ok (.iload_n 1, 1) := by decide +kernel
theorem dX2_readToken_217 : decode cX2_readToken 217 = .ok (.ifCond .eq 24, 3) := by decide +kernel
theorem dX2_readToken_220 : decode cX2_readToken 220 = .ok (.aload_n 0, 1) := by decide +kernel
theorem dX2_readToken_221 : decode cX2_readToken 221 = .ok (.getfield 61, 3) := by decide +kernel
theorem dX2_readToken_224 : decode cX2_readToken 224 = .ok (.iload_n 2, 1) := by decide +kernel
theorem dX2_readToken_225 : decode cX2_readToken 225 = .ok (.if_icmp .ne 16, 3) := by decide +kernel
theorem dX2_readToken_228 : decode cX2_readToken 228 = .ok (.aload_n 0, 1) := by decide +kernel
theorem dX2_readToken_229 : decode cX2_readToken 229 = .ok (.getfield 58, 3) := by decide +kernel
theorem dX2_readToken_232 : decode cX2_readToken 232 = .ok (.iconst 3, 1) := by decide +kernel
theorem dX2_readToken_233 : decode cX2_readToken 233 = .ok (.if_icmp .eq 8, 3) := by decide +kernel
theorem dX2_readToken_236 : decode cX2_readToken 236 = .ok (.aload_n 0, 1) := by decide +kernel
theorem dX2_readToken_237 : decode cX2_readToken 237 = .ok (.iconst 4, 1) := by decide +kernel
theorem dX2_readToken_238 : decode cX2_readToken 238 = .ok (.putfield 58, 3) := by decide +kernel
theorem dX2_readToken_241 : decode cX2_readToken 241 = .ok (.return_, 1) := by decide +kernel
theorem dX2_endOfRun_0 : decode cX2_endOfRun 0 = .ok (.aload_n 0, 1) := by decide +kernel
theorem dX2_endOfRun_1 : decode cX2_endOfRun 1 = .ok (.getfield 61, 3) := by decide +kernel
theorem dX2_endOfRun_4 : decode cX2_endOfRun 4 = .ok (.istore_n 3, 1) := by decide +kernel
theorem dX2_endOfRun_5 : decode cX2_endOfRun 5 = .ok (.iload_n 3, 1) := by decide +kernel
theorem dX2_endOfRun_6 : decode cX2_endOfRun 6 = .ok (.aload_n 0, 1) := by decide +kernel
theorem dX2_endOfRun_7 : decode cX2_endOfRun 7 = .ok (.getfield 49, 3) := by decide +kernel
theorem dX2_endOfRun_10 : decode cX2_endOfRun 10 = .ok (.if_icmp .ge 29, 3) := by decide +kernel
theorem dX2_endOfRun_13 : decode cX2_endOfRun 13 = .ok (.aload_n 0, 1) := by decide +kernel
theorem dX2_endOfRun_14 : decode cX2_endOfRun 14 = .ok (.getfield 11, 3) := by decide +kernel
theorem dX2_endOfRun_17 : decode cX2_endOfRun 17 = .ok (.iload_n 3, 1) := by decide +kernel
theorem dX2_endOfRun_18 : decode cX2_endOfRun 18 = .ok (.baload, 1) := by decide +kernel
theorem dX2_endOfRun_19 : decode cX2_endOfRun 19 = .ok (.iload_n 1, 1) := by decide +kernel
theorem dX2_endOfRun_20 : decode cX2_endOfRun 20 = .ok (.if_icmp .lt 19, 3) := by decide +kernel
theorem dX2_endOfRun_23 : decode cX2_endOfRun 23 = .ok (.aload_n 0, 1) := by decide +kernel
theorem dX2_endOfRun_24 : decode cX2_endOfRun 24 = .ok (.getfield 11, 3) := by decide +kernel
theorem dX2_endOfRun_27 : decode cX2_endOfRun 27 = .ok (.iload_n 3, 1) := by decide +kernel
theorem dX2_endOfRun_28 : decode cX2_endOfRun 28 = .ok (.baload, 1) := by decide +kernel
theorem dX2_endOfRun_29 : decode cX2_endOfRun 29 = .ok (.iload_n 2, 1) := by decide +kernel
theorem dX2_endOfRun_30 : decode cX2_endOfRun 30 = .ok (.if_icmp .gt 9, 3) := by decide +kernel
theorem dX2_endOfRun_33 : decode cX2_endOfRun 33 = .ok (.iinc 3 1, 3) := by decide +kernel
theorem dX2_endOfRun_36 : decode cX2_endOfRun 36 = .ok (.goto (-31), 3) := by decide +kernel
theorem dX2_endOfRun_39 : decode cX2_endOfRun 39 = .ok (.iload_n 3, 1) := by decide +kernel
theorem dX2_endOfRun_40 : decode cX2_endOfRun 40 = .ok (.ireturn, 1) := by decide +kernel
theorem dX3_init_0 : decode cX3_init 0 = .ok (.aload_n 0, 1) := by decide +kernel
theorem dX3_init_1 : decode cX3_init 1 = .ok (.invokespecial 1, 3) := by decide +kernel
theorem dX3_init_4 : decode cX3_init 4 = .ok (.aload_n 0, 1) := by decide +kernel
theorem dX3_init_5 : decode cX3_init 5 = .ok (.new 7, 3) := by decide +kernel
theorem dX3_init_8 : decode cX3_init 8 = .ok (.dup, 1) := by decide +kernel
theorem dX3_init_9 : decode cX3_init 9 = .ok (.invokespecial 9, 3) := by decide +kernel
theorem dX3_init_12 : decode cX3_init 12 = .ok (.putfield 10, 3) := by decide +kernel
theorem dX3_init_15 : decode cX3_init 15 = .ok (.return_, 1) := by decide +kernel
theorem dX4_init_0 : decode cX4_init 0 = .ok (.aload_n 0, 1) := by decide +kernel
theorem dX4_init_1 : decode cX4_init 1 = .ok (.invokespecial 3, 3) := by decide +kernel
theorem dX4_init_4 : decode cX4_init 4 = .ok (.aload_n 0, 1) := by decide +kernel
theorem dX4_init_5 : decode cX4_init 5 = .ok (.bipush 10, 2) := by decide +kernel
theorem dX4_init_7 : decode cX4_init 7 = .ok (.newarray .int, 2) := by decide +kernel
theorem dX4_init_9 : decode cX4_init 9 = .ok (.putfield 9, 3) := by decide +kernel
theorem dX4_init_12 : decode cX4_init 12 = .ok (.aload_n 0, 1) := by decide +kernel
theorem dX4_init_13 : decode cX4_init 13 = .ok (.bipush 10, 2) := by decide +kernel
theorem dX4_init_15 : decode cX4_init 15 = .ok (.newarray .int, 2) := by decide +kernel
theorem dX4_init_17 : decode cX4_init 17 = .ok (.putfield 15, 3) := by decide +kernel
theorem dX4_init_20 : decode cX4_init 20 = .ok (.aload_n 0, 1) := by decide +kernel
theorem dX4_init_21 : decode cX4_init 21 = .ok (.bipush 10, 2) := by decide +kernel
theorem dX4_init_23 : decode cX4_init 23 = .ok (.newarray .int, 2) := by decide +kernel
theorem dX4_init_25 : decode cX4_init 25 = .ok (.putfield 18, 3) := by decide +kernel
theorem dX4_init_28 : decode cX4_init 28 = .ok (.aload_n 0, 1) := by decide +kernel
theorem dX4_init_29 : decode cX4_init 29 = .ok (.bipush 10, 2) := by decide +kernel
theorem dX4_init_31 : decode cX4_init 31 = .ok (.newarray .boolean, 2) := by decide +kernel
theorem dX4_init_33 : decode cX4_init 33 = .ok (.putfield 21, 3) := by decide +kernel
theorem dX4_init_36 : decode cX4_init 36 = .ok (.aload_n 0, 1) := by decide +kernel
theorem dX4_init_37 : decode cX4_init 37 = .ok (.bipush 10, 2) := by decide +kernel
theorem dX4_init_39 : decode cX4_init 39 = .ok (.newarray .int, 2) := by decide +kernel
theorem dX4_init_41 : decode cX4_init 41 = .ok (.putfield 25, 3) := by decide +kernel
theorem dX4_init_44 : decode cX4_init 44 = .ok (.aload_n 0, 1) := by decide +kernel
theorem dX4_init_45 : decode cX4_init 45 = .ok (.bipush 10, 2) := by decide +kernel
theorem dX4_init_47 : decode cX4_init 47 = .ok (.newarray .int, 2) := by decide +kernel
theorem dX4_init_49 : decode cX4_init 49 = .ok (.putfield 28, 3) := by decide +kernel
theorem dX4_init_52 : decode cX4_init 52 = .ok (.aload_n 0, 1) := by decide +kernel
theorem dX4_init_53 : decode cX4_init 53 = .ok (.iconst 5, 1) := by decide +kernel
theorem dX4_init_54 : decode cX4_init 54 = .ok (.newarray .int, 2) := by decide +kernel
theorem dX4_init_56 : decode cX4_init 56 = .ok (.putfield 31, 3) := by decide +kernel
theorem dX4_init_59 : decode cX4_init 59 = .ok (.aload_n 0, 1) := by decide +kernel
theorem dX4_init_60 : decode cX4_init 60 = .ok (.iconst 5, 1) := by decide +kernel
theorem dX4_init_61 : decode cX4_init 61 = .ok (.newarray .int, 2) := by decide +kernel
theorem dX4_init_63 : decode cX4_init 63 = .ok (.putfield 34, 3) := by decide +kernel
theorem dX4_init_66 : decode cX4_init 66 = .ok (.aload_n 0, 1) := by decide +kernel
theorem dX4_init_67 : decode cX4_init 67 = .ok (.iconst 5, 1) := by decide +kernel
theorem dX4_init_68 : decode cX4_init 68 = .ok (.newarray .int, 2) := by decide +kernel
theorem dX4_init_70 : decode cX4_init 70 = .ok (.putfield 37, 3) := by decide +kernel
theorem dX4_init_73 : decode cX4_init 73 = .ok (.aload_n 0, 1) := by decide +kernel
theorem dX4_init_74 : decode cX4_init 74 = .ok (.iconst 5, 1) := by decide +kernel
theorem dX4_init_75 : decode cX4_init 75 = .ok (.newarray .int, 2) := by decide +kernel
theorem dX4_init_77 : decode cX4_init 77 = .ok (.putfield 40, 3) := by decide +kernel
theorem dX4_init_80 : decode cX4_init 80 = .ok (.aload_n 0, 1) := by decide +kernel
theorem dX4_init_81 : decode cX4_init 81 = .ok (.iconst 5, 1) := by decide +kernel
theorem dX4_init_82 : decode cX4_init 82 = .ok (.newarray .int, 2) := by decide +kernel
theorem dX4_init_84 : decode cX4_init 84 = .ok (.putfield 43, 3) := by decide +kernel
theorem dX4_init_87 : decode cX4_init 87 = .ok (.aload_n 0, 1) := by decide +kernel
theorem dX4_init_88 : decode cX4_init 88 = .ok (.bipush 50, 2) := by decide +kernel
theorem dX4_init_90 : decode cX4_init 90 = .ok (.newarray .int, 2) := by decide +kernel
theorem dX4_init_92 : decode cX4_init 92 = .ok (.putfield 46, 3) := by decide +kernel
theorem dX4_init_95 : decode cX4_init 95 = .ok (.return_, 1) := by decide +kernel
theorem dX4_copyFrom_0 : decode cX4_copyFrom 0 = .ok (.aload_n 0, 1) := by decide +kernel
theorem dX4_copyFrom_1 : decode cX4_copyFrom 1 = .ok (.aload_n 1, 1) := by decide +kernel
theorem dX4_copyFrom_2 : decode cX4_copyFrom 2 = .ok (.getfield 49, 3) := by decide +kernel
theorem dX4_copyFrom_5 : decode cX4_copyFrom 5 = .ok (.putfield 49, 3) := by decide +kernel
theorem dX4_copyFrom_8 : decode cX4_copyFrom 8 = .ok (.aload_n 0, 1) := by decide +kernel
theorem dX4_copyFrom_9 : decode cX4_copyFrom 9 = .ok (.aload_n 1, 1) := by decide +kernel
theorem dX4_copyFrom_10 : decode cX4_copyFrom 10 = .ok (.getfield 53, 3) := by decide +kernel
theorem dX4_copyFrom_13 : decode cX4_copyFrom 13 = .ok (.putfield 53, 3) := by decide +kernel
theorem dX4_copyFrom_16 : decode cX4_copyFrom 16 = .ok (.aload_n 0, 1) := by decide +kernel
theorem dX4_copyFrom_17 : decode cX4_copyFrom 17 = .ok (.aload_n 1, 1) := by decide +kernel
theorem dX4_copyFrom_18 : decode cX4_copyFrom 18 = .ok (.getfield 56, 3) := by decide +kernel
theorem dX4_copyFrom_21 : decode cX4_copyFrom 21 = .ok (.putfield 56, 3) := by decide +kernel
theorem dX4_copyFrom_24 : decode cX4_copyFrom 24 = .ok (.aload_n 0, 1) := by decide +kernel
theorem dX4_copyFrom_25 : decode cX4_copyFrom 25 = .ok (.aload_n 1, 1) := by decide +kernel
theorem dX4_copyFrom_26 : decode cX4_copyFrom 26 = .ok (.getfield 59, 3) := by decide +kernel
theorem dX4_copyFrom_29 : decode cX4_copyFrom 29 = .ok (.putfield 59, 3) := by decide +kernel
theorem dX4_copyFrom_32 : decode cX4_copyFrom 32 = .ok (.aload_n 0, 1) := by decide +kernel
theorem dX4_copyFrom_33 : decode cX4_copyFrom 33 = .ok (.aload_n 1, 1) := by decide +kernel
theorem dX4_copyFrom_34 : decode cX4_copyFrom 34 = .ok (.getfield 62, 3) := by decide +kernel
theorem dX4_copyFrom_37 : decode cX4_copyFrom 37 = .ok (.putfield 62, 3) := by decide +kernel
theorem dX4_copyFrom_40 : decode cX4_copyFrom 40 = .ok (.aload_n 1, 1) := by decide +kernel
theorem dX4_copyFrom_41 : decode cX4_copyFrom 41 = .ok (.getfield 9, 3) := by decide +kernel
theorem dX4_copyFrom_44 : decode cX4_copyFrom 44 = .ok (.iconst 0, 1) := by decide +kernel
theorem dX4_copyFrom_45 : decode cX4_copyFrom 45 = .ok (.aload_n 0, 1) := by decide +kernel
theorem dX4_copyFrom_46 : decode cX4_copyFrom 46 = .ok (.getfield 9, 3) := by decide +kernel
theorem dX4_copyFrom_49 : decode cX4_copyFrom 49 = .ok (.iconst 0, 1) := by decide +kernel
theorem dX4_copyFrom_50 : decode cX4_copyFrom 50 = .ok (.bipush 10, 2) := by decide +kernel
theorem dX4_copyFrom_52 : decode cX4_copyFrom 52 = .ok (.invokestatic 65, 3) := by decide +kernel
theorem dX4_copyFrom_55 : decode cX4_copyFrom 55 = .ok (.aload_n 1, 1) := by decide +kernel
theorem dX4_copyFrom_56 : decode cX4_copyFrom 56 = .ok (.getfield 15, 3) := by decide +kernel
theorem dX4_copyFrom_59 : decode cX4_copyFrom 59 = .ok (.iconst 0, 1) := by decide +kernel
theorem dX4_copyFrom_60 : decode cX4_copyFrom 60 = .ok (.aload_n 0, 1) := by decide +kernel
theorem dX4_copyFrom_61 : decode cX4_copyFrom 61 = .ok (.getfield 15, 3) := by decide +kernel
theorem dX4_copyFrom_64 : decode cX4_copyFrom 64 = .ok (.iconst 0, 1) := by decide +kernel
theorem dX4_copyFrom_65 : decode cX4_copyFrom 65 = .ok (.bipush 10, 2) := by decide +kernel
theorem dX4_copyFrom_67 : decode cX4_copyFrom 67 = .ok (.invokestatic 65, 3) := by decide +kernel
theorem dX4_copyFrom_70 : decode cX4_copyFrom 70 = .ok (.aload_n 1, 1) := by decide +kernel
theorem dX4_copyFrom_71 : decode cX4_copyFrom 71 = .ok (.getfield 18, 3) := by decide +kernel
theorem dX4_copyFrom_74 : decode cX4_copyFrom 74 = .ok (.iconst 0, 1) := by decide +kernel
theorem dX4_copyFrom_75 : decode cX4_copyFrom 75 = .ok (.aload_n 0, 1) := by decide +kernel
theorem dX4_copyFrom_76 : decode cX4_copyFrom 76 = .ok (.getfield 18, 3) := by decide +kernel
theorem dX4_copyFrom_79 : decode cX4_copyFrom 79 = .ok (.iconst 0, 1) := by decide +kernel
theorem dX4_copyFrom_80 : decode cX4_copyFrom 80 = .ok (.bipush 10, 2) := by decide +kernel
theorem dX4_copyFrom_82 : decode cX4_copyFrom 82 = .ok (.invokestatic 65, 3) := by decide +kernel
theorem dX4_copyFrom_85 : decode cX4_copyFrom 85 = .ok (.iconst 0, 1) := by decide +kernel
theorem dX4_copyFrom_86 : decode cX4_copyFrom 86 = .ok (.istore_n 2, 1) := by decide +kernel
theorem dX4_copyFrom_87 : decode cX4_copyFrom 87 = .ok (.iload_n 2, 1) := by decide +kernel
theorem dX4_copyFrom_88 : decode cX4_copyFrom 88 = .ok (.bipush 10, 2) := by decide +kernel
theorem dX4_copyFrom_90 : decode cX4_copyFrom 90 = .ok (.if_icmp .ge 21, 3) := by decide +kernel
theorem dX4_copyFrom_93 : decode cX4_copyFrom 93 = .ok (.aload_n 0, 1) := by decide +kernel
theorem dX4_copyFrom_94 : decode cX4_copyFrom 94 = .ok (.getfield 21, 3) := by decide +kernel
theorem dX4_copyFrom_97 : decode cX4_copyFrom 97 = .ok (.iload_n 2, 1) := by decide +kernel
theorem dX4_copyFrom_98 : decode cX4_copyFrom 98 = .ok (.aload_n 1, 1) := by decide +kernel
theorem dX4_copyFrom_99 : decode cX4_copyFrom 99 = .ok (.getfield 21, 3) := by decide +kernel
theorem dX4_copyFrom_102 : decode cX4_copyFrom 102 = .ok (.iload_n 2, 1) := by decide +kernel
theorem dX4_copyFrom_103 : decode cX4_copyFrom 103 = .ok (.baload, 1) := by decide +kernel
theorem dX4_copyFrom_104 : decode cX4_copyFrom 104 = .ok (.bastore, 1) := by decide +kernel
theorem dX4_copyFrom_105 : decode cX4_copyFrom 105 = .ok (.iinc 2 1, 3) := by decide +kernel
theorem dX4_copyFrom_108 : decode cX4_copyFrom 108 = .ok (.goto (-21), 3) := by decide +kernel
theorem dX4_copyFrom_111 : decode cX4_copyFrom 111 = .ok (.aload_n 1, 1) := by decide +kernel
theorem dX4_copyFrom_112 : decode cX4_copyFrom 112 = .ok (.getfield 25, 3) := by decide +kernel
theorem dX4_copyFrom_115 : decode cX4_copyFrom 115 = .ok (.iconst 0, 1) := by decide +kernel
theorem dX4_copyFrom_116 : decode cX4_copyFrom 116 = .ok (.aload_n 0, 1) := by decide +kernel
theorem dX4_copyFrom_117 : decode cX4_copyFrom 117 = .ok (.getfield 25, 3) := by decide +kernel
theorem dX4_copyFrom_120 : decode cX4_copyFrom 120 = .ok (.iconst 0, 1) := by decide +kernel
theorem dX4_copyFrom_121 : decode cX4_copyFrom 121 = .ok (.bipush 10, 2) := by decide +kernel
theorem dX4_copyFrom_123 : decode cX4_copyFrom 123 = .ok (.invokestatic 65, 3) := by decide +kernel
theorem dX4_copyFrom_126 : decode cX4_copyFrom 126 = .ok (.aload_n 1, 1) := by decide +kernel
theorem dX4_copyFrom_127 : decode cX4_copyFrom 127 = .ok (.getfield 28, 3) := by decide +kernel
theorem dX4_copyFrom_130 : decode cX4_copyFrom 130 = .ok (.iconst 0, 1) := by decide +kernel
theorem dX4_copyFrom_131 : decode cX4_copyFrom 131 = .ok (.aload_n 0, 1) := by decide +kernel
theorem dX4_copyFrom_132 : decode cX4_copyFrom 132 = .ok (.getfield 28, 3) := by decide +kernel
theorem dX4_copyFrom_135 : decode cX4_copyFrom 135 = .ok (.iconst 0, 1) := by decide +kernel
theorem dX4_copyFrom_136 : decode cX4_copyFrom 136 = .ok (.bipush 10, 2) := by decide +kernel
theorem dX4_copyFrom_138 : decode cX4_copyFrom 138 = .ok (.invokestatic 65, 3) := by decide +kernel
theorem dX4_copyFrom_141 : decode cX4_copyFrom 141 = .ok (.aload_n 1, 1) := by decide +kernel
theorem dX4_copyFrom_142 : decode cX4_copyFrom 142 = .ok (.getfield 31, 3) := by decide +kernel
theorem dX4_copyFrom_145 : decode cX4_copyFrom 145 = .ok (.iconst 0, 1) := by decide +kernel
theorem dX4_copyFrom_146 : decode cX4_copyFrom 146 = .ok (.aload_n 0, 1) := by decide +kernel
theorem dX4_copyFrom_147 : decode cX4_copyFrom 147 = .ok (.getfield 31, 3) := by decide +kernel
theorem dX4_copyFrom_150 : decode cX4_copyFrom 150 = .ok (.iconst 0, 1) := by decide +kernel
theorem dX4_copyFrom_151 : decode cX4_copyFrom 151 = .ok (.iconst 5, 1) := by decide +kernel
theorem dX4_copyFrom_152 : decode cX4_copyFrom 152 = .ok (.invokestatic 65, 3) := by decide +kernel
theorem dX4_copyFrom_155 : decode cX4_copyFrom 155 = .ok (.aload_n 1, 1) := by decide +kernel
theorem dX4_copyFrom_156 : decode cX4_copyFrom 156 = .ok (.getfield 34, 3) := by decide +kernel
theorem dX4_copyFrom_159 : decode cX4_copyFrom 159 = .ok (.iconst 0, 1) := by decide +kernel
theorem dX4_copyFrom_160 : decode cX4_copyFrom 160 = .ok (.aload_n 0, 1) := by decide +kernel
theorem dX4_copyFrom_161 : decode cX4_copyFrom 161 = .ok (.getfield 34, 3) := by decide +kernel
theorem dX4_copyFrom_164 : decode cX4_copyFrom 164 = .ok (.iconst 0, 1) := by decide +kernel
theorem dX4_copyFrom_165 : decode cX4_copyFrom 165 = .ok (.iconst 5, 1) := by decide +kernel
theorem dX4_copyFrom_166 : decode cX4_copyFrom 166 = .ok (.invokestatic 65, 3) := by decide +kernel
theorem dX4_copyFrom_169 : decode cX4_copyFrom 169 = .ok (.aload_n 1, 1) := by decide +kernel
theorem dX4_copyFrom_170 : decode cX4_copyFrom 170 = .ok (.getfield 37, 3) := by decide +kernel
theorem dX4_copyFrom_173 : decode cX4_copyFrom 173 = .ok (.iconst 0, 1) := by decide +kernel
theorem dX4_copyFrom_174 : decode cX4_copyFrom 174 = .ok (.aload_n 0, 1) := by decide +kernel
theorem dX4_copyFrom_175 : decode cX4_copyFrom 175 = .ok (.getfield 37, 3) := by decide +kernel
theorem dX4_copyFrom_178 : decode cX4_copyFrom 178 = .ok (.iconst 0, 1) := by decide +kernel
theorem dX4_copyFrom_179 : decode cX4_copyFrom 179 = .ok (.iconst 5, 1) := by decide +kernel
theorem dX4_copyFrom_180 : decode cX4_copyFrom 180 = .ok (.invokestatic 65, 3) := by decide +kernel
theorem dX4_copyFrom_183 : decode cX4_copyFrom 183 = .ok (.aload_n 1, 1) := by decide +kernel
theorem dX4_copyFrom_184 : decode cX4_copyFrom 184 = .ok (.getfield 40, 3) := by decide +kernel
theorem dX4_copyFrom_187 : decode cX4_copyFrom 187 = .ok (.iconst 0, 1) := by decide +kernel
theorem dX4_copyFrom_188 : decode cX4_copyFrom 188 = .ok (.aload_n 0, 1) := by decide +kernel
theorem dX4_copyFrom_189 : decode cX4_copyFrom 189 = .ok (.getfield 40, 3) := by decide +kernel
theorem dX4_copyFrom_192 : decode cX4_copyFrom 192 = .ok (.iconst 0, 1) := by decide +kernel
theorem dX4_copyFrom_193 : decode cX4_copyFrom 193 = .ok (.iconst 5, 1) := by decide +kernel
theorem dX4_copyFrom_194 : decode cX4_copyFrom 194 = .ok (.invokestatic 65, 3) := by decide +kernel
theorem dX4_copyFrom_197 : decode cX4_copyFrom 197 = .ok (.aload_n 1, 1) := by decide +kernel
theorem dX4_copyFrom_198 : decode cX4_copyFrom 198 = .ok (.getfield 43, 3) := by decide +kernel
theorem dX4_copyFrom_201 : decode cX4_copyFrom 201 = .ok (.iconst 0, 1) := by decide +kernel
theorem dX4_copyFrom_202 : decode cX4_copyFrom 202 = .ok (.aload_n 0, 1) := by decide +kernel
theorem dX4_copyFrom_203 : decode cX4_copyFrom 203 = .ok (.getfield 43, 3) := by decide +kernel
theorem dX4_copyFrom_206 : decode cX4_copyFrom 206 = .ok (.iconst 0, 1) := by decide +kernel
theorem dX4_copyFrom_207 : decode cX4_copyFrom 207 = .ok (.iconst 5, 1) := by decide +kernel
theorem dX4_copyFrom_208 : decode cX4_copyFrom 208 = .ok (.invokestatic 65, 3) := by decide +kernel
theorem dX4_copyFrom_211 : decode cX4_copyFrom 211 = .ok (.aload_n 1, 1) := by decide +kernel
theorem dX4_copyFrom_212 : decode cX4_copyFrom 212 = .ok (.getfield 46, 3) := by decide +kernel
theorem dX4_copyFrom_215 : decode cX4_copyFrom 215 = .ok (.iconst 0, 1) := by decide +kernel
theorem dX4_copyFrom_216 : decode cX4_copyFrom 216 = .ok (.aload_n 0, 1) := by decide +kernel
theorem dX4_copyFrom_217 : decode cX4_copyFrom 217 = .ok (.getfield 46, 3) := by decide +kernel
theorem dX4_copyFrom_220 : decode cX4_copyFrom 220 = .ok (.iconst 0, 1) := by decide +kernel
theorem dX4_copyFrom_221 : decode cX4_copyFrom 221 = .ok (.bipush 50, 2) := by decide +kernel
theorem dX4_copyFrom_223 : decode cX4_copyFrom 223 = .ok (.invokestatic 65, 3) := by decide +kernel
theorem dX4_copyFrom_226 : decode cX4_copyFrom 226 = .ok (.return_, 1) := by decide +kernel
theorem dX4_makeEmpty_0 : decode cX4_makeEmpty 0 = .ok (.aload_n 0, 1) := by decide +kernel
theorem dX4_makeEmpty_1 : decode cX4_makeEmpty 1 = .ok (.iconst 0, 1) := by decide +kernel
theorem dX4_makeEmpty_2 : decode cX4_makeEmpty 2 = .ok (.putfield 49, 3) := by decide +kernel
theorem dX4_makeEmpty_5 : decode cX4_makeEmpty 5 = .ok (.aload_n 0, 1) := by decide +kernel
theorem dX4_makeEmpty_6 : decode cX4_makeEmpty 6 = .ok (.iconst 0, 1) := by decide +kernel
theorem dX4_makeEmpty_7 : decode cX4_makeEmpty 7 = .ok (.putfield 53, 3) := by decide +kernel
theorem dX4_makeEmpty_10 : decode cX4_makeEmpty 10 = .ok (.aload_n 0, 1) := by decide +kernel
theorem dX4_makeEmpty_11 : decode cX4_makeEmpty 11 = .ok (.iconst 0, 1) := by decide +kernel
theorem dX4_makeEmpty_12 : decode cX4_makeEmpty 12 = .ok (.putfield 56, 3) := by decide +kernel
theorem dX4_makeEmpty_15 : decode cX4_makeEmpty 15 = .ok (.aload_n 0, 1) := by decide +kernel
theorem dX4_makeEmpty_16 : decode cX4_makeEmpty 16 = .ok (.iconst 0, 1) := by decide +kernel
theorem dX4_makeEmpty_17 : decode cX4_makeEmpty 17 = .ok (.putfield 59, 3) := by decide +kernel
theorem dX4_makeEmpty_20 : decode cX4_makeEmpty 20 = .ok (.aload_n 0, 1) := by decide +kernel
theorem dX4_makeEmpty_21 : decode cX4_makeEmpty 21 = .ok (.iconst 0, 1) := by decide +kernel
theorem dX4_makeEmpty_22 : decode cX4_makeEmpty 22 = .ok (.putfield 62, 3) := by decide +kernel
theorem dX4_makeEmpty_25 : decode cX4_makeEmpty 25 = .ok (.return_, 1) := by decide +kernel
theorem dX4_addBlock_0 : decode cX4_addBlock 0 = .ok (.aload_n 0, 1) := by decide +kernel
theorem dX4_addBlock_1 : decode cX4_addBlock 1 = .ok (.getfield 53, 3) := by decide +kernel
theorem dX4_addBlock_4 : decode cX4_addBlock 4 = .ok (.istore 4, 2) := by decide +kernel
theorem dX4_addBlock_6 : decode cX4_addBlock 6 = .ok (.iload 4, 2) := by decide +kernel
theorem dX4_addBlock_8 : decode cX4_addBlock 8 = .ok (.bipush 10, 2) := by decide +kernel
theorem dX4_addBlock_10 : decode cX4_addBlock 10 = .ok (.if_icmp .lt 4, 3) := by decide +kernel
theorem dX4_addBlock_13 : decode cX4_addBlock 13 = .ok (.return_, 1) := by decide +kernel
theorem dX4_addBlock_14 : decode cX4_addBlock 14 = .ok (.aload_n 0, 1) := by decide +kernel
theorem dX4_addBlock_15 : decode cX4_addBlock 15 = .ok (.getfield 9, 3) := by decide +kernel
theorem dX4_addBlock_18 : decode cX4_addBlock 18 = .ok (.iload 4, 2) := by decide +kernel
theorem dX4_addBlock_20 : decode cX4_addBlock 20 = .ok (.iload_n 1, 1) := by decide +kernel
theorem dX4_addBlock_21 : decode cX4_addBlock 21 = .ok (.iastore, 1) := by decide +kernel
theorem dX4_addBlock_22 : decode cX4_addBlock 22 = .ok (.aload_n 0, 1) := by decide +kernel
theorem dX4_addBlock_23 : decode cX4_addBlock 23 = .ok (.getfield 15, 3) := by decide +kernel
theorem dX4_addBlock_26 : decode cX4_addBlock 26 = .ok (.iload 4, 2) := by decide +kernel
theorem dX4_addBlock_28 : decode cX4_addBlock 28 = .ok (.iload_n 2, 1) := by decide +kernel
theorem dX4_addBlock_29 : decode cX4_addBlock 29 = .ok (.iastore, 1) := by decide +kernel
theorem dX4_addBlock_30 : decode cX4_addBlock 30 = .ok (.aload_n 0, 1) := by decide +kernel
theorem dX4_addBlock_31 : decode cX4_addBlock 31 = .ok (.getfield 18, 3) := by decide +kernel
theorem dX4_addBlock_34 : decode cX4_addBlock 34 = .ok (.iload 4, 2) := by decide +kernel
theorem dX4_addBlock_36 : decode cX4_addBlock 36 = .ok (.iload_n 3, 1) := by decide +kernel
theorem dX4_addBlock_37 : decode cX4_addBlock 37 = .ok (.iastore, 1) := by decide +kernel
theorem dX4_addBlock_38 : decode cX4_addBlock 38 = .ok (.aload_n 0, 1) := by decide +kernel
theorem dX4_addBlock_39 : decode cX4_addBlock 39 = .ok (.getfield 21, 3) := by decide +kernel
theorem dX4_addBlock_42 : decode cX4_addBlock 42 = .ok (.iload 4, 2) := by decide +kernel
theorem dX4_addBlock_44 : decode cX4_addBlock 44 = .ok (.iconst 0, 1) := by decide +kernel
theorem dX4_addBlock_45 : decode cX4_addBlock 45 = .ok (.bastore, 1) := by decide +kernel
theorem dX4_addBlock_46 : decode cX4_addBlock 46 = .ok (.aload_n 0, 1) := by decide +kernel
theorem dX4_addBlock_47 : decode cX4_addBlock 47 = .ok (.getfield 25, 3) := by decide +kernel
theorem dX4_addBlock_50 : decode cX4_addBlock 50 = .ok (.iload 4, 2) := by decide +kernel
theorem dX4_addBlock_52 : decode cX4_addBlock 52 = .ok (.iconst 0, 1) := by decide +kernel
theorem dX4_addBlock_53 : decode cX4_addBlock 53 = .ok (.iastore, 1) := by decide +kernel
theorem dX4_addBlock_54 : decode cX4_addBlock 54 = .ok (.aload_n 0, 1) := by decide +kernel
theorem dX4_addBlock_55 : decode cX4_addBlock 55 = .ok (.getfield 28, 3) := by decide +kernel
theorem dX4_addBlock_58 : decode cX4_addBlock 58 = .ok (.iload 4, 2) := by decide +kernel
theorem dX4_addBlock_60 : decode cX4_addBlock 60 = .ok (.iconst (-1), 1) := by decide +kernel
theorem dX4_addBlock_61 : decode cX4_addBlock 61 = .ok (.iastore, 1) := by decide +kernel
theorem dX4_addBlock_62 : decode cX4_addBlock 62 = .ok (.aload_n 0, 1) := by decide +kernel
theorem dX4_addBlock_63 : decode cX4_addBlock 63 = .ok (.iload 4, 2) := by decide +kernel
theorem dX4_addBlock_65 : decode cX4_addBlock 65 = .ok (.iconst 1, 1) := by decide +kernel
theorem dX4_addBlock_66 : decode cX4_addBlock 66 = .ok (.iadd, 1) := by decide +kernel
theorem dX4_addBlock_67 : decode cX4_addBlock 67 = .ok (.putfield 53, 3) := by decide +kernel
theorem dX4_addBlock_70 : decode cX4_addBlock 70 = .ok (.return_, 1) := by decide +kernel
theorem dX4_addTrain_0 : decode cX4_addTrain 0 = .ok (.aload_n 0, 1) := by decide +kernel
theorem dX4_addTrain_1 : decode cX4_addTrain 1 = .ok (.getfield 56, 3) := by decide +kernel
theorem dX4_addTrain_4 : decode cX4_addTrain 4 = .ok (.istore 4, 2) := by decide +kernel
theorem dX4_addTrain_6 : decode cX4_addTrain 6 = .ok (.iload 4, 2) := by decide +kernel
theorem dX4_addTrain_8 : decode cX4_addTrain 8 = .ok (.iconst 5, 1) := by decide +kernel
theorem dX4_addTrain_9 : decode cX4_addTrain 9 = .ok (.if_icmp .lt 4, 3) := by decide +kernel
theorem dX4_addTrain_12 : decode cX4_addTrain 12 = .ok (.return_, 1) := by decide +kernel
theorem dX4_addTrain_13 : decode cX4_addTrain 13 = .ok (.aload_n 0, 1) := by decide +kernel
theorem dX4_addTrain_14 : decode cX4_addTrain 14 = .ok (.getfield 31, 3) := by decide +kernel
theorem dX4_addTrain_17 : decode cX4_addTrain 17 = .ok (.iload 4, 2) := by decide +kernel
theorem dX4_addTrain_19 : decode cX4_addTrain 19 = .ok (.iload_n 1, 1) := by decide +kernel
theorem dX4_addTrain_20 : decode cX4_addTrain 20 = .ok (.iastore, 1) := by decide +kernel
theorem dX4_addTrain_21 : decode cX4_addTrain 21 = .ok (.aload_n 0, 1) := by decide +kernel
theorem dX4_addTrain_22 : decode cX4_addTrain 22 = .ok (.getfield 34, 3) := by decide +kernel
theorem dX4_addTrain_25 : decode cX4_addTrain 25 = .ok (.iload 4, 2) := by decide +kernel
theorem dX4_addTrain_27 : decode cX4_addTrain 27 = .ok (.iconst 0, 1) := by decide +kernel
theorem dX4_addTrain_28 : decode cX4_addTrain 28 = .ok (.iastore, 1) := by decide +kernel
theorem dX4_addTrain_29 : decode cX4_addTrain 29 = .ok (.aload_n 0, 1) := by decide +kernel
theorem dX4_addTrain_30 : decode cX4_addTrain 30 = .ok (.getfield 37, 3) := by decide +kernel
theorem dX4_addTrain_33 : decode cX4_addTrain 33 = .ok (.iload 4, 2) := by decide +kernel
theorem dX4_addTrain_35 : decode cX4_addTrain 35 = .ok (.iload_n 2, 1) := by decide +kernel
theorem dX4_addTrain_36 : decode cX4_addTrain 36 = .ok (.iastore, 1) := by decide +kernel
theorem dX4_addTrain_37 : decode cX4_addTrain 37 = .ok (.aload_n 0, 1) := by decide +kernel
theorem dX4_addTrain_38 : decode cX4_addTrain 38 = .ok (.getfield 40, 3) := by decide +kernel
theorem dX4_addTrain_41 : decode cX4_addTrain 41 = .ok (.iload 4, 2) := by decide +kernel
theorem dX4_addTrain_43 : decode cX4_addTrain 43 = .ok (.iload_n 3, 1) := by decide +kernel
theorem dX4_addTrain_44 : decode cX4_addTrain 44 = .ok (.iastore, 1) := by decide +kernel
theorem dX4_addTrain_45 : decode cX4_addTrain 45 = .ok (.aload_n 0, 1) := by decide +kernel
theorem dX4_addTrain_46 : decode cX4_addTrain 46 = .ok (.getfield 43, 3) := by decide +kernel
theorem dX4_addTrain_49 : decode cX4_addTrain 49 = .ok (.iload 4, 2) := by decide +kernel
theorem dX4_addTrain_51 : decode cX4_addTrain 51 = .ok (.iconst 0, 1) := by decide +kernel
theorem dX4_addTrain_52 : decode cX4_addTrain 52 = .ok (.iastore, 1) := by decide +kernel
theorem dX4_addTrain_53 : decode cX4_addTrain 53 = .ok (.iconst 0, 1) := by decide +kernel
theorem dX4_addTrain_54 : decode cX4_addTrain 54 = .ok (.istore 5, 2) := by decide +kernel
theorem dX4_addTrain_56 : decode cX4_addTrain 56 = .ok (.iload 5, 2) := by decide +kernel
theorem dX4_addTrain_58 : decode cX4_addTrain 58 = .ok (.bipush 10, 2) := by decide +kernel
theorem dX4_addTrain_60 : decode cX4_addTrain 60 = .ok (.if_icmp .ge 23, 3) := by decide +kernel
theorem dX4_addTrain_63 : decode cX4_addTrain 63 = .ok (.aload_n 0, 1) := by decide +kernel
theorem dX4_addTrain_64 : decode cX4_addTrain 64 = .ok (.getfield 46, 3) := by decide +kernel
theorem dX4_addTrain_67 : decode cX4_addTrain 67 = .ok (.iload 4, 2) := by decide +kernel
theorem dX4_addTrain_69 : decode cX4_addTrain 69 = .ok (.bipush 10, 2) := by decide +kernel
theorem dX4_addTrain_71 : decode cX4_addTrain 71 = .ok (.imul, 1) := by decide +kernel
theorem dX4_addTrain_72 : decode cX4_addTrain 72 = .ok (.iload 5, 2) := by decide +kernel
theorem dX4_addTrain_74 : decode cX4_addTrain 74 = .ok (.iadd, 1) := by decide +kernel
theorem dX4_addTrain_75 : decode cX4_addTrain 75 = .ok (.iconst 0, 1) := by decide +kernel
theorem dX4_addTrain_76 : decode cX4_addTrain 76 = .ok (.iastore, 1) := by decide +kernel
theorem dX4_addTrain_77 : decode cX4_addTrain 77 = .ok (.iinc 5 1, 3) := by decide +kernel
theorem dX4_addTrain_80 : decode cX4_addTrain 80 = .ok (.goto (-24), 3) := by decide +kernel
theorem dX4_addTrain_83 : decode cX4_addTrain 83 = .ok (.aload_n 0, 1) := by decide +kernel
theorem dX4_addTrain_84 : decode cX4_addTrain 84 = .ok (.getfield 28, 3) := by decide +kernel
theorem dX4_addTrain_87 : decode cX4_addTrain 87 = .ok (.iload_n 1, 1) := by decide +kernel
theorem dX4_addTrain_88 : decode cX4_addTrain 88 = .ok (.iload 4, 2) := by decide +kernel
theorem dX4_addTrain_90 : decode cX4_addTrain 90 = .ok (.iastore, 1) := by decide +kernel
theorem dX4_addTrain_91 : decode cX4_addTrain 91 = .ok (.aload_n 0, 1) := by decide +kernel
theorem dX4_addTrain_92 : decode cX4_addTrain 92 = .ok (.dup, 1) := by decide +kernel
theorem dX4_addTrain_93 : decode cX4_addTrain 93 = .ok (.getfield 62, 3) := by decide +kernel
theorem dX4_addTrain_96 : decode cX4_addTrain 96 = .ok (.iload_n 2, 1) := by decide +kernel
theorem dX4_addTrain_97 : decode cX4_addTrain 97 = .ok (.iadd, 1) := by decide +kernel
theorem dX4_addTrain_98 : decode cX4_addTrain 98 = .ok (.putfield 62, 3) := by decide +kernel
theorem dX4_addTrain_101 : decode cX4_addTrain 101 = .ok (.aload_n 0, 1) := by decide +kernel
theorem dX4_addTrain_102 : decode cX4_addTrain 102 = .ok (.iload 4, 2) := by decide +kernel
theorem dX4_addTrain_104 : decode cX4_addTrain 104 = .ok (.iconst 1, 1) := by decide +kernel
theorem dX4_addTrain_105 : decode cX4_addTrain 105 = .ok (.iadd, 1) := by decide +kernel
theorem dX4_addTrain_106 : decode cX4_addTrain 106 = .ok (.putfield 56, 3) := by decide +kernel
theorem dX4_addTrain_109 : decode cX4_addTrain 109 = .ok (.return_, 1) := by decide +kernel
theorem dX4_bends_0 : decode cX4_bends 0 = .ok (.aload_n 0, 1) := by decide +kernel
theorem dX4_bends_1 : decode cX4_bends 1 = .ok (.getfield 18, 3) := by decide +kernel
theorem dX4_bends_4 : decode cX4_bends 4 = .ok (.iload_n 1, 1) := by decide +kernel
theorem dX4_bends_5 : decode cX4_bends 5 = .ok (.iaload, 1) := by decide +kernel
theorem dX4_bends_6 : decode cX4_bends 6 = .ok (.ifCond .eq 7, 3) := by decide +kernel
theorem dX4_bends_9 : decode cX4_bends 9 = .ok (.iconst 1, 1) := by decide +kernel
theorem dX4_bends_10 : decode cX4_bends 10 = .ok (.goto 4, 3) := by decide +kernel
theorem dX4_bends_13 : decode cX4_bends 13 = .ok (.iconst 0, 1) := by decide +kernel
theorem dX4_bends_14 : decode cX4_bends 14 = .ok (.ireturn, 1) := by decide +kernel
theorem dX4_speedLimit_0 : decode cX4_speedLimit 0 = .ok (.aload_n 0, 1) := by decide +kernel
theorem dX4_speedLimit_1 : decode cX4_speedLimit 1 = .ok (.getfield 18, 3) := by decide +kernel
theorem dX4_speedLimit_4 : decode cX4_speedLimit 4 = .ok (.iload_n 1, 1) := by decide +kernel
theorem dX4_speedLimit_5 : decode cX4_speedLimit 5 = .ok (.iaload, 1) := by decide +kernel
theorem dX4_speedLimit_6 : decode cX4_speedLimit 6 = .ok (.ifCond .ne 7, 3) := by decide +kernel
theorem dX4_speedLimit_9 : decode cX4_speedLimit 9 = .ok (.iconst 5, 1) := by decide +kernel
theorem dX4_speedLimit_10 : decode cX4_speedLimit 10 = .ok (.goto 9, 3) := by decide +kernel
theorem dX4_speedLimit_13 : decode cX4_speedLimit 13 = .ok (.aload_n 0, 1) := by decide +kernel
theorem dX4_speedLimit_14 : decode cX4_speedLimit 14 = .ok (.getfield 18, 3) := by decide +kernel
theorem dX4_speedLimit_17 : decode cX4_speedLimit 17 = .ok (.iload_n 1, 1) := by decide +kernel
theorem dX4_speedLimit_18 : decode cX4_speedLimit 18 = .ok (.iaload, 1) := by decide +kernel
theorem dX4_speedLimit_19 : decode cX4_speedLimit 19 = .ok (.ireturn, 1) := by decide +kernel
theorem dX4_speedNow_0 : decode cX4_speedNow 0 = .ok (.aload_n 0, 1) := by decide +kernel
theorem dX4_speedNow_1 : decode cX4_speedNow 1 = .ok (.getfield 40, 3) := by decide +kernel
theorem dX4_speedNow_4 : decode cX4_speedNow 4 = .ok (.iload_n 1, 1) := by decide +kernel
theorem dX4_speedNow_5 : decode cX4_speedNow 5 = .ok (.iaload, 1) := by decide +kernel
theorem dX4_speedNow_6 : decode cX4_speedNow 6 = .ok (.aload_n 0, 1) := by decide +kernel
theorem dX4_speedNow_7 : decode cX4_speedNow 7 = .ok (.aload_n 0, 1) := by decide +kernel
theorem dX4_speedNow_8 : decode cX4_speedNow 8 = .ok (.getfield 31, 3) := by decide +kernel
theorem dX4_speedNow_11 : decode cX4_speedNow 11 = .ok (.iload_n 1, 1) := by decide +kernel
theorem dX4_speedNow_12 : decode cX4_speedNow 12 = .ok (.iaload, 1) := by decide +kernel
theorem dX4_speedNow_13 : decode cX4_speedNow 13 = .ok (.invokevirtual 71, 3) := by decide +kernel
theorem dX4_speedNow_16 : decode cX4_speedNow 16 = .ok (.invokestatic 75, 3) := by decide +kernel
theorem dX4_speedNow_19 : decode cX4_speedNow 19 = .ok (.ireturn, 1) := by decide +kernel
theorem dX4_passagesOf_0 : decode cX4_passagesOf 0 = .ok (.aload_n 0, 1) := by decide +kernel
theorem dX4_passagesOf_1 : decode cX4_passagesOf 1 = .ok (.getfield 46, 3) := by decide +kernel
theorem dX4_passagesOf_4 : decode cX4_passagesOf 4 = .ok (.iload_n 1, 1) := by decide +kernel
theorem dX4_passagesOf_5 : decode cX4_passagesOf 5 = .ok (.bipush 10, 2) := by decide +kernel
theorem dX4_passagesOf_7 : decode cX4_passagesOf 7 = .ok (.imul, 1) := by decide +kernel
theorem dX4_passagesOf_8 : decode cX4_passagesOf 8 = .ok (.iload_n 2, 1) := by decide +kernel
theorem dX4_passagesOf_9 : decode cX4_passagesOf 9 = .ok (.iadd, 1) := by decide +kernel
theorem dX4_passagesOf_10 : decode cX4_passagesOf 10 = .ok (.iaload, 1) := by decide +kernel
theorem dX4_passagesOf_11 : decode cX4_passagesOf 11 = .ok (.ireturn, 1) := by decide +kernel
theorem dX4_nextBlock_0 : decode cX4_nextBlock 0 = .ok (.iload_n 1, 1) := by decide +kernel
theorem dX4_nextBlock_1 : decode cX4_nextBlock 1 = .ok (.iconst 1, 1) := by decide +kernel
theorem dX4_nextBlock_2 : decode cX4_nextBlock 2 = .ok (.iadd, 1) := by decide +kernel
theorem dX4_nextBlock_3 : decode cX4_nextBlock 3 = .ok (.aload_n 0, 1) := by decide +kernel
theorem dX4_nextBlock_4 : decode cX4_nextBlock 4 = .ok (.getfield 53, 3) := by decide +kernel
theorem dX4_nextBlock_7 : decode cX4_nextBlock 7 = .ok (.if_icmp .ge 9, 3) := by decide +kernel
theorem dX4_nextBlock_10 : decode cX4_nextBlock 10 = .ok (.iload_n 1, 1) := by decide +kernel
theorem dX4_nextBlock_11 : decode cX4_nextBlock 11 = .ok (.iconst 1, 1) := by decide +kernel
theorem dX4_nextBlock_12 : decode cX4_nextBlock 12 = .ok (.iadd, 1) := by decide +kernel
theorem dX4_nextBlock_13 : decode cX4_nextBlock 13 = .ok (.goto 4, 3) := by decide +kernel
theorem dX4_nextBlock_16 : decode cX4_nextBlock 16 = .ok (.iconst 0, 1) := by decide +kernel
theorem dX4_nextBlock_17 : decode cX4_nextBlock 17 = .ok (.ireturn, 1) := by decide +kernel
theorem dX4_occupied_0 : decode cX4_occupied 0 = .ok (.aload_n 0, 1) := by decide +kernel
theorem dX4_occupied_1 : decode cX4_occupied 1 = .ok (.getfield 28, 3) := by decide +kernel
theorem dX4_occupied_4 : decode cX4_occupied 4 = .ok (.iload_n 1, 1) := by decide +kernel
theorem dX4_occupied_5 : decode cX4_occupied 5 = .ok (.iaload, 1) := by decide +kernel
theorem dX4_occupied_6 : decode cX4_occupied 6 = .ok (.iconst (-1), 1) := by decide +kernel
theorem dX4_occupied_7 : decode cX4_occupied 7 = .ok (.if_icmp .ne 12, 3) := by decide +kernel
theorem dX4_occupied_10 : decode cX4_occupied 10 = .ok (.aload_n 0, 1) := by decide +kernel
theorem dX4_occupied_11 : decode cX4_occupied 11 = .ok (.getfield 25, 3) := by decide +kernel
theorem dX4_occupied_14 : decode cX4_occupied 14 = .ok (.iload_n 1, 1) := by decide +kernel
theorem dX4_occupied_15 : decode cX4_occupied 15 = .ok (.iaload, 1) := by decide +kernel
theorem dX4_occupied_16 : decode cX4_occupied 16 = .ok (.ifCond .le 7, 3) := by decide +kernel
theorem dX4_occupied_19 : decode cX4_occupied 19 = .ok (.iconst 1, 1) := by decide +kernel
theorem dX4_occupied_20 : decode cX4_occupied 20 = .ok (.goto 4, 3) := by decide +kernel
theorem dX4_occupied_23 : decode cX4_occupied 23 = .ok (.iconst 0, 1) := by decide +kernel
theorem dX4_occupied_24 : decode cX4_occupied 24 = .ok (.ireturn, 1) := by decide +kernel
theorem dX4_opensTo_0 : decode cX4_opensTo 0 = .ok (.aload_n 0, 1) := by decide +kernel
theorem dX4_opensTo_1 : decode cX4_opensTo 1 = .ok (.getfield 21, 3) := by decide +kernel
theorem dX4_opensTo_4 : decode cX4_opensTo 4 = .ok (.iload_n 1, 1) := by decide +kernel
theorem dX4_opensTo_5 : decode cX4_opensTo 5 = .ok (.baload, 1) := by decide +kernel
theorem dX4_opensTo_6 : decode cX4_opensTo 6 = .ok (.ifCond .eq 15, 3) := by decide +kernel
theorem dX4_opensTo_9 : decode cX4_opensTo 9 = .ok (.aload_n 0, 1) := by decide +kernel
theorem dX4_opensTo_10 : decode cX4_opensTo 10 = .ok (.iload_n 1, 1) := by decide +kernel
theorem dX4_opensTo_11 : decode cX4_opensTo 11 = .ok (.invokevirtual 81, 3) := by decide +kernel
theorem dX4_opensTo_14 : decode cX4_opensTo 14 = .ok (.ifCond .ne 7, 3) := by decide +kernel
theorem dX4_opensTo_17 : decode cX4_opensTo 17 = .ok (.iconst 1, 1) := by decide +kernel
theorem dX4_opensTo_18 : decode cX4_opensTo 18 = .ok (.goto 4, 3) := by decide +kernel
theorem dX4_opensTo_21 : decode cX4_opensTo 21 = .ok (.iconst 0, 1) := by decide +kernel
theorem dX4_opensTo_22 : decode cX4_opensTo 22 = .ok (.ireturn, 1) := by decide +kernel
theorem dX4_leverObstacle_0 : decode cX4_leverObstacle 0 = .ok (.aload_n 0, 1) := by decide +kernel
theorem dX4_leverObstacle_1 : decode cX4_leverObstacle 1 = .ok (.getfield 28, 3) := by decide +kernel
theorem dX4_leverObstacle_4 : decode cX4_leverObstacle 4 = .ok (.iload_n 1, 1) := by decide +kernel
theorem dX4_leverObstacle_5 : decode cX4_leverObstacle 5 = .ok (.iaload, 1) := by decide +kernel
theorem dX4_leverObstacle_6 : decode cX4_leverObstacle 6 = .ok (.iconst (-1), 1) := by decide +kernel
theorem dX4_leverObstacle_7 : decode cX4_leverObstacle 7 = .ok (.if_icmp .eq 5, 3) := by decide +kernel
theorem dX4_leverObstacle_10 : decode cX4_leverObstacle 10 = .ok (.iconst 1, 1) := by decide +kernel
theorem dX4_leverObstacle_11 : decode cX4_leverObstacle 11 = .ok (.ireturn, 1) := by decide +kernel
theorem dX4_leverObstacle_12 : decode cX4_leverObstacle 12 = .ok (.aload_n 0, 1) := by decide +kernel
theorem dX4_leverObstacle_13 : decode cX4_leverObstacle 13 = .ok (.getfield 25, 3) := by decide +kernel
theorem dX4_leverObstacle_16 : decode cX4_leverObstacle 16 = .ok (.iload_n 1, 1) := by decide +kernel
theorem dX4_leverObstacle_17 : decode cX4_leverObstacle 17 = .ok (.iaload, 1) := by decide +kernel
theorem dX4_leverObstacle_18 : decode cX4_leverObstacle 18 = .ok (.ifCond .le 5, 3) := by decide +kernel
theorem dX4_leverObstacle_21 : decode cX4_leverObstacle 21 = .ok (.iconst 2, 1) := by decide +kernel
theorem dX4_leverObstacle_22 : decode cX4_leverObstacle 22 = .ok (.ireturn, 1) := by decide +kernel
theorem dX4_leverObstacle_23 : decode cX4_leverObstacle 23 = .ok (.aload_n 0, 1) := by decide +kernel
theorem dX4_leverObstacle_24 : decode cX4_leverObstacle 24 = .ok (.getfield 21, 3) := by decide +kernel
theorem dX4_leverObstacle_27 : decode cX4_leverObstacle 27 = .ok (.iload_n 1, 1) := by decide +kernel
theorem dX4_leverObstacle_28 : decode cX4_leverObstacle 28 = .ok (.baload, 1) := by decide +kernel
theorem dX4_leverObstacle_29 : decode cX4_leverObstacle 29 = .ok (.ifCond .eq 5, 3) := by decide +kernel
theorem dX4_leverObstacle_32 : decode cX4_leverObstacle 32 = .ok (.iconst 3, 1) := by decide +kernel
theorem dX4_leverObstacle_33 : decode cX4_leverObstacle 33 = .ok (.ireturn, 1) := by decide +kernel
theorem dX4_leverObstacle_34 : decode cX4_leverObstacle 34 = .ok (.aload_n 0, 1) := by decide +kernel
theorem dX4_leverObstacle_35 : decode cX4_leverObstacle 35 = .ok (.iload_n 1, 1) := by decide +kernel
theorem dX4_leverObstacle_36 : decode cX4_leverObstacle 36 = .ok (.invokevirtual 85, 3) := by decide +kernel
theorem dX4_leverObstacle_39 : decode cX4_leverObstacle 39 = .ok (.ifCond .eq 19, 3) := by decide +kernel
theorem dX4_leverObstacle_42 : decode cX4_leverObstacle 42 = .ok (.aload_n 0, 1) := by decide +kernel
theorem dX4_leverObstacle_43 : decode cX4_leverObstacle 43 = .ok (.aload_n 0, 1) := by decide +kernel
theorem dX4_leverObstacle_44 : decode cX4_leverObstacle 44 = .ok (.iload_n 1, 1) := by decide +kernel
theorem dX4_leverObstacle_45 : decode cX4_leverObstacle 45 = .ok (.invokevirtual 88, 3) := by decide +kernel
theorem dX4_leverObstacle_48 : decode cX4_leverObstacle 48 = .ok (.invokevirtual 81, 3) := by decide +kernel
theorem dX4_leverObstacle_51 : decode cX4_leverObstacle 51 = .ok (.ifCond .eq 7, 3) := by decide +kernel
theorem dX4_leverObstacle_54 : decode cX4_leverObstacle 54 = .ok (.iconst 4, 1) := by decide +kernel
theorem dX4_leverObstacle_55 : decode cX4_leverObstacle 55 = .ok (.goto 4, 3) := by decide +kernel
theorem dX4_leverObstacle_58 : decode cX4_leverObstacle 58 = .ok (.iconst 0, 1) := by decide +kernel
theorem dX4_leverObstacle_59 : decode cX4_leverObstacle 59 = .ok (.ireturn, 1) := by decide +kernel
theorem dX4_clearSignals_0 : decode cX4_clearSignals 0 = .ok (.iconst 0, 1) := by decide +kernel
theorem dX4_clearSignals_1 : decode cX4_clearSignals 1 = .ok (.istore_n 1, 1) := by decide +kernel
theorem dX4_clearSignals_2 : decode cX4_clearSignals 2 = .ok (.iconst 0, 1) := by decide +kernel
theorem dX4_clearSignals_3 : decode cX4_clearSignals 3 = .ok (.istore_n 2, 1) := by decide +kernel
theorem dX4_clearSignals_4 : decode cX4_clearSignals 4 = .ok (.iload_n 2, 1) := by decide +kernel
theorem dX4_clearSignals_5 : decode cX4_clearSignals 5 = .ok (.aload_n 0, 1) := by decide +kernel
theorem dX4_clearSignals_6 : decode cX4_clearSignals 6 = .ok (.getfield 53, 3) := by decide +kernel
theorem dX4_clearSignals_9 : decode cX4_clearSignals 9 = .ok (.if_icmp .ge 21, 3) := by decide +kernel
theorem dX4_clearSignals_12 : decode cX4_clearSignals 12 = .ok (.aload_n 0, 1) := by decide +kernel
theorem dX4_clearSignals_13 : decode cX4_clearSignals 13 = .ok (.getfield 21, 3) := by decide +kernel
theorem dX4_clearSignals_16 : decode cX4_clearSignals 16 = .ok (.iload_n 2, 1) := by decide +kernel
theorem dX4_clearSignals_17 : decode cX4_clearSignals 17 = .ok (.baload, 1) := by decide +kernel
theorem dX4_clearSignals_18 : decode cX4_clearSignals 18 = .ok (.ifCond .eq 6, 3) := by decide +kernel
theorem dX4_clearSignals_21 : decode cX4_clearSignals 21 = .ok (.iinc 1 1, 3) := by decide +kernel
theorem dX4_clearSignals_24 : decode cX4_clearSignals 24 = .ok (.iinc 2 1, 3) := by decide +kernel
theorem dX4_clearSignals_27 : decode cX4_clearSignals 27 = .ok (.goto (-23), 3) := by decide +kernel
theorem dX4_clearSignals_30 : decode cX4_clearSignals 30 = .ok (.iload_n 1, 1) := by decide +kernel
theorem dX4_clearSignals_31 : decode cX4_clearSignals 31 = .ok (.ireturn, 1) := by decide +kernel
theorem dX4_sumOfWagons_0 : decode cX4_sumOfWagons 0 = .ok (.iconst 0, 1) := by decide +kernel
theorem dX4_sumOfWagons_1 : decode cX4_sumOfWagons 1 = .ok (.istore_n 1, 1) := by decide +kernel
theorem dX4_sumOfWagons_2 : decode cX4_sumOfWagons 2 = .ok (.iconst 0, 1) := by decide +kernel
theorem dX4_sumOfWagons_3 : decode cX4_sumOfWagons 3 = .ok (.istore_n 2, 1) := by decide +kernel
theorem dX4_sumOfWagons_4 : decode cX4_sumOfWagons 4 = .ok (.iload_n 2, 1) := by decide +kernel
theorem dX4_sumOfWagons_5 : decode cX4_sumOfWagons 5 = .ok (.aload_n 0, 1) := by decide +kernel
theorem dX4_sumOfWagons_6 : decode cX4_sumOfWagons 6 = .ok (.getfield 56, 3) := by decide +kernel
theorem dX4_sumOfWagons_9 : decode cX4_sumOfWagons 9 = .ok (.if_icmp .ge 18, 3) := by decide +kernel
theorem dX4_sumOfWagons_12 : decode cX4_sumOfWagons 12 = .ok (.iload_n 1, 1) := by decide +kernel
theorem dX4_sumOfWagons_13 : decode cX4_sumOfWagons 13 = .ok (.aload_n 0, 1) := by decide +kernel
theorem dX4_sumOfWagons_14 : decode cX4_sumOfWagons 14 = .ok (.getfield 37, 3) := by decide +kernel
theorem dX4_sumOfWagons_17 : decode cX4_sumOfWagons 17 = .ok (.iload_n 2, 1) := by decide +kernel
theorem dX4_sumOfWagons_18 : decode cX4_sumOfWagons 18 = .ok (.iaload, 1) := by decide +kernel
theorem dX4_sumOfWagons_19 : decode cX4_sumOfWagons 19 = .ok (.iadd, 1) := by decide +kernel
theorem dX4_sumOfWagons_20 : decode cX4_sumOfWagons 20 = .ok (.istore_n 1, 1) := by decide +kernel
theorem dX4_sumOfWagons_21 : decode cX4_sumOfWagons 21 = .ok (.iinc 2 1, 3) := by decide +kernel
theorem dX4_sumOfWagons_24 : decode cX4_sumOfWagons 24 = .ok (.goto (-20), 3) := by decide +kernel
theorem dX4_sumOfWagons_27 : decode cX4_sumOfWagons 27 = .ok (.iload_n 1, 1) := by decide +kernel
theorem dX4_sumOfWagons_28 : decode cX4_sumOfWagons 28 = .ok (.ireturn, 1) := by decide +kernel
theorem dX4_sumOfLost_0 : decode cX4_sumOfLost 0 = .ok (.iconst 0, 1) := by decide +kernel
theorem dX4_sumOfLost_1 : decode cX4_sumOfLost 1 = .ok (.istore_n 1, 1) := by decide +kernel
theorem dX4_sumOfLost_2 : decode cX4_sumOfLost 2 = .ok (.iconst 0, 1) := by decide +kernel
theorem dX4_sumOfLost_3 : decode cX4_sumOfLost 3 = .ok (.istore_n 2, 1) := by decide +kernel
theorem dX4_sumOfLost_4 : decode cX4_sumOfLost 4 = .ok (.iload_n 2, 1) := by decide +kernel
theorem dX4_sumOfLost_5 : decode cX4_sumOfLost 5 = .ok (.aload_n 0, 1) := by decide +kernel
theorem dX4_sumOfLost_6 : decode cX4_sumOfLost 6 = .ok (.getfield 53, 3) := by decide +kernel
theorem dX4_sumOfLost_9 : decode cX4_sumOfLost 9 = .ok (.if_icmp .ge 18, 3) := by decide +kernel
theorem dX4_sumOfLost_12 : decode cX4_sumOfLost 12 = .ok (.iload_n 1, 1) := by decide +kernel
theorem dX4_sumOfLost_13 : decode cX4_sumOfLost 13 = .ok (.aload_n 0, 1) := by decide +kernel
theorem dX4_sumOfLost_14 : decode cX4_sumOfLost 14 = .ok (.getfield 25, 3) := by decide +kernel
theorem dX4_sumOfLost_17 : decode cX4_sumOfLost 17 = .ok (.iload_n 2, 1) := by decide +kernel
theorem dX4_sumOfLost_18 : decode cX4_sumOfLost 18 = .ok (.iaload, 1) := by decide +kernel
theorem dX4_sumOfLost_19 : decode cX4_sumOfLost 19 = .ok (.iadd, 1) := by decide +kernel
theorem dX4_sumOfLost_20 : decode cX4_sumOfLost 20 = .ok (.istore_n 1, 1) := by decide +kernel
theorem dX4_sumOfLost_21 : decode cX4_sumOfLost 21 = .ok (.iinc 2 1, 3) := by decide +kernel
theorem dX4_sumOfLost_24 : decode cX4_sumOfLost 24 = .ok (.goto (-20), 3) := by decide +kernel
theorem dX4_sumOfLost_27 : decode cX4_sumOfLost 27 = .ok (.iload_n 1, 1) := by decide +kernel
theorem dX4_sumOfLost_28 : decode cX4_sumOfLost 28 = .ok (.ireturn, 1) := by decide +kernel
theorem dX4_pass_0 : decode cX4_pass 0 = .ok (.iconst 0, 1) := by decide +kernel
theorem dX4_pass_1 : decode cX4_pass 1 = .ok (.istore_n 2, 1) := by decide +kernel
theorem dX4_pass_2 : decode cX4_pass 2 = .ok (.iconst 0, 1) := by decide +kernel
theorem dX4_pass_3 : decode cX4_pass 3 = .ok (.istore_n 3, 1) := by decide +kernel
theorem dX4_pass_4 : decode cX4_pass 4 = .ok (.iload_n 3, 1) := by decide +kernel
theorem dX4_pass_5 : decode cX4_pass 5 = .ok (.iload_n 1, 1) := by decide +kernel
theorem dX4_pass_6 : decode cX4_pass 6 = .ok (.if_icmp .ge 49, 3) := by decide +kernel
theorem dX4_pass_9 : decode cX4_pass 9 = .ok (.aload_n 0, 1) := by decide +kernel
theorem dX4_pass_10 : decode cX4_pass 10 = .ok (.dup, 1) := by decide +kernel
theorem dX4_pass_11 : decode cX4_pass 11 = .ok (.getfield 49, 3) := by decide +kernel
theorem dX4_pass_14 : decode cX4_pass 14 = .ok (.iconst 1, 1) := by decide +kernel
theorem dX4_pass_15 : decode cX4_pass 15 = .ok (.iadd, 1) := by decide +kernel
theorem dX4_pass_16 : decode cX4_pass 16 = .ok (.putfield 49, 3) := by decide +kernel
theorem dX4_pass_19 : decode cX4_pass 19 = .ok (.iconst 0, 1) := by decide +kernel
theorem dX4_pass_20 : decode cX4_pass 20 = .ok (.istore 4, 2) := by decide +kernel
theorem dX4_pass_22 : decode cX4_pass 22 = .ok (.iload 4, 2) := by decide +kernel
theorem dX4_pass_24 : decode cX4_pass 24 = .ok (.aload_n 0, 1) := by decide +kernel
theorem dX4_pass_25 : decode cX4_pass 25 = .ok (.getfield 56, 3) := by decide +kernel
theorem dX4_pass_28 : decode cX4_pass 28 = .ok (.if_icmp .ge 21, 3) := by decide +kernel
theorem dX4_pass_31 : decode cX4_pass 31 = .ok (.aload_n 0, 1) := by decide +kernel
theorem dX4_pass_32 : decode cX4_pass 32 = .ok (.iload 4, 2) := by decide +kernel
theorem dX4_pass_34 : decode cX4_pass 34 = .ok (.invokevirtual 91, 3) := by decide +kernel
theorem dX4_pass_37 : decode cX4_pass 37 = .ok (.ifCond .eq 6, 3) := by decide +kernel
theorem dX4_pass_40 : decode cX4_pass 40 = .ok (.iinc 2 1, 3) := by decide +kernel
theorem dX4_pass_43 : decode cX4_pass 43 = .ok (.iinc 4 1, 3) := by decide +kernel
theorem dX4_pass_46 : decode cX4_pass 46 = .ok (.goto (-24), 3) := by decide +kernel
theorem dX4_pass_49 : decode cX4_pass 49 = .ok (.iinc 3 1, 3) := by decide +kernel
theorem dX4_pass_52 : decode cX4_pass 52 = .ok (.goto (-48), 3) := by decide +kernel
theorem dX4_pass_55 : decode cX4_pass 55 = .ok (.iload_n 2, 1) := by decide +kernel
theorem dX4_pass_56 : decode cX4_pass 56 = .ok (.ireturn, 1) := by decide +kernel
theorem dX4_move_0 : decode cX4_move 0 = .ok (.aload_n 0, 1) := by decide +kernel
theorem dX4_move_1 : decode cX4_move 1 = .ok (.getfield 31, 3) := by decide +kernel
theorem dX4_move_4 : decode cX4_move 4 = .ok (.iload_n 1, 1) := by decide +kernel
theorem dX4_move_5 : decode cX4_move 5 = .ok (.iaload, 1) := by decide +kernel
theorem dX4_move_6 : decode cX4_move 6 = .ok (.istore_n 2, 1) := by decide +kernel
theorem dX4_move_7 : decode cX4_move 7 = .ok (.aload_n 0, 1) := by decide +kernel
theorem dX4_move_8 : decode cX4_move 8 = .ok (.iload_n 1, 1) := by decide +kernel
theorem dX4_move_9 : decode cX4_move 9 = .ok (.invokevirtual 94, 3) := by decide +kernel
theorem dX4_move_12 : decode cX4_move 12 = .ok (.istore_n 3, 1) := by decide +kernel
theorem dX4_move_13 : decode cX4_move 13 = .ok (.aload_n 0, 1) := by decide +kernel
theorem dX4_move_14 : decode cX4_move 14 = .ok (.getfield 34, 3) := by decide +kernel
theorem dX4_move_17 : decode cX4_move 17 = .ok (.iload_n 1, 1) := by decide +kernel
theorem dX4_move_18 : decode cX4_move 18 = .ok (.aload_n 0, 1) := by decide +kernel
theorem dX4_move_19 : decode cX4_move 19 = .ok (.getfield 34, 3) := by decide +kernel
theorem dX4_move_22 : decode cX4_move 22 = .ok (.iload_n 1, 1) := by decide +kernel
theorem dX4_move_23 : decode cX4_move 23 = .ok (.iaload, 1) := by decide +kernel
theorem dX4_move_24 : decode cX4_move 24 = .ok (.iload_n 3, 1) := by decide +kernel
theorem dX4_move_25 : decode cX4_move 25 = .ok (.iadd, 1) := by decide +kernel
theorem dX4_move_26 : decode cX4_move 26 = .ok (.aload_n 0, 1) := by decide +kernel
theorem dX4_move_27 : decode cX4_move 27 = .ok (.getfield 9, 3) := by decide +kernel
theorem dX4_move_30 : decode cX4_move 30 = .ok (.iload_n 2, 1) := by decide +kernel
theorem dX4_move_31 : decode cX4_move 31 = .ok (.iaload, 1) := by decide +kernel
theorem dX4_move_32 : decode cX4_move 32 = .ok (.invokestatic 75, 3) := by decide +kernel
theorem dX4_move_35 : decode cX4_move 35 = .ok (.iastore, 1) := by decide +kernel
theorem dX4_move_36 : decode cX4_move 36 = .ok (.aload_n 0, 1) := by decide +kernel
theorem dX4_move_37 : decode cX4_move 37 = .ok (.getfield 34, 3) := by decide +kernel
theorem dX4_move_40 : decode cX4_move 40 = .ok (.iload_n 1, 1) := by decide +kernel
theorem dX4_move_41 : decode cX4_move 41 = .ok (.iaload, 1) := by decide +kernel
theorem dX4_move_42 : decode cX4_move 42 = .ok (.aload_n 0, 1) := by decide +kernel
theorem dX4_move_43 : decode cX4_move 43 = .ok (.getfield 9, 3) := by decide +kernel
theorem dX4_move_46 : decode cX4_move 46 = .ok (.iload_n 2, 1) := by decide +kernel
theorem dX4_move_47 : decode cX4_move 47 = .ok (.iaload, 1) := by decide +kernel
theorem dX4_move_48 : decode cX4_move 48 = .ok (.if_icmp .ge 5, 3) := by decide +kernel
theorem dX4_move_51 : decode cX4_move 51 = .ok (.iconst 0, 1) := by decide +kernel
theorem dX4_move_52 : decode cX4_move 52 = .ok (.ireturn, 1) := by decide +kernel
theorem dX4_move_53 : decode cX4_move 53 = .ok (.aload_n 0, 1) := by decide +kernel
theorem dX4_move_54 : decode cX4_move 54 = .ok (.iload_n 2, 1) := by decide +kernel
theorem dX4_move_55 : decode cX4_move 55 = .ok (.invokevirtual 88, 3) := by decide +kernel
theorem dX4_move_58 : decode cX4_move 58 = .ok (.istore 4, 2) := by decide +kernel
theorem dX4_move_60 : decode cX4_move 60 = .ok (.aload_n 0, 1) := by decide +kernel
theorem dX4_move_61 : decode cX4_move 61 = .ok (.iload 4, 2) := by decide +kernel
theorem dX4_move_63 : decode cX4_move 63 = .ok (.invokevirtual 97, 3) := by decide +kernel
theorem dX4_move_66 : decode cX4_move 66 = .ok (.ifCond .ne 15, 3) := by decide +kernel
theorem dX4_move_69 : decode cX4_move 69 = .ok (.aload_n 0, 1) := by decide +kernel
theorem dX4_move_70 : decode cX4_move 70 = .ok (.getfield 43, 3) := by decide +kernel
theorem dX4_move_73 : decode cX4_move 73 = .ok (.iload_n 1, 1) := by decide +kernel
theorem dX4_move_74 : decode cX4_move 74 = .ok (.dup2, 1) := by decide +kernel
theorem dX4_move_75 : decode cX4_move 75 = .ok (.iaload, 1) := by decide +kernel
theorem dX4_move_76 : decode cX4_move 76 = .ok (.iconst 1, 1) := by decide +kernel
theorem dX4_move_77 : decode cX4_move 77 = .ok (.iadd, 1) := by decide +kernel
theorem dX4_move_78 : decode cX4_move 78 = .ok (.iastore, 1) := by decide +kernel
theorem dX4_move_79 : decode cX4_move 79 = .ok (.iconst 0, 1) := by decide +kernel
theorem dX4_move_80 : decode cX4_move 80 = .ok (.ireturn, 1) := by decide +kernel
theorem dX4_move_81 : decode cX4_move 81 = .ok (.aload_n 0, 1) := by decide +kernel
theorem dX4_move_82 : decode cX4_move 82 = .ok (.iload_n 1, 1) := by decide +kernel
theorem dX4_move_83 : decode cX4_move 83 = .ok (.iload_n 2, 1) := by decide +kernel
theorem dX4_move_84 : decode cX4_move 84 = .ok (.iload_n 3, 1) := by decide +kernel
theorem dX4_move_85 : decode cX4_move 85 = .ok (.invokevirtual 100, 3) := by decide +kernel
theorem dX4_move_88 : decode cX4_move 88 = .ok (.aload_n 0, 1) := by decide +kernel
theorem dX4_move_89 : decode cX4_move 89 = .ok (.getfield 31, 3) := by decide +kernel
theorem dX4_move_92 : decode cX4_move 92 = .ok (.iload_n 1, 1) := by decide +kernel
theorem dX4_move_93 : decode cX4_move 93 = .ok (.iload 4, 2) := by decide +kernel
theorem dX4_move_95 : decode cX4_move 95 = .ok (.iastore, 1) := by decide +kernel
theorem dX4_move_96 : decode cX4_move 96 = .ok (.aload_n 0, 1) := by decide +kernel
theorem dX4_move_97 : decode cX4_move 97 = .ok (.getfield 34, 3) := by decide +kernel
theorem dX4_move_100 : decode cX4_move 100 = .ok (.iload_n 1, 1) := by decide +kernel
theorem dX4_move_101 : decode cX4_move 101 = .ok (.iconst 0, 1) := by decide +kernel
theorem dX4_move_102 : decode cX4_move 102 = .ok (.iastore, 1) := by decide +kernel
theorem dX4_move_103 : decode cX4_move 103 = .ok (.aload_n 0, 1) := by decide +kernel
theorem dX4_move_104 : decode cX4_move 104 = .ok (.getfield 28, 3) := by decide +kernel
theorem dX4_move_107 : decode cX4_move 107 = .ok (.iload 4, 2) := by decide +kernel
theorem dX4_move_109 : decode cX4_move 109 = .ok (.iload_n 1, 1) := by decide +kernel
theorem dX4_move_110 : decode cX4_move 110 = .ok (.iastore, 1) := by decide +kernel
theorem dX4_move_111 : decode cX4_move 111 = .ok (.aload_n 0, 1) := by decide +kernel
theorem dX4_move_112 : decode cX4_move 112 = .ok (.getfield 21, 3) := by decide +kernel
theorem dX4_move_115 : decode cX4_move 115 = .ok (.iload 4, 2) := by decide +kernel
theorem dX4_move_117 : decode cX4_move 117 = .ok (.iconst 0, 1) := by decide +kernel
theorem dX4_move_118 : decode cX4_move 118 = .ok (.bastore, 1) := by decide +kernel
theorem dX4_move_119 : decode cX4_move 119 = .ok (.iconst 1, 1) := by decide +kernel
theorem dX4_move_120 : decode cX4_move 120 = .ok (.ireturn, 1) := by decide +kernel
theorem dX4_leave_0 : decode cX4_leave 0 = .ok (.aload_n 0, 1) := by decide +kernel
theorem dX4_leave_1 : decode cX4_leave 1 = .ok (.getfield 15, 3) := by decide +kernel
theorem dX4_leave_4 : decode cX4_leave 4 = .ok (.iload_n 2, 1) := by decide +kernel
theorem dX4_leave_5 : decode cX4_leave 5 = .ok (.iaload, 1) := by decide +kernel
theorem dX4_leave_6 : decode cX4_leave 6 = .ok (.bipush 7, 2) := by decide +kernel
theorem dX4_leave_8 : decode cX4_leave 8 = .ok (.if_icmp .lt 38, 3) := by decide +kernel
theorem dX4_leave_11 : decode cX4_leave 11 = .ok (.iload_n 3, 1) := by decide +kernel
theorem dX4_leave_12 : decode cX4_leave 12 = .ok (.iconst 3, 1) := by decide +kernel
theorem dX4_leave_13 : decode cX4_leave 13 = .ok (.if_icmp .lt 33, 3) := by decide +kernel
theorem dX4_leave_16 : decode cX4_leave 16 = .ok (.aload_n 0, 1) := by decide +kernel
theorem dX4_leave_17 : decode cX4_leave 17 = .ok (.getfield 37, 3) := by decide +kernel
theorem dX4_leave_20 : decode cX4_leave 20 = .ok (.iload_n 1, 1) := by decide +kernel
theorem dX4_leave_21 : decode cX4_leave 21 = .ok (.iaload, 1) := by decide +kernel
theorem dX4_leave_22 : decode cX4_leave 22 = .ok (.iconst 1, 1) := by decide +kernel
theorem dX4_leave_23 : decode cX4_leave 23 = .ok (.if_icmp .le 23, 3) := by decide +kernel
theorem dX4_leave_26 : decode cX4_leave 26 = .ok (.aload_n 0, 1) := by decide +kernel
theorem dX4_leave_27 : decode cX4_leave 27 = .ok (.getfield 37, 3) := by decide +kernel
theorem dX4_leave_30 : decode cX4_leave 30 = .ok (.iload_n 1, 1) := by decide +kernel
theorem dX4_leave_31 : decode cX4_leave 31 = .ok (.dup2, 1) := by decide +kernel
theorem dX4_leave_32 : decode cX4_leave 32 = .ok (.iaload, 1) := by decide +kernel
theorem dX4_leave_33 : decode cX4_leave 33 = .ok (.iconst 1, 1) := by decide +kernel
theorem dX4_leave_34 : decode cX4_leave 34 = .ok (.isub, 1) := by decide +kernel
theorem dX4_leave_35 : decode cX4_leave 35 = .ok (.iastore, 1) := by decide +kernel
theorem dX4_leave_36 : decode cX4_leave 36 = .ok (.aload_n 0, 1) := by decide +kernel
theorem dX4_leave_37 : decode cX4_leave 37 = .ok (.getfield 25, 3) := by decide +kernel
theorem dX4_leave_40 : decode cX4_leave 40 = .ok (.iload_n 2, 1) := by decide +kernel
theorem dX4_leave_41 : decode cX4_leave 41 = .ok (.dup2, 1) := by decide +kernel
theorem dX4_leave_42 : decode cX4_leave 42 = .ok (.iaload, 1) := by decide +kernel
theorem dX4_leave_43 : decode cX4_leave 43 = .ok (.iconst 1, 1) := by decide +kernel
theorem dX4_leave_44 : decode cX4_leave 44 = .ok (.iadd, 1) := by decide +kernel
theorem dX4_leave_45 : decode cX4_leave 45 = .ok (.iastore, 1) := by decide +kernel
theorem dX4_leave_46 : decode cX4_leave 46 = .ok (.aload_n 0, 1) := by decide +kernel
theorem dX4_leave_47 : decode cX4_leave 47 = .ok (.getfield 15, 3) := by decide +kernel
theorem dX4_leave_50 : decode cX4_leave 50 = .ok (.iload_n 2, 1) := by decide +kernel
theorem dX4_leave_51 : decode cX4_leave 51 = .ok (.aload_n 0, 1) := by decide +kernel
theorem dX4_leave_52 : decode cX4_leave 52 = .ok (.getfield 15, 3) := by decide +kernel
theorem dX4_leave_55 : decode cX4_leave 55 = .ok (.iload_n 2, 1) := by decide +kernel
theorem dX4_leave_56 : decode cX4_leave 56 = .ok (.iaload, 1) := by decide +kernel
theorem dX4_leave_57 : decode cX4_leave 57 = .ok (.iconst 1, 1) := by decide +kernel
theorem dX4_leave_58 : decode cX4_leave 58 = .ok (.iadd, 1) := by decide +kernel
theorem dX4_leave_59 : decode cX4_leave 59 = .ok (.aload_n 0, 1) := by decide +kernel
theorem dX4_leave_60 : decode cX4_leave 60 = .ok (.getfield 37, 3) := by decide +kernel
theorem dX4_leave_63 : decode cX4_leave 63 = .ok (.iload_n 1, 1) := by decide +kernel
theorem dX4_leave_64 : decode cX4_leave 64 = .ok (.iaload, 1) := by decide +kernel
theorem dX4_leave_65 : decode cX4_leave 65 = .ok (.iconst 4, 1) := by decide +kernel
theorem dX4_leave_66 : decode cX4_leave 66 = .ok (.idiv, 1) := by decide +kernel
theorem dX4_leave_67 : decode cX4_leave 67 = .ok (.iadd, 1) := by decide +kernel
theorem dX4_leave_68 : decode cX4_leave 68 = .ok (.bipush 9, 2) := by decide +kernel
theorem dX4_leave_70 : decode cX4_leave 70 = .ok (.invokestatic 75, 3) := by decide +kernel
theorem dX4_leave_73 : decode cX4_leave 73 = .ok (.iastore, 1) := by decide +kernel
theorem dX4_leave_74 : decode cX4_leave 74 = .ok (.aload_n 0, 1) := by decide +kernel
theorem dX4_leave_75 : decode cX4_leave 75 = .ok (.getfield 46, 3) := by decide +kernel
theorem dX4_leave_78 : decode cX4_leave 78 = .ok (.iload_n 1, 1) := by decide +kernel
theorem dX4_leave_79 : decode cX4_leave 79 = .ok (.bipush 10, 2) := by decide +kernel
theorem dX4_leave_81 : decode cX4_leave 81 = .ok (.imul, 1) := by decide +kernel
theorem dX4_leave_82 : decode cX4_leave 82 = .ok (.iload_n 2, 1) := by decide +kernel
theorem dX4_leave_83 : decode cX4_leave 83 = .ok (.iadd, 1) := by decide +kernel
theorem dX4_leave_84 : decode cX4_leave 84 = .ok (.dup2, 1) := by decide +kernel
theorem dX4_leave_85 : decode cX4_leave 85 = .ok (.iaload, 1) := by decide +kernel
theorem dX4_leave_86 : decode cX4_leave 86 = .ok (.iconst 1, 1) := by decide +kernel
theorem dX4_leave_87 : decode cX4_leave 87 = .ok (.iadd, 1) := by decide +kernel
theorem dX4_leave_88 : decode cX4_leave 88 = .ok (.iastore, 1) := by decide +kernel
theorem dX4_leave_89 : decode cX4_leave 89 = .ok (.aload_n 0, 1) := by decide +kernel
theorem dX4_leave_90 : decode cX4_leave 90 = .ok (.getfield 28, 3) := by decide +kernel
theorem dX4_leave_93 : decode cX4_leave 93 = .ok (.iload_n 2, 1) := by decide +kernel
theorem dX4_leave_94 : decode cX4_leave 94 = .ok (.iconst (-1), 1) := by decide +kernel
theorem dX4_leave_95 : decode cX4_leave 95 = .ok (.iastore, 1) := by decide +kernel
theorem dX4_leave_96 : decode cX4_leave 96 = .ok (.return_, 1) := by decide +kernel
theorem dJ6_bitCount_0f7a4_0 : decode cJ6_bitCount_0f7a4 0 = .ok (.iload_n 0, 1) := by decide +kernel
theorem dJ6_bitCount_0f7a4_1 : decode cJ6_bitCount_0f7a4 1 = .ok (.iload_n 0, 1) := by decide +kernel
theorem dJ6_bitCount_0f7a4_2 : decode cJ6_bitCount_0f7a4 2 = .ok (.iconst 1, 1) := by decide +kernel
theorem dJ6_bitCount_0f7a4_3 : decode cJ6_bitCount_0f7a4 3 = .ok (.iushr, 1) := by decide +kernel
theorem dJ6_bitCount_0f7a4_4 : decode cJ6_bitCount_0f7a4 4 = .ok (.ldc_w 265, 3) := by decide +kernel
theorem dJ6_bitCount_0f7a4_7 : decode cJ6_bitCount_0f7a4 7 = .ok (.iand, 1) := by decide +kernel
theorem dJ6_bitCount_0f7a4_8 : decode cJ6_bitCount_0f7a4 8 = .ok (.isub, 1) := by decide +kernel
theorem dJ6_bitCount_0f7a4_9 : decode cJ6_bitCount_0f7a4 9 = .ok (.istore_n 0, 1) := by decide +kernel
theorem dJ6_bitCount_0f7a4_10 : decode cJ6_bitCount_0f7a4 10 = .ok (.iload_n 0, 1) := by decide +kernel
theorem dJ6_bitCount_0f7a4_11 : decode cJ6_bitCount_0f7a4 11 = .ok (.ldc_w 266, 3) := by decide +kernel
theorem dJ6_bitCount_0f7a4_14 : decode cJ6_bitCount_0f7a4 14 = .ok (.iand, 1) := by decide +kernel
theorem dJ6_bitCount_0f7a4_15 : decode cJ6_bitCount_0f7a4 15 = .ok (.iload_n 0, 1) := by decide +kernel
theorem dJ6_bitCount_0f7a4_16 : decode cJ6_bitCount_0f7a4 16 = .ok (.iconst 2, 1) := by decide +kernel
theorem dJ6_bitCount_0f7a4_17 : decode cJ6_bitCount_0f7a4 17 = .ok (.iushr, 1) := by decide +kernel
theorem dJ6_bitCount_0f7a4_18 : decode cJ6_bitCount_0f7a4 18 = .ok (.ldc_w 266, 3) := by decide +kernel
theorem dJ6_bitCount_0f7a4_21 : decode cJ6_bitCount_0f7a4 21 = .ok (.iand, 1) := by decide +kernel
theorem dJ6_bitCount_0f7a4_22 : decode cJ6_bitCount_0f7a4 22 = .ok (.iadd, 1) := by decide +kernel
theorem dJ6_bitCount_0f7a4_23 : decode cJ6_bitCount_0f7a4 23 = .ok (.istore_n 0, 1) := by decide +kernel
theorem dJ6_bitCount_0f7a4_24 : decode cJ6_bitCount_0f7a4 24 = .ok (.iload_n 0, 1) := by decide +kernel
theorem dJ6_bitCount_0f7a4_25 : decode cJ6_bitCount_0f7a4 25 = .ok (.iload_n 0, 1) := by decide +kernel
theorem dJ6_bitCount_0f7a4_26 : decode cJ6_bitCount_0f7a4 26 = .ok (.iconst 4, 1) := by decide +kernel
theorem dJ6_bitCount_0f7a4_27 : decode cJ6_bitCount_0f7a4 27 = .ok (.iushr, 1) := by decide +kernel
theorem dJ6_bitCount_0f7a4_28 : decode cJ6_bitCount_0f7a4 28 = .ok (.iadd, 1) := by decide +kernel
theorem dJ6_bitCount_0f7a4_29 : decode cJ6_bitCount_0f7a4 29 = .ok (.ldc_w 267, 3) := by decide +kernel
theorem dJ6_bitCount_0f7a4_32 : decode cJ6_bitCount_0f7a4 32 = .ok (.iand, 1) := by decide +kernel
theorem dJ6_bitCount_0f7a4_33 : decode cJ6_bitCount_0f7a4 33 = .ok (.istore_n 0, 1) := by decide +kernel
theorem dJ6_bitCount_0f7a4_34 : decode cJ6_bitCount_0f7a4 34 = .ok (.iload_n 0, 1) := by decide +kernel
theorem dJ6_bitCount_0f7a4_35 : decode cJ6_bitCount_0f7a4 35 = .ok (.iload_n 0, 1) := by decide +kernel
theorem dJ6_bitCount_0f7a4_36 : decode cJ6_bitCount_0f7a4 36 = .ok (.bipush 8, 2) := by decide +kernel
theorem dJ6_bitCount_0f7a4_38 : decode cJ6_bitCount_0f7a4 38 = .ok (.iushr, 1) := by decide +kernel
theorem dJ6_bitCount_0f7a4_39 : decode cJ6_bitCount_0f7a4 39 = .ok (.iadd, 1) := by decide +kernel
theorem dJ6_bitCount_0f7a4_40 : decode cJ6_bitCount_0f7a4 40 = .ok (.istore_n 0, 1) := by decide +kernel
theorem dJ6_bitCount_0f7a4_41 : decode cJ6_bitCount_0f7a4 41 = .ok (.iload_n 0, 1) := by decide +kernel
theorem dJ6_bitCount_0f7a4_42 : decode cJ6_bitCount_0f7a4 42 = .ok (.iload_n 0, 1) := by decide +kernel
theorem dJ6_bitCount_0f7a4_43 : decode cJ6_bitCount_0f7a4 43 = .ok (.bipush 16, 2) := by decide +kernel
theorem dJ6_bitCount_0f7a4_45 : decode cJ6_bitCount_0f7a4 45 = .ok (.iushr, 1) := by decide +kernel
theorem dJ6_bitCount_0f7a4_46 : decode cJ6_bitCount_0f7a4 46 = .ok (.iadd, 1) := by decide +kernel
theorem dJ6_bitCount_0f7a4_47 : decode cJ6_bitCount_0f7a4 47 = .ok (.istore_n 0, 1) := by decide +kernel
theorem dJ6_bitCount_0f7a4_48 : decode cJ6_bitCount_0f7a4 48 = .ok (.iload_n 0, 1) := by decide +kernel
theorem dJ6_bitCount_0f7a4_49 : decode cJ6_bitCount_0f7a4 49 = .ok (.bipush 63, 2) := by decide +kernel
theorem dJ6_bitCount_0f7a4_51 : decode cJ6_bitCount_0f7a4 51 = .ok (.iand, 1) := by decide +kernel
theorem dJ6_bitCount_0f7a4_52 : decode cJ6_bitCount_0f7a4 52 = .ok (.ireturn, 1) := by decide +kernel
theorem dJ9_abs_0f7a4_0 : decode cJ9_abs_0f7a4 0 = .ok (.iload_n 0, 1) := by decide +kernel
theorem dJ9_abs_0f7a4_1 : decode cJ9_abs_0f7a4 1 = .ok (.ifCond .ge 8, 3) := by decide +kernel
theorem dJ9_abs_0f7a4_4 : decode cJ9_abs_0f7a4 4 = .ok (.iload_n 0, 1) := by decide +kernel
theorem dJ9_abs_0f7a4_5 : decode cJ9_abs_0f7a4 5 = .ok (.ineg, 1) := by decide +kernel
theorem dJ9_abs_0f7a4_6 : decode cJ9_abs_0f7a4 6 = .ok (.goto 4, 3) := by decide +kernel
theorem dJ9_abs_0f7a4_9 : decode cJ9_abs_0f7a4 9 = .ok (.iload_n 0, 1) := by decide +kernel
theorem dJ9_abs_0f7a4_10 : decode cJ9_abs_0f7a4 10 = .ok (.ireturn, 1) := by decide +kernel
theorem dJ9_min_7cf53_0 : decode cJ9_min_7cf53 0 = .ok (.iload_n 0, 1) := by decide +kernel
theorem dJ9_min_7cf53_1 : decode cJ9_min_7cf53 1 = .ok (.iload_n 1, 1) := by decide +kernel
theorem dJ9_min_7cf53_2 : decode cJ9_min_7cf53 2 = .ok (.if_icmp .gt 7, 3) := by decide +kernel
theorem dJ9_min_7cf53_5 : decode cJ9_min_7cf53 5 = .ok (.iload_n 0, 1) := by decide +kernel
theorem dJ9_min_7cf53_6 : decode cJ9_min_7cf53 6 = .ok (.goto 4, 3) := by decide +kernel
theorem dJ9_min_7cf53_9 : decode cJ9_min_7cf53 9 = .ok (.iload_n 1, 1) := by decide +kernel
theorem dJ9_min_7cf53_10 : decode cJ9_min_7cf53 10 = .ok (.ireturn, 1) := by decide +kernel
theorem dJ0_length_8abf5_0 : decode cJ0_length_8abf5 0 = .ok (.aload_n 0, 1) := by decide +kernel
theorem dJ0_length_8abf5_1 : decode cJ0_length_8abf5 1 = .ok (.getfield 9, 3) := by decide +kernel
theorem dJ0_length_8abf5_4 : decode cJ0_length_8abf5 4 = .ok (.arraylength, 1) := by decide +kernel
theorem dJ0_length_8abf5_5 : decode cJ0_length_8abf5 5 = .ok (.aload_n 0, 1) := by decide +kernel
theorem dJ0_length_8abf5_6 : decode cJ0_length_8abf5 6 = .ok (.invokevirtual 335, 3) := by decide +kernel
theorem dJ0_length_8abf5_9 : decode cJ0_length_8abf5 9 = .ok (.ishr, 1) := by decide +kernel
theorem dJ0_length_8abf5_10 : decode cJ0_length_8abf5 10 = .ok (.ireturn, 1) := by decide +kernel
theorem dJ0_charAt_5068e_0 : decode cJ0_charAt_5068e 0 = .ok (.aload_n 0, 1) := by decide +kernel
theorem dJ0_charAt_5068e_1 : decode cJ0_charAt_5068e 1 = .ok (.invokevirtual 492, 3) := by decide +kernel
theorem dJ0_charAt_5068e_4 : decode cJ0_charAt_5068e 4 = .ok (.ifCond .eq 12, 3) := by decide +kernel
theorem dJ0_charAt_5068e_7 : decode cJ0_charAt_5068e 7 = .ok (.aload_n 0, 1) := by decide +kernel
theorem dJ0_charAt_5068e_8 : decode cJ0_charAt_5068e 8 = .ok (.getfield 9, 3) := by decide +kernel
theorem dJ0_charAt_5068e_11 : decode cJ0_charAt_5068e 11 = .ok (.iload_n 1, 1) := by decide +kernel
theorem dJ0_charAt_5068e_12 : decode cJ0_charAt_5068e 12 = .ok (.invokestatic 495, 3) := by decide +kernel
theorem dJ0_charAt_5068e_15 : decode cJ0_charAt_5068e 15 = .ok (.ireturn, 1) := by decide +kernel
theorem dJ0_charAt_5068e_16 : decode cJ0_charAt_5068e 16 = .ok (.aload_n 0, 1) := by decide +kernel
theorem dJ0_charAt_5068e_17 : decode cJ0_charAt_5068e 17 = .ok (.getfield 9, 3) := by decide +kernel
theorem dJ0_charAt_5068e_20 : decode cJ0_charAt_5068e 20 = .ok (.iload_n 1, 1) := by decide +kernel
theorem dJ0_charAt_5068e_21 : decode cJ0_charAt_5068e 21 = .ok (.invokestatic 498, 3) := by decide +kernel
theorem dJ0_charAt_5068e_24 : decode cJ0_charAt_5068e 24 = .ok (.ireturn, 1) := by decide +kernel
theorem dJ0_coder_7d493_0 : decode cJ0_coder_7d493 0 = .ok (.getstatic 38, 3) := by decide +kernel
theorem dJ0_coder_7d493_3 : decode cJ0_coder_7d493 3 = .ok (.ifCond .eq 10, 3) := by decide +kernel
theorem dJ0_coder_7d493_6 : decode cJ0_coder_7d493 6 = .ok (.aload_n 0, 1) := by decide +kernel
theorem dJ0_coder_7d493_7 : decode cJ0_coder_7d493 7 = .ok (.getfield 15, 3) := by decide +kernel
theorem dJ0_coder_7d493_10 : decode cJ0_coder_7d493 10 = .ok (.goto 4, 3) := by decide +kernel
theorem dJ0_coder_7d493_13 : decode cJ0_coder_7d493 13 = .ok (.iconst 1, 1) := by decide +kernel
theorem dJ0_coder_7d493_14 : decode cJ0_coder_7d493 14 = .ok (.ireturn, 1) := by decide +kernel
theorem dJ0_isLatin1_aae02_0 : decode cJ0_isLatin1_aae02 0 = .ok (.getstatic 38, 3) := by decide +kernel
theorem dJ0_isLatin1_aae02_3 : decode cJ0_isLatin1_aae02 3 = .ok (.ifCond .eq 14, 3) := by decide +kernel
theorem dJ0_isLatin1_aae02_6 : decode cJ0_isLatin1_aae02 6 = .ok (.aload_n 0, 1) := by decide +kernel
theorem dJ0_isLatin1_aae02_7 : decode cJ0_isLatin1_aae02 7 = .ok (.getfield 15, 3) := by decide +kernel
theorem dJ0_isLatin1_aae02_10 : decode cJ0_isLatin1_aae02 10 = .ok (.ifCond .ne 7, 3) := by decide +kernel
theorem dJ0_isLatin1_aae02_13 : decode cJ0_isLatin1_aae02 13 = .ok (.iconst 1, 1) := by decide +kernel
theorem dJ0_isLatin1_aae02_14 : decode cJ0_isLatin1_aae02 14 = .ok (.goto 4, 3) := by decide +kernel
theorem dJ0_isLatin1_aae02_17 : decode cJ0_isLatin1_aae02 17 = .ok (.iconst 0, 1) := by decide +kernel
theorem dJ0_isLatin1_aae02_18 : decode cJ0_isLatin1_aae02 18 = .ok (.ireturn, 1) := by decide +kernel
theorem dJ0_checkIndex_df160_0 : decode cJ0_checkIndex_df160 0 = .ok (.iload_n 0, 1) := by decide +kernel
theorem dJ0_checkIndex_df160_1 : decode cJ0_checkIndex_df160 1 = .ok (.iload_n 1, 1) := by decide +kernel
theorem dJ0_checkIndex_df160_2 : decode cJ0_checkIndex_df160 2 = .ok (.getstatic 1053, 3) := by decide +kernel
theorem dJ0_checkIndex_df160_5 : decode cJ0_checkIndex_df160 5 = .ok (.invokestatic 1059, 3) := by decide +kernel
theorem dJ0_checkIndex_df160_8 : decode cJ0_checkIndex_df160 8 = .ok (.pop, 1) := by decide +kernel
theorem dJ0_checkIndex_df160_9 : decode cJ0_checkIndex_df160 9 = .ok (.return_, 1) := by decide +kernel
theorem dJ1_charAt_3b067_0 : decode cJ1_charAt_3b067 0 = .ok (.iload_n 1, 1) := by decide +kernel
theorem dJ1_charAt_3b067_1 : decode cJ1_charAt_3b067 1 = .ok (.aload_n 0, 1) := by decide +kernel
theorem dJ1_charAt_3b067_2 : decode cJ1_charAt_3b067 2 = .ok (.arraylength, 1) := by decide +kernel
theorem dJ1_charAt_3b067_3 : decode cJ1_charAt_3b067 3 = .ok (.invokestatic 9, 3) := by decide +kernel
theorem dJ1_charAt_3b067_6 : decode cJ1_charAt_3b067 6 = .ok (.aload_n 0, 1) := by decide +kernel
theorem dJ1_charAt_3b067_7 : decode cJ1_charAt_3b067 7 = .ok (.iload_n 1, 1) := by decide +kernel
theorem dJ1_charAt_3b067_8 : decode cJ1_charAt_3b067 8 = .ok (.baload, 1) := by decide +kernel
theorem dJ1_charAt_3b067_9 : decode cJ1_charAt_3b067 9 = .ok (.sipush 255, 3) := by decide +kernel
theorem dJ1_charAt_3b067_12 : decode cJ1_charAt_3b067 12 = .ok (.iand, 1) := by decide +kernel
theorem dJ1_charAt_3b067_13 : decode cJ1_charAt_3b067 13 = .ok (.i2c, 1) := by decide +kernel
theorem dJ1_charAt_3b067_14 : decode cJ1_charAt_3b067 14 = .ok (.ireturn, 1) := by decide +kernel
theorem dJ2_getChar_3b067_0 : decode cJ2_getChar_3b067 0 = .ok (.getstatic 44, 3) := by decide +kernel
theorem dJ2_getChar_3b067_3 : decode cJ2_getChar_3b067 3 = .ok (.ifCond .ne 25, 3) := by decide +kernel
theorem dJ2_getChar_3b067_6 : decode cJ2_getChar_3b067 6 = .ok (.iload_n 1, 1) := by decide +kernel
theorem dJ2_getChar_3b067_7 : decode cJ2_getChar_3b067 7 = .ok (.ifCond .lt 11, 3) := by decide +kernel
theorem dJ2_getChar_3b067_10 : decode cJ2_getChar_3b067 10 = .ok (.iload_n 1, 1) := by decide +kernel
theorem dJ2_getChar_3b067_11 : decode cJ2_getChar_3b067 11 = .ok (.aload_n 0, 1) := by decide +kernel
theorem dJ2_getChar_3b067_12 : decode cJ2_getChar_3b067 12 = .ok (.invokestatic 48, 3) := by decide +kernel
theorem dJ2_getChar_3b067_15 : decode cJ2_getChar_3b067 15 = .ok (.if_icmp .lt 13, 3) := by decide +kernel
theorem dJ2_getChar_3b067_18 : decode cJ2_getChar_3b067 18 = .ok (.new 52, 3) := by decide +kernel
theorem dJ2_getChar_3b067_21 : decode cJ2_getChar_3b067 21 = .ok (.dup, 1) := by decide +kernel
theorem dJ2_getChar_3b067_22 : decode cJ2_getChar_3b067 22 = .ok (.ldc 54, 2) := by decide +kernel
theorem dJ2_getChar_3b067_24 : decode cJ2_getChar_3b067 24 = .ok (.invokespecial 56, 3) := by decide +kernel
theorem dJ2_getChar_3b067_27 : decode cJ2_getChar_3b067 27 = .ok (.athrow, 1) := by decide +kernel
theorem dJ2_getChar_3b067_28 : decode cJ2_getChar_3b067 28 = .ok (.iload_n 1, 1) := by decide +kernel
theorem dJ2_getChar_3b067_29 : decode cJ2_getChar_3b067 29 = .ok (.iconst 1, 1) := by decide +kernel
theorem dJ2_getChar_3b067_30 : decode cJ2_getChar_3b067 30 = .ok (.ishl, 1) := by decide +kernel
theorem dJ2_getChar_3b067_31 : decode cJ2_getChar_3b067 31 = .ok (.istore_n 1, 1) := by decide +kernel
theorem dJ2_getChar_3b067_32 : decode cJ2_getChar_3b067 32 = .ok (.aload_n 0, 1) := by decide +kernel
theorem dJ2_getChar_3b067_33 : decode cJ2_getChar_3b067 33 = .ok (.iload_n 1, 1) := by decide +kernel
theorem dJ2_getChar_3b067_34 : decode cJ2_getChar_3b067 34 = .ok (.iinc 1 1, 3) := by decide +kernel
theorem dJ2_getChar_3b067_37 : decode cJ2_getChar_3b067 37 = .ok (.baload, 1) := by decide +kernel
theorem dJ2_getChar_3b067_38 : decode cJ2_getChar_3b067 38 = .ok (.sipush 255, 3) := by decide +kernel
theorem dJ2_getChar_3b067_41 : decode cJ2_getChar_3b067 41 = .ok (.iand, 1) := by decide +kernel
theorem dJ2_getChar_3b067_42 : decode cJ2_getChar_3b067 42 = .ok (.getstatic 59, 3) := by decide +kernel
theorem dJ2_getChar_3b067_45 : decode cJ2_getChar_3b067 45 = .ok (.ishl, 1) := by decide +kernel
theorem dJ2_getChar_3b067_46 : decode cJ2_getChar_3b067 46 = .ok (.aload_n 0, 1) := by decide +kernel
theorem dJ2_getChar_3b067_47 : decode cJ2_getChar_3b067 47 = .ok (.iload_n 1, 1) := by decide +kernel
theorem dJ2_getChar_3b067_48 : decode cJ2_getChar_3b067 48 = .ok (.baload, 1) := by decide +kernel
theorem dJ2_getChar_3b067_49 : decode cJ2_getChar_3b067 49 = .ok (.sipush 255, 3) := by decide +kernel
theorem dJ2_getChar_3b067_52 : decode cJ2_getChar_3b067 52 = .ok (.iand, 1) := by decide +kernel
theorem dJ2_getChar_3b067_53 : decode cJ2_getChar_3b067 53 = .ok (.getstatic 63, 3) := by decide +kernel
theorem dJ2_getChar_3b067_56 : decode cJ2_getChar_3b067 56 = .ok (.ishl, 1) := by decide +kernel
theorem dJ2_getChar_3b067_57 : decode cJ2_getChar_3b067 57 = .ok (.ior, 1) := by decide +kernel
theorem dJ2_getChar_3b067_58 : decode cJ2_getChar_3b067 58 = .ok (.i2c, 1) := by decide +kernel
theorem dJ2_getChar_3b067_59 : decode cJ2_getChar_3b067 59 = .ok (.ireturn, 1) := by decide +kernel
theorem dJ2_length_9d52b_0 : decode cJ2_length_9d52b 0 = .ok (.aload_n 0, 1) := by decide +kernel
theorem dJ2_length_9d52b_1 : decode cJ2_length_9d52b 1 = .ok (.arraylength, 1) := by decide +kernel
theorem dJ2_length_9d52b_2 : decode cJ2_length_9d52b 2 = .ok (.iconst 1, 1) := by decide +kernel
theorem dJ2_length_9d52b_3 : decode cJ2_length_9d52b 3 = .ok (.ishr, 1) := by decide +kernel
theorem dJ2_length_9d52b_4 : decode cJ2_length_9d52b 4 = .ok (.ireturn, 1) := by decide +kernel
theorem dJ2_charAt_3b067_0 : decode cJ2_charAt_3b067 0 = .ok (.iload_n 1, 1) := by decide +kernel
theorem dJ2_charAt_3b067_1 : decode cJ2_charAt_3b067 1 = .ok (.aload_n 0, 1) := by decide +kernel
theorem dJ2_charAt_3b067_2 : decode cJ2_charAt_3b067 2 = .ok (.invokestatic 67, 3) := by decide +kernel
theorem dJ2_charAt_3b067_5 : decode cJ2_charAt_3b067 5 = .ok (.aload_n 0, 1) := by decide +kernel
theorem dJ2_charAt_3b067_6 : decode cJ2_charAt_3b067 6 = .ok (.iload_n 1, 1) := by decide +kernel
theorem dJ2_charAt_3b067_7 : decode cJ2_charAt_3b067 7 = .ok (.invokestatic 71, 3) := by decide +kernel
theorem dJ2_charAt_3b067_10 : decode cJ2_charAt_3b067 10 = .ok (.ireturn, 1) := by decide +kernel
theorem dJ2_checkIndex_2214a_0 : decode cJ2_checkIndex_2214a 0 = .ok (.iload_n 0, 1) := by decide +kernel
theorem dJ2_checkIndex_2214a_1 : decode cJ2_checkIndex_2214a 1 = .ok (.aload_n 1, 1) := by decide +kernel
theorem dJ2_checkIndex_2214a_2 : decode cJ2_checkIndex_2214a 2 = .ok (.invokestatic 48, 3) := by decide +kernel
theorem dJ2_checkIndex_2214a_5 : decode cJ2_checkIndex_2214a 5 = .ok (.invokestatic 414, 3) := by decide +kernel
theorem dJ2_checkIndex_2214a_8 : decode cJ2_checkIndex_2214a 8 = .ok (.return_, 1) := by decide +kernel
theorem dJ3_checkIndex_8e157_0 : decode cJ3_checkIndex_8e157 0 = .ok (.iload_n 0, 1) := by decide +kernel
theorem dJ3_checkIndex_8e157_1 : decode cJ3_checkIndex_8e157 1 = .ok (.ifCond .lt 8, 3) := by decide +kernel
theorem dJ3_checkIndex_8e157_4 : decode cJ3_checkIndex_8e157 4 = .ok (.iload_n 0, 1) := by decide +kernel
theorem dJ3_checkIndex_8e157_5 : decode cJ3_checkIndex_8e157 5 = .ok (.iload_n 1, 1) := by decide +kernel
theorem dJ3_checkIndex_8e157_6 : decode cJ3_checkIndex_8e157 6 = .ok (.if_icmp .lt 10, 3) := by decide +kernel
theorem dJ3_checkIndex_8e157_9 : decode cJ3_checkIndex_8e157 9 = .ok (.aload_n 2, 1) := by decide +kernel
theorem dJ3_checkIndex_8e157_10 : decode cJ3_checkIndex_8e157 10 = .ok (.iload_n 0, 1) := by decide +kernel
theorem dJ3_checkIndex_8e157_11 : decode cJ3_checkIndex_8e157 11 = .ok (.iload_n 1, 1) := by decide +kernel
theorem dJ3_checkIndex_8e157_12 : decode cJ3_checkIndex_8e157 12 = .ok (.invokestatic 95, 3) := by decide +kernel
theorem dJ3_checkIndex_8e157_15 : decode cJ3_checkIndex_8e157 15 = .ok (.athrow, 1) := by decide +kernel
theorem dJ3_checkIndex_8e157_16 : decode cJ3_checkIndex_8e157 16 = .ok (.iload_n 0, 1) := by decide +kernel
theorem dJ3_checkIndex_8e157_17 : decode cJ3_checkIndex_8e157 17 = .ok (.ireturn, 1) := by decide +kernel
