theorem dX0_init_0 : decode cX0_init 0 = .ok (.aload_n 0, 1) := by decide +kernel
theorem dX0_init_1 : decode cX0_init 1 = .ok (.invokespecial 3, 3) := by decide +kernel
theorem dX0_init_4 : decode cX0_init 4 = .ok (.aload_n 0, 1) := by decide +kernel
theorem dX0_init_5 : decode cX0_init 5 = .ok (.iconst 4, 1) := by decide +kernel
theorem dX0_init_6 : decode cX0_init 6 = .ok (.anewarray 9, 3) := by decide +kernel
theorem dX0_init_9 : decode cX0_init 9 = .ok (.putfield 11, 3) := by decide +kernel
theorem dX0_init_12 : decode cX0_init 12 = .ok (.iconst 0, 1) := by decide +kernel
theorem dX0_init_13 : decode cX0_init 13 = .ok (.istore_n 1, 1) := by decide +kernel
theorem dX0_init_14 : decode cX0_init 14 = .ok (.iload_n 1, 1) := by decide +kernel
theorem dX0_init_15 : decode cX0_init 15 = .ok (.iconst 4, 1) := by decide +kernel
theorem dX0_init_16 : decode cX0_init 16 = .ok (.if_icmp .ge 22, 3) := by decide +kernel
theorem dX0_init_19 : decode cX0_init 19 = .ok (.aload_n 0, 1) := by decide +kernel
theorem dX0_init_20 : decode cX0_init 20 = .ok (.getfield 11, 3) := by decide +kernel
theorem dX0_init_23 : decode cX0_init 23 = .ok (.iload_n 1, 1) := by decide +kernel
theorem dX0_init_24 : decode cX0_init 24 = .ok (.new 9, 3) := by decide +kernel
theorem dX0_init_27 : decode cX0_init 27 = .ok (.dup, 1) := by decide +kernel
theorem dX0_init_28 : decode cX0_init 28 = .ok (.invokespecial 17, 3) := by decide +kernel
theorem dX0_init_31 : decode cX0_init 31 = .ok (.aastore, 1) := by decide +kernel
theorem dX0_init_32 : decode cX0_init 32 = .ok (.iinc 1 1, 3) := by decide +kernel
theorem dX0_init_35 : decode cX0_init 35 = .ok (.goto (-21), 3) := by decide +kernel
theorem dX0_init_38 : decode cX0_init 38 = .ok (.return_, 1) := by decide +kernel
theorem dX0_record_0 : decode cX0_record 0 = .ok (.aload_n 0, 1) := by decide +kernel
theorem dX0_record_1 : decode cX0_record 1 = .ok (.getfield 11, 3) := by decide +kernel
theorem dX0_record_4 : decode cX0_record 4 = .ok (.aload_n 0, 1) := by decide +kernel
theorem dX0_record_5 : decode cX0_record 5 = .ok (.getfield 18, 3) := by decide +kernel
theorem dX0_record_8 : decode cX0_record 8 = .ok (.aaload, 1) := by decide +kernel
theorem dX0_record_9 : decode cX0_record 9 = .ok (.aload_n 1, 1) := by decide +kernel
theorem dX0_record_10 : decode cX0_record 10 = .ok (.invokevirtual 22, 3) := by decide +kernel
theorem dX0_record_13 : decode cX0_record 13 = .ok (.aload_n 0, 1) := by decide +kernel
theorem dX0_record_14 : decode cX0_record 14 = .ok (.aload_n 0, 1) := by decide +kernel
theorem dX0_record_15 : decode cX0_record 15 = .ok (.getfield 18, 3) := by decide +kernel
theorem dX0_record_18 : decode cX0_record 18 = .ok (.iconst 1, 1) := by decide +kernel
theorem dX0_record_19 : decode cX0_record 19 = .ok (.iadd, 1) := by decide +kernel
theorem dX0_record_20 : decode cX0_record 20 = .ok (.iconst 4, 1) := by decide +kernel
theorem dX0_record_21 : decode cX0_record 21 = .ok (.irem, 1) := by decide +kernel
theorem dX0_record_22 : decode cX0_record 22 = .ok (.putfield 18, 3) := by decide +kernel
theorem dX0_record_25 : decode cX0_record 25 = .ok (.aload_n 0, 1) := by decide +kernel
theorem dX0_record_26 : decode cX0_record 26 = .ok (.aload_n 0, 1) := by decide +kernel
theorem dX0_record_27 : decode cX0_record 27 = .ok (.getfield 26, 3) := by decide +kernel
theorem dX0_record_30 : decode cX0_record 30 = .ok (.iconst 1, 1) := by decide +kernel
theorem dX0_record_31 : decode cX0_record 31 = .ok (.iadd, 1) := by decide +kernel
theorem dX0_record_32 : decode cX0_record 32 = .ok (.iconst 4, 1) := by decide +kernel
theorem dX0_record_33 : decode cX0_record 33 = .ok (.invokestatic 29, 3) := by decide +kernel
theorem dX0_record_36 : decode cX0_record 36 = .ok (.putfield 26, 3) := by decide +kernel
theorem dX0_record_39 : decode cX0_record 39 = .ok (.return_, 1) := by decide +kernel
theorem dX0_takeBack_0 : decode cX0_takeBack 0 = .ok (.aload_n 0, 1) := by decide +kernel
theorem dX0_takeBack_1 : decode cX0_takeBack 1 = .ok (.aload_n 0, 1) := by decide +kernel
theorem dX0_takeBack_2 : decode cX0_takeBack 2 = .ok (.getfield 18, 3) := by decide +kernel
theorem dX0_takeBack_5 : decode cX0_takeBack 5 = .ok (.iconst 4, 1) := by decide +kernel
theorem dX0_takeBack_6 : decode cX0_takeBack 6 = .ok (.iadd, 1) := by decide +kernel
theorem dX0_takeBack_7 : decode cX0_takeBack 7 = .ok (.iconst 1, 1) := by decide +kernel
theorem dX0_takeBack_8 : decode cX0_takeBack 8 = .ok (.isub, 1) := by decide +kernel
theorem dX0_takeBack_9 : decode cX0_takeBack 9 = .ok (.iconst 4, 1) := by decide +kernel
theorem dX0_takeBack_10 : decode cX0_takeBack 10 = .ok (.irem, 1) := by decide +kernel
theorem dX0_takeBack_11 : decode cX0_takeBack 11 = .ok (.putfield 18, 3) := by decide +kernel
theorem dX0_takeBack_14 : decode cX0_takeBack 14 = .ok (.aload_n 0, 1) := by decide +kernel
theorem dX0_takeBack_15 : decode cX0_takeBack 15 = .ok (.dup, 1) := by decide +kernel
theorem dX0_takeBack_16 : decode cX0_takeBack 16 = .ok (.getfield 26, 3) := by decide +kernel
theorem dX0_takeBack_19 : decode cX0_takeBack 19 = .ok (.iconst 1, 1) := by decide +kernel
theorem dX0_takeBack_20 : decode cX0_takeBack 20 = .ok (.isub, 1) := by decide +kernel
theorem dX0_takeBack_21 : decode cX0_takeBack 21 = .ok (.putfield 26, 3) := by decide +kernel
theorem dX0_takeBack_24 : decode cX0_takeBack 24 = .ok (.aload_n 1, 1) := by decide +kernel
theorem dX0_takeBack_25 : decode cX0_takeBack 25 = .ok (.aload_n 0, 1) := by decide +kernel
theorem dX0_takeBack_26 : decode cX0_takeBack 26 = .ok (.getfield 11, 3) := by decide +kernel
theorem dX0_takeBack_29 : decode cX0_takeBack 29 = .ok (.aload_n 0, 1) := by decide +kernel
theorem dX0_takeBack_30 : decode cX0_takeBack 30 = .ok (.getfield 18, 3) := by decide +kernel
theorem dX0_takeBack_33 : decode cX0_takeBack 33 = .ok (.aaload, 1) := by decide +kernel
theorem dX0_takeBack_34 : decode cX0_takeBack 34 = .ok (.invokevirtual 22, 3) := by decide +kernel
theorem dX0_takeBack_37 : decode cX0_takeBack 37 = .ok (.return_, 1) := by decide +kernel
theorem dX1_init_0 : decode cX1_init 0 = .ok (.aload_n 0, 1) := by decide +kernel
theorem dX1_init_1 : decode cX1_init 1 = .ok (.invokespecial 1, 3) := by decide +kernel
theorem dX1_init_4 : decode cX1_init 4 = .ok (.return_, 1) := by decide +kernel
theorem dX1_copyFrom_0 : decode cX1_copyFrom 0 = .ok (.aload_n 0, 1) := by decide +kernel
theorem dX1_copyFrom_1 : decode cX1_copyFrom 1 = .ok (.aload_n 1, 1) := by decide +kernel
theorem dX1_copyFrom_2 : decode cX1_copyFrom 2 = .ok (.getfield 7, 3) := by decide +kernel
theorem dX1_copyFrom_5 : decode cX1_copyFrom 5 = .ok (.putfield 7, 3) := by decide +kernel
theorem dX1_copyFrom_8 : decode cX1_copyFrom 8 = .ok (.aload_n 0, 1) := by decide +kernel
theorem dX1_copyFrom_9 : decode cX1_copyFrom 9 = .ok (.aload_n 1, 1) := by decide +kernel
theorem dX1_copyFrom_10 : decode cX1_copyFrom 10 = .ok (.getfield 13, 3) := by decide +kernel
theorem dX1_copyFrom_13 : decode cX1_copyFrom 13 = .ok (.putfield 13, 3) := by decide +kernel
theorem dX1_copyFrom_16 : decode cX1_copyFrom 16 = .ok (.aload_n 0, 1) := by decide +kernel
theorem dX1_copyFrom_17 : decode cX1_copyFrom 17 = .ok (.aload_n 1, 1) := by decide +kernel
theorem dX1_copyFrom_18 : decode cX1_copyFrom 18 = .ok (.getfield 16, 3) := by decide +kernel
theorem dX1_copyFrom_21 : decode cX1_copyFrom 21 = .ok (.putfield 16, 3) := by decide +kernel
theorem dX1_copyFrom_24 : decode cX1_copyFrom 24 = .ok (.aload_n 0, 1) := by decide +kernel
theorem dX1_copyFrom_25 : decode cX1_copyFrom 25 = .ok (.aload_n 1, 1) := by decide +kernel
theorem dX1_copyFrom_26 : decode cX1_copyFrom 26 = .ok (.getfield 20, 3) := by decide +kernel
theorem dX1_copyFrom_29 : decode cX1_copyFrom 29 = .ok (.putfield 20, 3) := by decide +kernel
theorem dX1_copyFrom_32 : decode cX1_copyFrom 32 = .ok (.aload_n 0, 1) := by decide +kernel
theorem dX1_copyFrom_33 : decode cX1_copyFrom 33 = .ok (.aload_n 1, 1) := by decide +kernel
theorem dX1_copyFrom_34 : decode cX1_copyFrom 34 = .ok (.getfield 23, 3) := by decide +kernel
theorem dX1_copyFrom_37 : decode cX1_copyFrom 37 = .ok (.putfield 23, 3) := by decide +kernel
theorem dX1_copyFrom_40 : decode cX1_copyFrom 40 = .ok (.aload_n 0, 1) := by decide +kernel
theorem dX1_copyFrom_41 : decode cX1_copyFrom 41 = .ok (.aload_n 1, 1) := by decide +kernel
theorem dX1_copyFrom_42 : decode cX1_copyFrom 42 = .ok (.getfield 26, 3) := by decide +kernel
theorem dX1_copyFrom_45 : decode cX1_copyFrom 45 = .ok (.putfield 26, 3) := by decide +kernel
theorem dX1_copyFrom_48 : decode cX1_copyFrom 48 = .ok (.aload_n 0, 1) := by decide +kernel
theorem dX1_copyFrom_49 : decode cX1_copyFrom 49 = .ok (.aload_n 1, 1) := by decide +kernel
theorem dX1_copyFrom_50 : decode cX1_copyFrom 50 = .ok (.getfield 29, 3) := by decide +kernel
theorem dX1_copyFrom_53 : decode cX1_copyFrom 53 = .ok (.putfield 29, 3) := by decide +kernel
theorem dX1_copyFrom_56 : decode cX1_copyFrom 56 = .ok (.aload_n 0, 1) := by decide +kernel
theorem dX1_copyFrom_57 : decode cX1_copyFrom 57 = .ok (.aload_n 1, 1) := by decide +kernel
theorem dX1_copyFrom_58 : decode cX1_copyFrom 58 = .ok (.getfield 32, 3) := by decide +kernel
theorem dX1_copyFrom_61 : decode cX1_copyFrom 61 = .ok (.putfield 32, 3) := by decide +kernel
theorem dX1_copyFrom_64 : decode cX1_copyFrom 64 = .ok (.aload_n 0, 1) := by decide +kernel
theorem dX1_copyFrom_65 : decode cX1_copyFrom 65 = .ok (.aload_n 1, 1) := by decide +kernel
theorem dX1_copyFrom_66 : decode cX1_copyFrom 66 = .ok (.getfield 35, 3) := by decide +kernel
theorem dX1_copyFrom_69 : decode cX1_copyFrom 69 = .ok (.putfield 35, 3) := by decide +kernel
theorem dX1_copyFrom_72 : decode cX1_copyFrom 72 = .ok (.aload_n 0, 1) := by decide +kernel
theorem dX1_copyFrom_73 : decode cX1_copyFrom 73 = .ok (.aload_n 1, 1) := by decide +kernel
theorem dX1_copyFrom_74 : decode cX1_copyFrom 74 = .ok (.getfield 38, 3) := by decide +kernel
theorem dX1_copyFrom_77 : decode cX1_copyFrom 77 = .ok (.putfield 38, 3) := by decide +kernel
theorem dX1_copyFrom_80 : decode cX1_copyFrom 80 = .ok (.aload_n 0, 1) := by decide +kernel
theorem dX1_copyFrom_81 : decode cX1_copyFrom 81 = .ok (.aload_n 1, 1) := by decide +kernel
theorem dX1_copyFrom_82 : decode cX1_copyFrom 82 = .ok (.getfield 41, 3) := by decide +kernel
theorem dX1_copyFrom_85 : decode cX1_copyFrom 85 = .ok (.putfield 41, 3) := by decide +kernel
theorem dX1_copyFrom_88 : decode cX1_copyFrom 88 = .ok (.return_, 1) := by decide +kernel
theorem dX2_init_0 : decode cX2_init 0 = .ok (.aload_n 0, 1) := by decide +kernel
theorem dX2_init_1 : decode cX2_init 1 = .ok (.invokespecial 3, 3) := by decide +kernel
theorem dX2_init_4 : decode cX2_init 4 = .ok (.aload_n 0, 1) := by decide +kernel
theorem dX2_init_5 : decode cX2_init 5 = .ok (.bipush 80, 2) := by decide +kernel
theorem dX2_init_7 : decode cX2_init 7 = .ok (.newarray .char, 2) := by decide +kernel
theorem dX2_init_9 : decode cX2_init 9 = .ok (.putfield 9, 3) := by decide +kernel
theorem dX2_init_12 : decode cX2_init 12 = .ok (.aload_n 0, 1) := by decide +kernel
theorem dX2_init_13 : decode cX2_init 13 = .ok (.bipush 11, 2) := by decide +kernel
theorem dX2_init_15 : decode cX2_init 15 = .ok (.newarray .int, 2) := by decide +kernel
theorem dX2_init_17 : decode cX2_init 17 = .ok (.putfield 15, 3) := by decide +kernel
theorem dX2_init_20 : decode cX2_init 20 = .ok (.aload_n 0, 1) := by decide +kernel
theorem dX2_init_21 : decode cX2_init 21 = .ok (.bipush 11, 2) := by decide +kernel
theorem dX2_init_23 : decode cX2_init 23 = .ok (.newarray .int, 2) := by decide +kernel
theorem dX2_init_25 : decode cX2_init 25 = .ok (.putfield 19, 3) := by decide +kernel
theorem dX2_init_28 : decode cX2_init 28 = .ok (.aload_n 0, 1) := by decide +kernel
theorem dX2_init_29 : decode cX2_init 29 = .ok (.bipush 11, 2) := by decide +kernel
theorem dX2_init_31 : decode cX2_init 31 = .ok (.newarray .int, 2) := by decide +kernel
theorem dX2_init_33 : decode cX2_init 33 = .ok (.putfield 22, 3) := by decide +kernel
theorem dX2_init_36 : decode cX2_init 36 = .ok (.return_, 1) := by decide +kernel
theorem dX2_read_0 : decode cX2_read 0 = .ok (.aload_n 0, 1) := by decide +kernel
theorem dX2_read_1 : decode cX2_read 1 = .ok (.iconst 0, 1) := by decide +kernel
theorem dX2_read_2 : decode cX2_read 2 = .ok (.putfield 25, 3) := by decide +kernel
theorem dX2_read_5 : decode cX2_read 5 = .ok (.aload_n 0, 1) := by decide +kernel
theorem dX2_read_6 : decode cX2_read 6 = .ok (.iconst 0, 1) := by decide +kernel
theorem dX2_read_7 : decode cX2_read 7 = .ok (.putfield 29, 3) := by decide +kernel
theorem dX2_read_10 : decode cX2_read 10 = .ok (.aload_n 0, 1) := by decide +kernel
theorem dX2_read_11 : decode cX2_read 11 = .ok (.getfield 29, 3) := by decide +kernel
theorem dX2_read_14 : decode cX2_read 14 = .ok (.bipush 11, 2) := by decide +kernel
theorem dX2_read_16 : decode cX2_read 16 = .ok (.if_icmp .ge 57, 3) := by decide +kernel
theorem dX2_read_19 : decode cX2_read 19 = .ok (.aload_n 0, 1) := by decide +kernel
theorem dX2_read_20 : decode cX2_read 20 = .ok (.aload_n 0, 1) := by decide +kernel
theorem dX2_read_21 : decode cX2_read 21 = .ok (.getfield 29, 3) := by decide +kernel
theorem dX2_read_24 : decode cX2_read 24 = .ok (.invokevirtual 32, 3) := by decide +kernel
theorem dX2_read_27 : decode cX2_read 27 = .ok (.ifCond .ne 8, 3) := by decide +kernel
theorem dX2_read_30 : decode cX2_read 30 = .ok (.aload_n 0, 1) := by decide +kernel
theorem dX2_read_31 : decode cX2_read 31 = .ok (.getfield 25, 3) := by decide +kernel
theorem dX2_read_34 : decode cX2_read 34 = .ok (.ireturn, 1) := by decide +kernel
theorem dX2_read_35 : decode cX2_read 35 = .ok (.aload_n 0, 1) := by decide +kernel
theorem dX2_read_36 : decode cX2_read 36 = .ok (.dup, 1) := by decide +kernel
theorem dX2_read_37 : decode cX2_read 37 = .ok (.getfield 29, 3) := by decide +kernel
theorem dX2_read_40 : decode cX2_read 40 = .ok (.iconst 1, 1) := by decide +kernel
theorem dX2_read_41 : decode cX2_read 41 = .ok (.iadd, 1) := by decide +kernel
theorem dX2_read_42 : decode cX2_read 42 = .ok (.putfield 29, 3) := by decide +kernel
theorem dX2_read_45 : decode cX2_read 45 = .ok (.aload_n 0, 1) := by decide +kernel
theorem dX2_read_46 : decode cX2_read 46 = .ok (.getfield 25, 3) := by decide +kernel
theorem dX2_read_49 : decode cX2_read 49 = .ok (.aload_n 0, 1) := by decide +kernel
theorem dX2_read_50 : decode cX2_read 50 = .ok (.getfield 36, 3) := by decide +kernel
theorem dX2_read_53 : decode cX2_read 53 = .ok (.if_icmp .lt 6, 3) := by decide +kernel
theorem dX2_read_56 : decode cX2_read 56 = .ok (.bipush (-4), 2) := by decide +kernel
theorem dX2_read_58 : decode cX2_read 58 = .ok (.ireturn, 1) := by decide +kernel
theorem dX2_read_59 : decode cX2_read 59 = .ok (.aload_n 0, 1) := by decide +kernel
theorem dX2_read_60 : decode cX2_read 60 = .ok (.ldc 39, 2) := by decide +kernel
theorem dX2_read_62 : decode cX2_read 62 = .ok (.invokevirtual 41, 3) := by decide +kernel
theorem dX2_read_65 : decode cX2_read 65 = .ok (.ifCond .ne (-55), 3) := by decide +kernel
theorem dX2_read_68 : decode cX2_read 68 = .ok (.aload_n 0, 1) := by decide +kernel
theorem dX2_read_69 : decode cX2_read 69 = .ok (.getfield 25, 3) := by decide +kernel
theorem dX2_read_72 : decode cX2_read 72 = .ok (.ireturn, 1) := by decide +kernel
theorem dX2_read_73 : decode cX2_read 73 = .ok (.aload_n 0, 1) := by decide +kernel
theorem dX2_read_74 : decode cX2_read 74 = .ok (.getfield 25, 3) := by decide +kernel
theorem dX2_read_77 : decode cX2_read 77 = .ok (.ireturn, 1) := by decide +kernel
theorem dX2_readLine_0 : decode cX2_readLine 0 = .ok (.aload_n 0, 1) := by decide +kernel
theorem dX2_readLine_1 : decode cX2_readLine 1 = .ok (.invokevirtual 45, 3) := by decide +kernel
theorem dX2_readLine_4 : decode cX2_readLine 4 = .ok (.istore_n 2, 1) := by decide +kernel
theorem dX2_readLine_5 : decode cX2_readLine 5 = .ok (.iload_n 2, 1) := by decide +kernel
theorem dX2_readLine_6 : decode cX2_readLine 6 = .ok (.iconst (-1), 1) := by decide +kernel
theorem dX2_readLine_7 : decode cX2_readLine 7 = .ok (.if_icmp .ne 5, 3) := by decide +kernel
theorem dX2_readLine_10 : decode cX2_readLine 10 = .ok (.iconst 0, 1) := by decide +kernel
theorem dX2_readLine_11 : decode cX2_readLine 11 = .ok (.ireturn, 1) := by decide +kernel
theorem dX2_readLine_12 : decode cX2_readLine 12 = .ok (.aload_n 0, 1) := by decide +kernel
theorem dX2_readLine_13 : decode cX2_readLine 13 = .ok (.iconst 0, 1) := by decide +kernel
theorem dX2_readLine_14 : decode cX2_readLine 14 = .ok (.iconst 3, 1) := by decide +kernel
theorem dX2_readLine_15 : decode cX2_readLine 15 = .ok (.invokevirtual 49, 3) := by decide +kernel
theorem dX2_readLine_18 : decode cX2_readLine 18 = .ok (.istore_n 3, 1) := by decide +kernel
theorem dX2_readLine_19 : decode cX2_readLine 19 = .ok (.iload_n 3, 1) := by decide +kernel
theorem dX2_readLine_20 : decode cX2_readLine 20 = .ok (.iconst (-1), 1) := by decide +kernel
theorem dX2_readLine_21 : decode cX2_readLine 21 = .ok (.if_icmp .ne 5, 3) := by decide +kernel
theorem dX2_readLine_24 : decode cX2_readLine 24 = .ok (.iconst 0, 1) := by decide +kernel
theorem dX2_readLine_25 : decode cX2_readLine 25 = .ok (.ireturn, 1) := by decide +kernel
theorem dX2_readLine_26 : decode cX2_readLine 26 = .ok (.aload_n 0, 1) := by decide +kernel
theorem dX2_readLine_27 : decode cX2_readLine 27 = .ok (.iload_n 2, 1) := by decide +kernel
theorem dX2_readLine_28 : decode cX2_readLine 28 = .ok (.ifCond .eq 8, 3) := by decide +kernel
theorem dX2_readLine_31 : decode cX2_readLine 31 = .ok (.iload_n 2, 1) := by decide +kernel
theorem dX2_readLine_32 : decode cX2_readLine 32 = .ok (.iconst 3, 1) := by decide +kernel
theorem dX2_readLine_33 : decode cX2_readLine 33 = .ok (.if_icmp .ne 7, 3) := by decide +kernel
theorem dX2_readLine_36 : decode cX2_readLine 36 = .ok (.iconst 0, 1) := by decide +kernel
theorem dX2_readLine_37 : decode cX2_readLine 37 = .ok (.goto 4, 3) := by decide +kernel
theorem dX2_readLine_40 : decode cX2_readLine 40 = .ok (.iconst 1, 1) := by decide +kernel
theorem dX2_readLine_41 : decode cX2_readLine 41 = .ok (.sipush 9999, 3) := by decide +kernel
theorem dX2_readLine_44 : decode cX2_readLine 44 = .ok (.invokevirtual 49, 3) := by decide +kernel
theorem dX2_readLine_47 : decode cX2_readLine 47 = .ok (.istore 4, 2) := by decide +kernel
theorem dX2_readLine_49 : decode cX2_readLine 49 = .ok (.iload 4, 2) := by decide +kernel
theorem dX2_readLine_51 : decode cX2_readLine 51 = .ok (.iconst (-1), 1) := by decide +kernel
theorem dX2_readLine_52 : decode cX2_readLine 52 = .ok (.if_icmp .ne 5, 3) := by decide +kernel
theorem dX2_readLine_55 : decode cX2_readLine 55 = .ok (.iconst 0, 1) := by decide +kernel
theorem dX2_readLine_56 : decode cX2_readLine 56 = .ok (.ireturn, 1) := by decide +kernel
theorem dX2_readLine_57 : decode cX2_readLine 57 = .ok (.aload_n 0, 1) := by decide +kernel
theorem dX2_readLine_58 : decode cX2_readLine 58 = .ok (.getfield 15, 3) := by decide +kernel
theorem dX2_readLine_61 : decode cX2_readLine 61 = .ok (.iload_n 1, 1) := by decide +kernel
theorem dX2_readLine_62 : decode cX2_readLine 62 = .ok (.iload_n 2, 1) := by decide +kernel
theorem dX2_readLine_63 : decode cX2_readLine 63 = .ok (.iastore, 1) := by decide +kernel
theorem dX2_readLine_64 : decode cX2_readLine 64 = .ok (.aload_n 0, 1) := by decide +kernel
theorem dX2_readLine_65 : decode cX2_readLine 65 = .ok (.getfield 19, 3) := by decide +kernel
theorem dX2_readLine_68 : decode cX2_readLine 68 = .ok (.iload_n 1, 1) := by decide +kernel
theorem dX2_readLine_69 : decode cX2_readLine 69 = .ok (.iload_n 3, 1) := by decide +kernel
theorem dX2_readLine_70 : decode cX2_readLine 70 = .ok (.iastore, 1) := by decide +kernel
theorem dX2_readLine_71 : decode cX2_readLine 71 = .ok (.aload_n 0, 1) := by decide +kernel
theorem dX2_readLine_72 : decode cX2_readLine 72 = .ok (.getfield 22, 3) := by decide +kernel
theorem dX2_readLine_75 : decode cX2_readLine 75 = .ok (.iload_n 1, 1) := by decide +kernel
theorem dX2_readLine_76 : decode cX2_readLine 76 = .ok (.iload 4, 2) := by decide +kernel
theorem dX2_readLine_78 : decode cX2_readLine 78 = .ok (.iastore, 1) := by decide +kernel
theorem dX2_readLine_79 : decode cX2_readLine 79 = .ok (.iconst 1, 1) := by decide +kernel
theorem dX2_readLine_80 : decode cX2_readLine 80 = .ok (.ireturn, 1) := by decide +kernel
theorem dX2_readWord_0 : decode cX2_readWord 0 = .ok (.aload_n 0, 1) := by decide +kernel
theorem dX2_readWord_1 : decode cX2_readWord 1 = .ok (.invokevirtual 53, 3) := by decide +kernel
theorem dX2_readWord_4 : decode cX2_readWord 4 = .ok (.tableswitch 106 107 116 #[56, 106, 106, 106, 106, 106, 106, 91, 61, 76], 56) := by decide +kernel
theorem dX2_readWord_60 : decode cX2_readWord 60 = .ok (.aload_n 0, 1) := by decide +kernel
theorem dX2_readWord_61 : decode cX2_readWord 61 = .ok (.invokevirtual 56, 3) := by decide +kernel
theorem dX2_readWord_64 : decode cX2_readWord 64 = .ok (.ireturn, 1) := by decide +kernel
theorem dX2_readWord_65 : decode cX2_readWord 65 = .ok (.aload_n 0, 1) := by decide +kernel
theorem dX2_readWord_66 : decode cX2_readWord 66 = .ok (.ldc 59, 2) := by decide +kernel
theorem dX2_readWord_68 : decode cX2_readWord 68 = .ok (.invokevirtual 41, 3) := by decide +kernel
theorem dX2_readWord_71 : decode cX2_readWord 71 = .ok (.ifCond .eq 7, 3) := by decide +kernel
theorem dX2_readWord_74 : decode cX2_readWord 74 = .ok (.iconst 1, 1) := by decide +kernel
theorem dX2_readWord_75 : decode cX2_readWord 75 = .ok (.goto 4, 3) := by decide +kernel
theorem dX2_readWord_78 : decode cX2_readWord 78 = .ok (.iconst (-1), 1) := by decide +kernel
theorem dX2_readWord_79 : decode cX2_readWord 79 = .ok (.ireturn, 1) := by decide +kernel
theorem dX2_readWord_80 : decode cX2_readWord 80 = .ok (.aload_n 0, 1) := by decide +kernel
theorem dX2_readWord_81 : decode cX2_readWord 81 = .ok (.ldc 61, 2) := by decide +kernel
theorem dX2_readWord_83 : decode cX2_readWord 83 = .ok (.invokevirtual 41, 3) := by decide +kernel
theorem dX2_readWord_86 : decode cX2_readWord 86 = .ok (.ifCond .eq 7, 3) := by decide +kernel
theorem dX2_readWord_89 : decode cX2_readWord 89 = .ok (.iconst 2, 1) := by decide +kernel
theorem dX2_readWord_90 : decode cX2_readWord 90 = .ok (.goto 4, 3) := by decide +kernel
theorem dX2_readWord_93 : decode cX2_readWord 93 = .ok (.iconst (-1), 1) := by decide +kernel
theorem dX2_readWord_94 : decode cX2_readWord 94 = .ok (.ireturn, 1) := by decide +kernel
theorem dX2_readWord_95 : decode cX2_readWord 95 = .ok (.aload_n 0, 1) := by decide +kernel
theorem dX2_readWord_96 : decode cX2_readWord 96 = .ok (.ldc 63, 2) := by decide +kernel
theorem dX2_readWord_98 : decode cX2_readWord 98 = .ok (.invokevirtual 41, 3) := by decide +kernel
theorem dX2_readWord_101 : decode cX2_readWord 101 = .ok (.ifCond .eq 7, 3) := by decide +kernel
theorem dX2_readWord_104 : decode cX2_readWord 104 = .ok (.iconst 3, 1) := by decide +kernel
theorem dX2_readWord_105 : decode cX2_readWord 105 = .ok (.goto 4, 3) := by decide +kernel
theorem dX2_readWord_108 : decode cX2_readWord 108 = .ok (.iconst (-1), 1) := by decide +kernel
theorem dX2_readWord_109 : decode cX2_readWord 109 = .ok (.ireturn, 1) := by decide +kernel
theorem dX2_readWord_110 : decode cX2_readWord 110 = .ok (.iconst (-1), 1) := by decide +kernel
theorem dX2_readWord_111 : decode cX2_readWord 111 = .ok (.ireturn, 1) := by decide +kernel
theorem dX2_readKeyOrKeys_0 : decode cX2_readKeyOrKeys 0 = .ok (.aload_n 0, 1) := by decide +kernel
theorem dX2_readKeyOrKeys_1 : decode cX2_readKeyOrKeys 1 = .ok (.ldc 65, 2) := by decide +kernel
theorem dX2_readKeyOrKeys_3 : decode cX2_readKeyOrKeys 3 = .ok (.invokevirtual 41, 3) := by decide +kernel
theorem dX2_readKeyOrKeys_6 : decode cX2_readKeyOrKeys 6 = .ok (.ifCond .ne 5, 3) := by decide +kernel
theorem dX2_readKeyOrKeys_9 : decode cX2_readKeyOrKeys 9 = .ok (.iconst (-1), 1) := by decide +kernel
theorem dX2_readKeyOrKeys_10 : decode cX2_readKeyOrKeys 10 = .ok (.ireturn, 1) := by decide +kernel
theorem dX2_readKeyOrKeys_11 : decode cX2_readKeyOrKeys 11 = .ok (.aload_n 0, 1) := by decide +kernel
theorem dX2_readKeyOrKeys_12 : decode cX2_readKeyOrKeys 12 = .ok (.ldc 67, 2) := by decide +kernel
theorem dX2_readKeyOrKeys_14 : decode cX2_readKeyOrKeys 14 = .ok (.invokevirtual 41, 3) := by decide +kernel
theorem dX2_readKeyOrKeys_17 : decode cX2_readKeyOrKeys 17 = .ok (.ifCond .eq 7, 3) := by decide +kernel
theorem dX2_readKeyOrKeys_20 : decode cX2_readKeyOrKeys 20 = .ok (.iconst 4, 1) := by decide +kernel
theorem dX2_readKeyOrKeys_21 : decode cX2_readKeyOrKeys 21 = .ok (.goto 4, 3) := by decide +kernel
theorem dX2_readKeyOrKeys_24 : decode cX2_readKeyOrKeys 24 = .ok (.iconst 0, 1) := by decide +kernel
theorem dX2_readKeyOrKeys_25 : decode cX2_readKeyOrKeys 25 = .ok (.ireturn, 1) := by decide +kernel
theorem dX2_readNumber_0 : decode cX2_readNumber 0 = .ok (.aload_n 0, 1) := by decide +kernel
theorem dX2_readNumber_1 : decode cX2_readNumber 1 = .ok (.ldc 69, 2) := by decide +kernel
theorem dX2_readNumber_3 : decode cX2_readNumber 3 = .ok (.invokevirtual 41, 3) := by decide +kernel
theorem dX2_readNumber_6 : decode cX2_readNumber 6 = .ok (.ifCond .ne 5, 3) := by decide +kernel
theorem dX2_readNumber_9 : decode cX2_readNumber 9 = .ok (.iconst (-1), 1) := by decide +kernel
theorem dX2_readNumber_10 : decode cX2_readNumber 10 = .ok (.ireturn, 1) := by decide +kernel
theorem dX2_readNumber_11 : decode cX2_readNumber 11 = .ok (.aload_n 0, 1) := by decide +kernel
theorem dX2_readNumber_12 : decode cX2_readNumber 12 = .ok (.invokevirtual 71, 3) := by decide +kernel
theorem dX2_readNumber_15 : decode cX2_readNumber 15 = .ok (.istore_n 3, 1) := by decide +kernel
theorem dX2_readNumber_16 : decode cX2_readNumber 16 = .ok (.iload_n 3, 1) := by decide +kernel
theorem dX2_readNumber_17 : decode cX2_readNumber 17 = .ok (.iload_n 1, 1) := by decide +kernel
theorem dX2_readNumber_18 : decode cX2_readNumber 18 = .ok (.if_icmp .lt 8, 3) := by decide +kernel
theorem dX2_readNumber_21 : decode cX2_readNumber 21 = .ok (.iload_n 3, 1) := by decide +kernel
theorem dX2_readNumber_22 : decode cX2_readNumber 22 = .ok (.iload_n 2, 1) := by decide +kernel
theorem dX2_readNumber_23 : decode cX2_readNumber 23 = .ok (.if_icmp .le 5, 3) := by decide +kernel
theorem dX2_readNumber_26 : decode cX2_readNumber 26 = .ok (.iconst (-1), 1) := by decide +kernel
theorem dX2_readNumber_27 : decode cX2_readNumber 27 = .ok (.ireturn, 1) := by decide +kernel
theorem dX2_readNumber_28 : decode cX2_readNumber 28 = .ok (.aload_n 0, 1) := by decide +kernel
theorem dX2_readNumber_29 : decode cX2_readNumber 29 = .ok (.dup, 1) := by decide +kernel
theorem dX2_readNumber_30 : decode cX2_readNumber 30 = .ok (.getfield 25, 3) := by decide +kernel
theorem dX2_readNumber_33 : decode cX2_readNumber 33 = .ok (.iconst 1, 1) := by decide +kernel
theorem dX2_readNumber_34 : decode cX2_readNumber 34 = .ok (.iadd, 1) := by decide +kernel
theorem dX2_readNumber_35 : decode cX2_readNumber 35 = .ok (.putfield 25, 3) := by decide +kernel
theorem dX2_readNumber_38 : decode cX2_readNumber 38 = .ok (.aload_n 0, 1) := by decide +kernel
theorem dX2_readNumber_39 : decode cX2_readNumber 39 = .ok (.getfield 25, 3) := by decide +kernel
theorem dX2_readNumber_42 : decode cX2_readNumber 42 = .ok (.aload_n 0, 1) := by decide +kernel
theorem dX2_readNumber_43 : decode cX2_readNumber 43 = .ok (.getfield 36, 3) := by decide +kernel
theorem dX2_readNumber_46 : decode cX2_readNumber 46 = .ok (.if_icmp .ge 49, 3) := by decide +kernel
theorem dX2_readNumber_49 : decode cX2_readNumber 49 = .ok (.iload_n 3, 1) := by decide +kernel
theorem dX2_readNumber_50 : decode cX2_readNumber 50 = .ok (.ifCond .le 45, 3) := by decide +kernel
theorem dX2_readNumber_53 : decode cX2_readNumber 53 = .ok (.bipush 10, 2) := by decide +kernel
theorem dX2_readNumber_55 : decode cX2_readNumber 55 = .ok (.iload_n 3, 1) := by decide +kernel
theorem dX2_readNumber_56 : decode cX2_readNumber 56 = .ok (.imul, 1) := by decide +kernel
theorem dX2_readNumber_57 : decode cX2_readNumber 57 = .ok (.aload_n 0, 1) := by decide +kernel
theorem dX2_readNumber_58 : decode cX2_readNumber 58 = .ok (.invokevirtual 71, 3) := by decide +kernel
theorem dX2_readNumber_61 : decode cX2_readNumber 61 = .ok (.iadd, 1) := by decide +kernel
theorem dX2_readNumber_62 : decode cX2_readNumber 62 = .ok (.istore 4, 2) := by decide +kernel
theorem dX2_readNumber_64 : decode cX2_readNumber 64 = .ok (.aload_n 0, 1) := by decide +kernel
theorem dX2_readNumber_65 : decode cX2_readNumber 65 = .ok (.invokevirtual 71, 3) := by decide +kernel
theorem dX2_readNumber_68 : decode cX2_readNumber 68 = .ok (.ifCond .lt 9, 3) := by decide +kernel
theorem dX2_readNumber_71 : decode cX2_readNumber 71 = .ok (.iload 4, 2) := by decide +kernel
theorem dX2_readNumber_73 : decode cX2_readNumber 73 = .ok (.iload_n 2, 1) := by decide +kernel
theorem dX2_readNumber_74 : decode cX2_readNumber 74 = .ok (.if_icmp .le 5, 3) := by decide +kernel
theorem dX2_readNumber_77 : decode cX2_readNumber 77 = .ok (.iload_n 3, 1) := by decide +kernel
theorem dX2_readNumber_78 : decode cX2_readNumber 78 = .ok (.ireturn, 1) := by decide +kernel
theorem dX2_readNumber_79 : decode cX2_readNumber 79 = .ok (.iload 4, 2) := by decide +kernel
theorem dX2_readNumber_81 : decode cX2_readNumber 81 = .ok (.istore_n 3, 1) := by decide +kernel
theorem dX2_readNumber_82 : decode cX2_readNumber 82 = .ok (.aload_n 0, 1) := by decide +kernel
theorem dX2_readNumber_83 : decode cX2_readNumber 83 = .ok (.dup, 1) := by decide +kernel
theorem dX2_readNumber_84 : decode cX2_readNumber 84 = .ok (.getfield 25, 3) := by decide +kernel
theorem dX2_readNumber_87 : decode cX2_readNumber 87 = .ok (.iconst 1, 1) := by decide +kernel
theorem dX2_readNumber_88 : decode cX2_readNumber 88 = .ok (.iadd, 1) := by decide +kernel
theorem dX2_readNumber_89 : decode cX2_readNumber 89 = .ok (.putfield 25, 3) := by decide +kernel
theorem dX2_readNumber_92 : decode cX2_readNumber 92 = .ok (.goto (-54), 3) := by decide +kernel
theorem dX2_readNumber_95 : decode cX2_readNumber 95 = .ok (.iload_n 3, 1) := by decide +kernel
theorem dX2_readNumber_96 : decode cX2_readNumber 96 = .ok (.ireturn, 1) := by decide +kernel
theorem dX2_pass_0 : decode cX2_pass 0 = .ok (.iconst 0, 1) := by decide +kernel
theorem dX2_pass_1 : decode cX2_pass 1 = .ok (.istore_n 2, 1) := by decide +kernel
theorem dX2_pass_2 : decode cX2_pass 2 = .ok (.iload_n 2, 1) := by decide +kernel
theorem dX2_pass_3 : decode cX2_pass 3 = .ok (.aload_n 1, 1) := by decide +kernel
theorem dX2_pass_4 : decode cX2_pass 4 = .ok (.invokevirtual 74, 3) := by decide +kernel
theorem dX2_pass_7 : decode cX2_pass 7 = .ok (.if_icmp .ge 33, 3) := by decide +kernel
theorem dX2_pass_10 : decode cX2_pass 10 = .ok (.aload_n 0, 1) := by decide +kernel
theorem dX2_pass_11 : decode cX2_pass 11 = .ok (.invokevirtual 53, 3) := by decide +kernel
theorem dX2_pass_14 : decode cX2_pass 14 = .ok (.aload_n 1, 1) := by decide +kernel
theorem dX2_pass_15 : decode cX2_pass 15 = .ok (.iload_n 2, 1) := by decide +kernel
theorem dX2_pass_16 : decode cX2_pass 16 = .ok (.invokevirtual 78, 3) := by decide +kernel
theorem dX2_pass_19 : decode cX2_pass 19 = .ok (.if_icmp .eq 5, 3) := by decide +kernel
theorem dX2_pass_22 : decode cX2_pass 22 = .ok (.iconst 0, 1) := by decide +kernel
theorem dX2_pass_23 : decode cX2_pass 23 = .ok (.ireturn, 1) := by decide +kernel
theorem dX2_pass_24 : decode cX2_pass 24 = .ok (.aload_n 0, 1) := by decide +kernel
theorem dX2_pass_25 : decode cX2_pass 25 = .ok (.dup, 1) := by decide +kernel
theorem dX2_pass_26 : decode cX2_pass 26 = .ok (.getfield 25, 3) := by decide +kernel
theorem dX2_pass_29 : decode cX2_pass 29 = .ok (.iconst 1, 1) := by decide +kernel
theorem dX2_pass_30 : decode cX2_pass 30 = .ok (.iadd, 1) := by decide +kernel
theorem dX2_pass_31 : decode cX2_pass 31 = .ok (.putfield 25, 3) := by decide +kernel
theorem dX2_pass_34 : decode cX2_pass 34 = .ok (.iinc 2 1, 3) := by decide +kernel
theorem dX2_pass_37 : decode cX2_pass 37 = .ok (.goto (-35), 3) := by decide +kernel
theorem dX2_pass_40 : decode cX2_pass 40 = .ok (.iconst 1, 1) := by decide +kernel
theorem dX2_pass_41 : decode cX2_pass 41 = .ok (.ireturn, 1) := by decide +kernel
theorem dX2_sign_0 : decode cX2_sign 0 = .ok (.aload_n 0, 1) := by decide +kernel
theorem dX2_sign_1 : decode cX2_sign 1 = .ok (.getfield 25, 3) := by decide +kernel
theorem dX2_sign_4 : decode cX2_sign 4 = .ok (.ifCond .lt 35, 3) := by decide +kernel
theorem dX2_sign_7 : decode cX2_sign 7 = .ok (.aload_n 0, 1) := by decide +kernel
theorem dX2_sign_8 : decode cX2_sign 8 = .ok (.getfield 25, 3) := by decide +kernel
theorem dX2_sign_11 : decode cX2_sign 11 = .ok (.aload_n 0, 1) := by decide +kernel
theorem dX2_sign_12 : decode cX2_sign 12 = .ok (.getfield 36, 3) := by decide +kernel
theorem dX2_sign_15 : decode cX2_sign 15 = .ok (.if_icmp .ge 24, 3) := by decide +kernel
theorem dX2_sign_18 : decode cX2_sign 18 = .ok (.aload_n 0, 1) := by decide +kernel
theorem dX2_sign_19 : decode cX2_sign 19 = .ok (.getfield 25, 3) := by decide +kernel
theorem dX2_sign_22 : decode cX2_sign 22 = .ok (.bipush 80, 2) := by decide +kernel
theorem dX2_sign_24 : decode cX2_sign 24 = .ok (.if_icmp .ge 15, 3) := by decide +kernel
theorem dX2_sign_27 : decode cX2_sign 27 = .ok (.aload_n 0, 1) := by decide +kernel
theorem dX2_sign_28 : decode cX2_sign 28 = .ok (.getfield 9, 3) := by decide +kernel
theorem dX2_sign_31 : decode cX2_sign 31 = .ok (.aload_n 0, 1) := by decide +kernel
theorem dX2_sign_32 : decode cX2_sign 32 = .ok (.getfield 25, 3) := by decide +kernel
theorem dX2_sign_35 : decode cX2_sign 35 = .ok (.caload, 1) := by decide +kernel
theorem dX2_sign_36 : decode cX2_sign 36 = .ok (.goto 4, 3) := by decide +kernel
theorem dX2_sign_39 : decode cX2_sign 39 = .ok (.iconst (-1), 1) := by decide +kernel
theorem dX2_sign_40 : decode cX2_sign 40 = .ok (.ireturn, 1) := by decide +kernel
theorem dX2_digit_0 : decode cX2_digit 0 = .ok (.aload_n 0, 1) := by decide +kernel
theorem dX2_digit_1 : decode cX2_digit 1 = .ok (.invokevirtual 53, 3) := by decide +kernel
theorem dX2_digit_4 : decode cX2_digit 4 = .ok (.istore_n 1, 1) := by decide +kernel
theorem dX2_digit_5 : decode cX2_digit 5 = .ok (.iload_n 1, 1) := by decide +kernel
theorem dX2_digit_6 : decode cX2_digit 6 = .ok (.bipush 48, 2) := by decide +kernel
theorem dX2_digit_8 : decode cX2_digit 8 = .ok (.if_icmp .lt 16, 3) := by decide +kernel
theorem dX2_digit_11 : decode cX2_digit 11 = .ok (.iload_n 1, 1) := by decide +kernel
theorem dX2_digit_12 : decode cX2_digit 12 = .ok (.bipush 57, 2) := by decide +kernel
theorem dX2_digit_14 : decode cX2_digit 14 = .ok (.if_icmp .gt 10, 3) := by decide +kernel
theorem dX2_digit_17 : decode cX2_digit 17 = .ok (.iload_n 1, 1) := by decide +kernel
theorem dX2_digit_18 : decode cX2_digit 18 = .ok (.bipush 48, 2) := by decide +kernel
theorem dX2_digit_20 : decode cX2_digit 20 = .ok (.isub, 1) := by decide +kernel
theorem dX2_digit_21 : decode cX2_digit 21 = .ok (.goto 4, 3) := by decide +kernel
theorem dX2_digit_24 : decode cX2_digit 24 = .ok (.iconst (-1), 1) := by decide +kernel
theorem dX2_digit_25 : decode cX2_digit 25 = .ok (.ireturn, 1) := by decide +kernel
theorem dX3_init_0 : decode cX3_init 0 = .ok (.aload_n 0, 1) := by decide +kernel
theorem dX3_init_1 : decode cX3_init 1 = .ok (.invokespecial 3, 3) := by decide +kernel
theorem dX3_init_4 : decode cX3_init 4 = .ok (.aload_n 0, 1) := by decide +kernel
theorem dX3_init_5 : decode cX3_init 5 = .ok (.iconst 4, 1) := by decide +kernel
theorem dX3_init_6 : decode cX3_init 6 = .ok (.anewarray 9, 3) := by decide +kernel
theorem dX3_init_9 : decode cX3_init 9 = .ok (.putfield 11, 3) := by decide +kernel
theorem dX3_init_12 : decode cX3_init 12 = .ok (.aload_n 0, 1) := by decide +kernel
theorem dX3_init_13 : decode cX3_init 13 = .ok (.bipush 12, 2) := by decide +kernel
theorem dX3_init_15 : decode cX3_init 15 = .ok (.anewarray 17, 3) := by decide +kernel
theorem dX3_init_18 : decode cX3_init 18 = .ok (.putfield 19, 3) := by decide +kernel
theorem dX3_init_21 : decode cX3_init 21 = .ok (.aload_n 0, 1) := by decide +kernel
theorem dX3_init_22 : decode cX3_init 22 = .ok (.iconst 5, 1) := by decide +kernel
theorem dX3_init_23 : decode cX3_init 23 = .ok (.newarray .int, 2) := by decide +kernel
theorem dX3_init_25 : decode cX3_init 25 = .ok (.dup, 1) := by decide +kernel
theorem dX3_init_26 : decode cX3_init 26 = .ok (.iconst 0, 1) := by decide +kernel
theorem dX3_init_27 : decode cX3_init 27 = .ok (.bipush 50, 2) := by decide +kernel
theorem dX3_init_29 : decode cX3_init 29 = .ok (.iastore, 1) := by decide +kernel
theorem dX3_init_30 : decode cX3_init 30 = .ok (.dup, 1) := by decide +kernel
theorem dX3_init_31 : decode cX3_init 31 = .ok (.iconst 1, 1) := by decide +kernel
theorem dX3_init_32 : decode cX3_init 32 = .ok (.iconst 2, 1) := by decide +kernel
theorem dX3_init_33 : decode cX3_init 33 = .ok (.iastore, 1) := by decide +kernel
theorem dX3_init_34 : decode cX3_init 34 = .ok (.dup, 1) := by decide +kernel
theorem dX3_init_35 : decode cX3_init 35 = .ok (.iconst 2, 1) := by decide +kernel
theorem dX3_init_36 : decode cX3_init 36 = .ok (.bipush 20, 2) := by decide +kernel
theorem dX3_init_38 : decode cX3_init 38 = .ok (.iastore, 1) := by decide +kernel
theorem dX3_init_39 : decode cX3_init 39 = .ok (.dup, 1) := by decide +kernel
theorem dX3_init_40 : decode cX3_init 40 = .ok (.iconst 3, 1) := by decide +kernel
theorem dX3_init_41 : decode cX3_init 41 = .ok (.bipush 6, 2) := by decide +kernel
theorem dX3_init_43 : decode cX3_init 43 = .ok (.iastore, 1) := by decide +kernel
theorem dX3_init_44 : decode cX3_init 44 = .ok (.dup, 1) := by decide +kernel
theorem dX3_init_45 : decode cX3_init 45 = .ok (.iconst 4, 1) := by decide +kernel
theorem dX3_init_46 : decode cX3_init 46 = .ok (.iconst 4, 1) := by decide +kernel
theorem dX3_init_47 : decode cX3_init 47 = .ok (.iastore, 1) := by decide +kernel
theorem dX3_init_48 : decode cX3_init 48 = .ok (.putfield 23, 3) := by decide +kernel
theorem dX3_init_51 : decode cX3_init 51 = .ok (.iconst 0, 1) := by decide +kernel
theorem dX3_init_52 : decode cX3_init 52 = .ok (.istore_n 1, 1) := by decide +kernel
theorem dX3_init_53 : decode cX3_init 53 = .ok (.iload_n 1, 1) := by decide +kernel
theorem dX3_init_54 : decode cX3_init 54 = .ok (.iconst 4, 1) := by decide +kernel
theorem dX3_init_55 : decode cX3_init 55 = .ok (.if_icmp .ge 22, 3) := by decide +kernel
theorem dX3_init_58 : decode cX3_init 58 = .ok (.aload_n 0, 1) := by decide +kernel
theorem dX3_init_59 : decode cX3_init 59 = .ok (.getfield 11, 3) := by decide +kernel
theorem dX3_init_62 : decode cX3_init 62 = .ok (.iload_n 1, 1) := by decide +kernel
theorem dX3_init_63 : decode cX3_init 63 = .ok (.new 9, 3) := by decide +kernel
theorem dX3_init_66 : decode cX3_init 66 = .ok (.dup, 1) := by decide +kernel
theorem dX3_init_67 : decode cX3_init 67 = .ok (.invokespecial 27, 3) := by decide +kernel
theorem dX3_init_70 : decode cX3_init 70 = .ok (.aastore, 1) := by decide +kernel
theorem dX3_init_71 : decode cX3_init 71 = .ok (.iinc 1 1, 3) := by decide +kernel
theorem dX3_init_74 : decode cX3_init 74 = .ok (.goto (-21), 3) := by decide +kernel
theorem dX3_init_77 : decode cX3_init 77 = .ok (.iconst 0, 1) := by decide +kernel
theorem dX3_init_78 : decode cX3_init 78 = .ok (.istore_n 1, 1) := by decide +kernel
theorem dX3_init_79 : decode cX3_init 79 = .ok (.iload_n 1, 1) := by decide +kernel
theorem dX3_init_80 : decode cX3_init 80 = .ok (.bipush 12, 2) := by decide +kernel
theorem dX3_init_82 : decode cX3_init 82 = .ok (.if_icmp .ge 22, 3) := by decide +kernel
theorem dX3_init_85 : decode cX3_init 85 = .ok (.aload_n 0, 1) := by decide +kernel
theorem dX3_init_86 : decode cX3_init 86 = .ok (.getfield 19, 3) := by decide +kernel
theorem dX3_init_89 : decode cX3_init 89 = .ok (.iload_n 1, 1) := by decide +kernel
theorem dX3_init_90 : decode cX3_init 90 = .ok (.new 17, 3) := by decide +kernel
theorem dX3_init_93 : decode cX3_init 93 = .ok (.dup, 1) := by decide +kernel
theorem dX3_init_94 : decode cX3_init 94 = .ok (.invokespecial 28, 3) := by decide +kernel
theorem dX3_init_97 : decode cX3_init 97 = .ok (.aastore, 1) := by decide +kernel
theorem dX3_init_98 : decode cX3_init 98 = .ok (.iinc 1 1, 3) := by decide +kernel
theorem dX3_init_101 : decode cX3_init 101 = .ok (.goto (-22), 3) := by decide +kernel
theorem dX3_init_104 : decode cX3_init 104 = .ok (.return_, 1) := by decide +kernel
theorem dX3_copyFrom_0 : decode cX3_copyFrom 0 = .ok (.iconst 0, 1) := by decide +kernel
theorem dX3_copyFrom_1 : decode cX3_copyFrom 1 = .ok (.istore_n 2, 1) := by decide +kernel
theorem dX3_copyFrom_2 : decode cX3_copyFrom 2 = .ok (.iload_n 2, 1) := by decide +kernel
theorem dX3_copyFrom_3 : decode cX3_copyFrom 3 = .ok (.iconst 4, 1) := by decide +kernel
theorem dX3_copyFrom_4 : decode cX3_copyFrom 4 = .ok (.if_icmp .ge 24, 3) := by decide +kernel
theorem dX3_copyFrom_7 : decode cX3_copyFrom 7 = .ok (.aload_n 0, 1) := by decide +kernel
theorem dX3_copyFrom_8 : decode cX3_copyFrom 8 = .ok (.getfield 11, 3) := by decide +kernel
theorem dX3_copyFrom_11 : decode cX3_copyFrom 11 = .ok (.iload_n 2, 1) := by decide +kernel
theorem dX3_copyFrom_12 : decode cX3_copyFrom 12 = .ok (.aaload, 1) := by decide +kernel
theorem dX3_copyFrom_13 : decode cX3_copyFrom 13 = .ok (.aload_n 1, 1) := by decide +kernel
theorem dX3_copyFrom_14 : decode cX3_copyFrom 14 = .ok (.getfield 11, 3) := by decide +kernel
theorem dX3_copyFrom_17 : decode cX3_copyFrom 17 = .ok (.iload_n 2, 1) := by decide +kernel
theorem dX3_copyFrom_18 : decode cX3_copyFrom 18 = .ok (.aaload, 1) := by decide +kernel
theorem dX3_copyFrom_19 : decode cX3_copyFrom 19 = .ok (.invokevirtual 29, 3) := by decide +kernel
theorem dX3_copyFrom_22 : decode cX3_copyFrom 22 = .ok (.iinc 2 1, 3) := by decide +kernel
theorem dX3_copyFrom_25 : decode cX3_copyFrom 25 = .ok (.goto (-23), 3) := by decide +kernel
theorem dX3_copyFrom_28 : decode cX3_copyFrom 28 = .ok (.iconst 0, 1) := by decide +kernel
theorem dX3_copyFrom_29 : decode cX3_copyFrom 29 = .ok (.istore_n 2, 1) := by decide +kernel
theorem dX3_copyFrom_30 : decode cX3_copyFrom 30 = .ok (.iload_n 2, 1) := by decide +kernel
theorem dX3_copyFrom_31 : decode cX3_copyFrom 31 = .ok (.bipush 12, 2) := by decide +kernel
theorem dX3_copyFrom_33 : decode cX3_copyFrom 33 = .ok (.if_icmp .ge 24, 3) := by decide +kernel
theorem dX3_copyFrom_36 : decode cX3_copyFrom 36 = .ok (.aload_n 0, 1) := by decide +kernel
theorem dX3_copyFrom_37 : decode cX3_copyFrom 37 = .ok (.getfield 19, 3) := by decide +kernel
theorem dX3_copyFrom_40 : decode cX3_copyFrom 40 = .ok (.iload_n 2, 1) := by decide +kernel
theorem dX3_copyFrom_41 : decode cX3_copyFrom 41 = .ok (.aaload, 1) := by decide +kernel
theorem dX3_copyFrom_42 : decode cX3_copyFrom 42 = .ok (.aload_n 1, 1) := by decide +kernel
theorem dX3_copyFrom_43 : decode cX3_copyFrom 43 = .ok (.getfield 19, 3) := by decide +kernel
theorem dX3_copyFrom_46 : decode cX3_copyFrom 46 = .ok (.iload_n 2, 1) := by decide +kernel
theorem dX3_copyFrom_47 : decode cX3_copyFrom 47 = .ok (.aaload, 1) := by decide +kernel
theorem dX3_copyFrom_48 : decode cX3_copyFrom 48 = .ok (.invokevirtual 33, 3) := by decide +kernel
theorem dX3_copyFrom_51 : decode cX3_copyFrom 51 = .ok (.iinc 2 1, 3) := by decide +kernel
theorem dX3_copyFrom_54 : decode cX3_copyFrom 54 = .ok (.goto (-24), 3) := by decide +kernel
theorem dX3_copyFrom_57 : decode cX3_copyFrom 57 = .ok (.iconst 0, 1) := by decide +kernel
theorem dX3_copyFrom_58 : decode cX3_copyFrom 58 = .ok (.istore_n 2, 1) := by decide +kernel
theorem dX3_copyFrom_59 : decode cX3_copyFrom 59 = .ok (.iload_n 2, 1) := by decide +kernel
theorem dX3_copyFrom_60 : decode cX3_copyFrom 60 = .ok (.iconst 5, 1) := by decide +kernel
theorem dX3_copyFrom_61 : decode cX3_copyFrom 61 = .ok (.if_icmp .ge 21, 3) := by decide +kernel
theorem dX3_copyFrom_64 : decode cX3_copyFrom 64 = .ok (.aload_n 0, 1) := by decide +kernel
theorem dX3_copyFrom_65 : decode cX3_copyFrom 65 = .ok (.getfield 23, 3) := by decide +kernel
theorem dX3_copyFrom_68 : decode cX3_copyFrom 68 = .ok (.iload_n 2, 1) := by decide +kernel
theorem dX3_copyFrom_69 : decode cX3_copyFrom 69 = .ok (.aload_n 1, 1) := by decide +kernel
theorem dX3_copyFrom_70 : decode cX3_copyFrom 70 = .ok (.getfield 23, 3) := by decide +kernel
theorem dX3_copyFrom_73 : decode cX3_copyFrom 73 = .ok (.iload_n 2, 1) := by decide +kernel
theorem dX3_copyFrom_74 : decode cX3_copyFrom 74 = .ok (.iaload, 1) := by decide +kernel
theorem dX3_copyFrom_75 : decode cX3_copyFrom 75 = .ok (.iastore, 1) := by decide +kernel
theorem dX3_copyFrom_76 : decode cX3_copyFrom 76 = .ok (.iinc 2 1, 3) := by decide +kernel
theorem dX3_copyFrom_79 : decode cX3_copyFrom 79 = .ok (.goto (-20), 3) := by decide +kernel
theorem dX3_copyFrom_82 : decode cX3_copyFrom 82 = .ok (.aload_n 0, 1) := by decide +kernel
theorem dX3_copyFrom_83 : decode cX3_copyFrom 83 = .ok (.aload_n 1, 1) := by decide +kernel
theorem dX3_copyFrom_84 : decode cX3_copyFrom 84 = .ok (.getfield 36, 3) := by decide +kernel
theorem dX3_copyFrom_87 : decode cX3_copyFrom 87 = .ok (.putfield 36, 3) := by decide +kernel
theorem dX3_copyFrom_90 : decode cX3_copyFrom 90 = .ok (.aload_n 0, 1) := by decide +kernel
theorem dX3_copyFrom_91 : decode cX3_copyFrom 91 = .ok (.aload_n 1, 1) := by decide +kernel
theorem dX3_copyFrom_92 : decode cX3_copyFrom 92 = .ok (.getfield 40, 3) := by decide +kernel
theorem dX3_copyFrom_95 : decode cX3_copyFrom 95 = .ok (.putfield 40, 3) := by decide +kernel
theorem dX3_copyFrom_98 : decode cX3_copyFrom 98 = .ok (.aload_n 0, 1) := by decide +kernel
theorem dX3_copyFrom_99 : decode cX3_copyFrom 99 = .ok (.aload_n 1, 1) := by decide +kernel
theorem dX3_copyFrom_100 : decode cX3_copyFrom 100 = .ok (.getfield 43, 3) := by decide +kernel
theorem dX3_copyFrom_103 : decode cX3_copyFrom 103 = .ok (.putfield 43, 3) := by decide +kernel
theorem dX3_copyFrom_106 : decode cX3_copyFrom 106 = .ok (.aload_n 0, 1) := by decide +kernel
theorem dX3_copyFrom_107 : decode cX3_copyFrom 107 = .ok (.aload_n 1, 1) := by decide +kernel
theorem dX3_copyFrom_108 : decode cX3_copyFrom 108 = .ok (.getfield 46, 3) := by decide +kernel
theorem dX3_copyFrom_111 : decode cX3_copyFrom 111 = .ok (.putfield 46, 3) := by decide +kernel
theorem dX3_copyFrom_114 : decode cX3_copyFrom 114 = .ok (.aload_n 0, 1) := by decide +kernel
theorem dX3_copyFrom_115 : decode cX3_copyFrom 115 = .ok (.aload_n 1, 1) := by decide +kernel
theorem dX3_copyFrom_116 : decode cX3_copyFrom 116 = .ok (.getfield 49, 3) := by decide +kernel
theorem dX3_copyFrom_119 : decode cX3_copyFrom 119 = .ok (.putfield 49, 3) := by decide +kernel
theorem dX3_copyFrom_122 : decode cX3_copyFrom 122 = .ok (.aload_n 0, 1) := by decide +kernel
theorem dX3_copyFrom_123 : decode cX3_copyFrom 123 = .ok (.aload_n 1, 1) := by decide +kernel
theorem dX3_copyFrom_124 : decode cX3_copyFrom 124 = .ok (.getfield 52, 3) := by decide +kernel
theorem dX3_copyFrom_127 : decode cX3_copyFrom 127 = .ok (.putfield 52, 3) := by decide +kernel
theorem dX3_copyFrom_130 : decode cX3_copyFrom 130 = .ok (.aload_n 0, 1) := by decide +kernel
theorem dX3_copyFrom_131 : decode cX3_copyFrom 131 = .ok (.aload_n 1, 1) := by decide +kernel
theorem dX3_copyFrom_132 : decode cX3_copyFrom 132 = .ok (.getfield 55, 3) := by decide +kernel
theorem dX3_copyFrom_135 : decode cX3_copyFrom 135 = .ok (.putfield 55, 3) := by decide +kernel
theorem dX3_copyFrom_138 : decode cX3_copyFrom 138 = .ok (.return_, 1) := by decide +kernel
theorem dX3_resize_0 : decode cX3_resize 0 = .ok (.iload_n 2, 1) := by decide +kernel
theorem dX3_resize_1 : decode cX3_resize 1 = .ok (.ifCond .eq 16, 3) := by decide +kernel
theorem dX3_resize_4 : decode cX3_resize 4 = .ok (.aload_n 0, 1) := by decide +kernel
theorem dX3_resize_5 : decode cX3_resize 5 = .ok (.getfield 11, 3) := by decide +kernel
theorem dX3_resize_8 : decode cX3_resize 8 = .ok (.iload_n 1, 1) := by decide +kernel
theorem dX3_resize_9 : decode cX3_resize 9 = .ok (.aaload, 1) := by decide +kernel
theorem dX3_resize_10 : decode cX3_resize 10 = .ok (.iload_n 3, 1) := by decide +kernel
theorem dX3_resize_11 : decode cX3_resize 11 = .ok (.putfield 58, 3) := by decide +kernel
theorem dX3_resize_14 : decode cX3_resize 14 = .ok (.goto 13, 3) := by decide +kernel
theorem dX3_resize_17 : decode cX3_resize 17 = .ok (.aload_n 0, 1) := by decide +kernel
theorem dX3_resize_18 : decode cX3_resize 18 = .ok (.getfield 11, 3) := by decide +kernel
theorem dX3_resize_21 : decode cX3_resize 21 = .ok (.iload_n 1, 1) := by decide +kernel
theorem dX3_resize_22 : decode cX3_resize 22 = .ok (.aaload, 1) := by decide +kernel
theorem dX3_resize_23 : decode cX3_resize 23 = .ok (.iload_n 3, 1) := by decide +kernel
theorem dX3_resize_24 : decode cX3_resize 24 = .ok (.putfield 61, 3) := by decide +kernel
theorem dX3_resize_27 : decode cX3_resize 27 = .ok (.return_, 1) := by decide +kernel
theorem dX3_tableUnder_0 : decode cX3_tableUnder 0 = .ok (.aload_n 0, 1) := by decide +kernel
theorem dX3_tableUnder_1 : decode cX3_tableUnder 1 = .ok (.getfield 11, 3) := by decide +kernel
theorem dX3_tableUnder_4 : decode cX3_tableUnder 4 = .ok (.iload_n 1, 1) := by decide +kernel
theorem dX3_tableUnder_5 : decode cX3_tableUnder 5 = .ok (.iconst 3, 1) := by decide +kernel
theorem dX3_tableUnder_6 : decode cX3_tableUnder 6 = .ok (.idiv, 1) := by decide +kernel
theorem dX3_tableUnder_7 : decode cX3_tableUnder 7 = .ok (.aaload, 1) := by decide +kernel
theorem dX3_tableUnder_8 : decode cX3_tableUnder 8 = .ok (.areturn, 1) := by decide +kernel
theorem dX3_priceBy_0 : decode cX3_priceBy 0 = .ok (.iload_n 1, 1) := by decide +kernel
theorem dX3_priceBy_1 : decode cX3_priceBy 1 = .ok (.iconst 3, 1) := by decide +kernel
theorem dX3_priceBy_2 : decode cX3_priceBy 2 = .ok (.irem, 1) := by decide +kernel
theorem dX3_priceBy_3 : decode cX3_priceBy 3 = .ok (.istore 4, 2) := by decide +kernel
theorem dX3_priceBy_5 : decode cX3_priceBy 5 = .ok (.aload_n 0, 1) := by decide +kernel
theorem dX3_priceBy_6 : decode cX3_priceBy 6 = .ok (.iload_n 1, 1) := by decide +kernel
theorem dX3_priceBy_7 : decode cX3_priceBy 7 = .ok (.invokevirtual 64, 3) := by decide +kernel
theorem dX3_priceBy_10 : decode cX3_priceBy 10 = .ok (.getfield 61, 3) := by decide +kernel
theorem dX3_priceBy_13 : decode cX3_priceBy 13 = .ok (.istore 5, 2) := by decide +kernel
theorem dX3_priceBy_15 : decode cX3_priceBy 15 = .ok (.iload_n 2, 1) := by decide +kernel
theorem dX3_priceBy_16 : decode cX3_priceBy 16 = .ok (.ifCond .ne 28, 3) := by decide +kernel
theorem dX3_priceBy_19 : decode cX3_priceBy 19 = .ok (.iload 4, 2) := by decide +kernel
theorem dX3_priceBy_21 : decode cX3_priceBy 21 = .ok (.iconst 2, 1) := by decide +kernel
theorem dX3_priceBy_22 : decode cX3_priceBy 22 = .ok (.if_icmp .ne 15, 3) := by decide +kernel
theorem dX3_priceBy_25 : decode cX3_priceBy 25 = .ok (.iload 5, 2) := by decide +kernel
theorem dX3_priceBy_27 : decode cX3_priceBy 27 = .ok (.iload_n 3, 1) := by decide +kernel
theorem dX3_priceBy_28 : decode cX3_priceBy 28 = .ok (.iload_n 3, 1) := by decide +kernel
theorem dX3_priceBy_29 : decode cX3_priceBy 29 = .ok (.invokestatic 68, 3) := by decide +kernel
theorem dX3_priceBy_32 : decode cX3_priceBy 32 = .ok (.imul, 1) := by decide +kernel
theorem dX3_priceBy_33 : decode cX3_priceBy 33 = .ok (.iadd, 1) := by decide +kernel
theorem dX3_priceBy_34 : decode cX3_priceBy 34 = .ok (.goto 5, 3) := by decide +kernel
theorem dX3_priceBy_37 : decode cX3_priceBy 37 = .ok (.iload 5, 2) := by decide +kernel
theorem dX3_priceBy_39 : decode cX3_priceBy 39 = .ok (.istore 6, 2) := by decide +kernel
theorem dX3_priceBy_41 : decode cX3_priceBy 41 = .ok (.goto 62, 3) := by decide +kernel
theorem dX3_priceBy_44 : decode cX3_priceBy 44 = .ok (.iload_n 2, 1) := by decide +kernel
theorem dX3_priceBy_45 : decode cX3_priceBy 45 = .ok (.iconst 1, 1) := by decide +kernel
theorem dX3_priceBy_46 : decode cX3_priceBy 46 = .ok (.if_icmp .ne 32, 3) := by decide +kernel
theorem dX3_priceBy_49 : decode cX3_priceBy 49 = .ok (.iload 5, 2) := by decide +kernel
theorem dX3_priceBy_51 : decode cX3_priceBy 51 = .ok (.invokestatic 68, 3) := by decide +kernel
theorem dX3_priceBy_54 : decode cX3_priceBy 54 = .ok (.aload_n 0, 1) := by decide +kernel
theorem dX3_priceBy_55 : decode cX3_priceBy 55 = .ok (.iload_n 1, 1) := by decide +kernel
theorem dX3_priceBy_56 : decode cX3_priceBy 56 = .ok (.iload_n 3, 1) := by decide +kernel
theorem dX3_priceBy_57 : decode cX3_priceBy 57 = .ok (.invokevirtual 72, 3) := by decide +kernel
theorem dX3_priceBy_60 : decode cX3_priceBy 60 = .ok (.iload 4, 2) := by decide +kernel
theorem dX3_priceBy_62 : decode cX3_priceBy 62 = .ok (.iconst 2, 1) := by decide +kernel
theorem dX3_priceBy_63 : decode cX3_priceBy 63 = .ok (.if_icmp .ne 7, 3) := by decide +kernel
theorem dX3_priceBy_66 : decode cX3_priceBy 66 = .ok (.iconst 1, 1) := by decide +kernel
theorem dX3_priceBy_67 : decode cX3_priceBy 67 = .ok (.goto 4, 3) := by decide +kernel
theorem dX3_priceBy_70 : decode cX3_priceBy 70 = .ok (.iconst 3, 1) := by decide +kernel
theorem dX3_priceBy_71 : decode cX3_priceBy 71 = .ok (.imul, 1) := by decide +kernel
theorem dX3_priceBy_72 : decode cX3_priceBy 72 = .ok (.iadd, 1) := by decide +kernel
theorem dX3_priceBy_73 : decode cX3_priceBy 73 = .ok (.istore 6, 2) := by decide +kernel
theorem dX3_priceBy_75 : decode cX3_priceBy 75 = .ok (.goto 28, 3) := by decide +kernel
theorem dX3_priceBy_78 : decode cX3_priceBy 78 = .ok (.iload 4, 2) := by decide +kernel
theorem dX3_priceBy_80 : decode cX3_priceBy 80 = .ok (.iconst 2, 1) := by decide +kernel
theorem dX3_priceBy_81 : decode cX3_priceBy 81 = .ok (.if_icmp .ne 16, 3) := by decide +kernel
theorem dX3_priceBy_84 : decode cX3_priceBy 84 = .ok (.iload 5, 2) := by decide +kernel
theorem dX3_priceBy_86 : decode cX3_priceBy 86 = .ok (.iload_n 3, 1) := by decide +kernel
theorem dX3_priceBy_87 : decode cX3_priceBy 87 = .ok (.iload 5, 2) := by decide +kernel
theorem dX3_priceBy_89 : decode cX3_priceBy 89 = .ok (.invokestatic 68, 3) := by decide +kernel
theorem dX3_priceBy_92 : decode cX3_priceBy 92 = .ok (.imul, 1) := by decide +kernel
theorem dX3_priceBy_93 : decode cX3_priceBy 93 = .ok (.iadd, 1) := by decide +kernel
theorem dX3_priceBy_94 : decode cX3_priceBy 94 = .ok (.goto 7, 3) := by decide +kernel
theorem dX3_priceBy_97 : decode cX3_priceBy 97 = .ok (.iconst 2, 1) := by decide +kernel
theorem dX3_priceBy_98 : decode cX3_priceBy 98 = .ok (.iload 5, 2) := by decide +kernel
theorem dX3_priceBy_100 : decode cX3_priceBy 100 = .ok (.imul, 1) := by decide +kernel
theorem dX3_priceBy_101 : decode cX3_priceBy 101 = .ok (.istore 6, 2) := by decide +kernel
theorem dX3_priceBy_103 : decode cX3_priceBy 103 = .ok (.iload 6, 2) := by decide +kernel
theorem dX3_priceBy_105 : decode cX3_priceBy 105 = .ok (.ldc 76, 2) := by decide +kernel
theorem dX3_priceBy_107 : decode cX3_priceBy 107 = .ok (.invokestatic 77, 3) := by decide +kernel
theorem dX3_priceBy_110 : decode cX3_priceBy 110 = .ok (.ireturn, 1) := by decide +kernel
theorem dX3_rowsMet_0 : decode cX3_rowsMet 0 = .ok (.iload_n 1, 1) := by decide +kernel
theorem dX3_rowsMet_1 : decode cX3_rowsMet 1 = .ok (.iconst 3, 1) := by decide +kernel
theorem dX3_rowsMet_2 : decode cX3_rowsMet 2 = .ok (.irem, 1) := by decide +kernel
theorem dX3_rowsMet_3 : decode cX3_rowsMet 3 = .ok (.iconst 1, 1) := by decide +kernel
theorem dX3_rowsMet_4 : decode cX3_rowsMet 4 = .ok (.if_icmp .eq 5, 3) := by decide +kernel
theorem dX3_rowsMet_7 : decode cX3_rowsMet 7 = .ok (.iload_n 2, 1) := by decide +kernel
theorem dX3_rowsMet_8 : decode cX3_rowsMet 8 = .ok (.ireturn, 1) := by decide +kernel
theorem dX3_rowsMet_9 : decode cX3_rowsMet 9 = .ok (.aload_n 0, 1) := by decide +kernel
theorem dX3_rowsMet_10 : decode cX3_rowsMet 10 = .ok (.iload_n 1, 1) := by decide +kernel
theorem dX3_rowsMet_11 : decode cX3_rowsMet 11 = .ok (.invokevirtual 64, 3) := by decide +kernel
theorem dX3_rowsMet_14 : decode cX3_rowsMet 14 = .ok (.astore_n 3, 1) := by decide +kernel
theorem dX3_rowsMet_15 : decode cX3_rowsMet 15 = .ok (.aload_n 3, 1) := by decide +kernel
theorem dX3_rowsMet_16 : decode cX3_rowsMet 16 = .ok (.getfield 61, 3) := by decide +kernel
theorem dX3_rowsMet_19 : decode cX3_rowsMet 19 = .ok (.iload_n 2, 1) := by decide +kernel
theorem dX3_rowsMet_20 : decode cX3_rowsMet 20 = .ok (.imul, 1) := by decide +kernel
theorem dX3_rowsMet_21 : decode cX3_rowsMet 21 = .ok (.aload_n 3, 1) := by decide +kernel
theorem dX3_rowsMet_22 : decode cX3_rowsMet 22 = .ok (.getfield 58, 3) := by decide +kernel
theorem dX3_rowsMet_25 : decode cX3_rowsMet 25 = .ok (.iadd, 1) := by decide +kernel
theorem dX3_rowsMet_26 : decode cX3_rowsMet 26 = .ok (.iconst 1, 1) := by decide +kernel
theorem dX3_rowsMet_27 : decode cX3_rowsMet 27 = .ok (.isub, 1) := by decide +kernel
theorem dX3_rowsMet_28 : decode cX3_rowsMet 28 = .ok (.aload_n 3, 1) := by decide +kernel
theorem dX3_rowsMet_29 : decode cX3_rowsMet 29 = .ok (.getfield 58, 3) := by decide +kernel
theorem dX3_rowsMet_32 : decode cX3_rowsMet 32 = .ok (.invokestatic 82, 3) := by decide +kernel
theorem dX3_rowsMet_35 : decode cX3_rowsMet 35 = .ok (.istore 4, 2) := by decide +kernel
theorem dX3_rowsMet_37 : decode cX3_rowsMet 37 = .ok (.iload 4, 2) := by decide +kernel
theorem dX3_rowsMet_39 : decode cX3_rowsMet 39 = .ok (.aload_n 3, 1) := by decide +kernel
theorem dX3_rowsMet_40 : decode cX3_rowsMet 40 = .ok (.getfield 61, 3) := by decide +kernel
theorem dX3_rowsMet_43 : decode cX3_rowsMet 43 = .ok (.invokestatic 77, 3) := by decide +kernel
theorem dX3_rowsMet_46 : decode cX3_rowsMet 46 = .ok (.ireturn, 1) := by decide +kernel
theorem dX3_cheapestWay_0 : decode cX3_cheapestWay 0 = .ok (.iconst 0, 1) := by decide +kernel
theorem dX3_cheapestWay_1 : decode cX3_cheapestWay 1 = .ok (.istore_n 3, 1) := by decide +kernel
theorem dX3_cheapestWay_2 : decode cX3_cheapestWay 2 = .ok (.aload_n 0, 1) := by decide +kernel
theorem dX3_cheapestWay_3 : decode cX3_cheapestWay 3 = .ok (.iload_n 1, 1) := by decide +kernel
theorem dX3_cheapestWay_4 : decode cX3_cheapestWay 4 = .ok (.iconst 0, 1) := by decide +kernel
theorem dX3_cheapestWay_5 : decode cX3_cheapestWay 5 = .ok (.iload_n 2, 1) := by decide +kernel
theorem dX3_cheapestWay_6 : decode cX3_cheapestWay 6 = .ok (.invokevirtual 85, 3) := by decide +kernel
theorem dX3_cheapestWay_9 : decode cX3_cheapestWay 9 = .ok (.istore 4, 2) := by decide +kernel
theorem dX3_cheapestWay_11 : decode cX3_cheapestWay 11 = .ok (.iconst 1, 1) := by decide +kernel
theorem dX3_cheapestWay_12 : decode cX3_cheapestWay 12 = .ok (.istore 5, 2) := by decide +kernel
theorem dX3_cheapestWay_14 : decode cX3_cheapestWay 14 = .ok (.iload 5, 2) := by decide +kernel
theorem dX3_cheapestWay_16 : decode cX3_cheapestWay 16 = .ok (.iconst 3, 1) := by decide +kernel
theorem dX3_cheapestWay_17 : decode cX3_cheapestWay 17 = .ok (.if_icmp .ge 33, 3) := by decide +kernel
theorem dX3_cheapestWay_20 : decode cX3_cheapestWay 20 = .ok (.aload_n 0, 1) := by decide +kernel
theorem dX3_cheapestWay_21 : decode cX3_cheapestWay 21 = .ok (.iload_n 1, 1) := by decide +kernel
theorem dX3_cheapestWay_22 : decode cX3_cheapestWay 22 = .ok (.iload 5, 2) := by decide +kernel
theorem dX3_cheapestWay_24 : decode cX3_cheapestWay 24 = .ok (.iload_n 2, 1) := by decide +kernel
theorem dX3_cheapestWay_25 : decode cX3_cheapestWay 25 = .ok (.invokevirtual 85, 3) := by decide +kernel
theorem dX3_cheapestWay_28 : decode cX3_cheapestWay 28 = .ok (.istore 6, 2) := by decide +kernel
theorem dX3_cheapestWay_30 : decode cX3_cheapestWay 30 = .ok (.iload 6, 2) := by decide +kernel
theorem dX3_cheapestWay_32 : decode cX3_cheapestWay 32 = .ok (.iload 4, 2) := by decide +kernel
theorem dX3_cheapestWay_34 : decode cX3_cheapestWay 34 = .ok (.if_icmp .ge 10, 3) := by decide +kernel
theorem dX3_cheapestWay_37 : decode cX3_cheapestWay 37 = .ok (.iload 5, 2) := by decide +kernel
theorem dX3_cheapestWay_39 : decode cX3_cheapestWay 39 = .ok (.istore_n 3, 1) := by decide +kernel
theorem dX3_cheapestWay_40 : decode cX3_cheapestWay 40 = .ok (.iload 6, 2) := by decide +kernel
theorem dX3_cheapestWay_42 : decode cX3_cheapestWay 42 = .ok (.istore 4, 2) := by decide +kernel
theorem dX3_cheapestWay_44 : decode cX3_cheapestWay 44 = .ok (.iinc 5 1, 3) := by decide +kernel
theorem dX3_cheapestWay_47 : decode cX3_cheapestWay 47 = .ok (.goto (-33), 3) := by decide +kernel
theorem dX3_cheapestWay_50 : decode cX3_cheapestWay 50 = .ok (.iload_n 3, 1) := by decide +kernel
theorem dX3_cheapestWay_51 : decode cX3_cheapestWay 51 = .ok (.ireturn, 1) := by decide +kernel
theorem dX3_rowsChangedTooMuch_0 : decode cX3_rowsChangedTooMuch 0 = .ok (.aload_n 0, 1) := by decide +kernel
theorem dX3_rowsChangedTooMuch_1 : decode cX3_rowsChangedTooMuch 1 = .ok (.getfield 19, 3) := by decide +kernel
theorem dX3_rowsChangedTooMuch_4 : decode cX3_rowsChangedTooMuch 4 = .ok (.iload_n 1, 1) := by decide +kernel
theorem dX3_rowsChangedTooMuch_5 : decode cX3_rowsChangedTooMuch 5 = .ok (.aaload, 1) := by decide +kernel
theorem dX3_rowsChangedTooMuch_6 : decode cX3_rowsChangedTooMuch 6 = .ok (.getfield 89, 3) := by decide +kernel
theorem dX3_rowsChangedTooMuch_9 : decode cX3_rowsChangedTooMuch 9 = .ok (.istore_n 2, 1) := by decide +kernel
theorem dX3_rowsChangedTooMuch_10 : decode cX3_rowsChangedTooMuch 10 = .ok (.aload_n 0, 1) := by decide +kernel
theorem dX3_rowsChangedTooMuch_11 : decode cX3_rowsChangedTooMuch 11 = .ok (.iload_n 1, 1) := by decide +kernel
theorem dX3_rowsChangedTooMuch_12 : decode cX3_rowsChangedTooMuch 12 = .ok (.invokevirtual 64, 3) := by decide +kernel
theorem dX3_rowsChangedTooMuch_15 : decode cX3_rowsChangedTooMuch 15 = .ok (.getfield 61, 3) := by decide +kernel
theorem dX3_rowsChangedTooMuch_18 : decode cX3_rowsChangedTooMuch 18 = .ok (.iload_n 2, 1) := by decide +kernel
theorem dX3_rowsChangedTooMuch_19 : decode cX3_rowsChangedTooMuch 19 = .ok (.isub, 1) := by decide +kernel
theorem dX3_rowsChangedTooMuch_20 : decode cX3_rowsChangedTooMuch 20 = .ok (.invokestatic 90, 3) := by decide +kernel
theorem dX3_rowsChangedTooMuch_23 : decode cX3_rowsChangedTooMuch 23 = .ok (.iload_n 2, 1) := by decide +kernel
theorem dX3_rowsChangedTooMuch_24 : decode cX3_rowsChangedTooMuch 24 = .ok (.iconst 2, 1) := by decide +kernel
theorem dX3_rowsChangedTooMuch_25 : decode cX3_rowsChangedTooMuch 25 = .ok (.idiv, 1) := by decide +kernel
theorem dX3_rowsChangedTooMuch_26 : decode cX3_rowsChangedTooMuch 26 = .ok (.if_icmp .le 7, 3) := by decide +kernel
theorem dX3_rowsChangedTooMuch_29 : decode cX3_rowsChangedTooMuch 29 = .ok (.iconst 1, 1) := by decide +kernel
theorem dX3_rowsChangedTooMuch_30 : decode cX3_rowsChangedTooMuch 30 = .ok (.goto 4, 3) := by decide +kernel
theorem dX3_rowsChangedTooMuch_33 : decode cX3_rowsChangedTooMuch 33 = .ok (.iconst 0, 1) := by decide +kernel
theorem dX3_rowsChangedTooMuch_34 : decode cX3_rowsChangedTooMuch 34 = .ok (.ireturn, 1) := by decide +kernel
theorem dX3_isTooOld_0 : decode cX3_isTooOld 0 = .ok (.aload_n 0, 1) := by decide +kernel
theorem dX3_isTooOld_1 : decode cX3_isTooOld 1 = .ok (.getfield 36, 3) := by decide +kernel
theorem dX3_isTooOld_4 : decode cX3_isTooOld 4 = .ok (.aload_n 0, 1) := by decide +kernel
theorem dX3_isTooOld_5 : decode cX3_isTooOld 5 = .ok (.getfield 19, 3) := by decide +kernel
theorem dX3_isTooOld_8 : decode cX3_isTooOld 8 = .ok (.iload_n 1, 1) := by decide +kernel
theorem dX3_isTooOld_9 : decode cX3_isTooOld 9 = .ok (.aaload, 1) := by decide +kernel
theorem dX3_isTooOld_10 : decode cX3_isTooOld 10 = .ok (.getfield 93, 3) := by decide +kernel
theorem dX3_isTooOld_13 : decode cX3_isTooOld 13 = .ok (.isub, 1) := by decide +kernel
theorem dX3_isTooOld_14 : decode cX3_isTooOld 14 = .ok (.aload_n 0, 1) := by decide +kernel
theorem dX3_isTooOld_15 : decode cX3_isTooOld 15 = .ok (.getfield 23, 3) := by decide +kernel
theorem dX3_isTooOld_18 : decode cX3_isTooOld 18 = .ok (.iconst 2, 1) := by decide +kernel
theorem dX3_isTooOld_19 : decode cX3_isTooOld 19 = .ok (.iaload, 1) := by decide +kernel
theorem dX3_isTooOld_20 : decode cX3_isTooOld 20 = .ok (.if_icmp .le 7, 3) := by decide +kernel
theorem dX3_isTooOld_23 : decode cX3_isTooOld 23 = .ok (.iconst 1, 1) := by decide +kernel
theorem dX3_isTooOld_24 : decode cX3_isTooOld 24 = .ok (.goto 4, 3) := by decide +kernel
theorem dX3_isTooOld_27 : decode cX3_isTooOld 27 = .ok (.iconst 0, 1) := by decide +kernel
theorem dX3_isTooOld_28 : decode cX3_isTooOld 28 = .ok (.ireturn, 1) := by decide +kernel
theorem dX3_isStale_0 : decode cX3_isStale 0 = .ok (.aload_n 0, 1) := by decide +kernel
theorem dX3_isStale_1 : decode cX3_isStale 1 = .ok (.iload_n 1, 1) := by decide +kernel
theorem dX3_isStale_2 : decode cX3_isStale 2 = .ok (.invokevirtual 96, 3) := by decide +kernel
theorem dX3_isStale_5 : decode cX3_isStale 5 = .ok (.ifCond .ne 11, 3) := by decide +kernel
theorem dX3_isStale_8 : decode cX3_isStale 8 = .ok (.aload_n 0, 1) := by decide +kernel
theorem dX3_isStale_9 : decode cX3_isStale 9 = .ok (.iload_n 1, 1) := by decide +kernel
theorem dX3_isStale_10 : decode cX3_isStale 10 = .ok (.invokevirtual 100, 3) := by decide +kernel
theorem dX3_isStale_13 : decode cX3_isStale 13 = .ok (.ifCond .eq 7, 3) := by decide +kernel
theorem dX3_isStale_16 : decode cX3_isStale 16 = .ok (.iconst 1, 1) := by decide +kernel
theorem dX3_isStale_17 : decode cX3_isStale 17 = .ok (.goto 4, 3) := by decide +kernel
theorem dX3_isStale_20 : decode cX3_isStale 20 = .ok (.iconst 0, 1) := by decide +kernel
theorem dX3_isStale_21 : decode cX3_isStale 21 = .ok (.ireturn, 1) := by decide +kernel
theorem dX3_isTooDear_0 : decode cX3_isTooDear 0 = .ok (.iload_n 2, 1) := by decide +kernel
theorem dX3_isTooDear_1 : decode cX3_isTooDear 1 = .ok (.aload_n 0, 1) := by decide +kernel
theorem dX3_isTooDear_2 : decode cX3_isTooDear 2 = .ok (.getfield 23, 3) := by decide +kernel
theorem dX3_isTooDear_5 : decode cX3_isTooDear 5 = .ok (.iconst 4, 1) := by decide +kernel
theorem dX3_isTooDear_6 : decode cX3_isTooDear 6 = .ok (.iaload, 1) := by decide +kernel
theorem dX3_isTooDear_7 : decode cX3_isTooDear 7 = .ok (.aload_n 0, 1) := by decide +kernel
theorem dX3_isTooDear_8 : decode cX3_isTooDear 8 = .ok (.getfield 19, 3) := by decide +kernel
theorem dX3_isTooDear_11 : decode cX3_isTooDear 11 = .ok (.iload_n 1, 1) := by decide +kernel
theorem dX3_isTooDear_12 : decode cX3_isTooDear 12 = .ok (.aaload, 1) := by decide +kernel
theorem dX3_isTooDear_13 : decode cX3_isTooDear 13 = .ok (.getfield 103, 3) := by decide +kernel
theorem dX3_isTooDear_16 : decode cX3_isTooDear 16 = .ok (.imul, 1) := by decide +kernel
theorem dX3_isTooDear_17 : decode cX3_isTooDear 17 = .ok (.if_icmp .le 7, 3) := by decide +kernel
theorem dX3_isTooDear_20 : decode cX3_isTooDear 20 = .ok (.iconst 1, 1) := by decide +kernel
theorem dX3_isTooDear_21 : decode cX3_isTooDear 21 = .ok (.goto 4, 3) := by decide +kernel
theorem dX3_isTooDear_24 : decode cX3_isTooDear 24 = .ok (.iconst 0, 1) := by decide +kernel
theorem dX3_isTooDear_25 : decode cX3_isTooDear 25 = .ok (.ireturn, 1) := by decide +kernel
theorem dX3_whyNotUsed_0 : decode cX3_whyNotUsed 0 = .ok (.aload_n 0, 1) := by decide +kernel
theorem dX3_whyNotUsed_1 : decode cX3_whyNotUsed 1 = .ok (.getfield 19, 3) := by decide +kernel
theorem dX3_whyNotUsed_4 : decode cX3_whyNotUsed 4 = .ok (.iload_n 1, 1) := by decide +kernel
theorem dX3_whyNotUsed_5 : decode cX3_whyNotUsed 5 = .ok (.aaload, 1) := by decide +kernel
theorem dX3_whyNotUsed_6 : decode cX3_whyNotUsed 6 = .ok (.astore_n 3, 1) := by decide +kernel
theorem dX3_whyNotUsed_7 : decode cX3_whyNotUsed 7 = .ok (.aload_n 3, 1) := by decide +kernel
theorem dX3_whyNotUsed_8 : decode cX3_whyNotUsed 8 = .ok (.getfield 106, 3) := by decide +kernel
theorem dX3_whyNotUsed_11 : decode cX3_whyNotUsed 11 = .ok (.ifCond .ne 5, 3) := by decide +kernel
theorem dX3_whyNotUsed_14 : decode cX3_whyNotUsed 14 = .ok (.iconst 1, 1) := by decide +kernel
theorem dX3_whyNotUsed_15 : decode cX3_whyNotUsed 15 = .ok (.ireturn, 1) := by decide +kernel
theorem dX3_whyNotUsed_16 : decode cX3_whyNotUsed 16 = .ok (.iload_n 2, 1) := by decide +kernel
theorem dX3_whyNotUsed_17 : decode cX3_whyNotUsed 17 = .ok (.aload_n 3, 1) := by decide +kernel
theorem dX3_whyNotUsed_18 : decode cX3_whyNotUsed 18 = .ok (.getfield 110, 3) := by decide +kernel
theorem dX3_whyNotUsed_21 : decode cX3_whyNotUsed 21 = .ok (.if_icmp .ge 5, 3) := by decide +kernel
theorem dX3_whyNotUsed_24 : decode cX3_whyNotUsed 24 = .ok (.iconst 2, 1) := by decide +kernel
theorem dX3_whyNotUsed_25 : decode cX3_whyNotUsed 25 = .ok (.ireturn, 1) := by decide +kernel
theorem dX3_whyNotUsed_26 : decode cX3_whyNotUsed 26 = .ok (.iload_n 2, 1) := by decide +kernel
theorem dX3_whyNotUsed_27 : decode cX3_whyNotUsed 27 = .ok (.aload_n 3, 1) := by decide +kernel
theorem dX3_whyNotUsed_28 : decode cX3_whyNotUsed 28 = .ok (.getfield 113, 3) := by decide +kernel
theorem dX3_whyNotUsed_31 : decode cX3_whyNotUsed 31 = .ok (.if_icmp .le 5, 3) := by decide +kernel
theorem dX3_whyNotUsed_34 : decode cX3_whyNotUsed 34 = .ok (.iconst 3, 1) := by decide +kernel
theorem dX3_whyNotUsed_35 : decode cX3_whyNotUsed 35 = .ok (.ireturn, 1) := by decide +kernel
theorem dX3_whyNotUsed_36 : decode cX3_whyNotUsed 36 = .ok (.aload_n 0, 1) := by decide +kernel
theorem dX3_whyNotUsed_37 : decode cX3_whyNotUsed 37 = .ok (.iload_n 1, 1) := by decide +kernel
theorem dX3_whyNotUsed_38 : decode cX3_whyNotUsed 38 = .ok (.invokevirtual 96, 3) := by decide +kernel
theorem dX3_whyNotUsed_41 : decode cX3_whyNotUsed 41 = .ok (.ifCond .eq 5, 3) := by decide +kernel
theorem dX3_whyNotUsed_44 : decode cX3_whyNotUsed 44 = .ok (.iconst 4, 1) := by decide +kernel
theorem dX3_whyNotUsed_45 : decode cX3_whyNotUsed 45 = .ok (.ireturn, 1) := by decide +kernel
theorem dX3_whyNotUsed_46 : decode cX3_whyNotUsed 46 = .ok (.aload_n 0, 1) := by decide +kernel
theorem dX3_whyNotUsed_47 : decode cX3_whyNotUsed 47 = .ok (.iload_n 1, 1) := by decide +kernel
theorem dX3_whyNotUsed_48 : decode cX3_whyNotUsed 48 = .ok (.invokevirtual 100, 3) := by decide +kernel
theorem dX3_whyNotUsed_51 : decode cX3_whyNotUsed 51 = .ok (.ifCond .eq 7, 3) := by decide +kernel
theorem dX3_whyNotUsed_54 : decode cX3_whyNotUsed 54 = .ok (.iconst 5, 1) := by decide +kernel
theorem dX3_whyNotUsed_55 : decode cX3_whyNotUsed 55 = .ok (.goto 4, 3) := by decide +kernel
theorem dX3_whyNotUsed_58 : decode cX3_whyNotUsed 58 = .ok (.iconst 0, 1) := by decide +kernel
theorem dX3_whyNotUsed_59 : decode cX3_whyNotUsed 59 = .ok (.ireturn, 1) := by decide +kernel
theorem dX3_answer_0 : decode cX3_answer 0 = .ok (.aload_n 0, 1) := by decide +kernel
theorem dX3_answer_1 : decode cX3_answer 1 = .ok (.iload_n 1, 1) := by decide +kernel
theorem dX3_answer_2 : decode cX3_answer 2 = .ok (.iload_n 2, 1) := by decide +kernel
theorem dX3_answer_3 : decode cX3_answer 3 = .ok (.invokevirtual 116, 3) := by decide +kernel
theorem dX3_answer_6 : decode cX3_answer 6 = .ok (.ifCond .ne 7, 3) := by decide +kernel
theorem dX3_answer_9 : decode cX3_answer 9 = .ok (.iconst 1, 1) := by decide +kernel
theorem dX3_answer_10 : decode cX3_answer 10 = .ok (.goto 4, 3) := by decide +kernel
theorem dX3_answer_13 : decode cX3_answer 13 = .ok (.iconst 0, 1) := by decide +kernel
theorem dX3_answer_14 : decode cX3_answer 14 = .ok (.istore_n 3, 1) := by decide +kernel
theorem dX3_answer_15 : decode cX3_answer 15 = .ok (.aload_n 0, 1) := by decide +kernel
theorem dX3_answer_16 : decode cX3_answer 16 = .ok (.dup, 1) := by decide +kernel
theorem dX3_answer_17 : decode cX3_answer 17 = .ok (.getfield 36, 3) := by decide +kernel
theorem dX3_answer_20 : decode cX3_answer 20 = .ok (.iconst 1, 1) := by decide +kernel
theorem dX3_answer_21 : decode cX3_answer 21 = .ok (.iadd, 1) := by decide +kernel
theorem dX3_answer_22 : decode cX3_answer 22 = .ok (.putfield 36, 3) := by decide +kernel
theorem dX3_answer_25 : decode cX3_answer 25 = .ok (.iload_n 3, 1) := by decide +kernel
theorem dX3_answer_26 : decode cX3_answer 26 = .ok (.ifCond .eq 12, 3) := by decide +kernel
theorem dX3_answer_29 : decode cX3_answer 29 = .ok (.aload_n 0, 1) := by decide +kernel
theorem dX3_answer_30 : decode cX3_answer 30 = .ok (.iload_n 1, 1) := by decide +kernel
theorem dX3_answer_31 : decode cX3_answer 31 = .ok (.iload_n 2, 1) := by decide +kernel
theorem dX3_answer_32 : decode cX3_answer 32 = .ok (.invokevirtual 119, 3) := by decide +kernel
theorem dX3_answer_35 : decode cX3_answer 35 = .ok (.goto 9, 3) := by decide +kernel
theorem dX3_answer_38 : decode cX3_answer 38 = .ok (.aload_n 0, 1) := by decide +kernel
theorem dX3_answer_39 : decode cX3_answer 39 = .ok (.iload_n 1, 1) := by decide +kernel
theorem dX3_answer_40 : decode cX3_answer 40 = .ok (.iload_n 2, 1) := by decide +kernel
theorem dX3_answer_41 : decode cX3_answer 41 = .ok (.invokevirtual 122, 3) := by decide +kernel
theorem dX3_answer_44 : decode cX3_answer 44 = .ok (.istore 4, 2) := by decide +kernel
theorem dX3_answer_46 : decode cX3_answer 46 = .ok (.aload_n 0, 1) := by decide +kernel
theorem dX3_answer_47 : decode cX3_answer 47 = .ok (.dup, 1) := by decide +kernel
theorem dX3_answer_48 : decode cX3_answer 48 = .ok (.getfield 46, 3) := by decide +kernel
theorem dX3_answer_51 : decode cX3_answer 51 = .ok (.iload 4, 2) := by decide +kernel
theorem dX3_answer_53 : decode cX3_answer 53 = .ok (.iadd, 1) := by decide +kernel
theorem dX3_answer_54 : decode cX3_answer 54 = .ok (.putfield 46, 3) := by decide +kernel
theorem dX3_answer_57 : decode cX3_answer 57 = .ok (.aload_n 0, 1) := by decide +kernel
theorem dX3_answer_58 : decode cX3_answer 58 = .ok (.iload_n 1, 1) := by decide +kernel
theorem dX3_answer_59 : decode cX3_answer 59 = .ok (.invokevirtual 64, 3) := by decide +kernel
theorem dX3_answer_62 : decode cX3_answer 62 = .ok (.astore 5, 2) := by decide +kernel
theorem dX3_answer_64 : decode cX3_answer 64 = .ok (.aload 5, 2) := by decide +kernel
theorem dX3_answer_66 : decode cX3_answer 66 = .ok (.dup, 1) := by decide +kernel
theorem dX3_answer_67 : decode cX3_answer 67 = .ok (.getfield 125, 3) := by decide +kernel
theorem dX3_answer_70 : decode cX3_answer 70 = .ok (.iconst 1, 1) := by decide +kernel
theorem dX3_answer_71 : decode cX3_answer 71 = .ok (.iadd, 1) := by decide +kernel
theorem dX3_answer_72 : decode cX3_answer 72 = .ok (.putfield 125, 3) := by decide +kernel
theorem dX3_answer_75 : decode cX3_answer 75 = .ok (.aload 5, 2) := by decide +kernel
theorem dX3_answer_77 : decode cX3_answer 77 = .ok (.dup, 1) := by decide +kernel
theorem dX3_answer_78 : decode cX3_answer 78 = .ok (.getfield 126, 3) := by decide +kernel
theorem dX3_answer_81 : decode cX3_answer 81 = .ok (.iload 4, 2) := by decide +kernel
theorem dX3_answer_83 : decode cX3_answer 83 = .ok (.iadd, 1) := by decide +kernel
theorem dX3_answer_84 : decode cX3_answer 84 = .ok (.putfield 126, 3) := by decide +kernel
theorem dX3_answer_87 : decode cX3_answer 87 = .ok (.iload 4, 2) := by decide +kernel
theorem dX3_answer_89 : decode cX3_answer 89 = .ok (.ireturn, 1) := by decide +kernel
theorem dX3_answerByPlan_0 : decode cX3_answerByPlan 0 = .ok (.aload_n 0, 1) := by decide +kernel
theorem dX3_answerByPlan_1 : decode cX3_answerByPlan 1 = .ok (.getfield 19, 3) := by decide +kernel
theorem dX3_answerByPlan_4 : decode cX3_answerByPlan 4 = .ok (.iload_n 1, 1) := by decide +kernel
theorem dX3_answerByPlan_5 : decode cX3_answerByPlan 5 = .ok (.aaload, 1) := by decide +kernel
theorem dX3_answerByPlan_6 : decode cX3_answerByPlan 6 = .ok (.astore_n 3, 1) := by decide +kernel
theorem dX3_answerByPlan_7 : decode cX3_answerByPlan 7 = .ok (.aload_n 0, 1) := by decide +kernel
theorem dX3_answerByPlan_8 : decode cX3_answerByPlan 8 = .ok (.iload_n 1, 1) := by decide +kernel
theorem dX3_answerByPlan_9 : decode cX3_answerByPlan 9 = .ok (.aload_n 3, 1) := by decide +kernel
theorem dX3_answerByPlan_10 : decode cX3_answerByPlan 10 = .ok (.getfield 127, 3) := by decide +kernel
theorem dX3_answerByPlan_13 : decode cX3_answerByPlan 13 = .ok (.iload_n 2, 1) := by decide +kernel
theorem dX3_answerByPlan_14 : decode cX3_answerByPlan 14 = .ok (.invokevirtual 85, 3) := by decide +kernel
theorem dX3_answerByPlan_17 : decode cX3_answerByPlan 17 = .ok (.istore 4, 2) := by decide +kernel
theorem dX3_answerByPlan_19 : decode cX3_answerByPlan 19 = .ok (.aload_n 0, 1) := by decide +kernel
theorem dX3_answerByPlan_20 : decode cX3_answerByPlan 20 = .ok (.dup, 1) := by decide +kernel
theorem dX3_answerByPlan_21 : decode cX3_answerByPlan 21 = .ok (.getfield 40, 3) := by decide +kernel
theorem dX3_answerByPlan_24 : decode cX3_answerByPlan 24 = .ok (.iconst 1, 1) := by decide +kernel
theorem dX3_answerByPlan_25 : decode cX3_answerByPlan 25 = .ok (.iadd, 1) := by decide +kernel
theorem dX3_answerByPlan_26 : decode cX3_answerByPlan 26 = .ok (.putfield 40, 3) := by decide +kernel
theorem dX3_answerByPlan_29 : decode cX3_answerByPlan 29 = .ok (.aload_n 3, 1) := by decide +kernel
theorem dX3_answerByPlan_30 : decode cX3_answerByPlan 30 = .ok (.dup, 1) := by decide +kernel
theorem dX3_answerByPlan_31 : decode cX3_answerByPlan 31 = .ok (.getfield 130, 3) := by decide +kernel
theorem dX3_answerByPlan_34 : decode cX3_answerByPlan 34 = .ok (.iconst 1, 1) := by decide +kernel
theorem dX3_answerByPlan_35 : decode cX3_answerByPlan 35 = .ok (.iadd, 1) := by decide +kernel
theorem dX3_answerByPlan_36 : decode cX3_answerByPlan 36 = .ok (.putfield 130, 3) := by decide +kernel
theorem dX3_answerByPlan_39 : decode cX3_answerByPlan 39 = .ok (.aload_n 3, 1) := by decide +kernel
theorem dX3_answerByPlan_40 : decode cX3_answerByPlan 40 = .ok (.aload_n 0, 1) := by decide +kernel
theorem dX3_answerByPlan_41 : decode cX3_answerByPlan 41 = .ok (.getfield 36, 3) := by decide +kernel
theorem dX3_answerByPlan_44 : decode cX3_answerByPlan 44 = .ok (.putfield 133, 3) := by decide +kernel
theorem dX3_answerByPlan_47 : decode cX3_answerByPlan 47 = .ok (.aload_n 0, 1) := by decide +kernel
theorem dX3_answerByPlan_48 : decode cX3_answerByPlan 48 = .ok (.iload_n 1, 1) := by decide +kernel
theorem dX3_answerByPlan_49 : decode cX3_answerByPlan 49 = .ok (.iload 4, 2) := by decide +kernel
theorem dX3_answerByPlan_51 : decode cX3_answerByPlan 51 = .ok (.invokevirtual 136, 3) := by decide +kernel
theorem dX3_answerByPlan_54 : decode cX3_answerByPlan 54 = .ok (.ifCond .eq 18, 3) := by decide +kernel
theorem dX3_answerByPlan_57 : decode cX3_answerByPlan 57 = .ok (.aload_n 3, 1) := by decide +kernel
theorem dX3_answerByPlan_58 : decode cX3_answerByPlan 58 = .ok (.iconst 0, 1) := by decide +kernel
theorem dX3_answerByPlan_59 : decode cX3_answerByPlan 59 = .ok (.putfield 106, 3) := by decide +kernel
theorem dX3_answerByPlan_62 : decode cX3_answerByPlan 62 = .ok (.aload_n 0, 1) := by decide +kernel
theorem dX3_answerByPlan_63 : decode cX3_answerByPlan 63 = .ok (.dup, 1) := by decide +kernel
theorem dX3_answerByPlan_64 : decode cX3_answerByPlan 64 = .ok (.getfield 52, 3) := by decide +kernel
theorem dX3_answerByPlan_67 : decode cX3_answerByPlan 67 = .ok (.iconst 1, 1) := by decide +kernel
theorem dX3_answerByPlan_68 : decode cX3_answerByPlan 68 = .ok (.iadd, 1) := by decide +kernel
theorem dX3_answerByPlan_69 : decode cX3_answerByPlan 69 = .ok (.putfield 52, 3) := by decide +kernel
theorem dX3_answerByPlan_72 : decode cX3_answerByPlan 72 = .ok (.iload 4, 2) := by decide +kernel
theorem dX3_answerByPlan_74 : decode cX3_answerByPlan 74 = .ok (.ireturn, 1) := by decide +kernel
theorem dX3_answerByLooking_0 : decode cX3_answerByLooking 0 = .ok (.aload_n 0, 1) := by decide +kernel
theorem dX3_answerByLooking_1 : decode cX3_answerByLooking 1 = .ok (.iload_n 1, 1) := by decide +kernel
theorem dX3_answerByLooking_2 : decode cX3_answerByLooking 2 = .ok (.iload_n 2, 1) := by decide +kernel
theorem dX3_answerByLooking_3 : decode cX3_answerByLooking 3 = .ok (.invokevirtual 140, 3) := by decide +kernel
theorem dX3_answerByLooking_6 : decode cX3_answerByLooking 6 = .ok (.istore_n 3, 1) := by decide +kernel
theorem dX3_answerByLooking_7 : decode cX3_answerByLooking 7 = .ok (.aload_n 0, 1) := by decide +kernel
theorem dX3_answerByLooking_8 : decode cX3_answerByLooking 8 = .ok (.dup, 1) := by decide +kernel
theorem dX3_answerByLooking_9 : decode cX3_answerByLooking 9 = .ok (.getfield 43, 3) := by decide +kernel
theorem dX3_answerByLooking_12 : decode cX3_answerByLooking 12 = .ok (.iconst 1, 1) := by decide +kernel
theorem dX3_answerByLooking_13 : decode cX3_answerByLooking 13 = .ok (.iadd, 1) := by decide +kernel
theorem dX3_answerByLooking_14 : decode cX3_answerByLooking 14 = .ok (.putfield 43, 3) := by decide +kernel
theorem dX3_answerByLooking_17 : decode cX3_answerByLooking 17 = .ok (.aload_n 0, 1) := by decide +kernel
theorem dX3_answerByLooking_18 : decode cX3_answerByLooking 18 = .ok (.dup, 1) := by decide +kernel
theorem dX3_answerByLooking_19 : decode cX3_answerByLooking 19 = .ok (.getfield 49, 3) := by decide +kernel
theorem dX3_answerByLooking_22 : decode cX3_answerByLooking 22 = .ok (.aload_n 0, 1) := by decide +kernel
theorem dX3_answerByLooking_23 : decode cX3_answerByLooking 23 = .ok (.getfield 23, 3) := by decide +kernel
theorem dX3_answerByLooking_26 : decode cX3_answerByLooking 26 = .ok (.iconst 0, 1) := by decide +kernel
theorem dX3_answerByLooking_27 : decode cX3_answerByLooking 27 = .ok (.iaload, 1) := by decide +kernel
theorem dX3_answerByLooking_28 : decode cX3_answerByLooking 28 = .ok (.iadd, 1) := by decide +kernel
theorem dX3_answerByLooking_29 : decode cX3_answerByLooking 29 = .ok (.putfield 49, 3) := by decide +kernel
theorem dX3_answerByLooking_32 : decode cX3_answerByLooking 32 = .ok (.aload_n 0, 1) := by decide +kernel
theorem dX3_answerByLooking_33 : decode cX3_answerByLooking 33 = .ok (.iload_n 1, 1) := by decide +kernel
theorem dX3_answerByLooking_34 : decode cX3_answerByLooking 34 = .ok (.invokevirtual 143, 3) := by decide +kernel
theorem dX3_answerByLooking_37 : decode cX3_answerByLooking 37 = .ok (.aload_n 0, 1) := by decide +kernel
theorem dX3_answerByLooking_38 : decode cX3_answerByLooking 38 = .ok (.iload_n 1, 1) := by decide +kernel
theorem dX3_answerByLooking_39 : decode cX3_answerByLooking 39 = .ok (.invokevirtual 147, 3) := by decide +kernel
theorem dX3_answerByLooking_42 : decode cX3_answerByLooking 42 = .ok (.ifCond .eq 28, 3) := by decide +kernel
theorem dX3_answerByLooking_45 : decode cX3_answerByLooking 45 = .ok (.aload_n 0, 1) := by decide +kernel
theorem dX3_answerByLooking_46 : decode cX3_answerByLooking 46 = .ok (.getfield 23, 3) := by decide +kernel
theorem dX3_answerByLooking_49 : decode cX3_answerByLooking 49 = .ok (.iconst 1, 1) := by decide +kernel
theorem dX3_answerByLooking_50 : decode cX3_answerByLooking 50 = .ok (.iaload, 1) := by decide +kernel
theorem dX3_answerByLooking_51 : decode cX3_answerByLooking 51 = .ok (.istore 4, 2) := by decide +kernel
theorem dX3_answerByLooking_53 : decode cX3_answerByLooking 53 = .ok (.aload_n 0, 1) := by decide +kernel
theorem dX3_answerByLooking_54 : decode cX3_answerByLooking 54 = .ok (.iload_n 1, 1) := by decide +kernel
theorem dX3_answerByLooking_55 : decode cX3_answerByLooking 55 = .ok (.iload_n 3, 1) := by decide +kernel
theorem dX3_answerByLooking_56 : decode cX3_answerByLooking 56 = .ok (.iload_n 2, 1) := by decide +kernel
theorem dX3_answerByLooking_57 : decode cX3_answerByLooking 57 = .ok (.iload_n 2, 1) := by decide +kernel
theorem dX3_answerByLooking_58 : decode cX3_answerByLooking 58 = .ok (.iload 4, 2) := by decide +kernel
theorem dX3_answerByLooking_60 : decode cX3_answerByLooking 60 = .ok (.invokestatic 82, 3) := by decide +kernel
theorem dX3_answerByLooking_63 : decode cX3_answerByLooking 63 = .ok (.iload_n 2, 1) := by decide +kernel
theorem dX3_answerByLooking_64 : decode cX3_answerByLooking 64 = .ok (.iload 4, 2) := by decide +kernel
theorem dX3_answerByLooking_66 : decode cX3_answerByLooking 66 = .ok (.imul, 1) := by decide +kernel
theorem dX3_answerByLooking_67 : decode cX3_answerByLooking 67 = .ok (.invokevirtual 150, 3) := by decide +kernel
theorem dX3_answerByLooking_70 : decode cX3_answerByLooking 70 = .ok (.aload_n 0, 1) := by decide +kernel
theorem dX3_answerByLooking_71 : decode cX3_answerByLooking 71 = .ok (.iload_n 1, 1) := by decide +kernel
theorem dX3_answerByLooking_72 : decode cX3_answerByLooking 72 = .ok (.iload_n 3, 1) := by decide +kernel
theorem dX3_answerByLooking_73 : decode cX3_answerByLooking 73 = .ok (.iload_n 2, 1) := by decide +kernel
theorem dX3_answerByLooking_74 : decode cX3_answerByLooking 74 = .ok (.invokevirtual 85, 3) := by decide +kernel
theorem dX3_answerByLooking_77 : decode cX3_answerByLooking 77 = .ok (.aload_n 0, 1) := by decide +kernel
theorem dX3_answerByLooking_78 : decode cX3_answerByLooking 78 = .ok (.getfield 23, 3) := by decide +kernel
theorem dX3_answerByLooking_81 : decode cX3_answerByLooking 81 = .ok (.iconst 0, 1) := by decide +kernel
theorem dX3_answerByLooking_82 : decode cX3_answerByLooking 82 = .ok (.iaload, 1) := by decide +kernel
theorem dX3_answerByLooking_83 : decode cX3_answerByLooking 83 = .ok (.iadd, 1) := by decide +kernel
theorem dX3_answerByLooking_84 : decode cX3_answerByLooking 84 = .ok (.ireturn, 1) := by decide +kernel
theorem dX3_place_0 : decode cX3_place 0 = .ok (.aload_n 0, 1) := by decide +kernel
theorem dX3_place_1 : decode cX3_place 1 = .ok (.getfield 19, 3) := by decide +kernel
theorem dX3_place_4 : decode cX3_place 4 = .ok (.iload_n 1, 1) := by decide +kernel
theorem dX3_place_5 : decode cX3_place 5 = .ok (.aaload, 1) := by decide +kernel
theorem dX3_place_6 : decode cX3_place 6 = .ok (.astore 6, 2) := by decide +kernel
theorem dX3_place_8 : decode cX3_place 8 = .ok (.aload 6, 2) := by decide +kernel
theorem dX3_place_10 : decode cX3_place 10 = .ok (.iconst 1, 1) := by decide +kernel
theorem dX3_place_11 : decode cX3_place 11 = .ok (.putfield 106, 3) := by decide +kernel
theorem dX3_place_14 : decode cX3_place 14 = .ok (.aload 6, 2) := by decide +kernel
theorem dX3_place_16 : decode cX3_place 16 = .ok (.iconst 0, 1) := by decide +kernel
theorem dX3_place_17 : decode cX3_place 17 = .ok (.putfield 154, 3) := by decide +kernel
theorem dX3_place_20 : decode cX3_place 20 = .ok (.aload 6, 2) := by decide +kernel
theorem dX3_place_22 : decode cX3_place 22 = .ok (.iload_n 2, 1) := by decide +kernel
theorem dX3_place_23 : decode cX3_place 23 = .ok (.putfield 127, 3) := by decide +kernel
theorem dX3_place_26 : decode cX3_place 26 = .ok (.aload 6, 2) := by decide +kernel
theorem dX3_place_28 : decode cX3_place 28 = .ok (.iload 4, 2) := by decide +kernel
theorem dX3_place_30 : decode cX3_place 30 = .ok (.putfield 110, 3) := by decide +kernel
theorem dX3_place_33 : decode cX3_place 33 = .ok (.aload 6, 2) := by decide +kernel
theorem dX3_place_35 : decode cX3_place 35 = .ok (.iload 5, 2) := by decide +kernel
theorem dX3_place_37 : decode cX3_place 37 = .ok (.putfield 113, 3) := by decide +kernel
theorem dX3_place_40 : decode cX3_place 40 = .ok (.aload 6, 2) := by decide +kernel
theorem dX3_place_42 : decode cX3_place 42 = .ok (.iload_n 3, 1) := by decide +kernel
theorem dX3_place_43 : decode cX3_place 43 = .ok (.putfield 157, 3) := by decide +kernel
theorem dX3_place_46 : decode cX3_place 46 = .ok (.aload 6, 2) := by decide +kernel
theorem dX3_place_48 : decode cX3_place 48 = .ok (.aload_n 0, 1) := by decide +kernel
theorem dX3_place_49 : decode cX3_place 49 = .ok (.iload_n 1, 1) := by decide +kernel
theorem dX3_place_50 : decode cX3_place 50 = .ok (.iload_n 2, 1) := by decide +kernel
theorem dX3_place_51 : decode cX3_place 51 = .ok (.iload_n 3, 1) := by decide +kernel
theorem dX3_place_52 : decode cX3_place 52 = .ok (.invokevirtual 85, 3) := by decide +kernel
theorem dX3_place_55 : decode cX3_place 55 = .ok (.putfield 103, 3) := by decide +kernel
theorem dX3_place_58 : decode cX3_place 58 = .ok (.aload 6, 2) := by decide +kernel
theorem dX3_place_60 : decode cX3_place 60 = .ok (.aload_n 0, 1) := by decide +kernel
theorem dX3_place_61 : decode cX3_place 61 = .ok (.iload_n 1, 1) := by decide +kernel
theorem dX3_place_62 : decode cX3_place 62 = .ok (.invokevirtual 64, 3) := by decide +kernel
theorem dX3_place_65 : decode cX3_place 65 = .ok (.getfield 61, 3) := by decide +kernel
theorem dX3_place_68 : decode cX3_place 68 = .ok (.putfield 89, 3) := by decide +kernel
theorem dX3_place_71 : decode cX3_place 71 = .ok (.aload 6, 2) := by decide +kernel
theorem dX3_place_73 : decode cX3_place 73 = .ok (.iconst 0, 1) := by decide +kernel
theorem dX3_place_74 : decode cX3_place 74 = .ok (.putfield 130, 3) := by decide +kernel
theorem dX3_place_77 : decode cX3_place 77 = .ok (.aload 6, 2) := by decide +kernel
theorem dX3_place_79 : decode cX3_place 79 = .ok (.aload_n 0, 1) := by decide +kernel
theorem dX3_place_80 : decode cX3_place 80 = .ok (.getfield 36, 3) := by decide +kernel
theorem dX3_place_83 : decode cX3_place 83 = .ok (.putfield 93, 3) := by decide +kernel
theorem dX3_place_86 : decode cX3_place 86 = .ok (.aload 6, 2) := by decide +kernel
theorem dX3_place_88 : decode cX3_place 88 = .ok (.aload_n 0, 1) := by decide +kernel
theorem dX3_place_89 : decode cX3_place 89 = .ok (.getfield 36, 3) := by decide +kernel
theorem dX3_place_92 : decode cX3_place 92 = .ok (.putfield 133, 3) := by decide +kernel
theorem dX3_place_95 : decode cX3_place 95 = .ok (.return_, 1) := by decide +kernel
theorem dX3_couldKeep_0 : decode cX3_couldKeep 0 = .ok (.aload_n 0, 1) := by decide +kernel
theorem dX3_couldKeep_1 : decode cX3_couldKeep 1 = .ok (.getfield 19, 3) := by decide +kernel
theorem dX3_couldKeep_4 : decode cX3_couldKeep 4 = .ok (.iload_n 1, 1) := by decide +kernel
theorem dX3_couldKeep_5 : decode cX3_couldKeep 5 = .ok (.aaload, 1) := by decide +kernel
theorem dX3_couldKeep_6 : decode cX3_couldKeep 6 = .ok (.getfield 106, 3) := by decide +kernel
theorem dX3_couldKeep_9 : decode cX3_couldKeep 9 = .ok (.ifCond .ne 16, 3) := by decide +kernel
theorem dX3_couldKeep_12 : decode cX3_couldKeep 12 = .ok (.aload_n 0, 1) := by decide +kernel
theorem dX3_couldKeep_13 : decode cX3_couldKeep 13 = .ok (.invokevirtual 160, 3) := by decide +kernel
theorem dX3_couldKeep_16 : decode cX3_couldKeep 16 = .ok (.aload_n 0, 1) := by decide +kernel
theorem dX3_couldKeep_17 : decode cX3_couldKeep 17 = .ok (.getfield 23, 3) := by decide +kernel
theorem dX3_couldKeep_20 : decode cX3_couldKeep 20 = .ok (.iconst 3, 1) := by decide +kernel
theorem dX3_couldKeep_21 : decode cX3_couldKeep 21 = .ok (.iaload, 1) := by decide +kernel
theorem dX3_couldKeep_22 : decode cX3_couldKeep 22 = .ok (.if_icmp .ge 7, 3) := by decide +kernel
theorem dX3_couldKeep_25 : decode cX3_couldKeep 25 = .ok (.iconst 1, 1) := by decide +kernel
theorem dX3_couldKeep_26 : decode cX3_couldKeep 26 = .ok (.goto 4, 3) := by decide +kernel
theorem dX3_couldKeep_29 : decode cX3_couldKeep 29 = .ok (.iconst 0, 1) := by decide +kernel
theorem dX3_couldKeep_30 : decode cX3_couldKeep 30 = .ok (.ireturn, 1) := by decide +kernel
theorem dX3_lacksRoomFor_0 : decode cX3_lacksRoomFor 0 = .ok (.aload_n 0, 1) := by decide +kernel
theorem dX3_lacksRoomFor_1 : decode cX3_lacksRoomFor 1 = .ok (.getfield 19, 3) := by decide +kernel
theorem dX3_lacksRoomFor_4 : decode cX3_lacksRoomFor 4 = .ok (.iload_n 1, 1) := by decide +kernel
theorem dX3_lacksRoomFor_5 : decode cX3_lacksRoomFor 5 = .ok (.aaload, 1) := by decide +kernel
theorem dX3_lacksRoomFor_6 : decode cX3_lacksRoomFor 6 = .ok (.getfield 106, 3) := by decide +kernel
theorem dX3_lacksRoomFor_9 : decode cX3_lacksRoomFor 9 = .ok (.ifCond .ne 20, 3) := by decide +kernel
theorem dX3_lacksRoomFor_12 : decode cX3_lacksRoomFor 12 = .ok (.aload_n 0, 1) := by decide +kernel
theorem dX3_lacksRoomFor_13 : decode cX3_lacksRoomFor 13 = .ok (.invokevirtual 164, 3) := by decide +kernel
theorem dX3_lacksRoomFor_16 : decode cX3_lacksRoomFor 16 = .ok (.aload_n 0, 1) := by decide +kernel
theorem dX3_lacksRoomFor_17 : decode cX3_lacksRoomFor 17 = .ok (.getfield 23, 3) := by decide +kernel
theorem dX3_lacksRoomFor_20 : decode cX3_lacksRoomFor 20 = .ok (.iconst 3, 1) := by decide +kernel
theorem dX3_lacksRoomFor_21 : decode cX3_lacksRoomFor 21 = .ok (.iaload, 1) := by decide +kernel
theorem dX3_lacksRoomFor_22 : decode cX3_lacksRoomFor 22 = .ok (.if_icmp .lt 7, 3) := by decide +kernel
theorem dX3_lacksRoomFor_25 : decode cX3_lacksRoomFor 25 = .ok (.iconst 1, 1) := by decide +kernel
theorem dX3_lacksRoomFor_26 : decode cX3_lacksRoomFor 26 = .ok (.goto 4, 3) := by decide +kernel
theorem dX3_lacksRoomFor_29 : decode cX3_lacksRoomFor 29 = .ok (.iconst 0, 1) := by decide +kernel
theorem dX3_lacksRoomFor_30 : decode cX3_lacksRoomFor 30 = .ok (.ireturn, 1) := by decide +kernel
theorem dX3_firstCrowdedOutBy_0 : decode cX3_firstCrowdedOutBy 0 = .ok (.aload_n 0, 1) := by decide +kernel
theorem dX3_firstCrowdedOutBy_1 : decode cX3_firstCrowdedOutBy 1 = .ok (.iload_n 1, 1) := by decide +kernel
theorem dX3_firstCrowdedOutBy_2 : decode cX3_firstCrowdedOutBy 2 = .ok (.invokevirtual 167, 3) := by decide +kernel
theorem dX3_firstCrowdedOutBy_5 : decode cX3_firstCrowdedOutBy 5 = .ok (.ifCond .eq 10, 3) := by decide +kernel
theorem dX3_firstCrowdedOutBy_8 : decode cX3_firstCrowdedOutBy 8 = .ok (.aload_n 0, 1) := by decide +kernel
theorem dX3_firstCrowdedOutBy_9 : decode cX3_firstCrowdedOutBy 9 = .ok (.invokevirtual 170, 3) := by decide +kernel
theorem dX3_firstCrowdedOutBy_12 : decode cX3_firstCrowdedOutBy 12 = .ok (.goto 5, 3) := by decide +kernel
theorem dX3_firstCrowdedOutBy_15 : decode cX3_firstCrowdedOutBy 15 = .ok (.bipush (-4), 2) := by decide +kernel
theorem dX3_firstCrowdedOutBy_17 : decode cX3_firstCrowdedOutBy 17 = .ok (.ireturn, 1) := by decide +kernel
theorem dX3_makeRoomFor_0 : decode cX3_makeRoomFor 0 = .ok (.aload_n 0, 1) := by decide +kernel
theorem dX3_makeRoomFor_1 : decode cX3_makeRoomFor 1 = .ok (.iload_n 1, 1) := by decide +kernel
theorem dX3_makeRoomFor_2 : decode cX3_makeRoomFor 2 = .ok (.invokevirtual 167, 3) := by decide +kernel
theorem dX3_makeRoomFor_5 : decode cX3_makeRoomFor 5 = .ok (.ifCond .eq 15, 3) := by decide +kernel
theorem dX3_makeRoomFor_8 : decode cX3_makeRoomFor 8 = .ok (.aload_n 0, 1) := by decide +kernel
theorem dX3_makeRoomFor_9 : decode cX3_makeRoomFor 9 = .ok (.aload_n 0, 1) := by decide +kernel
theorem dX3_makeRoomFor_10 : decode cX3_makeRoomFor 10 = .ok (.getfield 23, 3) := by decide +kernel
theorem dX3_makeRoomFor_13 : decode cX3_makeRoomFor 13 = .ok (.iconst 3, 1) := by decide +kernel
theorem dX3_makeRoomFor_14 : decode cX3_makeRoomFor 14 = .ok (.iaload, 1) := by decide +kernel
theorem dX3_makeRoomFor_15 : decode cX3_makeRoomFor 15 = .ok (.iconst 1, 1) := by decide +kernel
theorem dX3_makeRoomFor_16 : decode cX3_makeRoomFor 16 = .ok (.isub, 1) := by decide +kernel
theorem dX3_makeRoomFor_17 : decode cX3_makeRoomFor 17 = .ok (.invokevirtual 173, 3) := by decide +kernel
theorem dX3_makeRoomFor_20 : decode cX3_makeRoomFor 20 = .ok (.return_, 1) := by decide +kernel
theorem dX3_crowdOutDownTo_0 : decode cX3_crowdOutDownTo 0 = .ok (.aload_n 0, 1) := by decide +kernel
theorem dX3_crowdOutDownTo_1 : decode cX3_crowdOutDownTo 1 = .ok (.invokevirtual 164, 3) := by decide +kernel
theorem dX3_crowdOutDownTo_4 : decode cX3_crowdOutDownTo 4 = .ok (.iload_n 1, 1) := by decide +kernel
theorem dX3_crowdOutDownTo_5 : decode cX3_crowdOutDownTo 5 = .ok (.isub, 1) := by decide +kernel
theorem dX3_crowdOutDownTo_6 : decode cX3_crowdOutDownTo 6 = .ok (.istore_n 2, 1) := by decide +kernel
theorem dX3_crowdOutDownTo_7 : decode cX3_crowdOutDownTo 7 = .ok (.iconst 0, 1) := by decide +kernel
theorem dX3_crowdOutDownTo_8 : decode cX3_crowdOutDownTo 8 = .ok (.istore_n 3, 1) := by decide +kernel
theorem dX3_crowdOutDownTo_9 : decode cX3_crowdOutDownTo 9 = .ok (.iload_n 3, 1) := by decide +kernel
theorem dX3_crowdOutDownTo_10 : decode cX3_crowdOutDownTo 10 = .ok (.iload_n 2, 1) := by decide +kernel
theorem dX3_crowdOutDownTo_11 : decode cX3_crowdOutDownTo 11 = .ok (.if_icmp .ge 42, 3) := by decide +kernel
theorem dX3_crowdOutDownTo_14 : decode cX3_crowdOutDownTo 14 = .ok (.aload_n 0, 1) := by decide +kernel
theorem dX3_crowdOutDownTo_15 : decode cX3_crowdOutDownTo 15 = .ok (.invokevirtual 170, 3) := by decide +kernel
theorem dX3_crowdOutDownTo_18 : decode cX3_crowdOutDownTo 18 = .ok (.istore 4, 2) := by decide +kernel
theorem dX3_crowdOutDownTo_20 : decode cX3_crowdOutDownTo 20 = .ok (.iload 4, 2) := by decide +kernel
theorem dX3_crowdOutDownTo_22 : decode cX3_crowdOutDownTo 22 = .ok (.ifCond .ge 4, 3) := by decide +kernel
theorem dX3_crowdOutDownTo_25 : decode cX3_crowdOutDownTo 25 = .ok (.return_, 1) := by decide +kernel
theorem dX3_crowdOutDownTo_26 : decode cX3_crowdOutDownTo 26 = .ok (.aload_n 0, 1) := by decide +kernel
theorem dX3_crowdOutDownTo_27 : decode cX3_crowdOutDownTo 27 = .ok (.getfield 19, 3) := by decide +kernel
theorem dX3_crowdOutDownTo_30 : decode cX3_crowdOutDownTo 30 = .ok (.iload 4, 2) := by decide +kernel
theorem dX3_crowdOutDownTo_32 : decode cX3_crowdOutDownTo 32 = .ok (.aaload, 1) := by decide +kernel
theorem dX3_crowdOutDownTo_33 : decode cX3_crowdOutDownTo 33 = .ok (.iconst 0, 1) := by decide +kernel
theorem dX3_crowdOutDownTo_34 : decode cX3_crowdOutDownTo 34 = .ok (.putfield 106, 3) := by decide +kernel
theorem dX3_crowdOutDownTo_37 : decode cX3_crowdOutDownTo 37 = .ok (.aload_n 0, 1) := by decide +kernel
theorem dX3_crowdOutDownTo_38 : decode cX3_crowdOutDownTo 38 = .ok (.dup, 1) := by decide +kernel
theorem dX3_crowdOutDownTo_39 : decode cX3_crowdOutDownTo 39 = .ok (.getfield 55, 3) := by decide +kernel
theorem dX3_crowdOutDownTo_42 : decode cX3_crowdOutDownTo 42 = .ok (.iconst 1, 1) := by decide +kernel
theorem dX3_crowdOutDownTo_43 : decode cX3_crowdOutDownTo 43 = .ok (.iadd, 1) := by decide +kernel
theorem dX3_crowdOutDownTo_44 : decode cX3_crowdOutDownTo 44 = .ok (.putfield 55, 3) := by decide +kernel
theorem dX3_crowdOutDownTo_47 : decode cX3_crowdOutDownTo 47 = .ok (.iinc 3 1, 3) := by decide +kernel
theorem dX3_crowdOutDownTo_50 : decode cX3_crowdOutDownTo 50 = .ok (.goto (-41), 3) := by decide +kernel
theorem dX3_crowdOutDownTo_53 : decode cX3_crowdOutDownTo 53 = .ok (.return_, 1) := by decide +kernel
theorem dX3_oldestUnpinned_0 : decode cX3_oldestUnpinned 0 = .ok (.bipush (-4), 2) := by decide +kernel
theorem dX3_oldestUnpinned_2 : decode cX3_oldestUnpinned 2 = .ok (.istore_n 1, 1) := by decide +kernel
theorem dX3_oldestUnpinned_3 : decode cX3_oldestUnpinned 3 = .ok (.iconst 0, 1) := by decide +kernel
theorem dX3_oldestUnpinned_4 : decode cX3_oldestUnpinned 4 = .ok (.istore_n 2, 1) := by decide +kernel
theorem dX3_oldestUnpinned_5 : decode cX3_oldestUnpinned 5 = .ok (.iconst 0, 1) := by decide +kernel
theorem dX3_oldestUnpinned_6 : decode cX3_oldestUnpinned 6 = .ok (.istore_n 3, 1) := by decide +kernel
theorem dX3_oldestUnpinned_7 : decode cX3_oldestUnpinned 7 = .ok (.iload_n 3, 1) := by decide +kernel
theorem dX3_oldestUnpinned_8 : decode cX3_oldestUnpinned 8 = .ok (.bipush 12, 2) := by decide +kernel
theorem dX3_oldestUnpinned_10 : decode cX3_oldestUnpinned 10 = .ok (.if_icmp .ge 68, 3) := by decide +kernel
theorem dX3_oldestUnpinned_13 : decode cX3_oldestUnpinned 13 = .ok (.aload_n 0, 1) := by decide +kernel
theorem dX3_oldestUnpinned_14 : decode cX3_oldestUnpinned 14 = .ok (.getfield 19, 3) := by decide +kernel
theorem dX3_oldestUnpinned_17 : decode cX3_oldestUnpinned 17 = .ok (.iload_n 3, 1) := by decide +kernel
theorem dX3_oldestUnpinned_18 : decode cX3_oldestUnpinned 18 = .ok (.aaload, 1) := by decide +kernel
theorem dX3_oldestUnpinned_19 : decode cX3_oldestUnpinned 19 = .ok (.astore 4, 2) := by decide +kernel
theorem dX3_oldestUnpinned_21 : decode cX3_oldestUnpinned 21 = .ok (.iload_n 1, 1) := by decide +kernel
theorem dX3_oldestUnpinned_22 : decode cX3_oldestUnpinned 22 = .ok (.bipush (-4), 2) := by decide +kernel
theorem dX3_oldestUnpinned_24 : decode cX3_oldestUnpinned 24 = .ok (.if_icmp .eq 12, 3) := by decide +kernel
theorem dX3_oldestUnpinned_27 : decode cX3_oldestUnpinned 27 = .ok (.aload 4, 2) := by decide +kernel
theorem dX3_oldestUnpinned_29 : decode cX3_oldestUnpinned 29 = .ok (.getfield 133, 3) := by decide +kernel
theorem dX3_oldestUnpinned_32 : decode cX3_oldestUnpinned 32 = .ok (.iload_n 2, 1) := by decide +kernel
theorem dX3_oldestUnpinned_33 : decode cX3_oldestUnpinned 33 = .ok (.if_icmp .ge 7, 3) := by decide +kernel
theorem dX3_oldestUnpinned_36 : decode cX3_oldestUnpinned 36 = .ok (.iconst 1, 1) := by decide +kernel
theorem dX3_oldestUnpinned_37 : decode cX3_oldestUnpinned 37 = .ok (.goto 4, 3) := by decide +kernel
theorem dX3_oldestUnpinned_40 : decode cX3_oldestUnpinned 40 = .ok (.iconst 0, 1) := by decide +kernel
theorem dX3_oldestUnpinned_41 : decode cX3_oldestUnpinned 41 = .ok (.istore 5, 2) := by decide +kernel
theorem dX3_oldestUnpinned_43 : decode cX3_oldestUnpinned 43 = .ok (.aload 4, 2) := by decide +kernel
theorem dX3_oldestUnpinned_45 : decode cX3_oldestUnpinned 45 = .ok (.getfield 106, 3) := by decide +kernel
theorem dX3_oldestUnpinned_48 : decode cX3_oldestUnpinned 48 = .ok (.ifCond .eq 24, 3) := by decide +kernel
theorem dX3_oldestUnpinned_51 : decode cX3_oldestUnpinned 51 = .ok (.aload 4, 2) := by decide +kernel
theorem dX3_oldestUnpinned_53 : decode cX3_oldestUnpinned 53 = .ok (.getfield 154, 3) := by decide +kernel
theorem dX3_oldestUnpinned_56 : decode cX3_oldestUnpinned 56 = .ok (.ifCond .ne 16, 3) := by decide +kernel
theorem dX3_oldestUnpinned_59 : decode cX3_oldestUnpinned 59 = .ok (.iload 5, 2) := by decide +kernel
theorem dX3_oldestUnpinned_61 : decode cX3_oldestUnpinned 61 = .ok (.ifCond .eq 11, 3) := by decide +kernel
theorem dX3_oldestUnpinned_64 : decode cX3_oldestUnpinned 64 = .ok (.iload_n 3, 1) := by decide +kernel
theorem dX3_oldestUnpinned_65 : decode cX3_oldestUnpinned 65 = .ok (.istore_n 1, 1) := by decide +kernel
theorem dX3_oldestUnpinned_66 : decode cX3_oldestUnpinned 66 = .ok (.aload 4, 2) := by decide +kernel
theorem dX3_oldestUnpinned_68 : decode cX3_oldestUnpinned 68 = .ok (.getfield 133, 3) := by decide +kernel
theorem dX3_oldestUnpinned_71 : decode cX3_oldestUnpinned 71 = .ok (.istore_n 2, 1) := by decide +kernel
theorem dX3_oldestUnpinned_72 : decode cX3_oldestUnpinned 72 = .ok (.iinc 3 1, 3) := by decide +kernel
theorem dX3_oldestUnpinned_75 : decode cX3_oldestUnpinned 75 = .ok (.goto (-68), 3) := by decide +kernel
theorem dX3_oldestUnpinned_78 : decode cX3_oldestUnpinned 78 = .ok (.iload_n 1, 1) := by decide +kernel
theorem dX3_oldestUnpinned_79 : decode cX3_oldestUnpinned 79 = .ok (.ireturn, 1) := by decide +kernel
theorem dX3_keptPlansOf_0 : decode cX3_keptPlansOf 0 = .ok (.iconst 0, 1) := by decide +kernel
theorem dX3_keptPlansOf_1 : decode cX3_keptPlansOf 1 = .ok (.istore_n 2, 1) := by decide +kernel
theorem dX3_keptPlansOf_2 : decode cX3_keptPlansOf 2 = .ok (.iconst 0, 1) := by decide +kernel
theorem dX3_keptPlansOf_3 : decode cX3_keptPlansOf 3 = .ok (.istore_n 3, 1) := by decide +kernel
theorem dX3_keptPlansOf_4 : decode cX3_keptPlansOf 4 = .ok (.iload_n 3, 1) := by decide +kernel
theorem dX3_keptPlansOf_5 : decode cX3_keptPlansOf 5 = .ok (.iconst 3, 1) := by decide +kernel
theorem dX3_keptPlansOf_6 : decode cX3_keptPlansOf 6 = .ok (.if_icmp .ge 28, 3) := by decide +kernel
theorem dX3_keptPlansOf_9 : decode cX3_keptPlansOf 9 = .ok (.aload_n 0, 1) := by decide +kernel
theorem dX3_keptPlansOf_10 : decode cX3_keptPlansOf 10 = .ok (.getfield 19, 3) := by decide +kernel
theorem dX3_keptPlansOf_13 : decode cX3_keptPlansOf 13 = .ok (.iconst 3, 1) := by decide +kernel
theorem dX3_keptPlansOf_14 : decode cX3_keptPlansOf 14 = .ok (.iload_n 1, 1) := by decide +kernel
theorem dX3_keptPlansOf_15 : decode cX3_keptPlansOf 15 = .ok (.imul, 1) := by decide +kernel
theorem dX3_keptPlansOf_16 : decode cX3_keptPlansOf 16 = .ok (.iload_n 3, 1) := by decide +kernel
theorem dX3_keptPlansOf_17 : decode cX3_keptPlansOf 17 = .ok (.iadd, 1) := by decide +kernel
theorem dX3_keptPlansOf_18 : decode cX3_keptPlansOf 18 = .ok (.aaload, 1) := by decide +kernel
theorem dX3_keptPlansOf_19 : decode cX3_keptPlansOf 19 = .ok (.getfield 106, 3) := by decide +kernel
theorem dX3_keptPlansOf_22 : decode cX3_keptPlansOf 22 = .ok (.ifCond .eq 6, 3) := by decide +kernel
theorem dX3_keptPlansOf_25 : decode cX3_keptPlansOf 25 = .ok (.iinc 2 1, 3) := by decide +kernel
theorem dX3_keptPlansOf_28 : decode cX3_keptPlansOf 28 = .ok (.iinc 3 1, 3) := by decide +kernel
theorem dX3_keptPlansOf_31 : decode cX3_keptPlansOf 31 = .ok (.goto (-27), 3) := by decide +kernel
theorem dX3_keptPlansOf_34 : decode cX3_keptPlansOf 34 = .ok (.iload_n 2, 1) := by decide +kernel
theorem dX3_keptPlansOf_35 : decode cX3_keptPlansOf 35 = .ok (.ireturn, 1) := by decide +kernel
theorem dX3_keptPlans_0 : decode cX3_keptPlans 0 = .ok (.iconst 0, 1) := by decide +kernel
theorem dX3_keptPlans_1 : decode cX3_keptPlans 1 = .ok (.istore_n 1, 1) := by decide +kernel
theorem dX3_keptPlans_2 : decode cX3_keptPlans 2 = .ok (.iconst 0, 1) := by decide +kernel
theorem dX3_keptPlans_3 : decode cX3_keptPlans 3 = .ok (.istore_n 2, 1) := by decide +kernel
theorem dX3_keptPlans_4 : decode cX3_keptPlans 4 = .ok (.iload_n 2, 1) := by decide +kernel
theorem dX3_keptPlans_5 : decode cX3_keptPlans 5 = .ok (.bipush 12, 2) := by decide +kernel
theorem dX3_keptPlans_7 : decode cX3_keptPlans 7 = .ok (.if_icmp .ge 24, 3) := by decide +kernel
theorem dX3_keptPlans_10 : decode cX3_keptPlans 10 = .ok (.aload_n 0, 1) := by decide +kernel
theorem dX3_keptPlans_11 : decode cX3_keptPlans 11 = .ok (.getfield 19, 3) := by decide +kernel
theorem dX3_keptPlans_14 : decode cX3_keptPlans 14 = .ok (.iload_n 2, 1) := by decide +kernel
theorem dX3_keptPlans_15 : decode cX3_keptPlans 15 = .ok (.aaload, 1) := by decide +kernel
theorem dX3_keptPlans_16 : decode cX3_keptPlans 16 = .ok (.getfield 106, 3) := by decide +kernel
theorem dX3_keptPlans_19 : decode cX3_keptPlans 19 = .ok (.ifCond .eq 6, 3) := by decide +kernel
theorem dX3_keptPlans_22 : decode cX3_keptPlans 22 = .ok (.iinc 1 1, 3) := by decide +kernel
theorem dX3_keptPlans_25 : decode cX3_keptPlans 25 = .ok (.iinc 2 1, 3) := by decide +kernel
theorem dX3_keptPlans_28 : decode cX3_keptPlans 28 = .ok (.goto (-24), 3) := by decide +kernel
theorem dX3_keptPlans_31 : decode cX3_keptPlans 31 = .ok (.iload_n 1, 1) := by decide +kernel
theorem dX3_keptPlans_32 : decode cX3_keptPlans 32 = .ok (.ireturn, 1) := by decide +kernel
theorem dX3_pinnedPlans_0 : decode cX3_pinnedPlans 0 = .ok (.iconst 0, 1) := by decide +kernel
theorem dX3_pinnedPlans_1 : decode cX3_pinnedPlans 1 = .ok (.istore_n 1, 1) := by decide +kernel
theorem dX3_pinnedPlans_2 : decode cX3_pinnedPlans 2 = .ok (.iconst 0, 1) := by decide +kernel
theorem dX3_pinnedPlans_3 : decode cX3_pinnedPlans 3 = .ok (.istore_n 2, 1) := by decide +kernel
theorem dX3_pinnedPlans_4 : decode cX3_pinnedPlans 4 = .ok (.iload_n 2, 1) := by decide +kernel
theorem dX3_pinnedPlans_5 : decode cX3_pinnedPlans 5 = .ok (.bipush 12, 2) := by decide +kernel
theorem dX3_pinnedPlans_7 : decode cX3_pinnedPlans 7 = .ok (.if_icmp .ge 36, 3) := by decide +kernel
theorem dX3_pinnedPlans_10 : decode cX3_pinnedPlans 10 = .ok (.aload_n 0, 1) := by decide +kernel
theorem dX3_pinnedPlans_11 : decode cX3_pinnedPlans 11 = .ok (.getfield 19, 3) := by decide +kernel
theorem dX3_pinnedPlans_14 : decode cX3_pinnedPlans 14 = .ok (.iload_n 2, 1) := by decide +kernel
theorem dX3_pinnedPlans_15 : decode cX3_pinnedPlans 15 = .ok (.aaload, 1) := by decide +kernel
theorem dX3_pinnedPlans_16 : decode cX3_pinnedPlans 16 = .ok (.getfield 106, 3) := by decide +kernel
theorem dX3_pinnedPlans_19 : decode cX3_pinnedPlans 19 = .ok (.ifCond .eq 18, 3) := by decide +kernel
theorem dX3_pinnedPlans_22 : decode cX3_pinnedPlans 22 = .ok (.aload_n 0, 1) := by decide +kernel
theorem dX3_pinnedPlans_23 : decode cX3_pinnedPlans 23 = .ok (.getfield 19, 3) := by decide +kernel
theorem dX3_pinnedPlans_26 : decode cX3_pinnedPlans 26 = .ok (.iload_n 2, 1) := by decide +kernel
theorem dX3_pinnedPlans_27 : decode cX3_pinnedPlans 27 = .ok (.aaload, 1) := by decide +kernel
theorem dX3_pinnedPlans_28 : decode cX3_pinnedPlans 28 = .ok (.getfield 154, 3) := by decide +kernel
theorem dX3_pinnedPlans_31 : decode cX3_pinnedPlans 31 = .ok (.ifCond .eq 6, 3) := by decide +kernel
theorem dX3_pinnedPlans_34 : decode cX3_pinnedPlans 34 = .ok (.iinc 1 1, 3) := by decide +kernel
theorem dX3_pinnedPlans_37 : decode cX3_pinnedPlans 37 = .ok (.iinc 2 1, 3) := by decide +kernel
theorem dX3_pinnedPlans_40 : decode cX3_pinnedPlans 40 = .ok (.goto (-36), 3) := by decide +kernel
theorem dX3_pinnedPlans_43 : decode cX3_pinnedPlans 43 = .ok (.iload_n 1, 1) := by decide +kernel
theorem dX3_pinnedPlans_44 : decode cX3_pinnedPlans 44 = .ok (.ireturn, 1) := by decide +kernel
theorem dX3_stalePlans_0 : decode cX3_stalePlans 0 = .ok (.iconst 0, 1) := by decide +kernel
theorem dX3_stalePlans_1 : decode cX3_stalePlans 1 = .ok (.istore_n 1, 1) := by decide +kernel
theorem dX3_stalePlans_2 : decode cX3_stalePlans 2 = .ok (.iconst 0, 1) := by decide +kernel
theorem dX3_stalePlans_3 : decode cX3_stalePlans 3 = .ok (.istore_n 2, 1) := by decide +kernel
theorem dX3_stalePlans_4 : decode cX3_stalePlans 4 = .ok (.iload_n 2, 1) := by decide +kernel
theorem dX3_stalePlans_5 : decode cX3_stalePlans 5 = .ok (.bipush 12, 2) := by decide +kernel
theorem dX3_stalePlans_7 : decode cX3_stalePlans 7 = .ok (.if_icmp .ge 32, 3) := by decide +kernel
theorem dX3_stalePlans_10 : decode cX3_stalePlans 10 = .ok (.aload_n 0, 1) := by decide +kernel
theorem dX3_stalePlans_11 : decode cX3_stalePlans 11 = .ok (.getfield 19, 3) := by decide +kernel
theorem dX3_stalePlans_14 : decode cX3_stalePlans 14 = .ok (.iload_n 2, 1) := by decide +kernel
theorem dX3_stalePlans_15 : decode cX3_stalePlans 15 = .ok (.aaload, 1) := by decide +kernel
theorem dX3_stalePlans_16 : decode cX3_stalePlans 16 = .ok (.getfield 106, 3) := by decide +kernel
theorem dX3_stalePlans_19 : decode cX3_stalePlans 19 = .ok (.ifCond .eq 14, 3) := by decide +kernel
theorem dX3_stalePlans_22 : decode cX3_stalePlans 22 = .ok (.aload_n 0, 1) := by decide +kernel
theorem dX3_stalePlans_23 : decode cX3_stalePlans 23 = .ok (.iload_n 2, 1) := by decide +kernel
theorem dX3_stalePlans_24 : decode cX3_stalePlans 24 = .ok (.invokevirtual 176, 3) := by decide +kernel
theorem dX3_stalePlans_27 : decode cX3_stalePlans 27 = .ok (.ifCond .eq 6, 3) := by decide +kernel
theorem dX3_stalePlans_30 : decode cX3_stalePlans 30 = .ok (.iinc 1 1, 3) := by decide +kernel
theorem dX3_stalePlans_33 : decode cX3_stalePlans 33 = .ok (.iinc 2 1, 3) := by decide +kernel
theorem dX3_stalePlans_36 : decode cX3_stalePlans 36 = .ok (.goto (-32), 3) := by decide +kernel
theorem dX3_stalePlans_39 : decode cX3_stalePlans 39 = .ok (.iload_n 1, 1) := by decide +kernel
theorem dX3_stalePlans_40 : decode cX3_stalePlans 40 = .ok (.ireturn, 1) := by decide +kernel
theorem dX4_init_0 : decode cX4_init 0 = .ok (.aload_n 0, 1) := by decide +kernel
theorem dX4_init_1 : decode cX4_init 1 = .ok (.invokespecial 1, 3) := by decide +kernel
theorem dX4_init_4 : decode cX4_init 4 = .ok (.aload_n 0, 1) := by decide +kernel
theorem dX4_init_5 : decode cX4_init 5 = .ok (.bipush 100, 2) := by decide +kernel
theorem dX4_init_7 : decode cX4_init 7 = .ok (.putfield 7, 3) := by decide +kernel
theorem dX4_init_10 : decode cX4_init 10 = .ok (.aload_n 0, 1) := by decide +kernel
theorem dX4_init_11 : decode cX4_init 11 = .ok (.bipush 10, 2) := by decide +kernel
theorem dX4_init_13 : decode cX4_init 13 = .ok (.putfield 13, 3) := by decide +kernel
theorem dX4_init_16 : decode cX4_init 16 = .ok (.return_, 1) := by decide +kernel
theorem dX4_copyFrom_0 : decode cX4_copyFrom 0 = .ok (.aload_n 0, 1) := by decide +kernel
theorem dX4_copyFrom_1 : decode cX4_copyFrom 1 = .ok (.aload_n 1, 1) := by decide +kernel
theorem dX4_copyFrom_2 : decode cX4_copyFrom 2 = .ok (.getfield 7, 3) := by decide +kernel
theorem dX4_copyFrom_5 : decode cX4_copyFrom 5 = .ok (.putfield 7, 3) := by decide +kernel
theorem dX4_copyFrom_8 : decode cX4_copyFrom 8 = .ok (.aload_n 0, 1) := by decide +kernel
theorem dX4_copyFrom_9 : decode cX4_copyFrom 9 = .ok (.aload_n 1, 1) := by decide +kernel
theorem dX4_copyFrom_10 : decode cX4_copyFrom 10 = .ok (.getfield 13, 3) := by decide +kernel
theorem dX4_copyFrom_13 : decode cX4_copyFrom 13 = .ok (.putfield 13, 3) := by decide +kernel
theorem dX4_copyFrom_16 : decode cX4_copyFrom 16 = .ok (.aload_n 0, 1) := by decide +kernel
theorem dX4_copyFrom_17 : decode cX4_copyFrom 17 = .ok (.aload_n 1, 1) := by decide +kernel
theorem dX4_copyFrom_18 : decode cX4_copyFrom 18 = .ok (.getfield 16, 3) := by decide +kernel
theorem dX4_copyFrom_21 : decode cX4_copyFrom 21 = .ok (.putfield 16, 3) := by decide +kernel
theorem dX4_copyFrom_24 : decode cX4_copyFrom 24 = .ok (.aload_n 0, 1) := by decide +kernel
theorem dX4_copyFrom_25 : decode cX4_copyFrom 25 = .ok (.aload_n 1, 1) := by decide +kernel
theorem dX4_copyFrom_26 : decode cX4_copyFrom 26 = .ok (.getfield 19, 3) := by decide +kernel
theorem dX4_copyFrom_29 : decode cX4_copyFrom 29 = .ok (.putfield 19, 3) := by decide +kernel
theorem dX4_copyFrom_32 : decode cX4_copyFrom 32 = .ok (.return_, 1) := by decide +kernel
theorem dX5_init_0 : decode cX5_init 0 = .ok (.aload_n 0, 1) := by decide +kernel
theorem dX5_init_1 : decode cX5_init 1 = .ok (.invokespecial 1, 3) := by decide +kernel
theorem dX5_init_4 : decode cX5_init 4 = .ok (.aload_n 0, 1) := by decide +kernel
theorem dX5_init_5 : decode cX5_init 5 = .ok (.new 7, 3) := by decide +kernel
theorem dX5_init_8 : decode cX5_init 8 = .ok (.dup, 1) := by decide +kernel
theorem dX5_init_9 : decode cX5_init 9 = .ok (.invokespecial 9, 3) := by decide +kernel
theorem dX5_init_12 : decode cX5_init 12 = .ok (.putfield 10, 3) := by decide +kernel
theorem dX5_init_15 : decode cX5_init 15 = .ok (.aload_n 0, 1) := by decide +kernel
theorem dX5_init_16 : decode cX5_init 16 = .ok (.new 7, 3) := by decide +kernel
theorem dX5_init_19 : decode cX5_init 19 = .ok (.dup, 1) := by decide +kernel
theorem dX5_init_20 : decode cX5_init 20 = .ok (.invokespecial 9, 3) := by decide +kernel
theorem dX5_init_23 : decode cX5_init 23 = .ok (.putfield 16, 3) := by decide +kernel
theorem dX5_init_26 : decode cX5_init 26 = .ok (.aload_n 0, 1) := by decide +kernel
theorem dX5_init_27 : decode cX5_init 27 = .ok (.new 19, 3) := by decide +kernel
theorem dX5_init_30 : decode cX5_init 30 = .ok (.dup, 1) := by decide +kernel
theorem dX5_init_31 : decode cX5_init 31 = .ok (.invokespecial 21, 3) := by decide +kernel
theorem dX5_init_34 : decode cX5_init 34 = .ok (.putfield 22, 3) := by decide +kernel
theorem dX5_init_37 : decode cX5_init 37 = .ok (.aload_n 0, 1) := by decide +kernel
theorem dX5_init_38 : decode cX5_init 38 = .ok (.new 26, 3) := by decide +kernel
theorem dX5_init_41 : decode cX5_init 41 = .ok (.dup, 1) := by decide +kernel
theorem dX5_init_42 : decode cX5_init 42 = .ok (.invokespecial 28, 3) := by decide +kernel
theorem dX5_init_45 : decode cX5_init 45 = .ok (.putfield 29, 3) := by decide +kernel
theorem dX5_init_48 : decode cX5_init 48 = .ok (.aload_n 0, 1) := by decide +kernel
theorem dX5_init_49 : decode cX5_init 49 = .ok (.iconst 0, 1) := by decide +kernel
theorem dX5_init_50 : decode cX5_init 50 = .ok (.putfield 33, 3) := by decide +kernel
theorem dX5_init_53 : decode cX5_init 53 = .ok (.return_, 1) := by decide +kernel
theorem dX5_table_0 : decode cX5_table 0 = .ok (.iload_n 1, 1) := by decide +kernel
theorem dX5_table_1 : decode cX5_table 1 = .ok (.invokestatic 37, 3) := by decide +kernel
theorem dX5_table_4 : decode cX5_table 4 = .ok (.ifCond .ne 5, 3) := by decide +kernel
theorem dX5_table_7 : decode cX5_table 7 = .ok (.iconst (-1), 1) := by decide +kernel
theorem dX5_table_8 : decode cX5_table 8 = .ok (.ireturn, 1) := by decide +kernel
theorem dX5_table_9 : decode cX5_table 9 = .ok (.iload_n 3, 1) := by decide +kernel
theorem dX5_table_10 : decode cX5_table 10 = .ok (.iload_n 2, 1) := by decide +kernel
theorem dX5_table_11 : decode cX5_table 11 = .ok (.ifCond .eq 7, 3) := by decide +kernel
theorem dX5_table_14 : decode cX5_table 14 = .ok (.iconst 1, 1) := by decide +kernel
theorem dX5_table_15 : decode cX5_table 15 = .ok (.goto 4, 3) := by decide +kernel
theorem dX5_table_18 : decode cX5_table 18 = .ok (.iconst 0, 1) := by decide +kernel
theorem dX5_table_19 : decode cX5_table 19 = .ok (.if_icmp .lt 10, 3) := by decide +kernel
theorem dX5_table_22 : decode cX5_table 22 = .ok (.iload_n 3, 1) := by decide +kernel
theorem dX5_table_23 : decode cX5_table 23 = .ok (.sipush 9999, 3) := by decide +kernel
theorem dX5_table_26 : decode cX5_table 26 = .ok (.if_icmp .le 6, 3) := by decide +kernel
theorem dX5_table_29 : decode cX5_table 29 = .ok (.bipush (-2), 2) := by decide +kernel
theorem dX5_table_31 : decode cX5_table 31 = .ok (.ireturn, 1) := by decide +kernel
theorem dX5_table_32 : decode cX5_table 32 = .ok (.iload_n 2, 1) := by decide +kernel
theorem dX5_table_33 : decode cX5_table 33 = .ok (.ifCond .eq 18, 3) := by decide +kernel
theorem dX5_table_36 : decode cX5_table 36 = .ok (.aload_n 0, 1) := by decide +kernel
theorem dX5_table_37 : decode cX5_table 37 = .ok (.getfield 10, 3) := by decide +kernel
theorem dX5_table_40 : decode cX5_table 40 = .ok (.getfield 41, 3) := by decide +kernel
theorem dX5_table_43 : decode cX5_table 43 = .ok (.iload_n 1, 1) := by decide +kernel
theorem dX5_table_44 : decode cX5_table 44 = .ok (.aaload, 1) := by decide +kernel
theorem dX5_table_45 : decode cX5_table 45 = .ok (.getfield 45, 3) := by decide +kernel
theorem dX5_table_48 : decode cX5_table 48 = .ok (.goto 15, 3) := by decide +kernel
theorem dX5_table_51 : decode cX5_table 51 = .ok (.aload_n 0, 1) := by decide +kernel
theorem dX5_table_52 : decode cX5_table 52 = .ok (.getfield 10, 3) := by decide +kernel
theorem dX5_table_55 : decode cX5_table 55 = .ok (.getfield 41, 3) := by decide +kernel
theorem dX5_table_58 : decode cX5_table 58 = .ok (.iload_n 1, 1) := by decide +kernel
theorem dX5_table_59 : decode cX5_table 59 = .ok (.aaload, 1) := by decide +kernel
theorem dX5_table_60 : decode cX5_table 60 = .ok (.getfield 51, 3) := by decide +kernel
theorem dX5_table_63 : decode cX5_table 63 = .ok (.istore 4, 2) := by decide +kernel
theorem dX5_table_65 : decode cX5_table 65 = .ok (.iload 4, 2) := by decide +kernel
theorem dX5_table_67 : decode cX5_table 67 = .ok (.iload_n 3, 1) := by decide +kernel
theorem dX5_table_68 : decode cX5_table 68 = .ok (.if_icmp .ne 6, 3) := by decide +kernel
theorem dX5_table_71 : decode cX5_table 71 = .ok (.bipush (-4), 2) := by decide +kernel
theorem dX5_table_73 : decode cX5_table 73 = .ok (.ireturn, 1) := by decide +kernel
theorem dX5_table_74 : decode cX5_table 74 = .ok (.aload_n 0, 1) := by decide +kernel
theorem dX5_table_75 : decode cX5_table 75 = .ok (.getfield 22, 3) := by decide +kernel
theorem dX5_table_78 : decode cX5_table 78 = .ok (.aload_n 0, 1) := by decide +kernel
theorem dX5_table_79 : decode cX5_table 79 = .ok (.getfield 10, 3) := by decide +kernel
theorem dX5_table_82 : decode cX5_table 82 = .ok (.invokevirtual 54, 3) := by decide +kernel
theorem dX5_table_85 : decode cX5_table 85 = .ok (.aload_n 0, 1) := by decide +kernel
theorem dX5_table_86 : decode cX5_table 86 = .ok (.getfield 10, 3) := by decide +kernel
theorem dX5_table_89 : decode cX5_table 89 = .ok (.iload_n 1, 1) := by decide +kernel
theorem dX5_table_90 : decode cX5_table 90 = .ok (.iload_n 2, 1) := by decide +kernel
theorem dX5_table_91 : decode cX5_table 91 = .ok (.iload_n 3, 1) := by decide +kernel
theorem dX5_table_92 : decode cX5_table 92 = .ok (.invokevirtual 58, 3) := by decide +kernel
theorem dX5_table_95 : decode cX5_table 95 = .ok (.iload 4, 2) := by decide +kernel
theorem dX5_table_97 : decode cX5_table 97 = .ok (.ireturn, 1) := by decide +kernel
theorem dX5_ask_0 : decode cX5_ask 0 = .ok (.iload_n 1, 1) := by decide +kernel
theorem dX5_ask_1 : decode cX5_ask 1 = .ok (.invokestatic 62, 3) := by decide +kernel
theorem dX5_ask_4 : decode cX5_ask 4 = .ok (.ifCond .ne 5, 3) := by decide +kernel
theorem dX5_ask_7 : decode cX5_ask 7 = .ok (.iconst (-1), 1) := by decide +kernel
theorem dX5_ask_8 : decode cX5_ask 8 = .ok (.ireturn, 1) := by decide +kernel
theorem dX5_ask_9 : decode cX5_ask 9 = .ok (.iload_n 1, 1) := by decide +kernel
theorem dX5_ask_10 : decode cX5_ask 10 = .ok (.iconst 3, 1) := by decide +kernel
theorem dX5_ask_11 : decode cX5_ask 11 = .ok (.irem, 1) := by decide +kernel
theorem dX5_ask_12 : decode cX5_ask 12 = .ok (.iload_n 2, 1) := by decide +kernel
theorem dX5_ask_13 : decode cX5_ask 13 = .ok (.invokestatic 65, 3) := by decide +kernel
theorem dX5_ask_16 : decode cX5_ask 16 = .ok (.ifCond .ne 6, 3) := by decide +kernel
theorem dX5_ask_19 : decode cX5_ask 19 = .ok (.bipush (-2), 2) := by decide +kernel
theorem dX5_ask_21 : decode cX5_ask 21 = .ok (.ireturn, 1) := by decide +kernel
theorem dX5_ask_22 : decode cX5_ask 22 = .ok (.aload_n 0, 1) := by decide +kernel
theorem dX5_ask_23 : decode cX5_ask 23 = .ok (.getfield 22, 3) := by decide +kernel
theorem dX5_ask_26 : decode cX5_ask 26 = .ok (.aload_n 0, 1) := by decide +kernel
theorem dX5_ask_27 : decode cX5_ask 27 = .ok (.getfield 10, 3) := by decide +kernel
theorem dX5_ask_30 : decode cX5_ask 30 = .ok (.invokevirtual 54, 3) := by decide +kernel
theorem dX5_ask_33 : decode cX5_ask 33 = .ok (.aload_n 0, 1) := by decide +kernel
theorem dX5_ask_34 : decode cX5_ask 34 = .ok (.getfield 10, 3) := by decide +kernel
theorem dX5_ask_37 : decode cX5_ask 37 = .ok (.iload_n 1, 1) := by decide +kernel
theorem dX5_ask_38 : decode cX5_ask 38 = .ok (.iload_n 2, 1) := by decide +kernel
theorem dX5_ask_39 : decode cX5_ask 39 = .ok (.invokevirtual 69, 3) := by decide +kernel
theorem dX5_ask_42 : decode cX5_ask 42 = .ok (.ireturn, 1) := by decide +kernel
theorem dX5_askAll_0 : decode cX5_askAll 0 = .ok (.aload_n 0, 1) := by decide +kernel
theorem dX5_askAll_1 : decode cX5_askAll 1 = .ok (.getfield 29, 3) := by decide +kernel
theorem dX5_askAll_4 : decode cX5_askAll 4 = .ok (.invokevirtual 73, 3) := by decide +kernel
theorem dX5_askAll_7 : decode cX5_askAll 7 = .ok (.istore_n 1, 1) := by decide +kernel
theorem dX5_askAll_8 : decode cX5_askAll 8 = .ok (.iload_n 1, 1) := by decide +kernel
theorem dX5_askAll_9 : decode cX5_askAll 9 = .ok (.bipush (-4), 2) := by decide +kernel
theorem dX5_askAll_11 : decode cX5_askAll 11 = .ok (.if_icmp .eq 8, 3) := by decide +kernel
theorem dX5_askAll_14 : decode cX5_askAll 14 = .ok (.bipush (-100), 2) := by decide +kernel
theorem dX5_askAll_16 : decode cX5_askAll 16 = .ok (.iload_n 1, 1) := by decide +kernel
theorem dX5_askAll_17 : decode cX5_askAll 17 = .ok (.isub, 1) := by decide +kernel
theorem dX5_askAll_18 : decode cX5_askAll 18 = .ok (.ireturn, 1) := by decide +kernel
theorem dX5_askAll_19 : decode cX5_askAll 19 = .ok (.aload_n 0, 1) := by decide +kernel
theorem dX5_askAll_20 : decode cX5_askAll 20 = .ok (.getfield 22, 3) := by decide +kernel
theorem dX5_askAll_23 : decode cX5_askAll 23 = .ok (.aload_n 0, 1) := by decide +kernel
theorem dX5_askAll_24 : decode cX5_askAll 24 = .ok (.getfield 10, 3) := by decide +kernel
theorem dX5_askAll_27 : decode cX5_askAll 27 = .ok (.invokevirtual 54, 3) := by decide +kernel
theorem dX5_askAll_30 : decode cX5_askAll 30 = .ok (.iconst 0, 1) := by decide +kernel
theorem dX5_askAll_31 : decode cX5_askAll 31 = .ok (.istore_n 2, 1) := by decide +kernel
theorem dX5_askAll_32 : decode cX5_askAll 32 = .ok (.iconst 0, 1) := by decide +kernel
theorem dX5_askAll_33 : decode cX5_askAll 33 = .ok (.istore_n 3, 1) := by decide +kernel
theorem dX5_askAll_34 : decode cX5_askAll 34 = .ok (.iload_n 3, 1) := by decide +kernel
theorem dX5_askAll_35 : decode cX5_askAll 35 = .ok (.aload_n 0, 1) := by decide +kernel
theorem dX5_askAll_36 : decode cX5_askAll 36 = .ok (.getfield 29, 3) := by decide +kernel
theorem dX5_askAll_39 : decode cX5_askAll 39 = .ok (.getfield 77, 3) := by decide +kernel
theorem dX5_askAll_42 : decode cX5_askAll 42 = .ok (.if_icmp .ge 104, 3) := by decide +kernel
theorem dX5_askAll_45 : decode cX5_askAll 45 = .ok (.aload_n 0, 1) := by decide +kernel
theorem dX5_askAll_46 : decode cX5_askAll 46 = .ok (.getfield 29, 3) := by decide +kernel
theorem dX5_askAll_49 : decode cX5_askAll 49 = .ok (.getfield 80, 3) := by decide +kernel
theorem dX5_askAll_52 : decode cX5_askAll 52 = .ok (.iload_n 3, 1) := by decide +kernel
theorem dX5_askAll_53 : decode cX5_askAll 53 = .ok (.iaload, 1) := by decide +kernel
theorem dX5_askAll_54 : decode cX5_askAll 54 = .ok (.istore 4, 2) := by decide +kernel
theorem dX5_askAll_56 : decode cX5_askAll 56 = .ok (.iload 4, 2) := by decide +kernel
theorem dX5_askAll_58 : decode cX5_askAll 58 = .ok (.iconst 3, 1) := by decide +kernel
theorem dX5_askAll_59 : decode cX5_askAll 59 = .ok (.if_icmp .eq 9, 3) := by decide +kernel
theorem dX5_askAll_62 : decode cX5_askAll 62 = .ok (.iload 4, 2) := by decide +kernel
theorem dX5_askAll_64 : decode cX5_askAll 64 = .ok (.iconst 4, 1) := by decide +kernel
theorem dX5_askAll_65 : decode cX5_askAll 65 = .ok (.if_icmp .ne 42, 3) := by decide +kernel
theorem dX5_askAll_68 : decode cX5_askAll 68 = .ok (.aload_n 0, 1) := by decide +kernel
theorem dX5_askAll_69 : decode cX5_askAll 69 = .ok (.getfield 10, 3) := by decide +kernel
theorem dX5_askAll_72 : decode cX5_askAll 72 = .ok (.aload_n 0, 1) := by decide +kernel
theorem dX5_askAll_73 : decode cX5_askAll 73 = .ok (.getfield 29, 3) := by decide +kernel
theorem dX5_askAll_76 : decode cX5_askAll 76 = .ok (.getfield 84, 3) := by decide +kernel
theorem dX5_askAll_79 : decode cX5_askAll 79 = .ok (.iload_n 3, 1) := by decide +kernel
theorem dX5_askAll_80 : decode cX5_askAll 80 = .ok (.iaload, 1) := by decide +kernel
theorem dX5_askAll_81 : decode cX5_askAll 81 = .ok (.iload 4, 2) := by decide +kernel
theorem dX5_askAll_83 : decode cX5_askAll 83 = .ok (.iconst 4, 1) := by decide +kernel
theorem dX5_askAll_84 : decode cX5_askAll 84 = .ok (.if_icmp .ne 7, 3) := by decide +kernel
theorem dX5_askAll_87 : decode cX5_askAll 87 = .ok (.iconst 1, 1) := by decide +kernel
theorem dX5_askAll_88 : decode cX5_askAll 88 = .ok (.goto 4, 3) := by decide +kernel
theorem dX5_askAll_91 : decode cX5_askAll 91 = .ok (.iconst 0, 1) := by decide +kernel
theorem dX5_askAll_92 : decode cX5_askAll 92 = .ok (.aload_n 0, 1) := by decide +kernel
theorem dX5_askAll_93 : decode cX5_askAll 93 = .ok (.getfield 29, 3) := by decide +kernel
theorem dX5_askAll_96 : decode cX5_askAll 96 = .ok (.getfield 86, 3) := by decide +kernel
theorem dX5_askAll_99 : decode cX5_askAll 99 = .ok (.iload_n 3, 1) := by decide +kernel
theorem dX5_askAll_100 : decode cX5_askAll 100 = .ok (.iaload, 1) := by decide +kernel
theorem dX5_askAll_101 : decode cX5_askAll 101 = .ok (.invokevirtual 58, 3) := by decide +kernel
theorem dX5_askAll_104 : decode cX5_askAll 104 = .ok (.goto 36, 3) := by decide +kernel
theorem dX5_askAll_107 : decode cX5_askAll 107 = .ok (.iload_n 2, 1) := by decide +kernel
theorem dX5_askAll_108 : decode cX5_askAll 108 = .ok (.aload_n 0, 1) := by decide +kernel
theorem dX5_askAll_109 : decode cX5_askAll 109 = .ok (.getfield 10, 3) := by decide +kernel
theorem dX5_askAll_112 : decode cX5_askAll 112 = .ok (.iconst 3, 1) := by decide +kernel
theorem dX5_askAll_113 : decode cX5_askAll 113 = .ok (.aload_n 0, 1) := by decide +kernel
theorem dX5_askAll_114 : decode cX5_askAll 114 = .ok (.getfield 29, 3) := by decide +kernel
theorem dX5_askAll_117 : decode cX5_askAll 117 = .ok (.getfield 84, 3) := by decide +kernel
theorem dX5_askAll_120 : decode cX5_askAll 120 = .ok (.iload_n 3, 1) := by decide +kernel
theorem dX5_askAll_121 : decode cX5_askAll 121 = .ok (.iaload, 1) := by decide +kernel
theorem dX5_askAll_122 : decode cX5_askAll 122 = .ok (.imul, 1) := by decide +kernel
theorem dX5_askAll_123 : decode cX5_askAll 123 = .ok (.iload 4, 2) := by decide +kernel
theorem dX5_askAll_125 : decode cX5_askAll 125 = .ok (.iadd, 1) := by decide +kernel
theorem dX5_askAll_126 : decode cX5_askAll 126 = .ok (.aload_n 0, 1) := by decide +kernel
theorem dX5_askAll_127 : decode cX5_askAll 127 = .ok (.getfield 29, 3) := by decide +kernel
theorem dX5_askAll_130 : decode cX5_askAll 130 = .ok (.getfield 86, 3) := by decide +kernel
theorem dX5_askAll_133 : decode cX5_askAll 133 = .ok (.iload_n 3, 1) := by decide +kernel
theorem dX5_askAll_134 : decode cX5_askAll 134 = .ok (.iaload, 1) := by decide +kernel
theorem dX5_askAll_135 : decode cX5_askAll 135 = .ok (.invokevirtual 69, 3) := by decide +kernel
theorem dX5_askAll_138 : decode cX5_askAll 138 = .ok (.iadd, 1) := by decide +kernel
theorem dX5_askAll_139 : decode cX5_askAll 139 = .ok (.istore_n 2, 1) := by decide +kernel
theorem dX5_askAll_140 : decode cX5_askAll 140 = .ok (.iinc 3 1, 3) := by decide +kernel
theorem dX5_askAll_143 : decode cX5_askAll 143 = .ok (.goto (-109), 3) := by decide +kernel
theorem dX5_askAll_146 : decode cX5_askAll 146 = .ok (.iload_n 2, 1) := by decide +kernel
theorem dX5_askAll_147 : decode cX5_askAll 147 = .ok (.ireturn, 1) := by decide +kernel
theorem dX5_pin_0 : decode cX5_pin 0 = .ok (.aload_n 0, 1) := by decide +kernel
theorem dX5_pin_1 : decode cX5_pin 1 = .ok (.iload_n 1, 1) := by decide +kernel
theorem dX5_pin_2 : decode cX5_pin 2 = .ok (.invokevirtual 89, 3) := by decide +kernel
theorem dX5_pin_5 : decode cX5_pin 5 = .ok (.ifCond .ne 5, 3) := by decide +kernel
theorem dX5_pin_8 : decode cX5_pin 8 = .ok (.iconst (-1), 1) := by decide +kernel
theorem dX5_pin_9 : decode cX5_pin 9 = .ok (.ireturn, 1) := by decide +kernel
theorem dX5_pin_10 : decode cX5_pin 10 = .ok (.aload_n 0, 1) := by decide +kernel
theorem dX5_pin_11 : decode cX5_pin 11 = .ok (.getfield 10, 3) := by decide +kernel
theorem dX5_pin_14 : decode cX5_pin 14 = .ok (.getfield 92, 3) := by decide +kernel
theorem dX5_pin_17 : decode cX5_pin 17 = .ok (.iload_n 1, 1) := by decide +kernel
theorem dX5_pin_18 : decode cX5_pin 18 = .ok (.aaload, 1) := by decide +kernel
theorem dX5_pin_19 : decode cX5_pin 19 = .ok (.getfield 96, 3) := by decide +kernel
theorem dX5_pin_22 : decode cX5_pin 22 = .ok (.iload_n 2, 1) := by decide +kernel
theorem dX5_pin_23 : decode cX5_pin 23 = .ok (.if_icmp .ne 6, 3) := by decide +kernel
theorem dX5_pin_26 : decode cX5_pin 26 = .ok (.bipush (-4), 2) := by decide +kernel
theorem dX5_pin_28 : decode cX5_pin 28 = .ok (.ireturn, 1) := by decide +kernel
theorem dX5_pin_29 : decode cX5_pin 29 = .ok (.aload_n 0, 1) := by decide +kernel
theorem dX5_pin_30 : decode cX5_pin 30 = .ok (.getfield 22, 3) := by decide +kernel
theorem dX5_pin_33 : decode cX5_pin 33 = .ok (.aload_n 0, 1) := by decide +kernel
theorem dX5_pin_34 : decode cX5_pin 34 = .ok (.getfield 10, 3) := by decide +kernel
theorem dX5_pin_37 : decode cX5_pin 37 = .ok (.invokevirtual 54, 3) := by decide +kernel
theorem dX5_pin_40 : decode cX5_pin 40 = .ok (.aload_n 0, 1) := by decide +kernel
theorem dX5_pin_41 : decode cX5_pin 41 = .ok (.getfield 10, 3) := by decide +kernel
theorem dX5_pin_44 : decode cX5_pin 44 = .ok (.getfield 92, 3) := by decide +kernel
theorem dX5_pin_47 : decode cX5_pin 47 = .ok (.iload_n 1, 1) := by decide +kernel
theorem dX5_pin_48 : decode cX5_pin 48 = .ok (.aaload, 1) := by decide +kernel
theorem dX5_pin_49 : decode cX5_pin 49 = .ok (.iload_n 2, 1) := by decide +kernel
theorem dX5_pin_50 : decode cX5_pin 50 = .ok (.putfield 96, 3) := by decide +kernel
theorem dX5_pin_53 : decode cX5_pin 53 = .ok (.aload_n 0, 1) := by decide +kernel
theorem dX5_pin_54 : decode cX5_pin 54 = .ok (.getfield 10, 3) := by decide +kernel
theorem dX5_pin_57 : decode cX5_pin 57 = .ok (.invokevirtual 101, 3) := by decide +kernel
theorem dX5_pin_60 : decode cX5_pin 60 = .ok (.ireturn, 1) := by decide +kernel
theorem dX5_throwOut_0 : decode cX5_throwOut 0 = .ok (.aload_n 0, 1) := by decide +kernel
theorem dX5_throwOut_1 : decode cX5_throwOut 1 = .ok (.iload_n 1, 1) := by decide +kernel
theorem dX5_throwOut_2 : decode cX5_throwOut 2 = .ok (.invokevirtual 89, 3) := by decide +kernel
theorem dX5_throwOut_5 : decode cX5_throwOut 5 = .ok (.ifCond .ne 5, 3) := by decide +kernel
theorem dX5_throwOut_8 : decode cX5_throwOut 8 = .ok (.iconst (-1), 1) := by decide +kernel
theorem dX5_throwOut_9 : decode cX5_throwOut 9 = .ok (.ireturn, 1) := by decide +kernel
theorem dX5_throwOut_10 : decode cX5_throwOut 10 = .ok (.aload_n 0, 1) := by decide +kernel
theorem dX5_throwOut_11 : decode cX5_throwOut 11 = .ok (.getfield 22, 3) := by decide +kernel
theorem dX5_throwOut_14 : decode cX5_throwOut 14 = .ok (.aload_n 0, 1) := by decide +kernel
theorem dX5_throwOut_15 : decode cX5_throwOut 15 = .ok (.getfield 10, 3) := by decide +kernel
theorem dX5_throwOut_18 : decode cX5_throwOut 18 = .ok (.invokevirtual 54, 3) := by decide +kernel
theorem dX5_throwOut_21 : decode cX5_throwOut 21 = .ok (.aload_n 0, 1) := by decide +kernel
theorem dX5_throwOut_22 : decode cX5_throwOut 22 = .ok (.getfield 10, 3) := by decide +kernel
theorem dX5_throwOut_25 : decode cX5_throwOut 25 = .ok (.getfield 92, 3) := by decide +kernel
theorem dX5_throwOut_28 : decode cX5_throwOut 28 = .ok (.iload_n 1, 1) := by decide +kernel
theorem dX5_throwOut_29 : decode cX5_throwOut 29 = .ok (.aaload, 1) := by decide +kernel
theorem dX5_throwOut_30 : decode cX5_throwOut 30 = .ok (.iconst 0, 1) := by decide +kernel
theorem dX5_throwOut_31 : decode cX5_throwOut 31 = .ok (.putfield 104, 3) := by decide +kernel
theorem dX5_throwOut_34 : decode cX5_throwOut 34 = .ok (.aload_n 0, 1) := by decide +kernel
theorem dX5_throwOut_35 : decode cX5_throwOut 35 = .ok (.getfield 10, 3) := by decide +kernel
theorem dX5_throwOut_38 : decode cX5_throwOut 38 = .ok (.invokevirtual 107, 3) := by decide +kernel
theorem dX5_throwOut_41 : decode cX5_throwOut 41 = .ok (.ireturn, 1) := by decide +kernel
theorem dX5_make_0 : decode cX5_make 0 = .ok (.iload_n 1, 1) := by decide +kernel
theorem dX5_make_1 : decode cX5_make 1 = .ok (.invokestatic 62, 3) := by decide +kernel
theorem dX5_make_4 : decode cX5_make 4 = .ok (.ifCond .ne 5, 3) := by decide +kernel
theorem dX5_make_7 : decode cX5_make 7 = .ok (.iconst (-1), 1) := by decide +kernel
theorem dX5_make_8 : decode cX5_make 8 = .ok (.ireturn, 1) := by decide +kernel
theorem dX5_make_9 : decode cX5_make 9 = .ok (.iload_n 2, 1) := by decide +kernel
theorem dX5_make_10 : decode cX5_make 10 = .ok (.invokestatic 110, 3) := by decide +kernel
theorem dX5_make_13 : decode cX5_make 13 = .ok (.ifCond .eq 13, 3) := by decide +kernel
theorem dX5_make_16 : decode cX5_make 16 = .ok (.iload_n 1, 1) := by decide +kernel
theorem dX5_make_17 : decode cX5_make 17 = .ok (.iconst 3, 1) := by decide +kernel
theorem dX5_make_18 : decode cX5_make 18 = .ok (.irem, 1) := by decide +kernel
theorem dX5_make_19 : decode cX5_make 19 = .ok (.iload_n 3, 1) := by decide +kernel
theorem dX5_make_20 : decode cX5_make 20 = .ok (.invokestatic 65, 3) := by decide +kernel
theorem dX5_make_23 : decode cX5_make 23 = .ok (.ifCond .ne 6, 3) := by decide +kernel
theorem dX5_make_26 : decode cX5_make 26 = .ok (.bipush (-2), 2) := by decide +kernel
theorem dX5_make_28 : decode cX5_make 28 = .ok (.ireturn, 1) := by decide +kernel
theorem dX5_make_29 : decode cX5_make 29 = .ok (.iload 4, 2) := by decide +kernel
theorem dX5_make_31 : decode cX5_make 31 = .ok (.ifCond .lt 25, 3) := by decide +kernel
theorem dX5_make_34 : decode cX5_make 34 = .ok (.iload 4, 2) := by decide +kernel
theorem dX5_make_36 : decode cX5_make 36 = .ok (.sipush 9999, 3) := by decide +kernel
theorem dX5_make_39 : decode cX5_make 39 = .ok (.if_icmp .gt 17, 3) := by decide +kernel
theorem dX5_make_42 : decode cX5_make 42 = .ok (.iload 5, 2) := by decide +kernel
theorem dX5_make_44 : decode cX5_make 44 = .ok (.iload 4, 2) := by decide +kernel
theorem dX5_make_46 : decode cX5_make 46 = .ok (.if_icmp .lt 10, 3) := by decide +kernel
theorem dX5_make_49 : decode cX5_make 49 = .ok (.iload 5, 2) := by decide +kernel
theorem dX5_make_51 : decode cX5_make 51 = .ok (.ldc 113, 2) := by decide +kernel
theorem dX5_make_53 : decode cX5_make 53 = .ok (.if_icmp .le 6, 3) := by decide +kernel
theorem dX5_make_56 : decode cX5_make 56 = .ok (.bipush (-2), 2) := by decide +kernel
theorem dX5_make_58 : decode cX5_make 58 = .ok (.ireturn, 1) := by decide +kernel
theorem dX5_make_59 : decode cX5_make 59 = .ok (.aload_n 0, 1) := by decide +kernel
theorem dX5_make_60 : decode cX5_make 60 = .ok (.getfield 10, 3) := by decide +kernel
theorem dX5_make_63 : decode cX5_make 63 = .ok (.iload_n 1, 1) := by decide +kernel
theorem dX5_make_64 : decode cX5_make 64 = .ok (.invokevirtual 114, 3) := by decide +kernel
theorem dX5_make_67 : decode cX5_make 67 = .ok (.ifCond .ne 6, 3) := by decide +kernel
theorem dX5_make_70 : decode cX5_make 70 = .ok (.bipush (-4), 2) := by decide +kernel
theorem dX5_make_72 : decode cX5_make 72 = .ok (.ireturn, 1) := by decide +kernel
theorem dX5_make_73 : decode cX5_make 73 = .ok (.aload_n 0, 1) := by decide +kernel
theorem dX5_make_74 : decode cX5_make 74 = .ok (.getfield 22, 3) := by decide +kernel
theorem dX5_make_77 : decode cX5_make 77 = .ok (.aload_n 0, 1) := by decide +kernel
theorem dX5_make_78 : decode cX5_make 78 = .ok (.getfield 10, 3) := by decide +kernel
theorem dX5_make_81 : decode cX5_make 81 = .ok (.invokevirtual 54, 3) := by decide +kernel
theorem dX5_make_84 : decode cX5_make 84 = .ok (.aload_n 0, 1) := by decide +kernel
theorem dX5_make_85 : decode cX5_make 85 = .ok (.getfield 10, 3) := by decide +kernel
theorem dX5_make_88 : decode cX5_make 88 = .ok (.iload_n 1, 1) := by decide +kernel
theorem dX5_make_89 : decode cX5_make 89 = .ok (.invokevirtual 117, 3) := by decide +kernel
theorem dX5_make_92 : decode cX5_make 92 = .ok (.aload_n 0, 1) := by decide +kernel
theorem dX5_make_93 : decode cX5_make 93 = .ok (.getfield 10, 3) := by decide +kernel
theorem dX5_make_96 : decode cX5_make 96 = .ok (.iload_n 1, 1) := by decide +kernel
theorem dX5_make_97 : decode cX5_make 97 = .ok (.iload_n 2, 1) := by decide +kernel
theorem dX5_make_98 : decode cX5_make 98 = .ok (.iload_n 3, 1) := by decide +kernel
theorem dX5_make_99 : decode cX5_make 99 = .ok (.iload 4, 2) := by decide +kernel
theorem dX5_make_101 : decode cX5_make 101 = .ok (.iload 5, 2) := by decide +kernel
theorem dX5_make_103 : decode cX5_make 103 = .ok (.invokevirtual 121, 3) := by decide +kernel
theorem dX5_make_106 : decode cX5_make 106 = .ok (.aload_n 0, 1) := by decide +kernel
theorem dX5_make_107 : decode cX5_make 107 = .ok (.getfield 10, 3) := by decide +kernel
theorem dX5_make_110 : decode cX5_make 110 = .ok (.invokevirtual 107, 3) := by decide +kernel
theorem dX5_make_113 : decode cX5_make 113 = .ok (.ireturn, 1) := by decide +kernel
theorem dX5_set_0 : decode cX5_set 0 = .ok (.iload_n 1, 1) := by decide +kernel
theorem dX5_set_1 : decode cX5_set 1 = .ok (.ifCond .lt 8, 3) := by decide +kernel
theorem dX5_set_4 : decode cX5_set 4 = .ok (.iload_n 1, 1) := by decide +kernel
theorem dX5_set_5 : decode cX5_set 5 = .ok (.iconst 5, 1) := by decide +kernel
theorem dX5_set_6 : decode cX5_set 6 = .ok (.if_icmp .lt 5, 3) := by decide +kernel
theorem dX5_set_9 : decode cX5_set 9 = .ok (.iconst (-1), 1) := by decide +kernel
theorem dX5_set_10 : decode cX5_set 10 = .ok (.ireturn, 1) := by decide +kernel
theorem dX5_set_11 : decode cX5_set 11 = .ok (.iload_n 2, 1) := by decide +kernel
theorem dX5_set_12 : decode cX5_set 12 = .ok (.getstatic 125, 3) := by decide +kernel
theorem dX5_set_15 : decode cX5_set 15 = .ok (.iload_n 1, 1) := by decide +kernel
theorem dX5_set_16 : decode cX5_set 16 = .ok (.iaload, 1) := by decide +kernel
theorem dX5_set_17 : decode cX5_set 17 = .ok (.if_icmp .lt 12, 3) := by decide +kernel
theorem dX5_set_20 : decode cX5_set 20 = .ok (.iload_n 2, 1) := by decide +kernel
theorem dX5_set_21 : decode cX5_set 21 = .ok (.getstatic 128, 3) := by decide +kernel
theorem dX5_set_24 : decode cX5_set 24 = .ok (.iload_n 1, 1) := by decide +kernel
theorem dX5_set_25 : decode cX5_set 25 = .ok (.iaload, 1) := by decide +kernel
theorem dX5_set_26 : decode cX5_set 26 = .ok (.if_icmp .le 6, 3) := by decide +kernel
theorem dX5_set_29 : decode cX5_set 29 = .ok (.bipush (-2), 2) := by decide +kernel
theorem dX5_set_31 : decode cX5_set 31 = .ok (.ireturn, 1) := by decide +kernel
theorem dX5_set_32 : decode cX5_set 32 = .ok (.aload_n 0, 1) := by decide +kernel
theorem dX5_set_33 : decode cX5_set 33 = .ok (.getfield 10, 3) := by decide +kernel
theorem dX5_set_36 : decode cX5_set 36 = .ok (.getfield 131, 3) := by decide +kernel
theorem dX5_set_39 : decode cX5_set 39 = .ok (.iload_n 1, 1) := by decide +kernel
theorem dX5_set_40 : decode cX5_set 40 = .ok (.iaload, 1) := by decide +kernel
theorem dX5_set_41 : decode cX5_set 41 = .ok (.istore_n 3, 1) := by decide +kernel
theorem dX5_set_42 : decode cX5_set 42 = .ok (.iload_n 3, 1) := by decide +kernel
theorem dX5_set_43 : decode cX5_set 43 = .ok (.iload_n 2, 1) := by decide +kernel
theorem dX5_set_44 : decode cX5_set 44 = .ok (.if_icmp .ne 6, 3) := by decide +kernel
theorem dX5_set_47 : decode cX5_set 47 = .ok (.bipush (-4), 2) := by decide +kernel
theorem dX5_set_49 : decode cX5_set 49 = .ok (.ireturn, 1) := by decide +kernel
theorem dX5_set_50 : decode cX5_set 50 = .ok (.aload_n 0, 1) := by decide +kernel
theorem dX5_set_51 : decode cX5_set 51 = .ok (.getfield 22, 3) := by decide +kernel
theorem dX5_set_54 : decode cX5_set 54 = .ok (.aload_n 0, 1) := by decide +kernel
theorem dX5_set_55 : decode cX5_set 55 = .ok (.getfield 10, 3) := by decide +kernel
theorem dX5_set_58 : decode cX5_set 58 = .ok (.invokevirtual 54, 3) := by decide +kernel
theorem dX5_set_61 : decode cX5_set 61 = .ok (.aload_n 0, 1) := by decide +kernel
theorem dX5_set_62 : decode cX5_set 62 = .ok (.getfield 10, 3) := by decide +kernel
theorem dX5_set_65 : decode cX5_set 65 = .ok (.getfield 131, 3) := by decide +kernel
theorem dX5_set_68 : decode cX5_set 68 = .ok (.iload_n 1, 1) := by decide +kernel
theorem dX5_set_69 : decode cX5_set 69 = .ok (.iload_n 2, 1) := by decide +kernel
theorem dX5_set_70 : decode cX5_set 70 = .ok (.iastore, 1) := by decide +kernel
theorem dX5_set_71 : decode cX5_set 71 = .ok (.iload_n 1, 1) := by decide +kernel
theorem dX5_set_72 : decode cX5_set 72 = .ok (.iconst 3, 1) := by decide +kernel
theorem dX5_set_73 : decode cX5_set 73 = .ok (.if_icmp .ne 11, 3) := by decide +kernel
theorem dX5_set_76 : decode cX5_set 76 = .ok (.aload_n 0, 1) := by decide +kernel
theorem dX5_set_77 : decode cX5_set 77 = .ok (.getfield 10, 3) := by decide +kernel
theorem dX5_set_80 : decode cX5_set 80 = .ok (.iload_n 2, 1) := by decide +kernel
theorem dX5_set_81 : decode cX5_set 81 = .ok (.invokevirtual 134, 3) := by decide +kernel
theorem dX5_set_84 : decode cX5_set 84 = .ok (.iload_n 3, 1) := by decide +kernel
theorem dX5_set_85 : decode cX5_set 85 = .ok (.ireturn, 1) := by decide +kernel
theorem dX5_undo_0 : decode cX5_undo 0 = .ok (.aload_n 0, 1) := by decide +kernel
theorem dX5_undo_1 : decode cX5_undo 1 = .ok (.getfield 22, 3) := by decide +kernel
theorem dX5_undo_4 : decode cX5_undo 4 = .ok (.getfield 144, 3) := by decide +kernel
theorem dX5_undo_7 : decode cX5_undo 7 = .ok (.ifCond .ne 6, 3) := by decide +kernel
theorem dX5_undo_10 : decode cX5_undo 10 = .ok (.bipush (-4), 2) := by decide +kernel
theorem dX5_undo_12 : decode cX5_undo 12 = .ok (.ireturn, 1) := by decide +kernel
theorem dX5_undo_13 : decode cX5_undo 13 = .ok (.aload_n 0, 1) := by decide +kernel
theorem dX5_undo_14 : decode cX5_undo 14 = .ok (.getfield 22, 3) := by decide +kernel
theorem dX5_undo_17 : decode cX5_undo 17 = .ok (.aload_n 0, 1) := by decide +kernel
theorem dX5_undo_18 : decode cX5_undo 18 = .ok (.getfield 10, 3) := by decide +kernel
theorem dX5_undo_21 : decode cX5_undo 21 = .ok (.invokevirtual 147, 3) := by decide +kernel
theorem dX5_undo_24 : decode cX5_undo 24 = .ok (.aload_n 0, 1) := by decide +kernel
theorem dX5_undo_25 : decode cX5_undo 25 = .ok (.getfield 22, 3) := by decide +kernel
theorem dX5_undo_28 : decode cX5_undo 28 = .ok (.getfield 144, 3) := by decide +kernel
theorem dX5_undo_31 : decode cX5_undo 31 = .ok (.ireturn, 1) := by decide +kernel
theorem dX5_restore_0 : decode cX5_restore 0 = .ok (.aload_n 0, 1) := by decide +kernel
theorem dX5_restore_1 : decode cX5_restore 1 = .ok (.getfield 33, 3) := by decide +kernel
theorem dX5_restore_4 : decode cX5_restore 4 = .ok (.ifCond .ne 6, 3) := by decide +kernel
theorem dX5_restore_7 : decode cX5_restore 7 = .ok (.bipush (-4), 2) := by decide +kernel
theorem dX5_restore_9 : decode cX5_restore 9 = .ok (.ireturn, 1) := by decide +kernel
theorem dX5_restore_10 : decode cX5_restore 10 = .ok (.aload_n 0, 1) := by decide +kernel
theorem dX5_restore_11 : decode cX5_restore 11 = .ok (.getfield 22, 3) := by decide +kernel
theorem dX5_restore_14 : decode cX5_restore 14 = .ok (.aload_n 0, 1) := by decide +kernel
theorem dX5_restore_15 : decode cX5_restore 15 = .ok (.getfield 10, 3) := by decide +kernel
theorem dX5_restore_18 : decode cX5_restore 18 = .ok (.invokevirtual 54, 3) := by decide +kernel
theorem dX5_restore_21 : decode cX5_restore 21 = .ok (.aload_n 0, 1) := by decide +kernel
theorem dX5_restore_22 : decode cX5_restore 22 = .ok (.getfield 10, 3) := by decide +kernel
theorem dX5_restore_25 : decode cX5_restore 25 = .ok (.aload_n 0, 1) := by decide +kernel
theorem dX5_restore_26 : decode cX5_restore 26 = .ok (.getfield 16, 3) := by decide +kernel
theorem dX5_restore_29 : decode cX5_restore 29 = .ok (.invokevirtual 150, 3) := by decide +kernel
theorem dX5_restore_32 : decode cX5_restore 32 = .ok (.aload_n 0, 1) := by decide +kernel
theorem dX5_restore_33 : decode cX5_restore 33 = .ok (.getfield 10, 3) := by decide +kernel
theorem dX5_restore_36 : decode cX5_restore 36 = .ok (.invokevirtual 107, 3) := by decide +kernel
theorem dX5_restore_39 : decode cX5_restore 39 = .ok (.ireturn, 1) := by decide +kernel
theorem dX5_cost_0 : decode cX5_cost 0 = .ok (.iload_n 1, 1) := by decide +kernel
theorem dX5_cost_1 : decode cX5_cost 1 = .ok (.invokestatic 62, 3) := by decide +kernel
theorem dX5_cost_4 : decode cX5_cost 4 = .ok (.ifCond .ne 5, 3) := by decide +kernel
theorem dX5_cost_7 : decode cX5_cost 7 = .ok (.iconst (-1), 1) := by decide +kernel
theorem dX5_cost_8 : decode cX5_cost 8 = .ok (.ireturn, 1) := by decide +kernel
theorem dX5_cost_9 : decode cX5_cost 9 = .ok (.iload_n 2, 1) := by decide +kernel
theorem dX5_cost_10 : decode cX5_cost 10 = .ok (.invokestatic 110, 3) := by decide +kernel
theorem dX5_cost_13 : decode cX5_cost 13 = .ok (.ifCond .eq 13, 3) := by decide +kernel
theorem dX5_cost_16 : decode cX5_cost 16 = .ok (.iload_n 1, 1) := by decide +kernel
theorem dX5_cost_17 : decode cX5_cost 17 = .ok (.iconst 3, 1) := by decide +kernel
theorem dX5_cost_18 : decode cX5_cost 18 = .ok (.irem, 1) := by decide +kernel
theorem dX5_cost_19 : decode cX5_cost 19 = .ok (.iload_n 3, 1) := by decide +kernel
theorem dX5_cost_20 : decode cX5_cost 20 = .ok (.invokestatic 65, 3) := by decide +kernel
theorem dX5_cost_23 : decode cX5_cost 23 = .ok (.ifCond .ne 6, 3) := by decide +kernel
theorem dX5_cost_26 : decode cX5_cost 26 = .ok (.bipush (-2), 2) := by decide +kernel
theorem dX5_cost_28 : decode cX5_cost 28 = .ok (.ireturn, 1) := by decide +kernel
theorem dX5_cost_29 : decode cX5_cost 29 = .ok (.aload_n 0, 1) := by decide +kernel
theorem dX5_cost_30 : decode cX5_cost 30 = .ok (.getfield 10, 3) := by decide +kernel
theorem dX5_cost_33 : decode cX5_cost 33 = .ok (.iload_n 1, 1) := by decide +kernel
theorem dX5_cost_34 : decode cX5_cost 34 = .ok (.iload_n 2, 1) := by decide +kernel
theorem dX5_cost_35 : decode cX5_cost 35 = .ok (.iload_n 3, 1) := by decide +kernel
theorem dX5_cost_36 : decode cX5_cost 36 = .ok (.invokevirtual 153, 3) := by decide +kernel
theorem dX5_cost_39 : decode cX5_cost 39 = .ok (.ireturn, 1) := by decide +kernel
theorem dX5_cheapest_0 : decode cX5_cheapest 0 = .ok (.iload_n 1, 1) := by decide +kernel
theorem dX5_cheapest_1 : decode cX5_cheapest 1 = .ok (.invokestatic 62, 3) := by decide +kernel
theorem dX5_cheapest_4 : decode cX5_cheapest 4 = .ok (.ifCond .ne 5, 3) := by decide +kernel
theorem dX5_cheapest_7 : decode cX5_cheapest 7 = .ok (.iconst (-1), 1) := by decide +kernel
theorem dX5_cheapest_8 : decode cX5_cheapest 8 = .ok (.ireturn, 1) := by decide +kernel
theorem dX5_cheapest_9 : decode cX5_cheapest 9 = .ok (.iload_n 1, 1) := by decide +kernel
theorem dX5_cheapest_10 : decode cX5_cheapest 10 = .ok (.iconst 3, 1) := by decide +kernel
theorem dX5_cheapest_11 : decode cX5_cheapest 11 = .ok (.irem, 1) := by decide +kernel
theorem dX5_cheapest_12 : decode cX5_cheapest 12 = .ok (.iload_n 2, 1) := by decide +kernel
theorem dX5_cheapest_13 : decode cX5_cheapest 13 = .ok (.invokestatic 65, 3) := by decide +kernel
theorem dX5_cheapest_16 : decode cX5_cheapest 16 = .ok (.ifCond .ne 6, 3) := by decide +kernel
theorem dX5_cheapest_19 : decode cX5_cheapest 19 = .ok (.bipush (-2), 2) := by decide +kernel
theorem dX5_cheapest_21 : decode cX5_cheapest 21 = .ok (.ireturn, 1) := by decide +kernel
theorem dX5_cheapest_22 : decode cX5_cheapest 22 = .ok (.aload_n 0, 1) := by decide +kernel
theorem dX5_cheapest_23 : decode cX5_cheapest 23 = .ok (.getfield 10, 3) := by decide +kernel
theorem dX5_cheapest_26 : decode cX5_cheapest 26 = .ok (.iload_n 1, 1) := by decide +kernel
theorem dX5_cheapest_27 : decode cX5_cheapest 27 = .ok (.iload_n 2, 1) := by decide +kernel
theorem dX5_cheapest_28 : decode cX5_cheapest 28 = .ok (.invokevirtual 157, 3) := by decide +kernel
theorem dX5_cheapest_31 : decode cX5_cheapest 31 = .ok (.ireturn, 1) := by decide +kernel
theorem dX5_plan_0 : decode cX5_plan 0 = .ok (.aload_n 0, 1) := by decide +kernel
theorem dX5_plan_1 : decode cX5_plan 1 = .ok (.iload_n 1, 1) := by decide +kernel
theorem dX5_plan_2 : decode cX5_plan 2 = .ok (.invokevirtual 89, 3) := by decide +kernel
theorem dX5_plan_5 : decode cX5_plan 5 = .ok (.ifCond .ne 5, 3) := by decide +kernel
theorem dX5_plan_8 : decode cX5_plan 8 = .ok (.iconst (-1), 1) := by decide +kernel
theorem dX5_plan_9 : decode cX5_plan 9 = .ok (.ireturn, 1) := by decide +kernel
theorem dX5_plan_10 : decode cX5_plan 10 = .ok (.aload_n 0, 1) := by decide +kernel
theorem dX5_plan_11 : decode cX5_plan 11 = .ok (.getfield 10, 3) := by decide +kernel
theorem dX5_plan_14 : decode cX5_plan 14 = .ok (.getfield 92, 3) := by decide +kernel
theorem dX5_plan_17 : decode cX5_plan 17 = .ok (.iload_n 1, 1) := by decide +kernel
theorem dX5_plan_18 : decode cX5_plan 18 = .ok (.aaload, 1) := by decide +kernel
theorem dX5_plan_19 : decode cX5_plan 19 = .ok (.astore_n 3, 1) := by decide +kernel
theorem dX5_plan_20 : decode cX5_plan 20 = .ok (.iload_n 2, 1) := by decide +kernel
theorem dX5_plan_21 : decode cX5_plan 21 = .ok (.tableswitch 150 0 10 #[59, 64, 69, 74, 79, 84, 97, 114, 127, 132, 145], 59) := by decide +kernel
theorem dX5_plan_80 : decode cX5_plan 80 = .ok (.aload_n 3, 1) := by decide +kernel
theorem dX5_plan_81 : decode cX5_plan 81 = .ok (.getfield 160, 3) := by decide +kernel
theorem dX5_plan_84 : decode cX5_plan 84 = .ok (.ireturn, 1) := by decide +kernel
theorem dX5_plan_85 : decode cX5_plan 85 = .ok (.aload_n 3, 1) := by decide +kernel
theorem dX5_plan_86 : decode cX5_plan 86 = .ok (.getfield 163, 3) := by decide +kernel
theorem dX5_plan_89 : decode cX5_plan 89 = .ok (.ireturn, 1) := by decide +kernel
theorem dX5_plan_90 : decode cX5_plan 90 = .ok (.aload_n 3, 1) := by decide +kernel
theorem dX5_plan_91 : decode cX5_plan 91 = .ok (.getfield 166, 3) := by decide +kernel
theorem dX5_plan_94 : decode cX5_plan 94 = .ok (.ireturn, 1) := by decide +kernel
theorem dX5_plan_95 : decode cX5_plan 95 = .ok (.aload_n 3, 1) := by decide +kernel
theorem dX5_plan_96 : decode cX5_plan 96 = .ok (.getfield 169, 3) := by decide +kernel
theorem dX5_plan_99 : decode cX5_plan 99 = .ok (.ireturn, 1) := by decide +kernel
theorem dX5_plan_100 : decode cX5_plan 100 = .ok (.aload_n 3, 1) := by decide +kernel
theorem dX5_plan_101 : decode cX5_plan 101 = .ok (.getfield 172, 3) := by decide +kernel
theorem dX5_plan_104 : decode cX5_plan 104 = .ok (.ireturn, 1) := by decide +kernel
theorem dX5_plan_105 : decode cX5_plan 105 = .ok (.aload_n 0, 1) := by decide +kernel
theorem dX5_plan_106 : decode cX5_plan 106 = .ok (.getfield 10, 3) := by decide +kernel
theorem dX5_plan_109 : decode cX5_plan 109 = .ok (.getfield 175, 3) := by decide +kernel
theorem dX5_plan_112 : decode cX5_plan 112 = .ok (.aload_n 3, 1) := by decide +kernel
theorem dX5_plan_113 : decode cX5_plan 113 = .ok (.getfield 178, 3) := by decide +kernel
theorem dX5_plan_116 : decode cX5_plan 116 = .ok (.isub, 1) := by decide +kernel
theorem dX5_plan_117 : decode cX5_plan 117 = .ok (.ireturn, 1) := by decide +kernel
theorem dX5_plan_118 : decode cX5_plan 118 = .ok (.aload_n 0, 1) := by decide +kernel
theorem dX5_plan_119 : decode cX5_plan 119 = .ok (.getfield 10, 3) := by decide +kernel
theorem dX5_plan_122 : decode cX5_plan 122 = .ok (.iload_n 1, 1) := by decide +kernel
theorem dX5_plan_123 : decode cX5_plan 123 = .ok (.invokevirtual 181, 3) := by decide +kernel
theorem dX5_plan_126 : decode cX5_plan 126 = .ok (.ifCond .eq 7, 3) := by decide +kernel
theorem dX5_plan_129 : decode cX5_plan 129 = .ok (.iconst 1, 1) := by decide +kernel
theorem dX5_plan_130 : decode cX5_plan 130 = .ok (.goto 4, 3) := by decide +kernel
theorem dX5_plan_133 : decode cX5_plan 133 = .ok (.iconst 0, 1) := by decide +kernel
theorem dX5_plan_134 : decode cX5_plan 134 = .ok (.ireturn, 1) := by decide +kernel
theorem dX5_plan_135 : decode cX5_plan 135 = .ok (.aload_n 3, 1) := by decide +kernel
theorem dX5_plan_136 : decode cX5_plan 136 = .ok (.getfield 96, 3) := by decide +kernel
theorem dX5_plan_139 : decode cX5_plan 139 = .ok (.ifCond .eq 7, 3) := by decide +kernel
theorem dX5_plan_142 : decode cX5_plan 142 = .ok (.iconst 1, 1) := by decide +kernel
theorem dX5_plan_143 : decode cX5_plan 143 = .ok (.goto 4, 3) := by decide +kernel
theorem dX5_plan_146 : decode cX5_plan 146 = .ok (.iconst 0, 1) := by decide +kernel
theorem dX5_plan_147 : decode cX5_plan 147 = .ok (.ireturn, 1) := by decide +kernel
theorem dX5_plan_148 : decode cX5_plan 148 = .ok (.aload_n 3, 1) := by decide +kernel
theorem dX5_plan_149 : decode cX5_plan 149 = .ok (.getfield 184, 3) := by decide +kernel
theorem dX5_plan_152 : decode cX5_plan 152 = .ok (.ireturn, 1) := by decide +kernel
theorem dX5_plan_153 : decode cX5_plan 153 = .ok (.aload_n 0, 1) := by decide +kernel
theorem dX5_plan_154 : decode cX5_plan 154 = .ok (.getfield 10, 3) := by decide +kernel
theorem dX5_plan_157 : decode cX5_plan 157 = .ok (.getfield 175, 3) := by decide +kernel
theorem dX5_plan_160 : decode cX5_plan 160 = .ok (.aload_n 3, 1) := by decide +kernel
theorem dX5_plan_161 : decode cX5_plan 161 = .ok (.getfield 187, 3) := by decide +kernel
theorem dX5_plan_164 : decode cX5_plan 164 = .ok (.isub, 1) := by decide +kernel
theorem dX5_plan_165 : decode cX5_plan 165 = .ok (.ireturn, 1) := by decide +kernel
theorem dX5_plan_166 : decode cX5_plan 166 = .ok (.aload_n 3, 1) := by decide +kernel
theorem dX5_plan_167 : decode cX5_plan 167 = .ok (.getfield 190, 3) := by decide +kernel
theorem dX5_plan_170 : decode cX5_plan 170 = .ok (.ireturn, 1) := by decide +kernel
theorem dX5_plan_171 : decode cX5_plan 171 = .ok (.bipush (-2), 2) := by decide +kernel
theorem dX5_plan_173 : decode cX5_plan 173 = .ok (.ireturn, 1) := by decide +kernel
theorem dX5_reason_0 : decode cX5_reason 0 = .ok (.iload_n 1, 1) := by decide +kernel
theorem dX5_reason_1 : decode cX5_reason 1 = .ok (.invokestatic 62, 3) := by decide +kernel
theorem dX5_reason_4 : decode cX5_reason 4 = .ok (.ifCond .ne 5, 3) := by decide +kernel
theorem dX5_reason_7 : decode cX5_reason 7 = .ok (.iconst (-1), 1) := by decide +kernel
theorem dX5_reason_8 : decode cX5_reason 8 = .ok (.ireturn, 1) := by decide +kernel
theorem dX5_reason_9 : decode cX5_reason 9 = .ok (.iload_n 1, 1) := by decide +kernel
theorem dX5_reason_10 : decode cX5_reason 10 = .ok (.iconst 3, 1) := by decide +kernel
theorem dX5_reason_11 : decode cX5_reason 11 = .ok (.irem, 1) := by decide +kernel
theorem dX5_reason_12 : decode cX5_reason 12 = .ok (.iload_n 2, 1) := by decide +kernel
theorem dX5_reason_13 : decode cX5_reason 13 = .ok (.invokestatic 65, 3) := by decide +kernel
theorem dX5_reason_16 : decode cX5_reason 16 = .ok (.ifCond .ne 6, 3) := by decide +kernel
theorem dX5_reason_19 : decode cX5_reason 19 = .ok (.bipush (-2), 2) := by decide +kernel
theorem dX5_reason_21 : decode cX5_reason 21 = .ok (.ireturn, 1) := by decide +kernel
theorem dX5_reason_22 : decode cX5_reason 22 = .ok (.aload_n 0, 1) := by decide +kernel
theorem dX5_reason_23 : decode cX5_reason 23 = .ok (.getfield 10, 3) := by decide +kernel
theorem dX5_reason_26 : decode cX5_reason 26 = .ok (.iload_n 1, 1) := by decide +kernel
theorem dX5_reason_27 : decode cX5_reason 27 = .ok (.iload_n 2, 1) := by decide +kernel
theorem dX5_reason_28 : decode cX5_reason 28 = .ok (.invokevirtual 191, 3) := by decide +kernel
theorem dX5_reason_31 : decode cX5_reason 31 = .ok (.ireturn, 1) := by decide +kernel
theorem dX5_ifAsked_0 : decode cX5_ifAsked 0 = .ok (.iload_n 1, 1) := by decide +kernel
theorem dX5_ifAsked_1 : decode cX5_ifAsked 1 = .ok (.invokestatic 62, 3) := by decide +kernel
theorem dX5_ifAsked_4 : decode cX5_ifAsked 4 = .ok (.ifCond .ne 5, 3) := by decide +kernel
theorem dX5_ifAsked_7 : decode cX5_ifAsked 7 = .ok (.iconst (-1), 1) := by decide +kernel
theorem dX5_ifAsked_8 : decode cX5_ifAsked 8 = .ok (.ireturn, 1) := by decide +kernel
theorem dX5_ifAsked_9 : decode cX5_ifAsked 9 = .ok (.iload_n 1, 1) := by decide +kernel
theorem dX5_ifAsked_10 : decode cX5_ifAsked 10 = .ok (.iconst 3, 1) := by decide +kernel
theorem dX5_ifAsked_11 : decode cX5_ifAsked 11 = .ok (.irem, 1) := by decide +kernel
theorem dX5_ifAsked_12 : decode cX5_ifAsked 12 = .ok (.iload_n 2, 1) := by decide +kernel
theorem dX5_ifAsked_13 : decode cX5_ifAsked 13 = .ok (.invokestatic 65, 3) := by decide +kernel
theorem dX5_ifAsked_16 : decode cX5_ifAsked 16 = .ok (.ifCond .eq 12, 3) := by decide +kernel
theorem dX5_ifAsked_19 : decode cX5_ifAsked 19 = .ok (.iload_n 3, 1) := by decide +kernel
theorem dX5_ifAsked_20 : decode cX5_ifAsked 20 = .ok (.ifCond .lt 8, 3) := by decide +kernel
theorem dX5_ifAsked_23 : decode cX5_ifAsked 23 = .ok (.iload_n 3, 1) := by decide +kernel
theorem dX5_ifAsked_24 : decode cX5_ifAsked 24 = .ok (.iconst 4, 1) := by decide +kernel
theorem dX5_ifAsked_25 : decode cX5_ifAsked 25 = .ok (.if_icmp .le 6, 3) := by decide +kernel
theorem dX5_ifAsked_28 : decode cX5_ifAsked 28 = .ok (.bipush (-2), 2) := by decide +kernel
theorem dX5_ifAsked_30 : decode cX5_ifAsked 30 = .ok (.ireturn, 1) := by decide +kernel
theorem dX5_ifAsked_31 : decode cX5_ifAsked 31 = .ok (.aload_n 0, 1) := by decide +kernel
theorem dX5_ifAsked_32 : decode cX5_ifAsked 32 = .ok (.getfield 10, 3) := by decide +kernel
theorem dX5_ifAsked_35 : decode cX5_ifAsked 35 = .ok (.iload_n 1, 1) := by decide +kernel
theorem dX5_ifAsked_36 : decode cX5_ifAsked 36 = .ok (.iload_n 2, 1) := by decide +kernel
theorem dX5_ifAsked_37 : decode cX5_ifAsked 37 = .ok (.invokevirtual 191, 3) := by decide +kernel
theorem dX5_ifAsked_40 : decode cX5_ifAsked 40 = .ok (.ifCond .ne 7, 3) := by decide +kernel
theorem dX5_ifAsked_43 : decode cX5_ifAsked 43 = .ok (.iconst 1, 1) := by decide +kernel
theorem dX5_ifAsked_44 : decode cX5_ifAsked 44 = .ok (.goto 4, 3) := by decide +kernel
theorem dX5_ifAsked_47 : decode cX5_ifAsked 47 = .ok (.iconst 0, 1) := by decide +kernel
theorem dX5_ifAsked_48 : decode cX5_ifAsked 48 = .ok (.istore 4, 2) := by decide +kernel
theorem dX5_ifAsked_50 : decode cX5_ifAsked 50 = .ok (.aload_n 0, 1) := by decide +kernel
theorem dX5_ifAsked_51 : decode cX5_ifAsked 51 = .ok (.getfield 10, 3) := by decide +kernel
theorem dX5_ifAsked_54 : decode cX5_ifAsked 54 = .ok (.iload_n 1, 1) := by decide +kernel
theorem dX5_ifAsked_55 : decode cX5_ifAsked 55 = .ok (.iload_n 2, 1) := by decide +kernel
theorem dX5_ifAsked_56 : decode cX5_ifAsked 56 = .ok (.invokevirtual 157, 3) := by decide +kernel
theorem dX5_ifAsked_59 : decode cX5_ifAsked 59 = .ok (.istore 5, 2) := by decide +kernel
theorem dX5_ifAsked_61 : decode cX5_ifAsked 61 = .ok (.iload 4, 2) := by decide +kernel
theorem dX5_ifAsked_63 : decode cX5_ifAsked 63 = .ok (.ifCond .eq 18, 3) := by decide +kernel
theorem dX5_ifAsked_66 : decode cX5_ifAsked 66 = .ok (.aload_n 0, 1) := by decide +kernel
theorem dX5_ifAsked_67 : decode cX5_ifAsked 67 = .ok (.getfield 10, 3) := by decide +kernel
theorem dX5_ifAsked_70 : decode cX5_ifAsked 70 = .ok (.getfield 92, 3) := by decide +kernel
theorem dX5_ifAsked_73 : decode cX5_ifAsked 73 = .ok (.iload_n 1, 1) := by decide +kernel
theorem dX5_ifAsked_74 : decode cX5_ifAsked 74 = .ok (.aaload, 1) := by decide +kernel
theorem dX5_ifAsked_75 : decode cX5_ifAsked 75 = .ok (.getfield 160, 3) := by decide +kernel
theorem dX5_ifAsked_78 : decode cX5_ifAsked 78 = .ok (.goto 5, 3) := by decide +kernel
theorem dX5_ifAsked_81 : decode cX5_ifAsked 81 = .ok (.iload 5, 2) := by decide +kernel
theorem dX5_ifAsked_83 : decode cX5_ifAsked 83 = .ok (.istore 6, 2) := by decide +kernel
theorem dX5_ifAsked_85 : decode cX5_ifAsked 85 = .ok (.aload_n 0, 1) := by decide +kernel
theorem dX5_ifAsked_86 : decode cX5_ifAsked 86 = .ok (.getfield 10, 3) := by decide +kernel
theorem dX5_ifAsked_89 : decode cX5_ifAsked 89 = .ok (.iload_n 1, 1) := by decide +kernel
theorem dX5_ifAsked_90 : decode cX5_ifAsked 90 = .ok (.iload 6, 2) := by decide +kernel
theorem dX5_ifAsked_92 : decode cX5_ifAsked 92 = .ok (.iload_n 2, 1) := by decide +kernel
theorem dX5_ifAsked_93 : decode cX5_ifAsked 93 = .ok (.invokevirtual 153, 3) := by decide +kernel
theorem dX5_ifAsked_96 : decode cX5_ifAsked 96 = .ok (.istore 7, 2) := by decide +kernel
theorem dX5_ifAsked_98 : decode cX5_ifAsked 98 = .ok (.iload 4, 2) := by decide +kernel
theorem dX5_ifAsked_100 : decode cX5_ifAsked 100 = .ok (.ifCond .eq 7, 3) := by decide +kernel
theorem dX5_ifAsked_103 : decode cX5_ifAsked 103 = .ok (.iconst 0, 1) := by decide +kernel
theorem dX5_ifAsked_104 : decode cX5_ifAsked 104 = .ok (.goto 12, 3) := by decide +kernel
theorem dX5_ifAsked_107 : decode cX5_ifAsked 107 = .ok (.aload_n 0, 1) := by decide +kernel
theorem dX5_ifAsked_108 : decode cX5_ifAsked 108 = .ok (.getfield 10, 3) := by decide +kernel
theorem dX5_ifAsked_111 : decode cX5_ifAsked 111 = .ok (.getfield 131, 3) := by decide +kernel
theorem dX5_ifAsked_114 : decode cX5_ifAsked 114 = .ok (.iconst 0, 1) := by decide +kernel
theorem dX5_ifAsked_115 : decode cX5_ifAsked 115 = .ok (.iaload, 1) := by decide +kernel
theorem dX5_ifAsked_116 : decode cX5_ifAsked 116 = .ok (.istore 8, 2) := by decide +kernel
theorem dX5_ifAsked_118 : decode cX5_ifAsked 118 = .ok (.iload_n 3, 1) := by decide +kernel
theorem dX5_ifAsked_119 : decode cX5_ifAsked 119 = .ok (.tableswitch 81 0 3 #[29, 35, 38, 62], 29) := by decide +kernel
theorem dX5_ifAsked_148 : decode cX5_ifAsked 148 = .ok (.iload 7, 2) := by decide +kernel
theorem dX5_ifAsked_150 : decode cX5_ifAsked 150 = .ok (.iload 8, 2) := by decide +kernel
theorem dX5_ifAsked_152 : decode cX5_ifAsked 152 = .ok (.iadd, 1) := by decide +kernel
theorem dX5_ifAsked_153 : decode cX5_ifAsked 153 = .ok (.ireturn, 1) := by decide +kernel
theorem dX5_ifAsked_154 : decode cX5_ifAsked 154 = .ok (.iload 6, 2) := by decide +kernel
theorem dX5_ifAsked_156 : decode cX5_ifAsked 156 = .ok (.ireturn, 1) := by decide +kernel
theorem dX5_ifAsked_157 : decode cX5_ifAsked 157 = .ok (.iload 4, 2) := by decide +kernel
theorem dX5_ifAsked_159 : decode cX5_ifAsked 159 = .ok (.ifCond .eq 20, 3) := by decide +kernel
theorem dX5_ifAsked_162 : decode cX5_ifAsked 162 = .ok (.aload_n 0, 1) := by decide +kernel
theorem dX5_ifAsked_163 : decode cX5_ifAsked 163 = .ok (.getfield 10, 3) := by decide +kernel
theorem dX5_ifAsked_166 : decode cX5_ifAsked 166 = .ok (.iload_n 1, 1) := by decide +kernel
theorem dX5_ifAsked_167 : decode cX5_ifAsked 167 = .ok (.iload 7, 2) := by decide +kernel
theorem dX5_ifAsked_169 : decode cX5_ifAsked 169 = .ok (.invokevirtual 194, 3) := by decide +kernel
theorem dX5_ifAsked_172 : decode cX5_ifAsked 172 = .ok (.ifCond .eq 7, 3) := by decide +kernel
theorem dX5_ifAsked_175 : decode cX5_ifAsked 175 = .ok (.iconst 1, 1) := by decide +kernel
theorem dX5_ifAsked_176 : decode cX5_ifAsked 176 = .ok (.goto 4, 3) := by decide +kernel
theorem dX5_ifAsked_179 : decode cX5_ifAsked 179 = .ok (.iconst 0, 1) := by decide +kernel
theorem dX5_ifAsked_180 : decode cX5_ifAsked 180 = .ok (.ireturn, 1) := by decide +kernel
theorem dX5_ifAsked_181 : decode cX5_ifAsked 181 = .ok (.iload 4, 2) := by decide +kernel
theorem dX5_ifAsked_183 : decode cX5_ifAsked 183 = .ok (.ifCond .eq 8, 3) := by decide +kernel
theorem dX5_ifAsked_186 : decode cX5_ifAsked 186 = .ok (.bipush (-4), 2) := by decide +kernel
theorem dX5_ifAsked_188 : decode cX5_ifAsked 188 = .ok (.goto 11, 3) := by decide +kernel
theorem dX5_ifAsked_191 : decode cX5_ifAsked 191 = .ok (.aload_n 0, 1) := by decide +kernel
theorem dX5_ifAsked_192 : decode cX5_ifAsked 192 = .ok (.getfield 10, 3) := by decide +kernel
theorem dX5_ifAsked_195 : decode cX5_ifAsked 195 = .ok (.iload_n 1, 1) := by decide +kernel
theorem dX5_ifAsked_196 : decode cX5_ifAsked 196 = .ok (.invokevirtual 197, 3) := by decide +kernel
theorem dX5_ifAsked_199 : decode cX5_ifAsked 199 = .ok (.ireturn, 1) := by decide +kernel
theorem dX5_ifAsked_200 : decode cX5_ifAsked 200 = .ok (.iload 7, 2) := by decide +kernel
theorem dX5_ifAsked_202 : decode cX5_ifAsked 202 = .ok (.iload 8, 2) := by decide +kernel
theorem dX5_ifAsked_204 : decode cX5_ifAsked 204 = .ok (.iadd, 1) := by decide +kernel
theorem dX5_ifAsked_205 : decode cX5_ifAsked 205 = .ok (.aload_n 0, 1) := by decide +kernel
theorem dX5_ifAsked_206 : decode cX5_ifAsked 206 = .ok (.getfield 10, 3) := by decide +kernel
theorem dX5_ifAsked_209 : decode cX5_ifAsked 209 = .ok (.iload_n 1, 1) := by decide +kernel
theorem dX5_ifAsked_210 : decode cX5_ifAsked 210 = .ok (.iload 5, 2) := by decide +kernel
theorem dX5_ifAsked_212 : decode cX5_ifAsked 212 = .ok (.iload_n 2, 1) := by decide +kernel
theorem dX5_ifAsked_213 : decode cX5_ifAsked 213 = .ok (.invokevirtual 153, 3) := by decide +kernel
theorem dX5_ifAsked_216 : decode cX5_ifAsked 216 = .ok (.isub, 1) := by decide +kernel
theorem dX5_ifAsked_217 : decode cX5_ifAsked 217 = .ok (.ireturn, 1) := by decide +kernel
theorem dX5_reach_0 : decode cX5_reach 0 = .ok (.iload_n 1, 1) := by decide +kernel
theorem dX5_reach_1 : decode cX5_reach 1 = .ok (.invokestatic 62, 3) := by decide +kernel
theorem dX5_reach_4 : decode cX5_reach 4 = .ok (.ifCond .ne 5, 3) := by decide +kernel
theorem dX5_reach_7 : decode cX5_reach 7 = .ok (.iconst (-1), 1) := by decide +kernel
theorem dX5_reach_8 : decode cX5_reach 8 = .ok (.ireturn, 1) := by decide +kernel
theorem dX5_reach_9 : decode cX5_reach 9 = .ok (.iload_n 2, 1) := by decide +kernel
theorem dX5_reach_10 : decode cX5_reach 10 = .ok (.invokestatic 110, 3) := by decide +kernel
theorem dX5_reach_13 : decode cX5_reach 13 = .ok (.ifCond .ne 6, 3) := by decide +kernel
theorem dX5_reach_16 : decode cX5_reach 16 = .ok (.bipush (-2), 2) := by decide +kernel
theorem dX5_reach_18 : decode cX5_reach 18 = .ok (.ireturn, 1) := by decide +kernel
theorem dX5_reach_19 : decode cX5_reach 19 = .ok (.iconst 0, 1) := by decide +kernel
theorem dX5_reach_20 : decode cX5_reach 20 = .ok (.istore_n 3, 1) := by decide +kernel
theorem dX5_reach_21 : decode cX5_reach 21 = .ok (.iload_n 1, 1) := by decide +kernel
theorem dX5_reach_22 : decode cX5_reach 22 = .ok (.iconst 3, 1) := by decide +kernel
theorem dX5_reach_23 : decode cX5_reach 23 = .ok (.irem, 1) := by decide +kernel
theorem dX5_reach_24 : decode cX5_reach 24 = .ok (.invokestatic 201, 3) := by decide +kernel
theorem dX5_reach_27 : decode cX5_reach 27 = .ok (.istore 4, 2) := by decide +kernel
theorem dX5_reach_29 : decode cX5_reach 29 = .ok (.iload 4, 2) := by decide +kernel
theorem dX5_reach_31 : decode cX5_reach 31 = .ok (.sipush 200, 3) := by decide +kernel
theorem dX5_reach_34 : decode cX5_reach 34 = .ok (.if_icmp .gt 26, 3) := by decide +kernel
theorem dX5_reach_37 : decode cX5_reach 37 = .ok (.aload_n 0, 1) := by decide +kernel
theorem dX5_reach_38 : decode cX5_reach 38 = .ok (.getfield 10, 3) := by decide +kernel
theorem dX5_reach_41 : decode cX5_reach 41 = .ok (.iload_n 1, 1) := by decide +kernel
theorem dX5_reach_42 : decode cX5_reach 42 = .ok (.iload 4, 2) := by decide +kernel
theorem dX5_reach_44 : decode cX5_reach 44 = .ok (.invokevirtual 157, 3) := by decide +kernel
theorem dX5_reach_47 : decode cX5_reach 47 = .ok (.iload_n 2, 1) := by decide +kernel
theorem dX5_reach_48 : decode cX5_reach 48 = .ok (.if_icmp .ne 6, 3) := by decide +kernel
theorem dX5_reach_51 : decode cX5_reach 51 = .ok (.iinc 3 1, 3) := by decide +kernel
theorem dX5_reach_54 : decode cX5_reach 54 = .ok (.iinc 4 1, 3) := by decide +kernel
theorem dX5_reach_57 : decode cX5_reach 57 = .ok (.goto (-28), 3) := by decide +kernel
theorem dX5_reach_60 : decode cX5_reach 60 = .ok (.iload_n 3, 1) := by decide +kernel
theorem dX5_reach_61 : decode cX5_reach 61 = .ok (.ireturn, 1) := by decide +kernel
theorem dX5_oldest_0 : decode cX5_oldest 0 = .ok (.aload_n 0, 1) := by decide +kernel
theorem dX5_oldest_1 : decode cX5_oldest 1 = .ok (.getfield 10, 3) := by decide +kernel
theorem dX5_oldest_4 : decode cX5_oldest 4 = .ok (.invokevirtual 204, 3) := by decide +kernel
theorem dX5_oldest_7 : decode cX5_oldest 7 = .ok (.ireturn, 1) := by decide +kernel
theorem dX5_tableOf_0 : decode cX5_tableOf 0 = .ok (.iload_n 1, 1) := by decide +kernel
theorem dX5_tableOf_1 : decode cX5_tableOf 1 = .ok (.invokestatic 37, 3) := by decide +kernel
theorem dX5_tableOf_4 : decode cX5_tableOf 4 = .ok (.ifCond .ne 5, 3) := by decide +kernel
theorem dX5_tableOf_7 : decode cX5_tableOf 7 = .ok (.iconst (-1), 1) := by decide +kernel
theorem dX5_tableOf_8 : decode cX5_tableOf 8 = .ok (.ireturn, 1) := by decide +kernel
theorem dX5_tableOf_9 : decode cX5_tableOf 9 = .ok (.aload_n 0, 1) := by decide +kernel
theorem dX5_tableOf_10 : decode cX5_tableOf 10 = .ok (.getfield 10, 3) := by decide +kernel
theorem dX5_tableOf_13 : decode cX5_tableOf 13 = .ok (.getfield 41, 3) := by decide +kernel
theorem dX5_tableOf_16 : decode cX5_tableOf 16 = .ok (.iload_n 1, 1) := by decide +kernel
theorem dX5_tableOf_17 : decode cX5_tableOf 17 = .ok (.aaload, 1) := by decide +kernel
theorem dX5_tableOf_18 : decode cX5_tableOf 18 = .ok (.astore_n 3, 1) := by decide +kernel
theorem dX5_tableOf_19 : decode cX5_tableOf 19 = .ok (.iload_n 2, 1) := by decide +kernel
theorem dX5_tableOf_20 : decode cX5_tableOf 20 = .ok (.tableswitch 65 0 4 #[36, 41, 46, 55, 60], 36) := by decide +kernel
theorem dX5_tableOf_56 : decode cX5_tableOf 56 = .ok (.aload_n 3, 1) := by decide +kernel
theorem dX5_tableOf_57 : decode cX5_tableOf 57 = .ok (.getfield 51, 3) := by decide +kernel
theorem dX5_tableOf_60 : decode cX5_tableOf 60 = .ok (.ireturn, 1) := by decide +kernel
theorem dX5_tableOf_61 : decode cX5_tableOf 61 = .ok (.aload_n 3, 1) := by decide +kernel
theorem dX5_tableOf_62 : decode cX5_tableOf 62 = .ok (.getfield 45, 3) := by decide +kernel
theorem dX5_tableOf_65 : decode cX5_tableOf 65 = .ok (.ireturn, 1) := by decide +kernel
theorem dX5_tableOf_66 : decode cX5_tableOf 66 = .ok (.aload_n 0, 1) := by decide +kernel
theorem dX5_tableOf_67 : decode cX5_tableOf 67 = .ok (.getfield 10, 3) := by decide +kernel
theorem dX5_tableOf_70 : decode cX5_tableOf 70 = .ok (.iload_n 1, 1) := by decide +kernel
theorem dX5_tableOf_71 : decode cX5_tableOf 71 = .ok (.invokevirtual 207, 3) := by decide +kernel
theorem dX5_tableOf_74 : decode cX5_tableOf 74 = .ok (.ireturn, 1) := by decide +kernel
theorem dX5_tableOf_75 : decode cX5_tableOf 75 = .ok (.aload_n 3, 1) := by decide +kernel
theorem dX5_tableOf_76 : decode cX5_tableOf 76 = .ok (.getfield 210, 3) := by decide +kernel
theorem dX5_tableOf_79 : decode cX5_tableOf 79 = .ok (.ireturn, 1) := by decide +kernel
theorem dX5_tableOf_80 : decode cX5_tableOf 80 = .ok (.aload_n 3, 1) := by decide +kernel
theorem dX5_tableOf_81 : decode cX5_tableOf 81 = .ok (.getfield 211, 3) := by decide +kernel
theorem dX5_tableOf_84 : decode cX5_tableOf 84 = .ok (.ireturn, 1) := by decide +kernel
theorem dX5_tableOf_85 : decode cX5_tableOf 85 = .ok (.bipush (-2), 2) := by decide +kernel
theorem dX5_tableOf_87 : decode cX5_tableOf 87 = .ok (.ireturn, 1) := by decide +kernel
theorem dX5_count_0 : decode cX5_count 0 = .ok (.iload_n 1, 1) := by decide +kernel
theorem dX5_count_1 : decode cX5_count 1 = .ok (.tableswitch 229 0 16 #[83, 91, 99, 107, 115, 123, 131, 139, 147, 155, 163, 173, 183, 193, 203, 213, 221], 83) := by decide +kernel
theorem dX5_count_84 : decode cX5_count 84 = .ok (.aload_n 0, 1) := by decide +kernel
theorem dX5_count_85 : decode cX5_count 85 = .ok (.getfield 10, 3) := by decide +kernel
theorem dX5_count_88 : decode cX5_count 88 = .ok (.invokevirtual 107, 3) := by decide +kernel
theorem dX5_count_91 : decode cX5_count 91 = .ok (.ireturn, 1) := by decide +kernel
theorem dX5_count_92 : decode cX5_count 92 = .ok (.aload_n 0, 1) := by decide +kernel
theorem dX5_count_93 : decode cX5_count 93 = .ok (.getfield 10, 3) := by decide +kernel
theorem dX5_count_96 : decode cX5_count 96 = .ok (.invokevirtual 101, 3) := by decide +kernel
theorem dX5_count_99 : decode cX5_count 99 = .ok (.ireturn, 1) := by decide +kernel
theorem dX5_count_100 : decode cX5_count 100 = .ok (.aload_n 0, 1) := by decide +kernel
theorem dX5_count_101 : decode cX5_count 101 = .ok (.getfield 10, 3) := by decide +kernel
theorem dX5_count_104 : decode cX5_count 104 = .ok (.invokevirtual 214, 3) := by decide +kernel
theorem dX5_count_107 : decode cX5_count 107 = .ok (.ireturn, 1) := by decide +kernel
theorem dX5_count_108 : decode cX5_count 108 = .ok (.aload_n 0, 1) := by decide +kernel
theorem dX5_count_109 : decode cX5_count 109 = .ok (.getfield 10, 3) := by decide +kernel
theorem dX5_count_112 : decode cX5_count 112 = .ok (.getfield 175, 3) := by decide +kernel
theorem dX5_count_115 : decode cX5_count 115 = .ok (.ireturn, 1) := by decide +kernel
theorem dX5_count_116 : decode cX5_count 116 = .ok (.aload_n 0, 1) := by decide +kernel
theorem dX5_count_117 : decode cX5_count 117 = .ok (.getfield 10, 3) := by decide +kernel
theorem dX5_count_120 : decode cX5_count 120 = .ok (.getfield 217, 3) := by decide +kernel
theorem dX5_count_123 : decode cX5_count 123 = .ok (.ireturn, 1) := by decide +kernel
theorem dX5_count_124 : decode cX5_count 124 = .ok (.aload_n 0, 1) := by decide +kernel
theorem dX5_count_125 : decode cX5_count 125 = .ok (.getfield 10, 3) := by decide +kernel
theorem dX5_count_128 : decode cX5_count 128 = .ok (.getfield 220, 3) := by decide +kernel
theorem dX5_count_131 : decode cX5_count 131 = .ok (.ireturn, 1) := by decide +kernel
theorem dX5_count_132 : decode cX5_count 132 = .ok (.aload_n 0, 1) := by decide +kernel
theorem dX5_count_133 : decode cX5_count 133 = .ok (.getfield 10, 3) := by decide +kernel
theorem dX5_count_136 : decode cX5_count 136 = .ok (.getfield 223, 3) := by decide +kernel
theorem dX5_count_139 : decode cX5_count 139 = .ok (.ireturn, 1) := by decide +kernel
theorem dX5_count_140 : decode cX5_count 140 = .ok (.aload_n 0, 1) := by decide +kernel
theorem dX5_count_141 : decode cX5_count 141 = .ok (.getfield 10, 3) := by decide +kernel
theorem dX5_count_144 : decode cX5_count 144 = .ok (.getfield 224, 3) := by decide +kernel
theorem dX5_count_147 : decode cX5_count 147 = .ok (.ireturn, 1) := by decide +kernel
theorem dX5_count_148 : decode cX5_count 148 = .ok (.aload_n 0, 1) := by decide +kernel
theorem dX5_count_149 : decode cX5_count 149 = .ok (.getfield 10, 3) := by decide +kernel
theorem dX5_count_152 : decode cX5_count 152 = .ok (.getfield 227, 3) := by decide +kernel
theorem dX5_count_155 : decode cX5_count 155 = .ok (.ireturn, 1) := by decide +kernel
theorem dX5_count_156 : decode cX5_count 156 = .ok (.aload_n 0, 1) := by decide +kernel
theorem dX5_count_157 : decode cX5_count 157 = .ok (.getfield 10, 3) := by decide +kernel
theorem dX5_count_160 : decode cX5_count 160 = .ok (.getfield 230, 3) := by decide +kernel
theorem dX5_count_163 : decode cX5_count 163 = .ok (.ireturn, 1) := by decide +kernel
theorem dX5_count_164 : decode cX5_count 164 = .ok (.aload_n 0, 1) := by decide +kernel
theorem dX5_count_165 : decode cX5_count 165 = .ok (.getfield 10, 3) := by decide +kernel
theorem dX5_count_168 : decode cX5_count 168 = .ok (.getfield 131, 3) := by decide +kernel
theorem dX5_count_171 : decode cX5_count 171 = .ok (.iconst 0, 1) := by decide +kernel
theorem dX5_count_172 : decode cX5_count 172 = .ok (.iaload, 1) := by decide +kernel
theorem dX5_count_173 : decode cX5_count 173 = .ok (.ireturn, 1) := by decide +kernel
theorem dX5_count_174 : decode cX5_count 174 = .ok (.aload_n 0, 1) := by decide +kernel
theorem dX5_count_175 : decode cX5_count 175 = .ok (.getfield 10, 3) := by decide +kernel
theorem dX5_count_178 : decode cX5_count 178 = .ok (.getfield 131, 3) := by decide +kernel
theorem dX5_count_181 : decode cX5_count 181 = .ok (.iconst 1, 1) := by decide +kernel
theorem dX5_count_182 : decode cX5_count 182 = .ok (.iaload, 1) := by decide +kernel
theorem dX5_count_183 : decode cX5_count 183 = .ok (.ireturn, 1) := by decide +kernel
theorem dX5_count_184 : decode cX5_count 184 = .ok (.aload_n 0, 1) := by decide +kernel
theorem dX5_count_185 : decode cX5_count 185 = .ok (.getfield 10, 3) := by decide +kernel
theorem dX5_count_188 : decode cX5_count 188 = .ok (.getfield 131, 3) := by decide +kernel
theorem dX5_count_191 : decode cX5_count 191 = .ok (.iconst 2, 1) := by decide +kernel
theorem dX5_count_192 : decode cX5_count 192 = .ok (.iaload, 1) := by decide +kernel
theorem dX5_count_193 : decode cX5_count 193 = .ok (.ireturn, 1) := by decide +kernel
theorem dX5_count_194 : decode cX5_count 194 = .ok (.aload_n 0, 1) := by decide +kernel
theorem dX5_count_195 : decode cX5_count 195 = .ok (.getfield 10, 3) := by decide +kernel
theorem dX5_count_198 : decode cX5_count 198 = .ok (.getfield 131, 3) := by decide +kernel
theorem dX5_count_201 : decode cX5_count 201 = .ok (.iconst 3, 1) := by decide +kernel
theorem dX5_count_202 : decode cX5_count 202 = .ok (.iaload, 1) := by decide +kernel
theorem dX5_count_203 : decode cX5_count 203 = .ok (.ireturn, 1) := by decide +kernel
theorem dX5_count_204 : decode cX5_count 204 = .ok (.aload_n 0, 1) := by decide +kernel
theorem dX5_count_205 : decode cX5_count 205 = .ok (.getfield 10, 3) := by decide +kernel
theorem dX5_count_208 : decode cX5_count 208 = .ok (.getfield 131, 3) := by decide +kernel
theorem dX5_count_211 : decode cX5_count 211 = .ok (.iconst 4, 1) := by decide +kernel
theorem dX5_count_212 : decode cX5_count 212 = .ok (.iaload, 1) := by decide +kernel
theorem dX5_count_213 : decode cX5_count 213 = .ok (.ireturn, 1) := by decide +kernel
theorem dX5_count_214 : decode cX5_count 214 = .ok (.aload_n 0, 1) := by decide +kernel
theorem dX5_count_215 : decode cX5_count 215 = .ok (.getfield 22, 3) := by decide +kernel
theorem dX5_count_218 : decode cX5_count 218 = .ok (.getfield 144, 3) := by decide +kernel
theorem dX5_count_221 : decode cX5_count 221 = .ok (.ireturn, 1) := by decide +kernel
theorem dX5_count_222 : decode cX5_count 222 = .ok (.aload_n 0, 1) := by decide +kernel
theorem dX5_count_223 : decode cX5_count 223 = .ok (.getfield 29, 3) := by decide +kernel
theorem dX5_count_226 : decode cX5_count 226 = .ok (.getfield 137, 3) := by decide +kernel
theorem dX5_count_229 : decode cX5_count 229 = .ok (.ireturn, 1) := by decide +kernel
theorem dX5_count_230 : decode cX5_count 230 = .ok (.bipush (-2), 2) := by decide +kernel
theorem dX5_count_232 : decode cX5_count 232 = .ok (.ireturn, 1) := by decide +kernel
theorem dX5_isTable_0 : decode cX5_isTable 0 = .ok (.iload_n 0, 1) := by decide +kernel
theorem dX5_isTable_1 : decode cX5_isTable 1 = .ok (.ifCond .lt 12, 3) := by decide +kernel
theorem dX5_isTable_4 : decode cX5_isTable 4 = .ok (.iload_n 0, 1) := by decide +kernel
theorem dX5_isTable_5 : decode cX5_isTable 5 = .ok (.iconst 4, 1) := by decide +kernel
theorem dX5_isTable_6 : decode cX5_isTable 6 = .ok (.if_icmp .ge 7, 3) := by decide +kernel
theorem dX5_isTable_9 : decode cX5_isTable 9 = .ok (.iconst 1, 1) := by decide +kernel
theorem dX5_isTable_10 : decode cX5_isTable 10 = .ok (.goto 4, 3) := by decide +kernel
theorem dX5_isTable_13 : decode cX5_isTable 13 = .ok (.iconst 0, 1) := by decide +kernel
theorem dX5_isTable_14 : decode cX5_isTable 14 = .ok (.ireturn, 1) := by decide +kernel
theorem dX5_isShape_0 : decode cX5_isShape 0 = .ok (.iload_n 0, 1) := by decide +kernel
theorem dX5_isShape_1 : decode cX5_isShape 1 = .ok (.ifCond .lt 13, 3) := by decide +kernel
theorem dX5_isShape_4 : decode cX5_isShape 4 = .ok (.iload_n 0, 1) := by decide +kernel
theorem dX5_isShape_5 : decode cX5_isShape 5 = .ok (.bipush 12, 2) := by decide +kernel
theorem dX5_isShape_7 : decode cX5_isShape 7 = .ok (.if_icmp .ge 7, 3) := by decide +kernel
theorem dX5_isShape_10 : decode cX5_isShape 10 = .ok (.iconst 1, 1) := by decide +kernel
theorem dX5_isShape_11 : decode cX5_isShape 11 = .ok (.goto 4, 3) := by decide +kernel
theorem dX5_isShape_14 : decode cX5_isShape 14 = .ok (.iconst 0, 1) := by decide +kernel
theorem dX5_isShape_15 : decode cX5_isShape 15 = .ok (.ireturn, 1) := by decide +kernel
theorem dX5_isWay_0 : decode cX5_isWay 0 = .ok (.iload_n 0, 1) := by decide +kernel
theorem dX5_isWay_1 : decode cX5_isWay 1 = .ok (.ifCond .lt 12, 3) := by decide +kernel
theorem dX5_isWay_4 : decode cX5_isWay 4 = .ok (.iload_n 0, 1) := by decide +kernel
theorem dX5_isWay_5 : decode cX5_isWay 5 = .ok (.iconst 3, 1) := by decide +kernel
theorem dX5_isWay_6 : decode cX5_isWay 6 = .ok (.if_icmp .ge 7, 3) := by decide +kernel
theorem dX5_isWay_9 : decode cX5_isWay 9 = .ok (.iconst 1, 1) := by decide +kernel
theorem dX5_isWay_10 : decode cX5_isWay 10 = .ok (.goto 4, 3) := by decide +kernel
theorem dX5_isWay_13 : decode cX5_isWay 13 = .ok (.iconst 0, 1) := by decide +kernel
theorem dX5_isWay_14 : decode cX5_isWay 14 = .ok (.ireturn, 1) := by decide +kernel
theorem dX5_hasPlan_0 : decode cX5_hasPlan 0 = .ok (.iload_n 1, 1) := by decide +kernel
theorem dX5_hasPlan_1 : decode cX5_hasPlan 1 = .ok (.invokestatic 62, 3) := by decide +kernel
theorem dX5_hasPlan_4 : decode cX5_hasPlan 4 = .ok (.ifCond .eq 22, 3) := by decide +kernel
theorem dX5_hasPlan_7 : decode cX5_hasPlan 7 = .ok (.aload_n 0, 1) := by decide +kernel
theorem dX5_hasPlan_8 : decode cX5_hasPlan 8 = .ok (.getfield 10, 3) := by decide +kernel
theorem dX5_hasPlan_11 : decode cX5_hasPlan 11 = .ok (.getfield 92, 3) := by decide +kernel
theorem dX5_hasPlan_14 : decode cX5_hasPlan 14 = .ok (.iload_n 1, 1) := by decide +kernel
theorem dX5_hasPlan_15 : decode cX5_hasPlan 15 = .ok (.aaload, 1) := by decide +kernel
theorem dX5_hasPlan_16 : decode cX5_hasPlan 16 = .ok (.getfield 104, 3) := by decide +kernel
theorem dX5_hasPlan_19 : decode cX5_hasPlan 19 = .ok (.ifCond .eq 7, 3) := by decide +kernel
theorem dX5_hasPlan_22 : decode cX5_hasPlan 22 = .ok (.iconst 1, 1) := by decide +kernel
theorem dX5_hasPlan_23 : decode cX5_hasPlan 23 = .ok (.goto 4, 3) := by decide +kernel
theorem dX5_hasPlan_26 : decode cX5_hasPlan 26 = .ok (.iconst 0, 1) := by decide +kernel
theorem dX5_hasPlan_27 : decode cX5_hasPlan 27 = .ok (.ireturn, 1) := by decide +kernel
theorem dX5_leastNumberOf_0 : decode cX5_leastNumberOf 0 = .ok (.iload_n 0, 1) := by decide +kernel
theorem dX5_leastNumberOf_1 : decode cX5_leastNumberOf 1 = .ok (.ifCond .ne 7, 3) := by decide +kernel
theorem dX5_leastNumberOf_4 : decode cX5_leastNumberOf 4 = .ok (.iconst 0, 1) := by decide +kernel
theorem dX5_leastNumberOf_5 : decode cX5_leastNumberOf 5 = .ok (.goto 4, 3) := by decide +kernel
theorem dX5_leastNumberOf_8 : decode cX5_leastNumberOf 8 = .ok (.iconst 1, 1) := by decide +kernel
theorem dX5_leastNumberOf_9 : decode cX5_leastNumberOf 9 = .ok (.ireturn, 1) := by decide +kernel
theorem dX5_isNumberOf_0 : decode cX5_isNumberOf 0 = .ok (.iload_n 1, 1) := by decide +kernel
theorem dX5_isNumberOf_1 : decode cX5_isNumberOf 1 = .ok (.iload_n 0, 1) := by decide +kernel
theorem dX5_isNumberOf_2 : decode cX5_isNumberOf 2 = .ok (.invokestatic 201, 3) := by decide +kernel
theorem dX5_isNumberOf_5 : decode cX5_isNumberOf 5 = .ok (.if_icmp .lt 14, 3) := by decide +kernel
theorem dX5_isNumberOf_8 : decode cX5_isNumberOf 8 = .ok (.iload_n 1, 1) := by decide +kernel
theorem dX5_isNumberOf_9 : decode cX5_isNumberOf 9 = .ok (.sipush 9999, 3) := by decide +kernel
theorem dX5_isNumberOf_12 : decode cX5_isNumberOf 12 = .ok (.if_icmp .gt 7, 3) := by decide +kernel
theorem dX5_isNumberOf_15 : decode cX5_isNumberOf 15 = .ok (.iconst 1, 1) := by decide +kernel
theorem dX5_isNumberOf_16 : decode cX5_isNumberOf 16 = .ok (.goto 4, 3) := by decide +kernel
theorem dX5_isNumberOf_19 : decode cX5_isNumberOf 19 = .ok (.iconst 0, 1) := by decide +kernel
theorem dX5_isNumberOf_20 : decode cX5_isNumberOf 20 = .ok (.ireturn, 1) := by decide +kernel
theorem dX5_bitsOf_0 : decode cX5_bitsOf 0 = .ok (.iconst 0, 1) := by decide +kernel
theorem dX5_bitsOf_1 : decode cX5_bitsOf 1 = .ok (.istore_n 1, 1) := by decide +kernel
theorem dX5_bitsOf_2 : decode cX5_bitsOf 2 = .ok (.iload_n 1, 1) := by decide +kernel
theorem dX5_bitsOf_3 : decode cX5_bitsOf 3 = .ok (.bipush 31, 2) := by decide +kernel
theorem dX5_bitsOf_5 : decode cX5_bitsOf 5 = .ok (.if_icmp .ge 15, 3) := by decide +kernel
theorem dX5_bitsOf_8 : decode cX5_bitsOf 8 = .ok (.iload_n 0, 1) := by decide +kernel
theorem dX5_bitsOf_9 : decode cX5_bitsOf 9 = .ok (.iload_n 1, 1) := by decide +kernel
theorem dX5_bitsOf_10 : decode cX5_bitsOf 10 = .ok (.ishr, 1) := by decide +kernel
theorem dX5_bitsOf_11 : decode cX5_bitsOf 11 = .ok (.ifCond .le 9, 3) := by decide +kernel
theorem dX5_bitsOf_14 : decode cX5_bitsOf 14 = .ok (.iinc 1 1, 3) := by decide +kernel
theorem dX5_bitsOf_17 : decode cX5_bitsOf 17 = .ok (.goto (-15), 3) := by decide +kernel
theorem dX5_bitsOf_20 : decode cX5_bitsOf 20 = .ok (.iload_n 1, 1) := by decide +kernel
theorem dX5_bitsOf_21 : decode cX5_bitsOf 21 = .ok (.ireturn, 1) := by decide +kernel
theorem dX5_quotient_0 : decode cX5_quotient 0 = .ok (.iload_n 1, 1) := by decide +kernel
theorem dX5_quotient_1 : decode cX5_quotient 1 = .ok (.iconst 1, 1) := by decide +kernel
theorem dX5_quotient_2 : decode cX5_quotient 2 = .ok (.if_icmp .ge 7, 3) := by decide +kernel
theorem dX5_quotient_5 : decode cX5_quotient 5 = .ok (.iconst 0, 1) := by decide +kernel
theorem dX5_quotient_6 : decode cX5_quotient 6 = .ok (.goto 6, 3) := by decide +kernel
theorem dX5_quotient_9 : decode cX5_quotient 9 = .ok (.iload_n 0, 1) := by decide +kernel
theorem dX5_quotient_10 : decode cX5_quotient 10 = .ok (.iload_n 1, 1) := by decide +kernel
theorem dX5_quotient_11 : decode cX5_quotient 11 = .ok (.idiv, 1) := by decide +kernel
theorem dX5_quotient_12 : decode cX5_quotient 12 = .ok (.ireturn, 1) := by decide +kernel
theorem dJ9_abs_0f7a4_0 : decode cJ9_abs_0f7a4 0 = .ok (.iload_n 0, 1) := by decide +kernel
theorem dJ9_abs_0f7a4_1 : decode cJ9_abs_0f7a4 1 = .ok (.ifCond .ge 8, 3) := by decide +kernel
theorem dJ9_abs_0f7a4_4 : decode cJ9_abs_0f7a4 4 = .ok (.iload_n 0, 1) := by decide +kernel
theorem dJ9_abs_0f7a4_5 : decode cJ9_abs_0f7a4 5 = .ok (.ineg, 1) := by decide +kernel
theorem dJ9_abs_0f7a4_6 : decode cJ9_abs_0f7a4 6 = .ok (.goto 4, 3) := by decide +kernel
theorem dJ9_abs_0f7a4_9 : decode cJ9_abs_0f7a4 9 = .ok (.iload_n 0, 1) := by decide +kernel
theorem dJ9_abs_0f7a4_10 : decode cJ9_abs_0f7a4 10 = .ok (.ireturn, 1) := by decide +kernel
theorem dJ9_min_7cf53_0 : decode cJ9_min_7cf53 0 = .ok (.iload_n 0, 1) := by decide +kernel
theorem dJ9_min_7cf53_1 : decode cJ9_min_7cf53 1 = .ok (.iload_n 1, 1) := by decide +kernel
theorem dJ9_min_7cf53_2 : decode cJ9_min_7cf53 2 = .ok (.if_icmp .gt 7, 3) := by decide +kernel
theorem dJ9_min_7cf53_5 : decode cJ9_min_7cf53 5 = .ok (.iload_n 0, 1) := by decide +kernel
theorem dJ9_min_7cf53_6 : decode cJ9_min_7cf53 6 = .ok (.goto 4, 3) := by decide +kernel
theorem dJ9_min_7cf53_9 : decode cJ9_min_7cf53 9 = .ok (.iload_n 1, 1) := by decide +kernel
theorem dJ9_min_7cf53_10 : decode cJ9_min_7cf53 10 = .ok (.ireturn, 1) := by decide +kernel
theorem dJ0_length_8abf5_0 : decode cJ0_length_8abf5 0 = .ok (.aload_n 0, 1) := by decide +kernel
theorem dJ0_length_8abf5_1 : decode cJ0_length_8abf5 1 = .ok (.getfield 9, 3) := by decide +kernel
theorem dJ0_length_8abf5_4 : decode cJ0_length_8abf5 4 = .ok (.arraylength, 1) := by decide +kernel
theorem dJ0_length_8abf5_5 : decode cJ0_length_8abf5 5 = .ok (.aload_n 0, 1) := by decide +kernel
theorem dJ0_length_8abf5_6 : decode cJ0_length_8abf5 6 = .ok (.invokevirtual 335, 3) := by decide +kernel
theorem dJ0_length_8abf5_9 : decode cJ0_length_8abf5 9 = .ok (.ishr, 1) := by decide +kernel
theorem dJ0_length_8abf5_10 : decode cJ0_length_8abf5 10 = .ok (.ireturn, 1) := by decide +kernel
theorem dJ0_charAt_5068e_0 : decode cJ0_charAt_5068e 0 = .ok (.aload_n 0, 1) := by decide +kernel
theorem dJ0_charAt_5068e_1 : decode cJ0_charAt_5068e 1 = .ok (.invokevirtual 492, 3) := by decide +kernel
theorem dJ0_charAt_5068e_4 : decode cJ0_charAt_5068e 4 = .ok (.ifCond .eq 12, 3) := by decide +kernel
theorem dJ0_charAt_5068e_7 : decode cJ0_charAt_5068e 7 = .ok (.aload_n 0, 1) := by decide +kernel
theorem dJ0_charAt_5068e_8 : decode cJ0_charAt_5068e 8 = .ok (.getfield 9, 3) := by decide +kernel
theorem dJ0_charAt_5068e_11 : decode cJ0_charAt_5068e 11 = .ok (.iload_n 1, 1) := by decide +kernel
theorem dJ0_charAt_5068e_12 : decode cJ0_charAt_5068e 12 = .ok (.invokestatic 495, 3) := by decide +kernel
theorem dJ0_charAt_5068e_15 : decode cJ0_charAt_5068e 15 = .ok (.ireturn, 1) := by decide +kernel
theorem dJ0_charAt_5068e_16 : decode cJ0_charAt_5068e 16 = .ok (.aload_n 0, 1) := by decide +kernel
theorem dJ0_charAt_5068e_17 : decode cJ0_charAt_5068e 17 = .ok (.getfield 9, 3) := by decide +kernel
theorem dJ0_charAt_5068e_20 : decode cJ0_charAt_5068e 20 = .ok (.iload_n 1, 1) := by decide +kernel
theorem dJ0_charAt_5068e_21 : decode cJ0_charAt_5068e 21 = .ok (.invokestatic 498, 3) := by decide +kernel
theorem dJ0_charAt_5068e_24 : decode cJ0_charAt_5068e 24 = .ok (.ireturn, 1) := by decide +kernel
theorem dJ0_coder_7d493_0 : decode cJ0_coder_7d493 0 = .ok (.getstatic 38, 3) := by decide +kernel
theorem dJ0_coder_7d493_3 : decode cJ0_coder_7d493 3 = .ok (.ifCond .eq 10, 3) := by decide +kernel
theorem dJ0_coder_7d493_6 : decode cJ0_coder_7d493 6 = .ok (.aload_n 0, 1) := by decide +kernel
theorem dJ0_coder_7d493_7 : decode cJ0_coder_7d493 7 = .ok (.getfield 15, 3) := by decide +kernel
theorem dJ0_coder_7d493_10 : decode cJ0_coder_7d493 10 = .ok (.goto 4, 3) := by decide +kernel
theorem dJ0_coder_7d493_13 : decode cJ0_coder_7d493 13 = .ok (.iconst 1, 1) := by decide +kernel
theorem dJ0_coder_7d493_14 : decode cJ0_coder_7d493 14 = .ok (.ireturn, 1) := by decide +kernel
theorem dJ0_isLatin1_aae02_0 : decode cJ0_isLatin1_aae02 0 = .ok (.getstatic 38, 3) := by decide +kernel
theorem dJ0_isLatin1_aae02_3 : decode cJ0_isLatin1_aae02 3 = .ok (.ifCond .eq 14, 3) := by decide +kernel
theorem dJ0_isLatin1_aae02_6 : decode cJ0_isLatin1_aae02 6 = .ok (.aload_n 0, 1) := by decide +kernel
theorem dJ0_isLatin1_aae02_7 : decode cJ0_isLatin1_aae02 7 = .ok (.getfield 15, 3) := by decide +kernel
theorem dJ0_isLatin1_aae02_10 : decode cJ0_isLatin1_aae02 10 = .ok (.ifCond .ne 7, 3) := by decide +kernel
theorem dJ0_isLatin1_aae02_13 : decode cJ0_isLatin1_aae02 13 = .ok (.iconst 1, 1) := by decide +kernel
theorem dJ0_isLatin1_aae02_14 : decode cJ0_isLatin1_aae02 14 = .ok (.goto 4, 3) := by decide +kernel
theorem dJ0_isLatin1_aae02_17 : decode cJ0_isLatin1_aae02 17 = .ok (.iconst 0, 1) := by decide +kernel
theorem dJ0_isLatin1_aae02_18 : decode cJ0_isLatin1_aae02 18 = .ok (.ireturn, 1) := by decide +kernel
theorem dJ0_checkIndex_df160_0 : decode cJ0_checkIndex_df160 0 = .ok (.iload_n 0, 1) := by decide +kernel
theorem dJ0_checkIndex_df160_1 : decode cJ0_checkIndex_df160 1 = .ok (.iload_n 1, 1) := by decide +kernel
theorem dJ0_checkIndex_df160_2 : decode cJ0_checkIndex_df160 2 = .ok (.getstatic 1053, 3) := by decide +kernel
theorem dJ0_checkIndex_df160_5 : decode cJ0_checkIndex_df160 5 = .ok (.invokestatic 1059, 3) := by decide +kernel
theorem dJ0_checkIndex_df160_8 : decode cJ0_checkIndex_df160 8 = .ok (.pop, 1) := by decide +kernel
theorem dJ0_checkIndex_df160_9 : decode cJ0_checkIndex_df160 9 = .ok (.return_, 1) := by decide +kernel
theorem dJ1_charAt_3b067_0 : decode cJ1_charAt_3b067 0 = .ok (.iload_n 1, 1) := by decide +kernel
theorem dJ1_charAt_3b067_1 : decode cJ1_charAt_3b067 1 = .ok (.aload_n 0, 1) := by decide +kernel
theorem dJ1_charAt_3b067_2 : decode cJ1_charAt_3b067 2 = .ok (.arraylength, 1) := by decide +kernel
theorem dJ1_charAt_3b067_3 : decode cJ1_charAt_3b067 3 = .ok (.invokestatic 9, 3) := by decide +kernel
theorem dJ1_charAt_3b067_6 : decode cJ1_charAt_3b067 6 = .ok (.aload_n 0, 1) := by decide +kernel
theorem dJ1_charAt_3b067_7 : decode cJ1_charAt_3b067 7 = .ok (.iload_n 1, 1) := by decide +kernel
theorem dJ1_charAt_3b067_8 : decode cJ1_charAt_3b067 8 = .ok (.baload, 1) := by decide +kernel
theorem dJ1_charAt_3b067_9 : decode cJ1_charAt_3b067 9 = .ok (.sipush 255, 3) := by decide +kernel
theorem dJ1_charAt_3b067_12 : decode cJ1_charAt_3b067 12 = .ok (.iand, 1) := by decide +kernel
theorem dJ1_charAt_3b067_13 : decode cJ1_charAt_3b067 13 = .ok (.i2c, 1) := by decide +kernel
theorem dJ1_charAt_3b067_14 : decode cJ1_charAt_3b067 14 = .ok (.ireturn, 1) := by decide +kernel
theorem dJ2_getChar_3b067_0 : decode cJ2_getChar_3b067 0 = .ok (.getstatic 44, 3) := by decide +kernel
theorem dJ2_getChar_3b067_3 : decode cJ2_getChar_3b067 3 = .ok (.ifCond .ne 25, 3) := by decide +kernel
theorem dJ2_getChar_3b067_6 : decode cJ2_getChar_3b067 6 = .ok (.iload_n 1, 1) := by decide +kernel
theorem dJ2_getChar_3b067_7 : decode cJ2_getChar_3b067 7 = .ok (.ifCond .lt 11, 3) := by decide +kernel
theorem dJ2_getChar_3b067_10 : decode cJ2_getChar_3b067 10 = .ok (.iload_n 1, 1) := by decide +kernel
theorem dJ2_getChar_3b067_11 : decode cJ2_getChar_3b067 11 = .ok (.aload_n 0, 1) := by decide +kernel
theorem dJ2_getChar_3b067_12 : decode cJ2_getChar_3b067 12 = .ok (.invokestatic 48, 3) := by decide +kernel
theorem dJ2_getChar_3b067_15 : decode cJ2_getChar_3b067 15 = .ok (.if_icmp .lt 13, 3) := by decide +kernel
theorem dJ2_getChar_3b067_18 : decode cJ2_getChar_3b067 18 = .ok (.new 52, 3) := by decide +kernel
theorem dJ2_getChar_3b067_21 : decode cJ2_getChar_3b067 21 = .ok (.dup, 1) := by decide +kernel
theorem dJ2_getChar_3b067_22 : decode cJ2_getChar_3b067 22 = .ok (.ldc 54, 2) := by decide +kernel
theorem dJ2_getChar_3b067_24 : decode cJ2_getChar_3b067 24 = .ok (.invokespecial 56, 3) := by decide +kernel
theorem dJ2_getChar_3b067_27 : decode cJ2_getChar_3b067 27 = .ok (.athrow, 1) := by decide +kernel
theorem dJ2_getChar_3b067_28 : decode cJ2_getChar_3b067 28 = .ok (.iload_n 1, 1) := by decide +kernel
theorem dJ2_getChar_3b067_29 : decode cJ2_getChar_3b067 29 = .ok (.iconst 1, 1) := by decide +kernel
theorem dJ2_getChar_3b067_30 : decode cJ2_getChar_3b067 30 = .ok (.ishl, 1) := by decide +kernel
theorem dJ2_getChar_3b067_31 : decode cJ2_getChar_3b067 31 = .ok (.istore_n 1, 1) := by decide +kernel
theorem dJ2_getChar_3b067_32 : decode cJ2_getChar_3b067 32 = .ok (.aload_n 0, 1) := by decide +kernel
theorem dJ2_getChar_3b067_33 : decode cJ2_getChar_3b067 33 = .ok (.iload_n 1, 1) := by decide +kernel
theorem dJ2_getChar_3b067_34 : decode cJ2_getChar_3b067 34 = .ok (.iinc 1 1, 3) := by decide +kernel
theorem dJ2_getChar_3b067_37 : decode cJ2_getChar_3b067 37 = .ok (.baload, 1) := by decide +kernel
theorem dJ2_getChar_3b067_38 : decode cJ2_getChar_3b067 38 = .ok (.sipush 255, 3) := by decide +kernel
theorem dJ2_getChar_3b067_41 : decode cJ2_getChar_3b067 41 = .ok (.iand, 1) := by decide +kernel
theorem dJ2_getChar_3b067_42 : decode cJ2_getChar_3b067 42 = .ok (.getstatic 59, 3) := by decide +kernel
theorem dJ2_getChar_3b067_45 : decode cJ2_getChar_3b067 45 = .ok (.ishl, 1) := by decide +kernel
theorem dJ2_getChar_3b067_46 : decode cJ2_getChar_3b067 46 = .ok (.aload_n 0, 1) := by decide +kernel
theorem dJ2_getChar_3b067_47 : decode cJ2_getChar_3b067 47 = .ok (.iload_n 1, 1) := by decide +kernel
theorem dJ2_getChar_3b067_48 : decode cJ2_getChar_3b067 48 = .ok (.baload, 1) := by decide +kernel
theorem dJ2_getChar_3b067_49 : decode cJ2_getChar_3b067 49 = .ok (.sipush 255, 3) := by decide +kernel
theorem dJ2_getChar_3b067_52 : decode cJ2_getChar_3b067 52 = .ok (.iand, 1) := by decide +kernel
theorem dJ2_getChar_3b067_53 : decode cJ2_getChar_3b067 53 = .ok (.getstatic 63, 3) := by decide +kernel
theorem dJ2_getChar_3b067_56 : decode cJ2_getChar_3b067 56 = .ok (.ishl, 1) := by decide +kernel
theorem dJ2_getChar_3b067_57 : decode cJ2_getChar_3b067 57 = .ok (.ior, 1) := by decide +kernel
theorem dJ2_getChar_3b067_58 : decode cJ2_getChar_3b067 58 = .ok (.i2c, 1) := by decide +kernel
theorem dJ2_getChar_3b067_59 : decode cJ2_getChar_3b067 59 = .ok (.ireturn, 1) := by decide +kernel
theorem dJ2_length_9d52b_0 : decode cJ2_length_9d52b 0 = .ok (.aload_n 0, 1) := by decide +kernel
theorem dJ2_length_9d52b_1 : decode cJ2_length_9d52b 1 = .ok (.arraylength, 1) := by decide +kernel
theorem dJ2_length_9d52b_2 : decode cJ2_length_9d52b 2 = .ok (.iconst 1, 1) := by decide +kernel
theorem dJ2_length_9d52b_3 : decode cJ2_length_9d52b 3 = .ok (.ishr, 1) := by decide +kernel
theorem dJ2_length_9d52b_4 : decode cJ2_length_9d52b 4 = .ok (.ireturn, 1) := by decide +kernel
theorem dJ2_charAt_3b067_0 : decode cJ2_charAt_3b067 0 = .ok (.iload_n 1, 1) := by decide +kernel
theorem dJ2_charAt_3b067_1 : decode cJ2_charAt_3b067 1 = .ok (.aload_n 0, 1) := by decide +kernel
theorem dJ2_charAt_3b067_2 : decode cJ2_charAt_3b067 2 = .ok (.invokestatic 67, 3) := by decide +kernel
theorem dJ2_charAt_3b067_5 : decode cJ2_charAt_3b067 5 = .ok (.aload_n 0, 1) := by decide +kernel
theorem dJ2_charAt_3b067_6 : decode cJ2_charAt_3b067 6 = .ok (.iload_n 1, 1) := by decide +kernel
theorem dJ2_charAt_3b067_7 : decode cJ2_charAt_3b067 7 = .ok (.invokestatic 71, 3) := by decide +kernel
theorem dJ2_charAt_3b067_10 : decode cJ2_charAt_3b067 10 = .ok (.ireturn, 1) := by decide +kernel
theorem dJ2_checkIndex_2214a_0 : decode cJ2_checkIndex_2214a 0 = .ok (.iload_n 0, 1) := by decide +kernel
theorem dJ2_checkIndex_2214a_1 : decode cJ2_checkIndex_2214a 1 = .ok (.aload_n 1, 1) := by decide +kernel
theorem dJ2_checkIndex_2214a_2 : decode cJ2_checkIndex_2214a 2 = .ok (.invokestatic 48, 3) := by decide +kernel
theorem dJ2_checkIndex_2214a_5 : decode cJ2_checkIndex_2214a 5 = .ok (.invokestatic 414, 3) := by decide +kernel
theorem dJ2_checkIndex_2214a_8 : decode cJ2_checkIndex_2214a 8 = .ok (.return_, 1) := by decide +kernel
theorem dJ3_checkIndex_8e157_0 : decode cJ3_checkIndex_8e157 0 = .ok (.iload_n 0, 1) := by decide +kernel
theorem dJ3_checkIndex_8e157_1 : decode cJ3_checkIndex_8e157 1 = .ok (.ifCond .lt 8, 3) := by decide +kernel
theorem dJ3_checkIndex_8e157_4 : decode cJ3_checkIndex_8e157 4 = .ok (.iload_n 0, 1) := by decide +kernel
theorem dJ3_checkIndex_8e157_5 : decode cJ3_checkIndex_8e157 5 = .ok (.iload_n 1, 1) := by decide +kernel
theorem dJ3_checkIndex_8e157_6 : decode cJ3_checkIndex_8e157 6 = .ok (.if_icmp .lt 10, 3) := by decide +kernel
theorem dJ3_checkIndex_8e157_9 : decode cJ3_checkIndex_8e157 9 = .ok (.aload_n 2, 1) := by decide +kernel
theorem dJ3_checkIndex_8e157_10 : decode cJ3_checkIndex_8e157 10 = .ok (.iload_n 0, 1) := by decide +kernel
theorem dJ3_checkIndex_8e157_11 : decode cJ3_checkIndex_8e157 11 = .ok (.iload_n 1, 1) := by decide +kernel
theorem dJ3_checkIndex_8e157_12 : decode cJ3_checkIndex_8e157 12 = .ok (.invokestatic 95, 3) := by decide +kernel
theorem dJ3_checkIndex_8e157_15 : decode cJ3_checkIndex_8e157 15 = .ok (.athrow, 1) := by decide +kernel
theorem dJ3_checkIndex_8e157_16 : decode cJ3_checkIndex_8e157 16 = .ok (.iload_n 0, 1) := by decide +kernel
theorem dJ3_checkIndex_8e157_17 : decode cJ3_checkIndex_8e157 17 = .ok (.ireturn, 1) := by decide +kernel
theorem dL_cell_0 : decode cL_cell 0 = .ok (.iload_n 1, 1) := by decide +kernel
theorem dL_cell_1 : decode cL_cell 1 = .ok (.aload_n 0, 1) := by decide +kernel
theorem dL_cell_2 : decode cL_cell 2 = .ok (.arraylength, 1) := by decide +kernel
theorem dL_cell_3 : decode cL_cell 3 = .ok (.if_icmp .ge 9, 3) := by decide +kernel
theorem dL_cell_6 : decode cL_cell 6 = .ok (.aload_n 0, 1) := by decide +kernel
theorem dL_cell_7 : decode cL_cell 7 = .ok (.iload_n 1, 1) := by decide +kernel
theorem dL_cell_8 : decode cL_cell 8 = .ok (.iaload, 1) := by decide +kernel
theorem dL_cell_9 : decode cL_cell 9 = .ok (.goto 15, 3) := by decide +kernel
theorem dL_cell_12 : decode cL_cell 12 = .ok (.ldc 7, 2) := by decide +kernel
theorem dL_cell_14 : decode cL_cell 14 = .ok (.iload_n 1, 1) := by decide +kernel
theorem dL_cell_15 : decode cL_cell 15 = .ok (.sipush 4096, 3) := by decide +kernel
theorem dL_cell_18 : decode cL_cell 18 = .ok (.irem, 1) := by decide +kernel
theorem dL_cell_19 : decode cL_cell 19 = .ok (.imul, 1) := by decide +kernel
theorem dL_cell_20 : decode cL_cell 20 = .ok (.sipush 317, 3) := by decide +kernel
theorem dL_cell_23 : decode cL_cell 23 = .ok (.iadd, 1) := by decide +kernel
theorem dL_cell_24 : decode cL_cell 24 = .ok (.ldc 8, 2) := by decide +kernel
theorem dL_cell_26 : decode cL_cell 26 = .ok (.iand, 1) := by decide +kernel
theorem dL_cell_27 : decode cL_cell 27 = .ok (.ireturn, 1) := by decide +kernel
theorem dL_acts_0 : decode cL_acts 0 = .ok (.iload_n 1, 1) := by decide +kernel
theorem dL_acts_1 : decode cL_acts 1 = .ok (.bipush 16, 2) := by decide +kernel
theorem dL_acts_3 : decode cL_acts 3 = .ok (.idiv, 1) := by decide +kernel
theorem dL_acts_4 : decode cL_acts 4 = .ok (.istore_n 2, 1) := by decide +kernel
theorem dL_acts_5 : decode cL_acts 5 = .ok (.iload_n 2, 1) := by decide +kernel
theorem dL_acts_6 : decode cL_acts 6 = .ok (.bipush 64, 2) := by decide +kernel
theorem dL_acts_8 : decode cL_acts 8 = .ok (.idiv, 1) := by decide +kernel
theorem dL_acts_9 : decode cL_acts 9 = .ok (.iconst 5, 1) := by decide +kernel
theorem dL_acts_10 : decode cL_acts 10 = .ok (.irem, 1) := by decide +kernel
theorem dL_acts_11 : decode cL_acts 11 = .ok (.ifCond .ne 17, 3) := by decide +kernel
theorem dL_acts_14 : decode cL_acts 14 = .ok (.iconst 1, 1) := by decide +kernel
theorem dL_acts_15 : decode cL_acts 15 = .ok (.iload_n 2, 1) := by decide +kernel
theorem dL_acts_16 : decode cL_acts 16 = .ok (.sipush 512, 3) := by decide +kernel
theorem dL_acts_19 : decode cL_acts 19 = .ok (.idiv, 1) := by decide +kernel
theorem dL_acts_20 : decode cL_acts 20 = .ok (.sipush 9999, 3) := by decide +kernel
theorem dL_acts_23 : decode cL_acts 23 = .ok (.irem, 1) := by decide +kernel
theorem dL_acts_24 : decode cL_acts 24 = .ok (.iadd, 1) := by decide +kernel
theorem dL_acts_25 : decode cL_acts 25 = .ok (.goto 13, 3) := by decide +kernel
theorem dL_acts_28 : decode cL_acts 28 = .ok (.iconst 1, 1) := by decide +kernel
theorem dL_acts_29 : decode cL_acts 29 = .ok (.iload_n 2, 1) := by decide +kernel
theorem dL_acts_30 : decode cL_acts 30 = .ok (.sipush 512, 3) := by decide +kernel
theorem dL_acts_33 : decode cL_acts 33 = .ok (.idiv, 1) := by decide +kernel
theorem dL_acts_34 : decode cL_acts 34 = .ok (.bipush 60, 2) := by decide +kernel
theorem dL_acts_36 : decode cL_acts 36 = .ok (.irem, 1) := by decide +kernel
theorem dL_acts_37 : decode cL_acts 37 = .ok (.iadd, 1) := by decide +kernel
theorem dL_acts_38 : decode cL_acts 38 = .ok (.istore_n 3, 1) := by decide +kernel
theorem dL_acts_39 : decode cL_acts 39 = .ok (.iload_n 1, 1) := by decide +kernel
theorem dL_acts_40 : decode cL_acts 40 = .ok (.bipush 16, 2) := by decide +kernel
theorem dL_acts_42 : decode cL_acts 42 = .ok (.irem, 1) := by decide +kernel
theorem dL_acts_43 : decode cL_acts 43 = .ok (.tableswitch 234 0 3 #[29, 82, 105, 163], 29) := by decide +kernel
theorem dL_acts_72 : decode cL_acts 72 = .ok (.aload_n 0, 1) := by decide +kernel
theorem dL_acts_73 : decode cL_acts 73 = .ok (.iload_n 2, 1) := by decide +kernel
theorem dL_acts_74 : decode cL_acts 74 = .ok (.iconst 4, 1) := by decide +kernel
theorem dL_acts_75 : decode cL_acts 75 = .ok (.irem, 1) := by decide +kernel
theorem dL_acts_76 : decode cL_acts 76 = .ok (.iload_n 2, 1) := by decide +kernel
theorem dL_acts_77 : decode cL_acts 77 = .ok (.iconst 4, 1) := by decide +kernel
theorem dL_acts_78 : decode cL_acts 78 = .ok (.idiv, 1) := by decide +kernel
theorem dL_acts_79 : decode cL_acts 79 = .ok (.iconst 2, 1) := by decide +kernel
theorem dL_acts_80 : decode cL_acts 80 = .ok (.irem, 1) := by decide +kernel
theorem dL_acts_81 : decode cL_acts 81 = .ok (.ifCond .ne 7, 3) := by decide +kernel
theorem dL_acts_84 : decode cL_acts 84 = .ok (.iconst 1, 1) := by decide +kernel
theorem dL_acts_85 : decode cL_acts 85 = .ok (.goto 4, 3) := by decide +kernel
theorem dL_acts_88 : decode cL_acts 88 = .ok (.iconst 0, 1) := by decide +kernel
theorem dL_acts_89 : decode cL_acts 89 = .ok (.iload_n 2, 1) := by decide +kernel
theorem dL_acts_90 : decode cL_acts 90 = .ok (.bipush 8, 2) := by decide +kernel
theorem dL_acts_92 : decode cL_acts 92 = .ok (.idiv, 1) := by decide +kernel
theorem dL_acts_93 : decode cL_acts 93 = .ok (.iconst 3, 1) := by decide +kernel
theorem dL_acts_94 : decode cL_acts 94 = .ok (.irem, 1) := by decide +kernel
theorem dL_acts_95 : decode cL_acts 95 = .ok (.ifCond .ne 16, 3) := by decide +kernel
theorem dL_acts_98 : decode cL_acts 98 = .ok (.iconst 1, 1) := by decide +kernel
theorem dL_acts_99 : decode cL_acts 99 = .ok (.iload_n 2, 1) := by decide +kernel
theorem dL_acts_100 : decode cL_acts 100 = .ok (.bipush 32, 2) := by decide +kernel
theorem dL_acts_102 : decode cL_acts 102 = .ok (.idiv, 1) := by decide +kernel
theorem dL_acts_103 : decode cL_acts 103 = .ok (.sipush 9999, 3) := by decide +kernel
theorem dL_acts_106 : decode cL_acts 106 = .ok (.irem, 1) := by decide +kernel
theorem dL_acts_107 : decode cL_acts 107 = .ok (.iadd, 1) := by decide +kernel
theorem dL_acts_108 : decode cL_acts 108 = .ok (.goto 13, 3) := by decide +kernel
theorem dL_acts_111 : decode cL_acts 111 = .ok (.iconst 1, 1) := by decide +kernel
theorem dL_acts_112 : decode cL_acts 112 = .ok (.iload_n 2, 1) := by decide +kernel
theorem dL_acts_113 : decode cL_acts 113 = .ok (.bipush 32, 2) := by decide +kernel
theorem dL_acts_115 : decode cL_acts 115 = .ok (.idiv, 1) := by decide +kernel
theorem dL_acts_116 : decode cL_acts 116 = .ok (.sipush 200, 3) := by decide +kernel
theorem dL_acts_119 : decode cL_acts 119 = .ok (.irem, 1) := by decide +kernel
theorem dL_acts_120 : decode cL_acts 120 = .ok (.iadd, 1) := by decide +kernel
theorem dL_acts_121 : decode cL_acts 121 = .ok (.invokevirtual 9, 3) := by decide +kernel
theorem dL_acts_124 : decode cL_acts 124 = .ok (.ireturn, 1) := by decide +kernel
theorem dL_acts_125 : decode cL_acts 125 = .ok (.aload_n 0, 1) := by decide +kernel
theorem dL_acts_126 : decode cL_acts 126 = .ok (.iload_n 2, 1) := by decide +kernel
theorem dL_acts_127 : decode cL_acts 127 = .ok (.bipush 12, 2) := by decide +kernel
theorem dL_acts_129 : decode cL_acts 129 = .ok (.irem, 1) := by decide +kernel
theorem dL_acts_130 : decode cL_acts 130 = .ok (.iload_n 2, 1) := by decide +kernel
theorem dL_acts_131 : decode cL_acts 131 = .ok (.bipush 16, 2) := by decide +kernel
theorem dL_acts_133 : decode cL_acts 133 = .ok (.idiv, 1) := by decide +kernel
theorem dL_acts_134 : decode cL_acts 134 = .ok (.iconst 3, 1) := by decide +kernel
theorem dL_acts_135 : decode cL_acts 135 = .ok (.irem, 1) := by decide +kernel
theorem dL_acts_136 : decode cL_acts 136 = .ok (.ifCond .le 7, 3) := by decide +kernel
theorem dL_acts_139 : decode cL_acts 139 = .ok (.iconst 1, 1) := by decide +kernel
theorem dL_acts_140 : decode cL_acts 140 = .ok (.goto 4, 3) := by decide +kernel
theorem dL_acts_143 : decode cL_acts 143 = .ok (.iconst 0, 1) := by decide +kernel
theorem dL_acts_144 : decode cL_acts 144 = .ok (.invokevirtual 15, 3) := by decide +kernel
theorem dL_acts_147 : decode cL_acts 147 = .ok (.ireturn, 1) := by decide +kernel
theorem dL_acts_148 : decode cL_acts 148 = .ok (.iload_n 2, 1) := by decide +kernel
theorem dL_acts_149 : decode cL_acts 149 = .ok (.iconst 3, 1) := by decide +kernel
theorem dL_acts_150 : decode cL_acts 150 = .ok (.irem, 1) := by decide +kernel
theorem dL_acts_151 : decode cL_acts 151 = .ok (.ifCond .ne 16, 3) := by decide +kernel
theorem dL_acts_154 : decode cL_acts 154 = .ok (.aload_n 0, 1) := by decide +kernel
theorem dL_acts_155 : decode cL_acts 155 = .ok (.iload_n 2, 1) := by decide +kernel
theorem dL_acts_156 : decode cL_acts 156 = .ok (.iconst 4, 1) := by decide +kernel
theorem dL_acts_157 : decode cL_acts 157 = .ok (.idiv, 1) := by decide +kernel
theorem dL_acts_158 : decode cL_acts 158 = .ok (.bipush 12, 2) := by decide +kernel
theorem dL_acts_160 : decode cL_acts 160 = .ok (.irem, 1) := by decide +kernel
theorem dL_acts_161 : decode cL_acts 161 = .ok (.invokevirtual 19, 3) := by decide +kernel
theorem dL_acts_164 : decode cL_acts 164 = .ok (.goto 41, 3) := by decide +kernel
theorem dL_acts_167 : decode cL_acts 167 = .ok (.aload_n 0, 1) := by decide +kernel
theorem dL_acts_168 : decode cL_acts 168 = .ok (.iload_n 2, 1) := by decide +kernel
theorem dL_acts_169 : decode cL_acts 169 = .ok (.bipush 12, 2) := by decide +kernel
theorem dL_acts_171 : decode cL_acts 171 = .ok (.irem, 1) := by decide +kernel
theorem dL_acts_172 : decode cL_acts 172 = .ok (.iload_n 2, 1) := by decide +kernel
theorem dL_acts_173 : decode cL_acts 173 = .ok (.bipush 16, 2) := by decide +kernel
theorem dL_acts_175 : decode cL_acts 175 = .ok (.idiv, 1) := by decide +kernel
theorem dL_acts_176 : decode cL_acts 176 = .ok (.iconst 3, 1) := by decide +kernel
theorem dL_acts_177 : decode cL_acts 177 = .ok (.irem, 1) := by decide +kernel
theorem dL_acts_178 : decode cL_acts 178 = .ok (.iload_n 3, 1) := by decide +kernel
theorem dL_acts_179 : decode cL_acts 179 = .ok (.iload_n 2, 1) := by decide +kernel
theorem dL_acts_180 : decode cL_acts 180 = .ok (.bipush 32, 2) := by decide +kernel
theorem dL_acts_182 : decode cL_acts 182 = .ok (.idiv, 1) := by decide +kernel
theorem dL_acts_183 : decode cL_acts 183 = .ok (.bipush 20, 2) := by decide +kernel
theorem dL_acts_185 : decode cL_acts 185 = .ok (.irem, 1) := by decide +kernel
theorem dL_acts_186 : decode cL_acts 186 = .ok (.iload_n 2, 1) := by decide +kernel
theorem dL_acts_187 : decode cL_acts 187 = .ok (.bipush 32, 2) := by decide +kernel
theorem dL_acts_189 : decode cL_acts 189 = .ok (.idiv, 1) := by decide +kernel
theorem dL_acts_190 : decode cL_acts 190 = .ok (.bipush 20, 2) := by decide +kernel
theorem dL_acts_192 : decode cL_acts 192 = .ok (.irem, 1) := by decide +kernel
theorem dL_acts_193 : decode cL_acts 193 = .ok (.iload_n 2, 1) := by decide +kernel
theorem dL_acts_194 : decode cL_acts 194 = .ok (.sipush 512, 3) := by decide +kernel
theorem dL_acts_197 : decode cL_acts 197 = .ok (.idiv, 1) := by decide +kernel
theorem dL_acts_198 : decode cL_acts 198 = .ok (.bipush 90, 2) := by decide +kernel
theorem dL_acts_200 : decode cL_acts 200 = .ok (.irem, 1) := by decide +kernel
theorem dL_acts_201 : decode cL_acts 201 = .ok (.iadd, 1) := by decide +kernel
theorem dL_acts_202 : decode cL_acts 202 = .ok (.invokevirtual 23, 3) := by decide +kernel
theorem dL_acts_205 : decode cL_acts 205 = .ok (.ireturn, 1) := by decide +kernel
theorem dL_acts_206 : decode cL_acts 206 = .ok (.aload_n 0, 1) := by decide +kernel
theorem dL_acts_207 : decode cL_acts 207 = .ok (.iload_n 2, 1) := by decide +kernel
theorem dL_acts_208 : decode cL_acts 208 = .ok (.iconst 5, 1) := by decide +kernel
theorem dL_acts_209 : decode cL_acts 209 = .ok (.irem, 1) := by decide +kernel
theorem dL_acts_210 : decode cL_acts 210 = .ok (.iload_n 2, 1) := by decide +kernel
theorem dL_acts_211 : decode cL_acts 211 = .ok (.iconst 5, 1) := by decide +kernel
theorem dL_acts_212 : decode cL_acts 212 = .ok (.irem, 1) := by decide +kernel
theorem dL_acts_213 : decode cL_acts 213 = .ok (.iconst 3, 1) := by decide +kernel
theorem dL_acts_214 : decode cL_acts 214 = .ok (.if_icmp .ne 15, 3) := by decide +kernel
theorem dL_acts_217 : decode cL_acts 217 = .ok (.iconst 1, 1) := by decide +kernel
theorem dL_acts_218 : decode cL_acts 218 = .ok (.iload_n 2, 1) := by decide +kernel
theorem dL_acts_219 : decode cL_acts 219 = .ok (.bipush 8, 2) := by decide +kernel
theorem dL_acts_221 : decode cL_acts 221 = .ok (.idiv, 1) := by decide +kernel
theorem dL_acts_222 : decode cL_acts 222 = .ok (.bipush 7, 2) := by decide +kernel
theorem dL_acts_224 : decode cL_acts 224 = .ok (.irem, 1) := by decide +kernel
theorem dL_acts_225 : decode cL_acts 225 = .ok (.iadd, 1) := by decide +kernel
theorem dL_acts_226 : decode cL_acts 226 = .ok (.goto 47, 3) := by decide +kernel
theorem dL_acts_229 : decode cL_acts 229 = .ok (.iload_n 2, 1) := by decide +kernel
theorem dL_acts_230 : decode cL_acts 230 = .ok (.iconst 5, 1) := by decide +kernel
theorem dL_acts_231 : decode cL_acts 231 = .ok (.irem, 1) := by decide +kernel
theorem dL_acts_232 : decode cL_acts 232 = .ok (.iconst 2, 1) := by decide +kernel
theorem dL_acts_233 : decode cL_acts 233 = .ok (.if_icmp .ne 15, 3) := by decide +kernel
theorem dL_acts_236 : decode cL_acts 236 = .ok (.iconst 1, 1) := by decide +kernel
theorem dL_acts_237 : decode cL_acts 237 = .ok (.iload_n 2, 1) := by decide +kernel
theorem dL_acts_238 : decode cL_acts 238 = .ok (.bipush 8, 2) := by decide +kernel
theorem dL_acts_240 : decode cL_acts 240 = .ok (.idiv, 1) := by decide +kernel
theorem dL_acts_241 : decode cL_acts 241 = .ok (.bipush 30, 2) := by decide +kernel
theorem dL_acts_243 : decode cL_acts 243 = .ok (.irem, 1) := by decide +kernel
theorem dL_acts_244 : decode cL_acts 244 = .ok (.iadd, 1) := by decide +kernel
theorem dL_acts_245 : decode cL_acts 245 = .ok (.goto 28, 3) := by decide +kernel
theorem dL_acts_248 : decode cL_acts 248 = .ok (.iload_n 2, 1) := by decide +kernel
theorem dL_acts_249 : decode cL_acts 249 = .ok (.iconst 5, 1) := by decide +kernel
theorem dL_acts_250 : decode cL_acts 250 = .ok (.irem, 1) := by decide +kernel
theorem dL_acts_251 : decode cL_acts 251 = .ok (.ifCond .ne 13, 3) := by decide +kernel
theorem dL_acts_254 : decode cL_acts 254 = .ok (.iload_n 2, 1) := by decide +kernel
theorem dL_acts_255 : decode cL_acts 255 = .ok (.bipush 8, 2) := by decide +kernel
theorem dL_acts_257 : decode cL_acts 257 = .ok (.idiv, 1) := by decide +kernel
theorem dL_acts_258 : decode cL_acts 258 = .ok (.bipush 80, 2) := by decide +kernel
theorem dL_acts_260 : decode cL_acts 260 = .ok (.irem, 1) := by decide +kernel
theorem dL_acts_261 : decode cL_acts 261 = .ok (.goto 12, 3) := by decide +kernel
theorem dL_acts_264 : decode cL_acts 264 = .ok (.iconst 1, 1) := by decide +kernel
theorem dL_acts_265 : decode cL_acts 265 = .ok (.iload_n 2, 1) := by decide +kernel
theorem dL_acts_266 : decode cL_acts 266 = .ok (.bipush 8, 2) := by decide +kernel
theorem dL_acts_268 : decode cL_acts 268 = .ok (.idiv, 1) := by decide +kernel
theorem dL_acts_269 : decode cL_acts 269 = .ok (.bipush 6, 2) := by decide +kernel
theorem dL_acts_271 : decode cL_acts 271 = .ok (.irem, 1) := by decide +kernel
theorem dL_acts_272 : decode cL_acts 272 = .ok (.iadd, 1) := by decide +kernel
theorem dL_acts_273 : decode cL_acts 273 = .ok (.invokevirtual 27, 3) := by decide +kernel
theorem dL_acts_276 : decode cL_acts 276 = .ok (.ireturn, 1) := by decide +kernel
theorem dL_acts_277 : decode cL_acts 277 = .ok (.aload_n 0, 1) := by decide +kernel
theorem dL_acts_278 : decode cL_acts 278 = .ok (.iload_n 2, 1) := by decide +kernel
theorem dL_acts_279 : decode cL_acts 279 = .ok (.bipush 9, 2) := by decide +kernel
theorem dL_acts_281 : decode cL_acts 281 = .ok (.irem, 1) := by decide +kernel
theorem dL_acts_282 : decode cL_acts 282 = .ok (.iload_n 3, 1) := by decide +kernel
theorem dL_acts_283 : decode cL_acts 283 = .ok (.invokevirtual 31, 3) := by decide +kernel
theorem dL_acts_286 : decode cL_acts 286 = .ok (.ireturn, 1) := by decide +kernel
theorem dL_hangs_0 : decode cL_hangs 0 = .ok (.iconst 0, 1) := by decide +kernel
theorem dL_hangs_1 : decode cL_hangs 1 = .ok (.istore_n 2, 1) := by decide +kernel
theorem dL_hangs_2 : decode cL_hangs 2 = .ok (.iconst 0, 1) := by decide +kernel
theorem dL_hangs_3 : decode cL_hangs 3 = .ok (.istore_n 3, 1) := by decide +kernel
theorem dL_hangs_4 : decode cL_hangs 4 = .ok (.iconst 0, 1) := by decide +kernel
theorem dL_hangs_5 : decode cL_hangs 5 = .ok (.istore 4, 2) := by decide +kernel
theorem dL_hangs_7 : decode cL_hangs 7 = .ok (.bipush (-4), 2) := by decide +kernel
theorem dL_hangs_9 : decode cL_hangs 9 = .ok (.istore 5, 2) := by decide +kernel
theorem dL_hangs_11 : decode cL_hangs 11 = .ok (.iconst (-1), 1) := by decide +kernel
theorem dL_hangs_12 : decode cL_hangs 12 = .ok (.istore 6, 2) := by decide +kernel
theorem dL_hangs_14 : decode cL_hangs 14 = .ok (.iconst 1, 1) := by decide +kernel
theorem dL_hangs_15 : decode cL_hangs 15 = .ok (.istore 7, 2) := by decide +kernel
theorem dL_hangs_17 : decode cL_hangs 17 = .ok (.iconst 0, 1) := by decide +kernel
theorem dL_hangs_18 : decode cL_hangs 18 = .ok (.istore 8, 2) := by decide +kernel
theorem dL_hangs_20 : decode cL_hangs 20 = .ok (.iload 8, 2) := by decide +kernel
theorem dL_hangs_22 : decode cL_hangs 22 = .ok (.bipush 12, 2) := by decide +kernel
theorem dL_hangs_24 : decode cL_hangs 24 = .ok (.if_icmp .ge 469, 3) := by decide +kernel
theorem dL_hangs_27 : decode cL_hangs 27 = .ok (.iload 7, 2) := by decide +kernel
theorem dL_hangs_29 : decode cL_hangs 29 = .ok (.ifCond .eq 464, 3) := by decide +kernel
theorem dL_hangs_32 : decode cL_hangs 32 = .ok (.aload_n 0, 1) := by decide +kernel
theorem dL_hangs_33 : decode cL_hangs 33 = .ok (.iload 8, 2) := by decide +kernel
theorem dL_hangs_35 : decode cL_hangs 35 = .ok (.iconst 0, 1) := by decide +kernel
theorem dL_hangs_36 : decode cL_hangs 36 = .ok (.invokevirtual 34, 3) := by decide +kernel
theorem dL_hangs_39 : decode cL_hangs 39 = .ok (.istore 9, 2) := by decide +kernel
theorem dL_hangs_41 : decode cL_hangs 41 = .ok (.aload_n 0, 1) := by decide +kernel
theorem dL_hangs_42 : decode cL_hangs 42 = .ok (.iload 8, 2) := by decide +kernel
theorem dL_hangs_44 : decode cL_hangs 44 = .ok (.iload_n 1, 1) := by decide +kernel
theorem dL_hangs_45 : decode cL_hangs 45 = .ok (.invokevirtual 37, 3) := by decide +kernel
theorem dL_hangs_48 : decode cL_hangs 48 = .ok (.istore 10, 2) := by decide +kernel
theorem dL_hangs_50 : decode cL_hangs 50 = .ok (.iload 9, 2) := by decide +kernel
theorem dL_hangs_52 : decode cL_hangs 52 = .ok (.ifCond .ge 46, 3) := by decide +kernel
theorem dL_hangs_55 : decode cL_hangs 55 = .ok (.iload 9, 2) := by decide +kernel
theorem dL_hangs_57 : decode cL_hangs 57 = .ok (.iconst (-1), 1) := by decide +kernel
theorem dL_hangs_58 : decode cL_hangs 58 = .ok (.if_icmp .ne 34, 3) := by decide +kernel
theorem dL_hangs_61 : decode cL_hangs 61 = .ok (.iload 10, 2) := by decide +kernel
theorem dL_hangs_63 : decode cL_hangs 63 = .ok (.iconst 1, 1) := by decide +kernel
theorem dL_hangs_64 : decode cL_hangs 64 = .ok (.if_icmp .ne 28, 3) := by decide +kernel
theorem dL_hangs_67 : decode cL_hangs 67 = .ok (.aload_n 0, 1) := by decide +kernel
theorem dL_hangs_68 : decode cL_hangs 68 = .ok (.iload 8, 2) := by decide +kernel
theorem dL_hangs_70 : decode cL_hangs 70 = .ok (.iconst 1, 1) := by decide +kernel
theorem dL_hangs_71 : decode cL_hangs 71 = .ok (.invokevirtual 15, 3) := by decide +kernel
theorem dL_hangs_74 : decode cL_hangs 74 = .ok (.iconst (-1), 1) := by decide +kernel
theorem dL_hangs_75 : decode cL_hangs 75 = .ok (.if_icmp .ne 17, 3) := by decide +kernel
theorem dL_hangs_78 : decode cL_hangs 78 = .ok (.aload_n 0, 1) := by decide +kernel
theorem dL_hangs_79 : decode cL_hangs 79 = .ok (.iload 8, 2) := by decide +kernel
theorem dL_hangs_81 : decode cL_hangs 81 = .ok (.invokevirtual 19, 3) := by decide +kernel
theorem dL_hangs_84 : decode cL_hangs 84 = .ok (.iconst (-1), 1) := by decide +kernel
theorem dL_hangs_85 : decode cL_hangs 85 = .ok (.if_icmp .ne 7, 3) := by decide +kernel
theorem dL_hangs_88 : decode cL_hangs 88 = .ok (.iconst 1, 1) := by decide +kernel
theorem dL_hangs_89 : decode cL_hangs 89 = .ok (.goto 4, 3) := by decide +kernel
theorem dL_hangs_92 : decode cL_hangs 92 = .ok (.iconst 0, 1) := by decide +kernel
theorem dL_hangs_93 : decode cL_hangs 93 = .ok (.istore 7, 2) := by decide +kernel
theorem dL_hangs_95 : decode cL_hangs 95 = .ok (.goto 392, 3) := by decide +kernel
theorem dL_hangs_98 : decode cL_hangs 98 = .ok (.aload_n 0, 1) := by decide +kernel
theorem dL_hangs_99 : decode cL_hangs 99 = .ok (.iload 8, 2) := by decide +kernel
theorem dL_hangs_101 : decode cL_hangs 101 = .ok (.iconst 3, 1) := by decide +kernel
theorem dL_hangs_102 : decode cL_hangs 102 = .ok (.invokevirtual 34, 3) := by decide +kernel
theorem dL_hangs_105 : decode cL_hangs 105 = .ok (.istore 11, 2) := by decide +kernel
theorem dL_hangs_107 : decode cL_hangs 107 = .ok (.aload_n 0, 1) := by decide +kernel
theorem dL_hangs_108 : decode cL_hangs 108 = .ok (.iload 8, 2) := by decide +kernel
theorem dL_hangs_110 : decode cL_hangs 110 = .ok (.iconst 3, 1) := by decide +kernel
theorem dL_hangs_111 : decode cL_hangs 111 = .ok (.idiv, 1) := by decide +kernel
theorem dL_hangs_112 : decode cL_hangs 112 = .ok (.iconst 0, 1) := by decide +kernel
theorem dL_hangs_113 : decode cL_hangs 113 = .ok (.invokevirtual 40, 3) := by decide +kernel
theorem dL_hangs_116 : decode cL_hangs 116 = .ok (.aload_n 0, 1) := by decide +kernel
theorem dL_hangs_117 : decode cL_hangs 117 = .ok (.iload 8, 2) := by decide +kernel
theorem dL_hangs_119 : decode cL_hangs 119 = .ok (.bipush 10, 2) := by decide +kernel
theorem dL_hangs_121 : decode cL_hangs 121 = .ok (.invokevirtual 34, 3) := by decide +kernel
theorem dL_hangs_124 : decode cL_hangs 124 = .ok (.if_icmp .le 24, 3) := by decide +kernel
theorem dL_hangs_127 : decode cL_hangs 127 = .ok (.aload_n 0, 1) := by decide +kernel
theorem dL_hangs_128 : decode cL_hangs 128 = .ok (.iload 8, 2) := by decide +kernel
theorem dL_hangs_130 : decode cL_hangs 130 = .ok (.iconst 3, 1) := by decide +kernel
theorem dL_hangs_131 : decode cL_hangs 131 = .ok (.idiv, 1) := by decide +kernel
theorem dL_hangs_132 : decode cL_hangs 132 = .ok (.iconst 0, 1) := by decide +kernel
theorem dL_hangs_133 : decode cL_hangs 133 = .ok (.invokevirtual 40, 3) := by decide +kernel
theorem dL_hangs_136 : decode cL_hangs 136 = .ok (.aload_n 0, 1) := by decide +kernel
theorem dL_hangs_137 : decode cL_hangs 137 = .ok (.iload 8, 2) := by decide +kernel
theorem dL_hangs_139 : decode cL_hangs 139 = .ok (.bipush 10, 2) := by decide +kernel
theorem dL_hangs_141 : decode cL_hangs 141 = .ok (.invokevirtual 34, 3) := by decide +kernel
theorem dL_hangs_144 : decode cL_hangs 144 = .ok (.isub, 1) := by decide +kernel
theorem dL_hangs_145 : decode cL_hangs 145 = .ok (.goto 21, 3) := by decide +kernel
theorem dL_hangs_148 : decode cL_hangs 148 = .ok (.aload_n 0, 1) := by decide +kernel
theorem dL_hangs_149 : decode cL_hangs 149 = .ok (.iload 8, 2) := by decide +kernel
theorem dL_hangs_151 : decode cL_hangs 151 = .ok (.bipush 10, 2) := by decide +kernel
theorem dL_hangs_153 : decode cL_hangs 153 = .ok (.invokevirtual 34, 3) := by decide +kernel
theorem dL_hangs_156 : decode cL_hangs 156 = .ok (.aload_n 0, 1) := by decide +kernel
theorem dL_hangs_157 : decode cL_hangs 157 = .ok (.iload 8, 2) := by decide +kernel
theorem dL_hangs_159 : decode cL_hangs 159 = .ok (.iconst 3, 1) := by decide +kernel
theorem dL_hangs_160 : decode cL_hangs 160 = .ok (.idiv, 1) := by decide +kernel
theorem dL_hangs_161 : decode cL_hangs 161 = .ok (.iconst 0, 1) := by decide +kernel
theorem dL_hangs_162 : decode cL_hangs 162 = .ok (.invokevirtual 40, 3) := by decide +kernel
theorem dL_hangs_165 : decode cL_hangs 165 = .ok (.isub, 1) := by decide +kernel
theorem dL_hangs_166 : decode cL_hangs 166 = .ok (.aload_n 0, 1) := by decide +kernel
theorem dL_hangs_167 : decode cL_hangs 167 = .ok (.iload 8, 2) := by decide +kernel
theorem dL_hangs_169 : decode cL_hangs 169 = .ok (.bipush 10, 2) := by decide +kernel
theorem dL_hangs_171 : decode cL_hangs 171 = .ok (.invokevirtual 34, 3) := by decide +kernel
theorem dL_hangs_174 : decode cL_hangs 174 = .ok (.iconst 2, 1) := by decide +kernel
theorem dL_hangs_175 : decode cL_hangs 175 = .ok (.idiv, 1) := by decide +kernel
theorem dL_hangs_176 : decode cL_hangs 176 = .ok (.if_icmp .le 7, 3) := by decide +kernel
theorem dL_hangs_179 : decode cL_hangs 179 = .ok (.iconst 1, 1) := by decide +kernel
theorem dL_hangs_180 : decode cL_hangs 180 = .ok (.goto 4, 3) := by decide +kernel
theorem dL_hangs_183 : decode cL_hangs 183 = .ok (.iconst 0, 1) := by decide +kernel
theorem dL_hangs_184 : decode cL_hangs 184 = .ok (.istore 12, 2) := by decide +kernel
theorem dL_hangs_186 : decode cL_hangs 186 = .ok (.aload_n 0, 1) := by decide +kernel
theorem dL_hangs_187 : decode cL_hangs 187 = .ok (.iload 8, 2) := by decide +kernel
theorem dL_hangs_189 : decode cL_hangs 189 = .ok (.iconst 5, 1) := by decide +kernel
theorem dL_hangs_190 : decode cL_hangs 190 = .ok (.invokevirtual 34, 3) := by decide +kernel
theorem dL_hangs_193 : decode cL_hangs 193 = .ok (.aload_n 0, 1) := by decide +kernel
theorem dL_hangs_194 : decode cL_hangs 194 = .ok (.bipush 12, 2) := by decide +kernel
theorem dL_hangs_196 : decode cL_hangs 196 = .ok (.invokevirtual 43, 3) := by decide +kernel
theorem dL_hangs_199 : decode cL_hangs 199 = .ok (.if_icmp .le 7, 3) := by decide +kernel
theorem dL_hangs_202 : decode cL_hangs 202 = .ok (.iconst 1, 1) := by decide +kernel
theorem dL_hangs_203 : decode cL_hangs 203 = .ok (.goto 4, 3) := by decide +kernel
theorem dL_hangs_206 : decode cL_hangs 206 = .ok (.iconst 0, 1) := by decide +kernel
theorem dL_hangs_207 : decode cL_hangs 207 = .ok (.istore 13, 2) := by decide +kernel
theorem dL_hangs_209 : decode cL_hangs 209 = .ok (.iinc 2 1, 3) := by decide +kernel
theorem dL_hangs_212 : decode cL_hangs 212 = .ok (.iload_n 3, 1) := by decide +kernel
theorem dL_hangs_213 : decode cL_hangs 213 = .ok (.aload_n 0, 1) := by decide +kernel
theorem dL_hangs_214 : decode cL_hangs 214 = .ok (.iload 8, 2) := by decide +kernel
theorem dL_hangs_216 : decode cL_hangs 216 = .ok (.bipush 7, 2) := by decide +kernel
theorem dL_hangs_218 : decode cL_hangs 218 = .ok (.invokevirtual 34, 3) := by decide +kernel
theorem dL_hangs_221 : decode cL_hangs 221 = .ok (.iadd, 1) := by decide +kernel
theorem dL_hangs_222 : decode cL_hangs 222 = .ok (.istore_n 3, 1) := by decide +kernel
theorem dL_hangs_223 : decode cL_hangs 223 = .ok (.iload 4, 2) := by decide +kernel
theorem dL_hangs_225 : decode cL_hangs 225 = .ok (.aload_n 0, 1) := by decide +kernel
theorem dL_hangs_226 : decode cL_hangs 226 = .ok (.iload 8, 2) := by decide +kernel
theorem dL_hangs_228 : decode cL_hangs 228 = .ok (.bipush 6, 2) := by decide +kernel
theorem dL_hangs_230 : decode cL_hangs 230 = .ok (.invokevirtual 34, 3) := by decide +kernel
theorem dL_hangs_233 : decode cL_hangs 233 = .ok (.iadd, 1) := by decide +kernel
theorem dL_hangs_234 : decode cL_hangs 234 = .ok (.istore 4, 2) := by decide +kernel
theorem dL_hangs_236 : decode cL_hangs 236 = .ok (.iload 9, 2) := by decide +kernel
theorem dL_hangs_238 : decode cL_hangs 238 = .ok (.iconst 3, 1) := by decide +kernel
theorem dL_hangs_239 : decode cL_hangs 239 = .ok (.if_icmp .ge 207, 3) := by decide +kernel
theorem dL_hangs_242 : decode cL_hangs 242 = .ok (.aload_n 0, 1) := by decide +kernel
theorem dL_hangs_243 : decode cL_hangs 243 = .ok (.iload 8, 2) := by decide +kernel
theorem dL_hangs_245 : decode cL_hangs 245 = .ok (.iconst 1, 1) := by decide +kernel
theorem dL_hangs_246 : decode cL_hangs 246 = .ok (.invokevirtual 34, 3) := by decide +kernel
theorem dL_hangs_249 : decode cL_hangs 249 = .ok (.aload_n 0, 1) := by decide +kernel
theorem dL_hangs_250 : decode cL_hangs 250 = .ok (.iload 8, 2) := by decide +kernel
theorem dL_hangs_252 : decode cL_hangs 252 = .ok (.iconst 2, 1) := by decide +kernel
theorem dL_hangs_253 : decode cL_hangs 253 = .ok (.invokevirtual 34, 3) := by decide +kernel
theorem dL_hangs_256 : decode cL_hangs 256 = .ok (.if_icmp .gt 190, 3) := by decide +kernel
theorem dL_hangs_259 : decode cL_hangs 259 = .ok (.aload_n 0, 1) := by decide +kernel
theorem dL_hangs_260 : decode cL_hangs 260 = .ok (.iload 8, 2) := by decide +kernel
theorem dL_hangs_262 : decode cL_hangs 262 = .ok (.bipush 6, 2) := by decide +kernel
theorem dL_hangs_264 : decode cL_hangs 264 = .ok (.invokevirtual 34, 3) := by decide +kernel
theorem dL_hangs_267 : decode cL_hangs 267 = .ok (.iload 12, 2) := by decide +kernel
theorem dL_hangs_269 : decode cL_hangs 269 = .ok (.ifCond .ne 8, 3) := by decide +kernel
theorem dL_hangs_272 : decode cL_hangs 272 = .ok (.iload 13, 2) := by decide +kernel
theorem dL_hangs_274 : decode cL_hangs 274 = .ok (.ifCond .eq 7, 3) := by decide +kernel
theorem dL_hangs_277 : decode cL_hangs 277 = .ok (.iconst 1, 1) := by decide +kernel
theorem dL_hangs_278 : decode cL_hangs 278 = .ok (.goto 4, 3) := by decide +kernel
theorem dL_hangs_281 : decode cL_hangs 281 = .ok (.iconst 0, 1) := by decide +kernel
theorem dL_hangs_282 : decode cL_hangs 282 = .ok (.if_icmp .ne 164, 3) := by decide +kernel
theorem dL_hangs_285 : decode cL_hangs 285 = .ok (.iload 10, 2) := by decide +kernel
theorem dL_hangs_287 : decode cL_hangs 287 = .ok (.iload_n 1, 1) := by decide +kernel
theorem dL_hangs_288 : decode cL_hangs 288 = .ok (.aload_n 0, 1) := by decide +kernel
theorem dL_hangs_289 : decode cL_hangs 289 = .ok (.iload 8, 2) := by decide +kernel
theorem dL_hangs_291 : decode cL_hangs 291 = .ok (.iconst 1, 1) := by decide +kernel
theorem dL_hangs_292 : decode cL_hangs 292 = .ok (.invokevirtual 34, 3) := by decide +kernel
theorem dL_hangs_295 : decode cL_hangs 295 = .ok (.if_icmp .ge 7, 3) := by decide +kernel
theorem dL_hangs_298 : decode cL_hangs 298 = .ok (.iconst 2, 1) := by decide +kernel
theorem dL_hangs_299 : decode cL_hangs 299 = .ok (.goto 37, 3) := by decide +kernel
theorem dL_hangs_302 : decode cL_hangs 302 = .ok (.iload_n 1, 1) := by decide +kernel
theorem dL_hangs_303 : decode cL_hangs 303 = .ok (.aload_n 0, 1) := by decide +kernel
theorem dL_hangs_304 : decode cL_hangs 304 = .ok (.iload 8, 2) := by decide +kernel
theorem dL_hangs_306 : decode cL_hangs 306 = .ok (.iconst 2, 1) := by decide +kernel
theorem dL_hangs_307 : decode cL_hangs 307 = .ok (.invokevirtual 34, 3) := by decide +kernel
theorem dL_hangs_310 : decode cL_hangs 310 = .ok (.if_icmp .le 7, 3) := by decide +kernel
theorem dL_hangs_313 : decode cL_hangs 313 = .ok (.iconst 3, 1) := by decide +kernel
theorem dL_hangs_314 : decode cL_hangs 314 = .ok (.goto 22, 3) := by decide +kernel
theorem dL_hangs_317 : decode cL_hangs 317 = .ok (.iload 12, 2) := by decide +kernel
theorem dL_hangs_319 : decode cL_hangs 319 = .ok (.ifCond .eq 7, 3) := by decide +kernel
theorem dL_hangs_322 : decode cL_hangs 322 = .ok (.iconst 4, 1) := by decide +kernel
theorem dL_hangs_323 : decode cL_hangs 323 = .ok (.goto 13, 3) := by decide +kernel
theorem dL_hangs_326 : decode cL_hangs 326 = .ok (.iload 13, 2) := by decide +kernel
theorem dL_hangs_328 : decode cL_hangs 328 = .ok (.ifCond .eq 7, 3) := by decide +kernel
theorem dL_hangs_331 : decode cL_hangs 331 = .ok (.iconst 5, 1) := by decide +kernel
theorem dL_hangs_332 : decode cL_hangs 332 = .ok (.goto 4, 3) := by decide +kernel
theorem dL_hangs_335 : decode cL_hangs 335 = .ok (.iconst 0, 1) := by decide +kernel
theorem dL_hangs_336 : decode cL_hangs 336 = .ok (.if_icmp .ne 110, 3) := by decide +kernel
theorem dL_hangs_339 : decode cL_hangs 339 = .ok (.aload_n 0, 1) := by decide +kernel
theorem dL_hangs_340 : decode cL_hangs 340 = .ok (.iload 8, 2) := by decide +kernel
theorem dL_hangs_342 : decode cL_hangs 342 = .ok (.bipush 9, 2) := by decide +kernel
theorem dL_hangs_344 : decode cL_hangs 344 = .ok (.invokevirtual 34, 3) := by decide +kernel
theorem dL_hangs_347 : decode cL_hangs 347 = .ok (.aload_n 0, 1) := by decide +kernel
theorem dL_hangs_348 : decode cL_hangs 348 = .ok (.iload 8, 2) := by decide +kernel
theorem dL_hangs_350 : decode cL_hangs 350 = .ok (.iconst 5, 1) := by decide +kernel
theorem dL_hangs_351 : decode cL_hangs 351 = .ok (.invokevirtual 34, 3) := by decide +kernel
theorem dL_hangs_354 : decode cL_hangs 354 = .ok (.if_icmp .gt 92, 3) := by decide +kernel
theorem dL_hangs_357 : decode cL_hangs 357 = .ok (.aload_n 0, 1) := by decide +kernel
theorem dL_hangs_358 : decode cL_hangs 358 = .ok (.iload 8, 2) := by decide +kernel
theorem dL_hangs_360 : decode cL_hangs 360 = .ok (.bipush 9, 2) := by decide +kernel
theorem dL_hangs_362 : decode cL_hangs 362 = .ok (.invokevirtual 34, 3) := by decide +kernel
theorem dL_hangs_365 : decode cL_hangs 365 = .ok (.ifCond .lt 81, 3) := by decide +kernel
theorem dL_hangs_368 : decode cL_hangs 368 = .ok (.aload_n 0, 1) := by decide +kernel
theorem dL_hangs_369 : decode cL_hangs 369 = .ok (.iload 8, 2) := by decide +kernel
theorem dL_hangs_371 : decode cL_hangs 371 = .ok (.bipush 8, 2) := by decide +kernel
theorem dL_hangs_373 : decode cL_hangs 373 = .ok (.invokevirtual 34, 3) := by decide +kernel
theorem dL_hangs_376 : decode cL_hangs 376 = .ok (.aload_n 0, 1) := by decide +kernel
theorem dL_hangs_377 : decode cL_hangs 377 = .ok (.iload 8, 2) := by decide +kernel
theorem dL_hangs_379 : decode cL_hangs 379 = .ok (.iconst 5, 1) := by decide +kernel
theorem dL_hangs_380 : decode cL_hangs 380 = .ok (.invokevirtual 34, 3) := by decide +kernel
theorem dL_hangs_383 : decode cL_hangs 383 = .ok (.if_icmp .gt 63, 3) := by decide +kernel
theorem dL_hangs_386 : decode cL_hangs 386 = .ok (.iload 11, 2) := by decide +kernel
theorem dL_hangs_388 : decode cL_hangs 388 = .ok (.sipush 9999, 3) := by decide +kernel
theorem dL_hangs_391 : decode cL_hangs 391 = .ok (.if_icmp .gt 55, 3) := by decide +kernel
theorem dL_hangs_394 : decode cL_hangs 394 = .ok (.aload_n 0, 1) := by decide +kernel
theorem dL_hangs_395 : decode cL_hangs 395 = .ok (.iload 8, 2) := by decide +kernel
theorem dL_hangs_397 : decode cL_hangs 397 = .ok (.iconst 3, 1) := by decide +kernel
theorem dL_hangs_398 : decode cL_hangs 398 = .ok (.idiv, 1) := by decide +kernel
theorem dL_hangs_399 : decode cL_hangs 399 = .ok (.iconst 0, 1) := by decide +kernel
theorem dL_hangs_400 : decode cL_hangs 400 = .ok (.invokevirtual 40, 3) := by decide +kernel
theorem dL_hangs_403 : decode cL_hangs 403 = .ok (.aload_n 0, 1) := by decide +kernel
theorem dL_hangs_404 : decode cL_hangs 404 = .ok (.iload 8, 2) := by decide +kernel
theorem dL_hangs_406 : decode cL_hangs 406 = .ok (.bipush 10, 2) := by decide +kernel
theorem dL_hangs_408 : decode cL_hangs 408 = .ok (.invokevirtual 34, 3) := by decide +kernel
theorem dL_hangs_411 : decode cL_hangs 411 = .ok (.if_icmp .ne 31, 3) := by decide +kernel
theorem dL_hangs_414 : decode cL_hangs 414 = .ok (.iload 8, 2) := by decide +kernel
theorem dL_hangs_416 : decode cL_hangs 416 = .ok (.iconst 3, 1) := by decide +kernel
theorem dL_hangs_417 : decode cL_hangs 417 = .ok (.irem, 1) := by decide +kernel
theorem dL_hangs_418 : decode cL_hangs 418 = .ok (.iconst 1, 1) := by decide +kernel
theorem dL_hangs_419 : decode cL_hangs 419 = .ok (.if_icmp .eq 23, 3) := by decide +kernel
theorem dL_hangs_422 : decode cL_hangs 422 = .ok (.aload_n 0, 1) := by decide +kernel
theorem dL_hangs_423 : decode cL_hangs 423 = .ok (.iload 8, 2) := by decide +kernel
theorem dL_hangs_425 : decode cL_hangs 425 = .ok (.iconst 4, 1) := by decide +kernel
theorem dL_hangs_426 : decode cL_hangs 426 = .ok (.invokevirtual 34, 3) := by decide +kernel
theorem dL_hangs_429 : decode cL_hangs 429 = .ok (.aload_n 0, 1) := by decide +kernel
theorem dL_hangs_430 : decode cL_hangs 430 = .ok (.iload 8, 2) := by decide +kernel
theorem dL_hangs_432 : decode cL_hangs 432 = .ok (.iload 9, 2) := by decide +kernel
theorem dL_hangs_434 : decode cL_hangs 434 = .ok (.iload 11, 2) := by decide +kernel
theorem dL_hangs_436 : decode cL_hangs 436 = .ok (.invokevirtual 46, 3) := by decide +kernel
theorem dL_hangs_439 : decode cL_hangs 439 = .ok (.if_icmp .ne 7, 3) := by decide +kernel
theorem dL_hangs_442 : decode cL_hangs 442 = .ok (.iconst 1, 1) := by decide +kernel
theorem dL_hangs_443 : decode cL_hangs 443 = .ok (.goto 4, 3) := by decide +kernel
theorem dL_hangs_446 : decode cL_hangs 446 = .ok (.iconst 0, 1) := by decide +kernel
theorem dL_hangs_447 : decode cL_hangs 447 = .ok (.istore 7, 2) := by decide +kernel
theorem dL_hangs_449 : decode cL_hangs 449 = .ok (.aload_n 0, 1) := by decide +kernel
theorem dL_hangs_450 : decode cL_hangs 450 = .ok (.iload 8, 2) := by decide +kernel
theorem dL_hangs_452 : decode cL_hangs 452 = .ok (.bipush 7, 2) := by decide +kernel
theorem dL_hangs_454 : decode cL_hangs 454 = .ok (.invokevirtual 34, 3) := by decide +kernel
theorem dL_hangs_457 : decode cL_hangs 457 = .ok (.ifCond .ne 30, 3) := by decide +kernel
theorem dL_hangs_460 : decode cL_hangs 460 = .ok (.aload_n 0, 1) := by decide +kernel
theorem dL_hangs_461 : decode cL_hangs 461 = .ok (.iload 8, 2) := by decide +kernel
theorem dL_hangs_463 : decode cL_hangs 463 = .ok (.bipush 9, 2) := by decide +kernel
theorem dL_hangs_465 : decode cL_hangs 465 = .ok (.invokevirtual 34, 3) := by decide +kernel
theorem dL_hangs_468 : decode cL_hangs 468 = .ok (.iload 6, 2) := by decide +kernel
theorem dL_hangs_470 : decode cL_hangs 470 = .ok (.if_icmp .le 17, 3) := by decide +kernel
theorem dL_hangs_473 : decode cL_hangs 473 = .ok (.iload 8, 2) := by decide +kernel
theorem dL_hangs_475 : decode cL_hangs 475 = .ok (.istore 5, 2) := by decide +kernel
theorem dL_hangs_477 : decode cL_hangs 477 = .ok (.aload_n 0, 1) := by decide +kernel
theorem dL_hangs_478 : decode cL_hangs 478 = .ok (.iload 8, 2) := by decide +kernel
theorem dL_hangs_480 : decode cL_hangs 480 = .ok (.bipush 9, 2) := by decide +kernel
theorem dL_hangs_482 : decode cL_hangs 482 = .ok (.invokevirtual 34, 3) := by decide +kernel
theorem dL_hangs_485 : decode cL_hangs 485 = .ok (.istore 6, 2) := by decide +kernel
theorem dL_hangs_487 : decode cL_hangs 487 = .ok (.iinc 8 1, 3) := by decide +kernel
theorem dL_hangs_490 : decode cL_hangs 490 = .ok (.goto (-470), 3) := by decide +kernel
theorem dL_hangs_493 : decode cL_hangs 493 = .ok (.iconst 0, 1) := by decide +kernel
theorem dL_hangs_494 : decode cL_hangs 494 = .ok (.istore 8, 2) := by decide +kernel
theorem dL_hangs_496 : decode cL_hangs 496 = .ok (.iconst 0, 1) := by decide +kernel
theorem dL_hangs_497 : decode cL_hangs 497 = .ok (.istore 9, 2) := by decide +kernel
theorem dL_hangs_499 : decode cL_hangs 499 = .ok (.iconst 0, 1) := by decide +kernel
theorem dL_hangs_500 : decode cL_hangs 500 = .ok (.istore 10, 2) := by decide +kernel
theorem dL_hangs_502 : decode cL_hangs 502 = .ok (.iconst 0, 1) := by decide +kernel
theorem dL_hangs_503 : decode cL_hangs 503 = .ok (.istore 11, 2) := by decide +kernel
theorem dL_hangs_505 : decode cL_hangs 505 = .ok (.iload 11, 2) := by decide +kernel
theorem dL_hangs_507 : decode cL_hangs 507 = .ok (.iconst 4, 1) := by decide +kernel
theorem dL_hangs_508 : decode cL_hangs 508 = .ok (.if_icmp .ge 50, 3) := by decide +kernel
theorem dL_hangs_511 : decode cL_hangs 511 = .ok (.iload 7, 2) := by decide +kernel
theorem dL_hangs_513 : decode cL_hangs 513 = .ok (.ifCond .eq 45, 3) := by decide +kernel
theorem dL_hangs_516 : decode cL_hangs 516 = .ok (.iload 8, 2) := by decide +kernel
theorem dL_hangs_518 : decode cL_hangs 518 = .ok (.aload_n 0, 1) := by decide +kernel
theorem dL_hangs_519 : decode cL_hangs 519 = .ok (.iload 11, 2) := by decide +kernel
theorem dL_hangs_521 : decode cL_hangs 521 = .ok (.iconst 3, 1) := by decide +kernel
theorem dL_hangs_522 : decode cL_hangs 522 = .ok (.invokevirtual 40, 3) := by decide +kernel
theorem dL_hangs_525 : decode cL_hangs 525 = .ok (.iadd, 1) := by decide +kernel
theorem dL_hangs_526 : decode cL_hangs 526 = .ok (.istore 8, 2) := by decide +kernel
theorem dL_hangs_528 : decode cL_hangs 528 = .ok (.iload 9, 2) := by decide +kernel
theorem dL_hangs_530 : decode cL_hangs 530 = .ok (.aload_n 0, 1) := by decide +kernel
theorem dL_hangs_531 : decode cL_hangs 531 = .ok (.iload 11, 2) := by decide +kernel
theorem dL_hangs_533 : decode cL_hangs 533 = .ok (.iconst 4, 1) := by decide +kernel
theorem dL_hangs_534 : decode cL_hangs 534 = .ok (.invokevirtual 40, 3) := by decide +kernel
theorem dL_hangs_537 : decode cL_hangs 537 = .ok (.iadd, 1) := by decide +kernel
theorem dL_hangs_538 : decode cL_hangs 538 = .ok (.istore 9, 2) := by decide +kernel
theorem dL_hangs_540 : decode cL_hangs 540 = .ok (.iload 10, 2) := by decide +kernel
theorem dL_hangs_542 : decode cL_hangs 542 = .ok (.aload_n 0, 1) := by decide +kernel
theorem dL_hangs_543 : decode cL_hangs 543 = .ok (.iload 11, 2) := by decide +kernel
theorem dL_hangs_545 : decode cL_hangs 545 = .ok (.iconst 2, 1) := by decide +kernel
theorem dL_hangs_546 : decode cL_hangs 546 = .ok (.invokevirtual 40, 3) := by decide +kernel
theorem dL_hangs_549 : decode cL_hangs 549 = .ok (.iadd, 1) := by decide +kernel
theorem dL_hangs_550 : decode cL_hangs 550 = .ok (.istore 10, 2) := by decide +kernel
theorem dL_hangs_552 : decode cL_hangs 552 = .ok (.iinc 11 1, 3) := by decide +kernel
theorem dL_hangs_555 : decode cL_hangs 555 = .ok (.goto (-50), 3) := by decide +kernel
theorem dL_hangs_558 : decode cL_hangs 558 = .ok (.iload 7, 2) := by decide +kernel
theorem dL_hangs_560 : decode cL_hangs 560 = .ok (.ifCond .eq 112, 3) := by decide +kernel
theorem dL_hangs_563 : decode cL_hangs 563 = .ok (.iload_n 2, 1) := by decide +kernel
theorem dL_hangs_564 : decode cL_hangs 564 = .ok (.aload_n 0, 1) := by decide +kernel
theorem dL_hangs_565 : decode cL_hangs 565 = .ok (.iconst 0, 1) := by decide +kernel
theorem dL_hangs_566 : decode cL_hangs 566 = .ok (.invokevirtual 43, 3) := by decide +kernel
theorem dL_hangs_569 : decode cL_hangs 569 = .ok (.if_icmp .ne 103, 3) := by decide +kernel
theorem dL_hangs_572 : decode cL_hangs 572 = .ok (.iload 10, 2) := by decide +kernel
theorem dL_hangs_574 : decode cL_hangs 574 = .ok (.iload_n 2, 1) := by decide +kernel
theorem dL_hangs_575 : decode cL_hangs 575 = .ok (.if_icmp .ne 97, 3) := by decide +kernel
theorem dL_hangs_578 : decode cL_hangs 578 = .ok (.iload_n 3, 1) := by decide +kernel
theorem dL_hangs_579 : decode cL_hangs 579 = .ok (.aload_n 0, 1) := by decide +kernel
theorem dL_hangs_580 : decode cL_hangs 580 = .ok (.iconst 1, 1) := by decide +kernel
theorem dL_hangs_581 : decode cL_hangs 581 = .ok (.invokevirtual 43, 3) := by decide +kernel
theorem dL_hangs_584 : decode cL_hangs 584 = .ok (.if_icmp .ne 88, 3) := by decide +kernel
theorem dL_hangs_587 : decode cL_hangs 587 = .ok (.iload 4, 2) := by decide +kernel
theorem dL_hangs_589 : decode cL_hangs 589 = .ok (.aload_n 0, 1) := by decide +kernel
theorem dL_hangs_590 : decode cL_hangs 590 = .ok (.iconst 2, 1) := by decide +kernel
theorem dL_hangs_591 : decode cL_hangs 591 = .ok (.invokevirtual 43, 3) := by decide +kernel
theorem dL_hangs_594 : decode cL_hangs 594 = .ok (.if_icmp .ne 78, 3) := by decide +kernel
theorem dL_hangs_597 : decode cL_hangs 597 = .ok (.iload 5, 2) := by decide +kernel
theorem dL_hangs_599 : decode cL_hangs 599 = .ok (.aload_n 0, 1) := by decide +kernel
theorem dL_hangs_600 : decode cL_hangs 600 = .ok (.invokevirtual 50, 3) := by decide +kernel
theorem dL_hangs_603 : decode cL_hangs 603 = .ok (.if_icmp .ne 69, 3) := by decide +kernel
theorem dL_hangs_606 : decode cL_hangs 606 = .ok (.iload 8, 2) := by decide +kernel
theorem dL_hangs_608 : decode cL_hangs 608 = .ok (.aload_n 0, 1) := by decide +kernel
theorem dL_hangs_609 : decode cL_hangs 609 = .ok (.iconst 3, 1) := by decide +kernel
theorem dL_hangs_610 : decode cL_hangs 610 = .ok (.invokevirtual 43, 3) := by decide +kernel
theorem dL_hangs_613 : decode cL_hangs 613 = .ok (.if_icmp .ne 59, 3) := by decide +kernel
theorem dL_hangs_616 : decode cL_hangs 616 = .ok (.iload 9, 2) := by decide +kernel
theorem dL_hangs_618 : decode cL_hangs 618 = .ok (.aload_n 0, 1) := by decide +kernel
theorem dL_hangs_619 : decode cL_hangs 619 = .ok (.bipush 6, 2) := by decide +kernel
theorem dL_hangs_621 : decode cL_hangs 621 = .ok (.invokevirtual 43, 3) := by decide +kernel
theorem dL_hangs_624 : decode cL_hangs 624 = .ok (.if_icmp .ne 48, 3) := by decide +kernel
theorem dL_hangs_627 : decode cL_hangs 627 = .ok (.aload_n 0, 1) := by decide +kernel
theorem dL_hangs_628 : decode cL_hangs 628 = .ok (.iconst 4, 1) := by decide +kernel
theorem dL_hangs_629 : decode cL_hangs 629 = .ok (.invokevirtual 43, 3) := by decide +kernel
theorem dL_hangs_632 : decode cL_hangs 632 = .ok (.aload_n 0, 1) := by decide +kernel
theorem dL_hangs_633 : decode cL_hangs 633 = .ok (.iconst 5, 1) := by decide +kernel
theorem dL_hangs_634 : decode cL_hangs 634 = .ok (.invokevirtual 43, 3) := by decide +kernel
theorem dL_hangs_637 : decode cL_hangs 637 = .ok (.iadd, 1) := by decide +kernel
theorem dL_hangs_638 : decode cL_hangs 638 = .ok (.iload 8, 2) := by decide +kernel
theorem dL_hangs_640 : decode cL_hangs 640 = .ok (.if_icmp .ne 32, 3) := by decide +kernel
theorem dL_hangs_643 : decode cL_hangs 643 = .ok (.aload_n 0, 1) := by decide +kernel
theorem dL_hangs_644 : decode cL_hangs 644 = .ok (.bipush 7, 2) := by decide +kernel
theorem dL_hangs_646 : decode cL_hangs 646 = .ok (.invokevirtual 43, 3) := by decide +kernel
theorem dL_hangs_649 : decode cL_hangs 649 = .ok (.iload 9, 2) := by decide +kernel
theorem dL_hangs_651 : decode cL_hangs 651 = .ok (.if_icmp .gt 21, 3) := by decide +kernel
theorem dL_hangs_654 : decode cL_hangs 654 = .ok (.aload_n 0, 1) := by decide +kernel
theorem dL_hangs_655 : decode cL_hangs 655 = .ok (.bipush 8, 2) := by decide +kernel
theorem dL_hangs_657 : decode cL_hangs 657 = .ok (.invokevirtual 43, 3) := by decide +kernel
theorem dL_hangs_660 : decode cL_hangs 660 = .ok (.aload_n 0, 1) := by decide +kernel
theorem dL_hangs_661 : decode cL_hangs 661 = .ok (.iconst 4, 1) := by decide +kernel
theorem dL_hangs_662 : decode cL_hangs 662 = .ok (.invokevirtual 43, 3) := by decide +kernel
theorem dL_hangs_665 : decode cL_hangs 665 = .ok (.if_icmp .gt 7, 3) := by decide +kernel
theorem dL_hangs_668 : decode cL_hangs 668 = .ok (.iconst 1, 1) := by decide +kernel
theorem dL_hangs_669 : decode cL_hangs 669 = .ok (.goto 4, 3) := by decide +kernel
theorem dL_hangs_672 : decode cL_hangs 672 = .ok (.iconst 0, 1) := by decide +kernel
theorem dL_hangs_673 : decode cL_hangs 673 = .ok (.ireturn, 1) := by decide +kernel
theorem dL_ways_0 : decode cL_ways 0 = .ok (.aload_n 0, 1) := by decide +kernel
theorem dL_ways_1 : decode cL_ways 1 = .ok (.iload_n 1, 1) := by decide +kernel
theorem dL_ways_2 : decode cL_ways 2 = .ok (.iload_n 2, 1) := by decide +kernel
theorem dL_ways_3 : decode cL_ways 3 = .ok (.invokevirtual 54, 3) := by decide +kernel
theorem dL_ways_6 : decode cL_ways 6 = .ok (.istore_n 3, 1) := by decide +kernel
theorem dL_ways_7 : decode cL_ways 7 = .ok (.aload_n 0, 1) := by decide +kernel
theorem dL_ways_8 : decode cL_ways 8 = .ok (.iload_n 1, 1) := by decide +kernel
theorem dL_ways_9 : decode cL_ways 9 = .ok (.iload_n 3, 1) := by decide +kernel
theorem dL_ways_10 : decode cL_ways 10 = .ok (.iload_n 2, 1) := by decide +kernel
theorem dL_ways_11 : decode cL_ways 11 = .ok (.invokevirtual 46, 3) := by decide +kernel
theorem dL_ways_14 : decode cL_ways 14 = .ok (.istore 4, 2) := by decide +kernel
theorem dL_ways_16 : decode cL_ways 16 = .ok (.iload_n 3, 1) := by decide +kernel
theorem dL_ways_17 : decode cL_ways 17 = .ok (.ifCond .lt 12, 3) := by decide +kernel
theorem dL_ways_20 : decode cL_ways 20 = .ok (.iload_n 3, 1) := by decide +kernel
theorem dL_ways_21 : decode cL_ways 21 = .ok (.iconst 3, 1) := by decide +kernel
theorem dL_ways_22 : decode cL_ways 22 = .ok (.if_icmp .ge 7, 3) := by decide +kernel
theorem dL_ways_25 : decode cL_ways 25 = .ok (.iconst 1, 1) := by decide +kernel
theorem dL_ways_26 : decode cL_ways 26 = .ok (.goto 4, 3) := by decide +kernel
theorem dL_ways_29 : decode cL_ways 29 = .ok (.iconst 0, 1) := by decide +kernel
theorem dL_ways_30 : decode cL_ways 30 = .ok (.istore 5, 2) := by decide +kernel
theorem dL_ways_32 : decode cL_ways 32 = .ok (.iconst 0, 1) := by decide +kernel
theorem dL_ways_33 : decode cL_ways 33 = .ok (.istore 6, 2) := by decide +kernel
theorem dL_ways_35 : decode cL_ways 35 = .ok (.iload 6, 2) := by decide +kernel
theorem dL_ways_37 : decode cL_ways 37 = .ok (.iconst 3, 1) := by decide +kernel
theorem dL_ways_38 : decode cL_ways 38 = .ok (.if_icmp .ge 59, 3) := by decide +kernel
theorem dL_ways_41 : decode cL_ways 41 = .ok (.iload 5, 2) := by decide +kernel
theorem dL_ways_43 : decode cL_ways 43 = .ok (.ifCond .eq 54, 3) := by decide +kernel
theorem dL_ways_46 : decode cL_ways 46 = .ok (.aload_n 0, 1) := by decide +kernel
theorem dL_ways_47 : decode cL_ways 47 = .ok (.iload_n 1, 1) := by decide +kernel
theorem dL_ways_48 : decode cL_ways 48 = .ok (.iload 6, 2) := by decide +kernel
theorem dL_ways_50 : decode cL_ways 50 = .ok (.iload_n 2, 1) := by decide +kernel
theorem dL_ways_51 : decode cL_ways 51 = .ok (.invokevirtual 46, 3) := by decide +kernel
theorem dL_ways_54 : decode cL_ways 54 = .ok (.istore 7, 2) := by decide +kernel
theorem dL_ways_56 : decode cL_ways 56 = .ok (.iload 6, 2) := by decide +kernel
theorem dL_ways_58 : decode cL_ways 58 = .ok (.iload_n 3, 1) := by decide +kernel
theorem dL_ways_59 : decode cL_ways 59 = .ok (.if_icmp .ge 18, 3) := by decide +kernel
theorem dL_ways_62 : decode cL_ways 62 = .ok (.iload 7, 2) := by decide +kernel
theorem dL_ways_64 : decode cL_ways 64 = .ok (.iload 4, 2) := by decide +kernel
theorem dL_ways_66 : decode cL_ways 66 = .ok (.if_icmp .le 7, 3) := by decide +kernel
theorem dL_ways_69 : decode cL_ways 69 = .ok (.iconst 1, 1) := by decide +kernel
theorem dL_ways_70 : decode cL_ways 70 = .ok (.goto 19, 3) := by decide +kernel
theorem dL_ways_73 : decode cL_ways 73 = .ok (.iconst 0, 1) := by decide +kernel
theorem dL_ways_74 : decode cL_ways 74 = .ok (.goto 15, 3) := by decide +kernel
theorem dL_ways_77 : decode cL_ways 77 = .ok (.iload 7, 2) := by decide +kernel
theorem dL_ways_79 : decode cL_ways 79 = .ok (.iload 4, 2) := by decide +kernel
theorem dL_ways_81 : decode cL_ways 81 = .ok (.if_icmp .lt 7, 3) := by decide +kernel
theorem dL_ways_84 : decode cL_ways 84 = .ok (.iconst 1, 1) := by decide +kernel
theorem dL_ways_85 : decode cL_ways 85 = .ok (.goto 4, 3) := by decide +kernel
theorem dL_ways_88 : decode cL_ways 88 = .ok (.iconst 0, 1) := by decide +kernel
theorem dL_ways_89 : decode cL_ways 89 = .ok (.istore 5, 2) := by decide +kernel
theorem dL_ways_91 : decode cL_ways 91 = .ok (.iinc 6 1, 3) := by decide +kernel
theorem dL_ways_94 : decode cL_ways 94 = .ok (.goto (-59), 3) := by decide +kernel
theorem dL_ways_97 : decode cL_ways 97 = .ok (.iload 5, 2) := by decide +kernel
theorem dL_ways_99 : decode cL_ways 99 = .ok (.ifCond .eq 45, 3) := by decide +kernel
theorem dL_ways_102 : decode cL_ways 102 = .ok (.aload_n 0, 1) := by decide +kernel
theorem dL_ways_103 : decode cL_ways 103 = .ok (.iload_n 1, 1) := by decide +kernel
theorem dL_ways_104 : decode cL_ways 104 = .ok (.iconst 0, 1) := by decide +kernel
theorem dL_ways_105 : decode cL_ways 105 = .ok (.invokevirtual 57, 3) := by decide +kernel
theorem dL_ways_108 : decode cL_ways 108 = .ok (.aload_n 0, 1) := by decide +kernel
theorem dL_ways_109 : decode cL_ways 109 = .ok (.iload_n 1, 1) := by decide +kernel
theorem dL_ways_110 : decode cL_ways 110 = .ok (.iconst 1, 1) := by decide +kernel
theorem dL_ways_111 : decode cL_ways 111 = .ok (.invokevirtual 57, 3) := by decide +kernel
theorem dL_ways_114 : decode cL_ways 114 = .ok (.iadd, 1) := by decide +kernel
theorem dL_ways_115 : decode cL_ways 115 = .ok (.aload_n 0, 1) := by decide +kernel
theorem dL_ways_116 : decode cL_ways 116 = .ok (.iload_n 1, 1) := by decide +kernel
theorem dL_ways_117 : decode cL_ways 117 = .ok (.iconst 2, 1) := by decide +kernel
theorem dL_ways_118 : decode cL_ways 118 = .ok (.invokevirtual 57, 3) := by decide +kernel
theorem dL_ways_121 : decode cL_ways 121 = .ok (.iadd, 1) := by decide +kernel
theorem dL_ways_122 : decode cL_ways 122 = .ok (.iload_n 1, 1) := by decide +kernel
theorem dL_ways_123 : decode cL_ways 123 = .ok (.iconst 3, 1) := by decide +kernel
theorem dL_ways_124 : decode cL_ways 124 = .ok (.irem, 1) := by decide +kernel
theorem dL_ways_125 : decode cL_ways 125 = .ok (.ifCond .ne 9, 3) := by decide +kernel
theorem dL_ways_128 : decode cL_ways 128 = .ok (.sipush 201, 3) := by decide +kernel
theorem dL_ways_131 : decode cL_ways 131 = .ok (.goto 6, 3) := by decide +kernel
theorem dL_ways_134 : decode cL_ways 134 = .ok (.sipush 200, 3) := by decide +kernel
theorem dL_ways_137 : decode cL_ways 137 = .ok (.if_icmp .ne 7, 3) := by decide +kernel
theorem dL_ways_140 : decode cL_ways 140 = .ok (.iconst 1, 1) := by decide +kernel
theorem dL_ways_141 : decode cL_ways 141 = .ok (.goto 4, 3) := by decide +kernel
theorem dL_ways_144 : decode cL_ways 144 = .ok (.iconst 0, 1) := by decide +kernel
theorem dL_ways_145 : decode cL_ways 145 = .ok (.ireturn, 1) := by decide +kernel
theorem dL_law_0 : decode cL_law 0 = .ok (.new 10, 3) := by decide +kernel
theorem dL_law_3 : decode cL_law 3 = .ok (.dup, 1) := by decide +kernel
theorem dL_law_4 : decode cL_law 4 = .ok (.invokespecial 60, 3) := by decide +kernel
theorem dL_law_7 : decode cL_law 7 = .ok (.astore_n 1, 1) := by decide +kernel
theorem dL_law_8 : decode cL_law 8 = .ok (.aload_n 1, 1) := by decide +kernel
theorem dL_law_9 : decode cL_law 9 = .ok (.invokevirtual 61, 3) := by decide +kernel
theorem dL_law_12 : decode cL_law 12 = .ok (.bipush (-4), 2) := by decide +kernel
theorem dL_law_14 : decode cL_law 14 = .ok (.if_icmp .ne 61, 3) := by decide +kernel
theorem dL_law_17 : decode cL_law 17 = .ok (.aload_n 1, 1) := by decide +kernel
theorem dL_law_18 : decode cL_law 18 = .ok (.invokevirtual 64, 3) := by decide +kernel
theorem dL_law_21 : decode cL_law 21 = .ok (.bipush (-4), 2) := by decide +kernel
theorem dL_law_23 : decode cL_law 23 = .ok (.if_icmp .ne 52, 3) := by decide +kernel
theorem dL_law_26 : decode cL_law 26 = .ok (.aload_n 1, 1) := by decide +kernel
theorem dL_law_27 : decode cL_law 27 = .ok (.invokevirtual 67, 3) := by decide +kernel
theorem dL_law_30 : decode cL_law 30 = .ok (.bipush (-100), 2) := by decide +kernel
theorem dL_law_32 : decode cL_law 32 = .ok (.if_icmp .ne 43, 3) := by decide +kernel
theorem dL_law_35 : decode cL_law 35 = .ok (.aload_n 1, 1) := by decide +kernel
theorem dL_law_36 : decode cL_law 36 = .ok (.invokevirtual 50, 3) := by decide +kernel
theorem dL_law_39 : decode cL_law 39 = .ok (.bipush (-4), 2) := by decide +kernel
theorem dL_law_41 : decode cL_law 41 = .ok (.if_icmp .ne 34, 3) := by decide +kernel
theorem dL_law_44 : decode cL_law 44 = .ok (.aload_n 1, 1) := by decide +kernel
theorem dL_law_45 : decode cL_law 45 = .ok (.iconst 0, 1) := by decide +kernel
theorem dL_law_46 : decode cL_law 46 = .ok (.invokevirtual 19, 3) := by decide +kernel
theorem dL_law_49 : decode cL_law 49 = .ok (.iconst (-1), 1) := by decide +kernel
theorem dL_law_50 : decode cL_law 50 = .ok (.if_icmp .ne 25, 3) := by decide +kernel
theorem dL_law_53 : decode cL_law 53 = .ok (.aload_n 1, 1) := by decide +kernel
theorem dL_law_54 : decode cL_law 54 = .ok (.iconst 5, 1) := by decide +kernel
theorem dL_law_55 : decode cL_law 55 = .ok (.iconst 1, 1) := by decide +kernel
theorem dL_law_56 : decode cL_law 56 = .ok (.invokevirtual 37, 3) := by decide +kernel
theorem dL_law_59 : decode cL_law 59 = .ok (.iconst 1, 1) := by decide +kernel
theorem dL_law_60 : decode cL_law 60 = .ok (.if_icmp .ne 15, 3) := by decide +kernel
theorem dL_law_63 : decode cL_law 63 = .ok (.aload_n 1, 1) := by decide +kernel
theorem dL_law_64 : decode cL_law 64 = .ok (.iconst 5, 1) := by decide +kernel
theorem dL_law_65 : decode cL_law 65 = .ok (.invokestatic 70, 3) := by decide +kernel
theorem dL_law_68 : decode cL_law 68 = .ok (.ifCond .eq 7, 3) := by decide +kernel
theorem dL_law_71 : decode cL_law 71 = .ok (.iconst 1, 1) := by decide +kernel
theorem dL_law_72 : decode cL_law 72 = .ok (.goto 4, 3) := by decide +kernel
theorem dL_law_75 : decode cL_law 75 = .ok (.iconst 0, 1) := by decide +kernel
theorem dL_law_76 : decode cL_law 76 = .ok (.istore_n 2, 1) := by decide +kernel
theorem dL_law_77 : decode cL_law 77 = .ok (.iconst 0, 1) := by decide +kernel
theorem dL_law_78 : decode cL_law 78 = .ok (.istore_n 3, 1) := by decide +kernel
theorem dL_law_79 : decode cL_law 79 = .ok (.iload_n 3, 1) := by decide +kernel
theorem dL_law_80 : decode cL_law 80 = .ok (.bipush 34, 2) := by decide +kernel
theorem dL_law_82 : decode cL_law 82 = .ok (.if_icmp .ge 740, 3) := by decide +kernel
theorem dL_law_85 : decode cL_law 85 = .ok (.iload_n 2, 1) := by decide +kernel
theorem dL_law_86 : decode cL_law 86 = .ok (.ifCond .eq 736, 3) := by decide +kernel
theorem dL_law_89 : decode cL_law 89 = .ok (.aload_n 0, 1) := by decide +kernel
theorem dL_law_90 : decode cL_law 90 = .ok (.iload_n 3, 1) := by decide +kernel
theorem dL_law_91 : decode cL_law 91 = .ok (.invokestatic 76, 3) := by decide +kernel
theorem dL_law_94 : decode cL_law 94 = .ok (.istore 4, 2) := by decide +kernel
theorem dL_law_96 : decode cL_law 96 = .ok (.iload 4, 2) := by decide +kernel
theorem dL_law_98 : decode cL_law 98 = .ok (.bipush 16, 2) := by decide +kernel
theorem dL_law_100 : decode cL_law 100 = .ok (.idiv, 1) := by decide +kernel
theorem dL_law_101 : decode cL_law 101 = .ok (.istore 5, 2) := by decide +kernel
theorem dL_law_103 : decode cL_law 103 = .ok (.iload 4, 2) := by decide +kernel
theorem dL_law_105 : decode cL_law 105 = .ok (.bipush 16, 2) := by decide +kernel
theorem dL_law_107 : decode cL_law 107 = .ok (.irem, 1) := by decide +kernel
theorem dL_law_108 : decode cL_law 108 = .ok (.istore 6, 2) := by decide +kernel
theorem dL_law_110 : decode cL_law 110 = .ok (.iload 5, 2) := by decide +kernel
theorem dL_law_112 : decode cL_law 112 = .ok (.bipush 9, 2) := by decide +kernel
theorem dL_law_114 : decode cL_law 114 = .ok (.irem, 1) := by decide +kernel
theorem dL_law_115 : decode cL_law 115 = .ok (.istore 7, 2) := by decide +kernel
theorem dL_law_117 : decode cL_law 117 = .ok (.iload 5, 2) := by decide +kernel
theorem dL_law_119 : decode cL_law 119 = .ok (.bipush 64, 2) := by decide +kernel
theorem dL_law_121 : decode cL_law 121 = .ok (.idiv, 1) := by decide +kernel
theorem dL_law_122 : decode cL_law 122 = .ok (.iconst 5, 1) := by decide +kernel
theorem dL_law_123 : decode cL_law 123 = .ok (.irem, 1) := by decide +kernel
theorem dL_law_124 : decode cL_law 124 = .ok (.ifCond .ne 18, 3) := by decide +kernel
theorem dL_law_127 : decode cL_law 127 = .ok (.iconst 1, 1) := by decide +kernel
theorem dL_law_128 : decode cL_law 128 = .ok (.iload 5, 2) := by decide +kernel
theorem dL_law_130 : decode cL_law 130 = .ok (.sipush 512, 3) := by decide +kernel
theorem dL_law_133 : decode cL_law 133 = .ok (.idiv, 1) := by decide +kernel
theorem dL_law_134 : decode cL_law 134 = .ok (.sipush 9999, 3) := by decide +kernel
theorem dL_law_137 : decode cL_law 137 = .ok (.irem, 1) := by decide +kernel
theorem dL_law_138 : decode cL_law 138 = .ok (.iadd, 1) := by decide +kernel
theorem dL_law_139 : decode cL_law 139 = .ok (.goto 14, 3) := by decide +kernel
theorem dL_law_142 : decode cL_law 142 = .ok (.iconst 1, 1) := by decide +kernel
theorem dL_law_143 : decode cL_law 143 = .ok (.iload 5, 2) := by decide +kernel
theorem dL_law_145 : decode cL_law 145 = .ok (.sipush 512, 3) := by decide +kernel
theorem dL_law_148 : decode cL_law 148 = .ok (.idiv, 1) := by decide +kernel
theorem dL_law_149 : decode cL_law 149 = .ok (.bipush 60, 2) := by decide +kernel
theorem dL_law_151 : decode cL_law 151 = .ok (.irem, 1) := by decide +kernel
theorem dL_law_152 : decode cL_law 152 = .ok (.iadd, 1) := by decide +kernel
theorem dL_law_153 : decode cL_law 153 = .ok (.istore 8, 2) := by decide +kernel
theorem dL_law_155 : decode cL_law 155 = .ok (.aload_n 1, 1) := by decide +kernel
theorem dL_law_156 : decode cL_law 156 = .ok (.bipush 15, 2) := by decide +kernel
theorem dL_law_158 : decode cL_law 158 = .ok (.invokevirtual 43, 3) := by decide +kernel
theorem dL_law_161 : decode cL_law 161 = .ok (.istore 9, 2) := by decide +kernel
theorem dL_law_163 : decode cL_law 163 = .ok (.aload_n 1, 1) := by decide +kernel
theorem dL_law_164 : decode cL_law 164 = .ok (.iconst 3, 1) := by decide +kernel
theorem dL_law_165 : decode cL_law 165 = .ok (.invokevirtual 43, 3) := by decide +kernel
theorem dL_law_168 : decode cL_law 168 = .ok (.istore 10, 2) := by decide +kernel
theorem dL_law_170 : decode cL_law 170 = .ok (.aload_n 1, 1) := by decide +kernel
theorem dL_law_171 : decode cL_law 171 = .ok (.iconst 4, 1) := by decide +kernel
theorem dL_law_172 : decode cL_law 172 = .ok (.invokevirtual 43, 3) := by decide +kernel
theorem dL_law_175 : decode cL_law 175 = .ok (.istore 11, 2) := by decide +kernel
theorem dL_law_177 : decode cL_law 177 = .ok (.aload_n 1, 1) := by decide +kernel
theorem dL_law_178 : decode cL_law 178 = .ok (.bipush 8, 2) := by decide +kernel
theorem dL_law_180 : decode cL_law 180 = .ok (.invokevirtual 43, 3) := by decide +kernel
theorem dL_law_183 : decode cL_law 183 = .ok (.istore 12, 2) := by decide +kernel
theorem dL_law_185 : decode cL_law 185 = .ok (.aload_n 1, 1) := by decide +kernel
theorem dL_law_186 : decode cL_law 186 = .ok (.bipush 9, 2) := by decide +kernel
theorem dL_law_188 : decode cL_law 188 = .ok (.invokevirtual 43, 3) := by decide +kernel
theorem dL_law_191 : decode cL_law 191 = .ok (.istore 13, 2) := by decide +kernel
theorem dL_law_193 : decode cL_law 193 = .ok (.aload_n 1, 1) := by decide +kernel
theorem dL_law_194 : decode cL_law 194 = .ok (.bipush 6, 2) := by decide +kernel
theorem dL_law_196 : decode cL_law 196 = .ok (.invokevirtual 43, 3) := by decide +kernel
theorem dL_law_199 : decode cL_law 199 = .ok (.istore 14, 2) := by decide +kernel
theorem dL_law_201 : decode cL_law 201 = .ok (.aload_n 1, 1) := by decide +kernel
theorem dL_law_202 : decode cL_law 202 = .ok (.bipush 10, 2) := by decide +kernel
theorem dL_law_204 : decode cL_law 204 = .ok (.invokevirtual 43, 3) := by decide +kernel
theorem dL_law_207 : decode cL_law 207 = .ok (.istore 15, 2) := by decide +kernel
theorem dL_law_209 : decode cL_law 209 = .ok (.aload_n 1, 1) := by decide +kernel
theorem dL_law_210 : decode cL_law 210 = .ok (.iload 7, 2) := by decide +kernel
theorem dL_law_212 : decode cL_law 212 = .ok (.iload 8, 2) := by decide +kernel
theorem dL_law_214 : decode cL_law 214 = .ok (.invokevirtual 37, 3) := by decide +kernel
theorem dL_law_217 : decode cL_law 217 = .ok (.istore 16, 2) := by decide +kernel
theorem dL_law_219 : decode cL_law 219 = .ok (.aload_n 1, 1) := by decide +kernel
theorem dL_law_220 : decode cL_law 220 = .ok (.iload 7, 2) := by decide +kernel
theorem dL_law_222 : decode cL_law 222 = .ok (.iload 8, 2) := by decide +kernel
theorem dL_law_224 : decode cL_law 224 = .ok (.iconst 0, 1) := by decide +kernel
theorem dL_law_225 : decode cL_law 225 = .ok (.invokevirtual 80, 3) := by decide +kernel
theorem dL_law_228 : decode cL_law 228 = .ok (.istore 17, 2) := by decide +kernel
theorem dL_law_230 : decode cL_law 230 = .ok (.aload_n 1, 1) := by decide +kernel
theorem dL_law_231 : decode cL_law 231 = .ok (.iload 7, 2) := by decide +kernel
theorem dL_law_233 : decode cL_law 233 = .ok (.iload 8, 2) := by decide +kernel
theorem dL_law_235 : decode cL_law 235 = .ok (.iconst 1, 1) := by decide +kernel
theorem dL_law_236 : decode cL_law 236 = .ok (.invokevirtual 80, 3) := by decide +kernel
theorem dL_law_239 : decode cL_law 239 = .ok (.istore 18, 2) := by decide +kernel
theorem dL_law_241 : decode cL_law 241 = .ok (.aload_n 1, 1) := by decide +kernel
theorem dL_law_242 : decode cL_law 242 = .ok (.iload 7, 2) := by decide +kernel
theorem dL_law_244 : decode cL_law 244 = .ok (.iload 8, 2) := by decide +kernel
theorem dL_law_246 : decode cL_law 246 = .ok (.iconst 2, 1) := by decide +kernel
theorem dL_law_247 : decode cL_law 247 = .ok (.invokevirtual 80, 3) := by decide +kernel
theorem dL_law_250 : decode cL_law 250 = .ok (.istore 19, 2) := by decide +kernel
theorem dL_law_252 : decode cL_law 252 = .ok (.aload_n 1, 1) := by decide +kernel
theorem dL_law_253 : decode cL_law 253 = .ok (.iload 7, 2) := by decide +kernel
theorem dL_law_255 : decode cL_law 255 = .ok (.iload 8, 2) := by decide +kernel
theorem dL_law_257 : decode cL_law 257 = .ok (.iconst 3, 1) := by decide +kernel
theorem dL_law_258 : decode cL_law 258 = .ok (.invokevirtual 80, 3) := by decide +kernel
theorem dL_law_261 : decode cL_law 261 = .ok (.istore 20, 2) := by decide +kernel
theorem dL_law_263 : decode cL_law 263 = .ok (.aload_n 1, 1) := by decide +kernel
theorem dL_law_264 : decode cL_law 264 = .ok (.iload 7, 2) := by decide +kernel
theorem dL_law_266 : decode cL_law 266 = .ok (.iload 8, 2) := by decide +kernel
theorem dL_law_268 : decode cL_law 268 = .ok (.iconst 4, 1) := by decide +kernel
theorem dL_law_269 : decode cL_law 269 = .ok (.invokevirtual 80, 3) := by decide +kernel
theorem dL_law_272 : decode cL_law 272 = .ok (.istore 21, 2) := by decide +kernel
theorem dL_law_274 : decode cL_law 274 = .ok (.aload_n 1, 1) := by decide +kernel
theorem dL_law_275 : decode cL_law 275 = .ok (.iload 7, 2) := by decide +kernel
theorem dL_law_277 : decode cL_law 277 = .ok (.aload_n 1, 1) := by decide +kernel
theorem dL_law_278 : decode cL_law 278 = .ok (.iload 7, 2) := by decide +kernel
theorem dL_law_280 : decode cL_law 280 = .ok (.iload 8, 2) := by decide +kernel
theorem dL_law_282 : decode cL_law 282 = .ok (.invokevirtual 54, 3) := by decide +kernel
theorem dL_law_285 : decode cL_law 285 = .ok (.iload 8, 2) := by decide +kernel
theorem dL_law_287 : decode cL_law 287 = .ok (.invokevirtual 46, 3) := by decide +kernel
theorem dL_law_290 : decode cL_law 290 = .ok (.istore 22, 2) := by decide +kernel
theorem dL_law_292 : decode cL_law 292 = .ok (.aload_n 1, 1) := by decide +kernel
theorem dL_law_293 : decode cL_law 293 = .ok (.iload 7, 2) := by decide +kernel
theorem dL_law_295 : decode cL_law 295 = .ok (.bipush 8, 2) := by decide +kernel
theorem dL_law_297 : decode cL_law 297 = .ok (.invokevirtual 34, 3) := by decide +kernel
theorem dL_law_300 : decode cL_law 300 = .ok (.istore 23, 2) := by decide +kernel
theorem dL_law_302 : decode cL_law 302 = .ok (.iload 21, 2) := by decide +kernel
theorem dL_law_304 : decode cL_law 304 = .ok (.iload 17, 2) := by decide +kernel
theorem dL_law_306 : decode cL_law 306 = .ok (.iload 22, 2) := by decide +kernel
theorem dL_law_308 : decode cL_law 308 = .ok (.isub, 1) := by decide +kernel
theorem dL_law_309 : decode cL_law 309 = .ok (.if_icmp .ne 113, 3) := by decide +kernel
theorem dL_law_312 : decode cL_law 312 = .ok (.iload 21, 2) := by decide +kernel
theorem dL_law_314 : decode cL_law 314 = .ok (.ifCond .lt 108, 3) := by decide +kernel
theorem dL_law_317 : decode cL_law 317 = .ok (.iload 17, 2) := by decide +kernel
theorem dL_law_319 : decode cL_law 319 = .ok (.aload_n 1, 1) := by decide +kernel
theorem dL_law_320 : decode cL_law 320 = .ok (.iload 7, 2) := by decide +kernel
theorem dL_law_322 : decode cL_law 322 = .ok (.iload 18, 2) := by decide +kernel
theorem dL_law_324 : decode cL_law 324 = .ok (.iload 8, 2) := by decide +kernel
theorem dL_law_326 : decode cL_law 326 = .ok (.invokevirtual 46, 3) := by decide +kernel
theorem dL_law_329 : decode cL_law 329 = .ok (.iload 16, 2) := by decide +kernel
theorem dL_law_331 : decode cL_law 331 = .ok (.ifCond .ne 7, 3) := by decide +kernel
theorem dL_law_334 : decode cL_law 334 = .ok (.iconst 0, 1) := by decide +kernel
theorem dL_law_335 : decode cL_law 335 = .ok (.goto 5, 3) := by decide +kernel
theorem dL_law_338 : decode cL_law 338 = .ok (.iload 15, 2) := by decide +kernel
theorem dL_law_340 : decode cL_law 340 = .ok (.iadd, 1) := by decide +kernel
theorem dL_law_341 : decode cL_law 341 = .ok (.if_icmp .ne 81, 3) := by decide +kernel
theorem dL_law_344 : decode cL_law 344 = .ok (.iload 16, 2) := by decide +kernel
theorem dL_law_346 : decode cL_law 346 = .ok (.ifCond .ne 25, 3) := by decide +kernel
theorem dL_law_349 : decode cL_law 349 = .ok (.iload 18, 2) := by decide +kernel
theorem dL_law_351 : decode cL_law 351 = .ok (.aload_n 1, 1) := by decide +kernel
theorem dL_law_352 : decode cL_law 352 = .ok (.iload 7, 2) := by decide +kernel
theorem dL_law_354 : decode cL_law 354 = .ok (.iconst 0, 1) := by decide +kernel
theorem dL_law_355 : decode cL_law 355 = .ok (.invokevirtual 34, 3) := by decide +kernel
theorem dL_law_358 : decode cL_law 358 = .ok (.if_icmp .ne 64, 3) := by decide +kernel
theorem dL_law_361 : decode cL_law 361 = .ok (.iload 20, 2) := by decide +kernel
theorem dL_law_363 : decode cL_law 363 = .ok (.bipush (-4), 2) := by decide +kernel
theorem dL_law_365 : decode cL_law 365 = .ok (.if_icmp .ne 57, 3) := by decide +kernel
theorem dL_law_368 : decode cL_law 368 = .ok (.goto 21, 3) := by decide +kernel
theorem dL_law_371 : decode cL_law 371 = .ok (.iload 19, 2) := by decide +kernel
theorem dL_law_373 : decode cL_law 373 = .ok (.ifCond .ne 49, 3) := by decide +kernel
theorem dL_law_376 : decode cL_law 376 = .ok (.iload 18, 2) := by decide +kernel
theorem dL_law_378 : decode cL_law 378 = .ok (.aload_n 1, 1) := by decide +kernel
theorem dL_law_379 : decode cL_law 379 = .ok (.iload 7, 2) := by decide +kernel
theorem dL_law_381 : decode cL_law 381 = .ok (.iload 8, 2) := by decide +kernel
theorem dL_law_383 : decode cL_law 383 = .ok (.invokevirtual 54, 3) := by decide +kernel
theorem dL_law_386 : decode cL_law 386 = .ok (.if_icmp .ne 36, 3) := by decide +kernel
theorem dL_law_389 : decode cL_law 389 = .ok (.iload 20, 2) := by decide +kernel
theorem dL_law_391 : decode cL_law 391 = .ok (.bipush (-4), 2) := by decide +kernel
theorem dL_law_393 : decode cL_law 393 = .ok (.if_icmp .eq 25, 3) := by decide +kernel
theorem dL_law_396 : decode cL_law 396 = .ok (.aload_n 1, 1) := by decide +kernel
theorem dL_law_397 : decode cL_law 397 = .ok (.iload 20, 2) := by decide +kernel
theorem dL_law_399 : decode cL_law 399 = .ok (.bipush 7, 2) := by decide +kernel
theorem dL_law_401 : decode cL_law 401 = .ok (.invokevirtual 34, 3) := by decide +kernel
theorem dL_law_404 : decode cL_law 404 = .ok (.ifCond .ne 18, 3) := by decide +kernel
theorem dL_law_407 : decode cL_law 407 = .ok (.aload_n 1, 1) := by decide +kernel
theorem dL_law_408 : decode cL_law 408 = .ok (.iload 7, 2) := by decide +kernel
theorem dL_law_410 : decode cL_law 410 = .ok (.iconst 0, 1) := by decide +kernel
theorem dL_law_411 : decode cL_law 411 = .ok (.invokevirtual 34, 3) := by decide +kernel
theorem dL_law_414 : decode cL_law 414 = .ok (.iconst (-1), 1) := by decide +kernel
theorem dL_law_415 : decode cL_law 415 = .ok (.if_icmp .ne 7, 3) := by decide +kernel
theorem dL_law_418 : decode cL_law 418 = .ok (.iconst 1, 1) := by decide +kernel
theorem dL_law_419 : decode cL_law 419 = .ok (.goto 4, 3) := by decide +kernel
theorem dL_law_422 : decode cL_law 422 = .ok (.iconst 0, 1) := by decide +kernel
theorem dL_law_423 : decode cL_law 423 = .ok (.istore_n 2, 1) := by decide +kernel
theorem dL_law_424 : decode cL_law 424 = .ok (.iload_n 2, 1) := by decide +kernel
theorem dL_law_425 : decode cL_law 425 = .ok (.ifCond .eq 12, 3) := by decide +kernel
theorem dL_law_428 : decode cL_law 428 = .ok (.aload_n 1, 1) := by decide +kernel
theorem dL_law_429 : decode cL_law 429 = .ok (.iload 4, 2) := by decide +kernel
theorem dL_law_431 : decode cL_law 431 = .ok (.invokestatic 83, 3) := by decide +kernel
theorem dL_law_434 : decode cL_law 434 = .ok (.goto 4, 3) := by decide +kernel
theorem dL_law_437 : decode cL_law 437 = .ok (.iconst 0, 1) := by decide +kernel
theorem dL_law_438 : decode cL_law 438 = .ok (.istore 24, 2) := by decide +kernel
theorem dL_law_440 : decode cL_law 440 = .ok (.iload_n 2, 1) := by decide +kernel
theorem dL_law_441 : decode cL_law 441 = .ok (.ifCond .eq 59, 3) := by decide +kernel
theorem dL_law_444 : decode cL_law 444 = .ok (.iload 24, 2) := by decide +kernel
theorem dL_law_446 : decode cL_law 446 = .ok (.ifCond .lt 29, 3) := by decide +kernel
theorem dL_law_449 : decode cL_law 449 = .ok (.aload_n 1, 1) := by decide +kernel
theorem dL_law_450 : decode cL_law 450 = .ok (.bipush 15, 2) := by decide +kernel
theorem dL_law_452 : decode cL_law 452 = .ok (.invokevirtual 43, 3) := by decide +kernel
theorem dL_law_455 : decode cL_law 455 = .ok (.iload 9, 2) := by decide +kernel
theorem dL_law_457 : decode cL_law 457 = .ok (.iconst 4, 1) := by decide +kernel
theorem dL_law_458 : decode cL_law 458 = .ok (.if_icmp .ne 7, 3) := by decide +kernel
theorem dL_law_461 : decode cL_law 461 = .ok (.iconst 4, 1) := by decide +kernel
theorem dL_law_462 : decode cL_law 462 = .ok (.goto 7, 3) := by decide +kernel
theorem dL_law_465 : decode cL_law 465 = .ok (.iload 9, 2) := by decide +kernel
theorem dL_law_467 : decode cL_law 467 = .ok (.iconst 1, 1) := by decide +kernel
theorem dL_law_468 : decode cL_law 468 = .ok (.iadd, 1) := by decide +kernel
theorem dL_law_469 : decode cL_law 469 = .ok (.if_icmp .ne 31, 3) := by decide +kernel
theorem dL_law_472 : decode cL_law 472 = .ok (.goto 24, 3) := by decide +kernel
theorem dL_law_475 : decode cL_law 475 = .ok (.aload_n 1, 1) := by decide +kernel
theorem dL_law_476 : decode cL_law 476 = .ok (.bipush 15, 2) := by decide +kernel
theorem dL_law_478 : decode cL_law 478 = .ok (.invokevirtual 43, 3) := by decide +kernel
theorem dL_law_481 : decode cL_law 481 = .ok (.iload 9, 2) := by decide +kernel
theorem dL_law_483 : decode cL_law 483 = .ok (.if_icmp .ne 17, 3) := by decide +kernel
theorem dL_law_486 : decode cL_law 486 = .ok (.aload_n 1, 1) := by decide +kernel
theorem dL_law_487 : decode cL_law 487 = .ok (.iconst 3, 1) := by decide +kernel
theorem dL_law_488 : decode cL_law 488 = .ok (.invokevirtual 43, 3) := by decide +kernel
theorem dL_law_491 : decode cL_law 491 = .ok (.iload 10, 2) := by decide +kernel
theorem dL_law_493 : decode cL_law 493 = .ok (.if_icmp .ne 7, 3) := by decide +kernel
theorem dL_law_496 : decode cL_law 496 = .ok (.iconst 1, 1) := by decide +kernel
theorem dL_law_497 : decode cL_law 497 = .ok (.goto 4, 3) := by decide +kernel
theorem dL_law_500 : decode cL_law 500 = .ok (.iconst 0, 1) := by decide +kernel
theorem dL_law_501 : decode cL_law 501 = .ok (.istore_n 2, 1) := by decide +kernel
theorem dL_law_502 : decode cL_law 502 = .ok (.iload_n 2, 1) := by decide +kernel
theorem dL_law_503 : decode cL_law 503 = .ok (.ifCond .eq 245, 3) := by decide +kernel
theorem dL_law_506 : decode cL_law 506 = .ok (.iload 6, 2) := by decide +kernel
theorem dL_law_508 : decode cL_law 508 = .ok (.iconst 3, 1) := by decide +kernel
theorem dL_law_509 : decode cL_law 509 = .ok (.if_icmp .le 239, 3) := by decide +kernel
theorem dL_law_512 : decode cL_law 512 = .ok (.iload 24, 2) := by decide +kernel
theorem dL_law_514 : decode cL_law 514 = .ok (.iload 17, 2) := by decide +kernel
theorem dL_law_516 : decode cL_law 516 = .ok (.if_icmp .ne 227, 3) := by decide +kernel
theorem dL_law_519 : decode cL_law 519 = .ok (.aload_n 1, 1) := by decide +kernel
theorem dL_law_520 : decode cL_law 520 = .ok (.iconst 3, 1) := by decide +kernel
theorem dL_law_521 : decode cL_law 521 = .ok (.invokevirtual 43, 3) := by decide +kernel
theorem dL_law_524 : decode cL_law 524 = .ok (.iload 10, 2) := by decide +kernel
theorem dL_law_526 : decode cL_law 526 = .ok (.iconst 1, 1) := by decide +kernel
theorem dL_law_527 : decode cL_law 527 = .ok (.iadd, 1) := by decide +kernel
theorem dL_law_528 : decode cL_law 528 = .ok (.if_icmp .ne 215, 3) := by decide +kernel
theorem dL_law_531 : decode cL_law 531 = .ok (.aload_n 1, 1) := by decide +kernel
theorem dL_law_532 : decode cL_law 532 = .ok (.iconst 4, 1) := by decide +kernel
theorem dL_law_533 : decode cL_law 533 = .ok (.invokevirtual 43, 3) := by decide +kernel
theorem dL_law_536 : decode cL_law 536 = .ok (.iload 11, 2) := by decide +kernel
theorem dL_law_538 : decode cL_law 538 = .ok (.iload 16, 2) := by decide +kernel
theorem dL_law_540 : decode cL_law 540 = .ok (.ifCond .ne 7, 3) := by decide +kernel
theorem dL_law_543 : decode cL_law 543 = .ok (.iconst 1, 1) := by decide +kernel
theorem dL_law_544 : decode cL_law 544 = .ok (.goto 4, 3) := by decide +kernel
theorem dL_law_547 : decode cL_law 547 = .ok (.iconst 0, 1) := by decide +kernel
theorem dL_law_548 : decode cL_law 548 = .ok (.iadd, 1) := by decide +kernel
theorem dL_law_549 : decode cL_law 549 = .ok (.if_icmp .ne 194, 3) := by decide +kernel
theorem dL_law_552 : decode cL_law 552 = .ok (.aload_n 1, 1) := by decide +kernel
theorem dL_law_553 : decode cL_law 553 = .ok (.bipush 6, 2) := by decide +kernel
theorem dL_law_555 : decode cL_law 555 = .ok (.invokevirtual 43, 3) := by decide +kernel
theorem dL_law_558 : decode cL_law 558 = .ok (.iload 14, 2) := by decide +kernel
theorem dL_law_560 : decode cL_law 560 = .ok (.iload 24, 2) := by decide +kernel
theorem dL_law_562 : decode cL_law 562 = .ok (.iadd, 1) := by decide +kernel
theorem dL_law_563 : decode cL_law 563 = .ok (.if_icmp .ne 180, 3) := by decide +kernel
theorem dL_law_566 : decode cL_law 566 = .ok (.aload_n 1, 1) := by decide +kernel
theorem dL_law_567 : decode cL_law 567 = .ok (.bipush 8, 2) := by decide +kernel
theorem dL_law_569 : decode cL_law 569 = .ok (.invokevirtual 43, 3) := by decide +kernel
theorem dL_law_572 : decode cL_law 572 = .ok (.iload 12, 2) := by decide +kernel
theorem dL_law_574 : decode cL_law 574 = .ok (.iload 19, 2) := by decide +kernel
theorem dL_law_576 : decode cL_law 576 = .ok (.iadd, 1) := by decide +kernel
theorem dL_law_577 : decode cL_law 577 = .ok (.if_icmp .ne 166, 3) := by decide +kernel
theorem dL_law_580 : decode cL_law 580 = .ok (.iload 16, 2) := by decide +kernel
theorem dL_law_582 : decode cL_law 582 = .ok (.ifCond .eq 32, 3) := by decide +kernel
theorem dL_law_585 : decode cL_law 585 = .ok (.iload 20, 2) := by decide +kernel
theorem dL_law_587 : decode cL_law 587 = .ok (.bipush (-4), 2) := by decide +kernel
theorem dL_law_589 : decode cL_law 589 = .ok (.if_icmp .eq 25, 3) := by decide +kernel
theorem dL_law_592 : decode cL_law 592 = .ok (.aload_n 1, 1) := by decide +kernel
theorem dL_law_593 : decode cL_law 593 = .ok (.bipush 9, 2) := by decide +kernel
theorem dL_law_595 : decode cL_law 595 = .ok (.invokevirtual 43, 3) := by decide +kernel
theorem dL_law_598 : decode cL_law 598 = .ok (.iload 13, 2) := by decide +kernel
theorem dL_law_600 : decode cL_law 600 = .ok (.if_icmp .le 143, 3) := by decide +kernel
theorem dL_law_603 : decode cL_law 603 = .ok (.aload_n 1, 1) := by decide +kernel
theorem dL_law_604 : decode cL_law 604 = .ok (.iload 20, 2) := by decide +kernel
theorem dL_law_606 : decode cL_law 606 = .ok (.iconst 0, 1) := by decide +kernel
theorem dL_law_607 : decode cL_law 607 = .ok (.invokevirtual 34, 3) := by decide +kernel
theorem dL_law_610 : decode cL_law 610 = .ok (.iconst (-1), 1) := by decide +kernel
theorem dL_law_611 : decode cL_law 611 = .ok (.if_icmp .ne 132, 3) := by decide +kernel
theorem dL_law_614 : decode cL_law 614 = .ok (.iload 19, 2) := by decide +kernel
theorem dL_law_616 : decode cL_law 616 = .ok (.iconst 1, 1) := by decide +kernel
theorem dL_law_617 : decode cL_law 617 = .ok (.if_icmp .ne 17, 3) := by decide +kernel
theorem dL_law_620 : decode cL_law 620 = .ok (.aload_n 1, 1) := by decide +kernel
theorem dL_law_621 : decode cL_law 621 = .ok (.iload 7, 2) := by decide +kernel
theorem dL_law_623 : decode cL_law 623 = .ok (.iconst 0, 1) := by decide +kernel
theorem dL_law_624 : decode cL_law 624 = .ok (.invokevirtual 34, 3) := by decide +kernel
theorem dL_law_627 : decode cL_law 627 = .ok (.iconst (-1), 1) := by decide +kernel
theorem dL_law_628 : decode cL_law 628 = .ok (.if_icmp .ne 115, 3) := by decide +kernel
theorem dL_law_631 : decode cL_law 631 = .ok (.goto 108, 3) := by decide +kernel
theorem dL_law_634 : decode cL_law 634 = .ok (.iload 16, 2) := by decide +kernel
theorem dL_law_636 : decode cL_law 636 = .ok (.ifCond .ne 21, 3) := by decide +kernel
theorem dL_law_639 : decode cL_law 639 = .ok (.aload_n 1, 1) := by decide +kernel
theorem dL_law_640 : decode cL_law 640 = .ok (.iload 7, 2) := by decide +kernel
theorem dL_law_642 : decode cL_law 642 = .ok (.bipush 8, 2) := by decide +kernel
theorem dL_law_644 : decode cL_law 644 = .ok (.invokevirtual 34, 3) := by decide +kernel
theorem dL_law_647 : decode cL_law 647 = .ok (.iload 23, 2) := by decide +kernel
theorem dL_law_649 : decode cL_law 649 = .ok (.iconst 1, 1) := by decide +kernel
theorem dL_law_650 : decode cL_law 650 = .ok (.iadd, 1) := by decide +kernel
theorem dL_law_651 : decode cL_law 651 = .ok (.if_icmp .ne 92, 3) := by decide +kernel
theorem dL_law_654 : decode cL_law 654 = .ok (.goto 85, 3) := by decide +kernel
theorem dL_law_657 : decode cL_law 657 = .ok (.aload_n 1, 1) := by decide +kernel
theorem dL_law_658 : decode cL_law 658 = .ok (.iload 7, 2) := by decide +kernel
theorem dL_law_660 : decode cL_law 660 = .ok (.iconst 0, 1) := by decide +kernel
theorem dL_law_661 : decode cL_law 661 = .ok (.invokevirtual 34, 3) := by decide +kernel
theorem dL_law_664 : decode cL_law 664 = .ok (.iconst (-1), 1) := by decide +kernel
theorem dL_law_665 : decode cL_law 665 = .ok (.if_icmp .eq 74, 3) := by decide +kernel
theorem dL_law_668 : decode cL_law 668 = .ok (.aload_n 1, 1) := by decide +kernel
theorem dL_law_669 : decode cL_law 669 = .ok (.iload 7, 2) := by decide +kernel
theorem dL_law_671 : decode cL_law 671 = .ok (.iconst 3, 1) := by decide +kernel
theorem dL_law_672 : decode cL_law 672 = .ok (.invokevirtual 34, 3) := by decide +kernel
theorem dL_law_675 : decode cL_law 675 = .ok (.iload 8, 2) := by decide +kernel
theorem dL_law_677 : decode cL_law 677 = .ok (.if_icmp .ne 66, 3) := by decide +kernel
theorem dL_law_680 : decode cL_law 680 = .ok (.aload_n 1, 1) := by decide +kernel
theorem dL_law_681 : decode cL_law 681 = .ok (.iload 7, 2) := by decide +kernel
theorem dL_law_683 : decode cL_law 683 = .ok (.bipush 8, 2) := by decide +kernel
theorem dL_law_685 : decode cL_law 685 = .ok (.invokevirtual 34, 3) := by decide +kernel
theorem dL_law_688 : decode cL_law 688 = .ok (.ifCond .ne 55, 3) := by decide +kernel
theorem dL_law_691 : decode cL_law 691 = .ok (.aload_n 1, 1) := by decide +kernel
theorem dL_law_692 : decode cL_law 692 = .ok (.iload 7, 2) := by decide +kernel
theorem dL_law_694 : decode cL_law 694 = .ok (.iconst 5, 1) := by decide +kernel
theorem dL_law_695 : decode cL_law 695 = .ok (.invokevirtual 34, 3) := by decide +kernel
theorem dL_law_698 : decode cL_law 698 = .ok (.ifCond .ne 45, 3) := by decide +kernel
theorem dL_law_701 : decode cL_law 701 = .ok (.aload_n 1, 1) := by decide +kernel
theorem dL_law_702 : decode cL_law 702 = .ok (.iload 7, 2) := by decide +kernel
theorem dL_law_704 : decode cL_law 704 = .ok (.iconst 1, 1) := by decide +kernel
theorem dL_law_705 : decode cL_law 705 = .ok (.invokevirtual 34, 3) := by decide +kernel
theorem dL_law_708 : decode cL_law 708 = .ok (.iload 8, 2) := by decide +kernel
theorem dL_law_710 : decode cL_law 710 = .ok (.aload_n 1, 1) := by decide +kernel
theorem dL_law_711 : decode cL_law 711 = .ok (.bipush 11, 2) := by decide +kernel
theorem dL_law_713 : decode cL_law 713 = .ok (.invokevirtual 43, 3) := by decide +kernel
theorem dL_law_716 : decode cL_law 716 = .ok (.idiv, 1) := by decide +kernel
theorem dL_law_717 : decode cL_law 717 = .ok (.if_icmp .ne 26, 3) := by decide +kernel
theorem dL_law_720 : decode cL_law 720 = .ok (.aload_n 1, 1) := by decide +kernel
theorem dL_law_721 : decode cL_law 721 = .ok (.iload 7, 2) := by decide +kernel
theorem dL_law_723 : decode cL_law 723 = .ok (.iconst 2, 1) := by decide +kernel
theorem dL_law_724 : decode cL_law 724 = .ok (.invokevirtual 34, 3) := by decide +kernel
theorem dL_law_727 : decode cL_law 727 = .ok (.iload 8, 2) := by decide +kernel
theorem dL_law_729 : decode cL_law 729 = .ok (.aload_n 1, 1) := by decide +kernel
theorem dL_law_730 : decode cL_law 730 = .ok (.bipush 11, 2) := by decide +kernel
theorem dL_law_732 : decode cL_law 732 = .ok (.invokevirtual 43, 3) := by decide +kernel
theorem dL_law_735 : decode cL_law 735 = .ok (.imul, 1) := by decide +kernel
theorem dL_law_736 : decode cL_law 736 = .ok (.if_icmp .ne 7, 3) := by decide +kernel
theorem dL_law_739 : decode cL_law 739 = .ok (.iconst 1, 1) := by decide +kernel
theorem dL_law_740 : decode cL_law 740 = .ok (.goto 4, 3) := by decide +kernel
theorem dL_law_743 : decode cL_law 743 = .ok (.iconst 0, 1) := by decide +kernel
theorem dL_law_744 : decode cL_law 744 = .ok (.istore_n 2, 1) := by decide +kernel
theorem dL_law_745 : decode cL_law 745 = .ok (.goto 34, 3) := by decide +kernel
theorem dL_law_748 : decode cL_law 748 = .ok (.iload_n 2, 1) := by decide +kernel
theorem dL_law_749 : decode cL_law 749 = .ok (.ifCond .eq 30, 3) := by decide +kernel
theorem dL_law_752 : decode cL_law 752 = .ok (.iload 6, 2) := by decide +kernel
theorem dL_law_754 : decode cL_law 754 = .ok (.iconst 2, 1) := by decide +kernel
theorem dL_law_755 : decode cL_law 755 = .ok (.if_icmp .ne 24, 3) := by decide +kernel
theorem dL_law_758 : decode cL_law 758 = .ok (.iload 24, 2) := by decide +kernel
theorem dL_law_760 : decode cL_law 760 = .ok (.ifCond .lt 19, 3) := by decide +kernel
theorem dL_law_763 : decode cL_law 763 = .ok (.iload 24, 2) := by decide +kernel
theorem dL_law_765 : decode cL_law 765 = .ok (.aload_n 1, 1) := by decide +kernel
theorem dL_law_766 : decode cL_law 766 = .ok (.iconst 0, 1) := by decide +kernel
theorem dL_law_767 : decode cL_law 767 = .ok (.invokevirtual 43, 3) := by decide +kernel
theorem dL_law_770 : decode cL_law 770 = .ok (.if_icmp .ne 7, 3) := by decide +kernel
theorem dL_law_773 : decode cL_law 773 = .ok (.iconst 1, 1) := by decide +kernel
theorem dL_law_774 : decode cL_law 774 = .ok (.goto 4, 3) := by decide +kernel
theorem dL_law_777 : decode cL_law 777 = .ok (.iconst 0, 1) := by decide +kernel
theorem dL_law_778 : decode cL_law 778 = .ok (.istore_n 2, 1) := by decide +kernel
theorem dL_law_779 : decode cL_law 779 = .ok (.iload_n 2, 1) := by decide +kernel
theorem dL_law_780 : decode cL_law 780 = .ok (.ifCond .eq 34, 3) := by decide +kernel
theorem dL_law_783 : decode cL_law 783 = .ok (.aload_n 1, 1) := by decide +kernel
theorem dL_law_784 : decode cL_law 784 = .ok (.iload 8, 2) := by decide +kernel
theorem dL_law_786 : decode cL_law 786 = .ok (.invokestatic 70, 3) := by decide +kernel
theorem dL_law_789 : decode cL_law 789 = .ok (.ifCond .eq 25, 3) := by decide +kernel
theorem dL_law_792 : decode cL_law 792 = .ok (.iload_n 3, 1) := by decide +kernel
theorem dL_law_793 : decode cL_law 793 = .ok (.bipush 6, 2) := by decide +kernel
theorem dL_law_795 : decode cL_law 795 = .ok (.irem, 1) := by decide +kernel
theorem dL_law_796 : decode cL_law 796 = .ok (.ifCond .gt 14, 3) := by decide +kernel
theorem dL_law_799 : decode cL_law 799 = .ok (.aload_n 1, 1) := by decide +kernel
theorem dL_law_800 : decode cL_law 800 = .ok (.iload 7, 2) := by decide +kernel
theorem dL_law_802 : decode cL_law 802 = .ok (.iload 8, 2) := by decide +kernel
theorem dL_law_804 : decode cL_law 804 = .ok (.invokestatic 87, 3) := by decide +kernel
theorem dL_law_807 : decode cL_law 807 = .ok (.ifCond .eq 7, 3) := by decide +kernel
theorem dL_law_810 : decode cL_law 810 = .ok (.iconst 1, 1) := by decide +kernel
theorem dL_law_811 : decode cL_law 811 = .ok (.goto 4, 3) := by decide +kernel
theorem dL_law_814 : decode cL_law 814 = .ok (.iconst 0, 1) := by decide +kernel
theorem dL_law_815 : decode cL_law 815 = .ok (.istore_n 2, 1) := by decide +kernel
theorem dL_law_816 : decode cL_law 816 = .ok (.iinc 3 1, 3) := by decide +kernel
theorem dL_law_819 : decode cL_law 819 = .ok (.goto (-740), 3) := by decide +kernel
theorem dL_law_822 : decode cL_law 822 = .ok (.iload_n 2, 1) := by decide +kernel
theorem dL_law_823 : decode cL_law 823 = .ok (.ifCond .eq 253, 3) := by decide +kernel
theorem dL_law_826 : decode cL_law 826 = .ok (.aload_n 1, 1) := by decide +kernel
theorem dL_law_827 : decode cL_law 827 = .ok (.iconst 4, 1) := by decide +kernel
theorem dL_law_828 : decode cL_law 828 = .ok (.iconst 1, 1) := by decide +kernel
theorem dL_law_829 : decode cL_law 829 = .ok (.iconst 1, 1) := by decide +kernel
theorem dL_law_830 : decode cL_law 830 = .ok (.invokevirtual 9, 3) := by decide +kernel
theorem dL_law_833 : decode cL_law 833 = .ok (.iconst (-1), 1) := by decide +kernel
theorem dL_law_834 : decode cL_law 834 = .ok (.if_icmp .ne 242, 3) := by decide +kernel
theorem dL_law_837 : decode cL_law 837 = .ok (.aload_n 1, 1) := by decide +kernel
theorem dL_law_838 : decode cL_law 838 = .ok (.iconst 0, 1) := by decide +kernel
theorem dL_law_839 : decode cL_law 839 = .ok (.iconst 1, 1) := by decide +kernel
theorem dL_law_840 : decode cL_law 840 = .ok (.iconst 0, 1) := by decide +kernel
theorem dL_law_841 : decode cL_law 841 = .ok (.invokevirtual 9, 3) := by decide +kernel
theorem dL_law_844 : decode cL_law 844 = .ok (.bipush (-2), 2) := by decide +kernel
theorem dL_law_846 : decode cL_law 846 = .ok (.if_icmp .ne 230, 3) := by decide +kernel
theorem dL_law_849 : decode cL_law 849 = .ok (.aload_n 1, 1) := by decide +kernel
theorem dL_law_850 : decode cL_law 850 = .ok (.iconst 0, 1) := by decide +kernel
theorem dL_law_851 : decode cL_law 851 = .ok (.iconst 0, 1) := by decide +kernel
theorem dL_law_852 : decode cL_law 852 = .ok (.sipush 10000, 3) := by decide +kernel
theorem dL_law_855 : decode cL_law 855 = .ok (.invokevirtual 9, 3) := by decide +kernel
theorem dL_law_858 : decode cL_law 858 = .ok (.bipush (-2), 2) := by decide +kernel
theorem dL_law_860 : decode cL_law 860 = .ok (.if_icmp .ne 216, 3) := by decide +kernel
theorem dL_law_863 : decode cL_law 863 = .ok (.aload_n 1, 1) := by decide +kernel
theorem dL_law_864 : decode cL_law 864 = .ok (.bipush 12, 2) := by decide +kernel
theorem dL_law_866 : decode cL_law 866 = .ok (.iconst 1, 1) := by decide +kernel
theorem dL_law_867 : decode cL_law 867 = .ok (.invokevirtual 31, 3) := by decide +kernel
theorem dL_law_870 : decode cL_law 870 = .ok (.iconst (-1), 1) := by decide +kernel
theorem dL_law_871 : decode cL_law 871 = .ok (.if_icmp .ne 205, 3) := by decide +kernel
theorem dL_law_874 : decode cL_law 874 = .ok (.aload_n 1, 1) := by decide +kernel
theorem dL_law_875 : decode cL_law 875 = .ok (.iconst 1, 1) := by decide +kernel
theorem dL_law_876 : decode cL_law 876 = .ok (.iconst 0, 1) := by decide +kernel
theorem dL_law_877 : decode cL_law 877 = .ok (.invokevirtual 31, 3) := by decide +kernel
theorem dL_law_880 : decode cL_law 880 = .ok (.bipush (-2), 2) := by decide +kernel
theorem dL_law_882 : decode cL_law 882 = .ok (.if_icmp .ne 194, 3) := by decide +kernel
theorem dL_law_885 : decode cL_law 885 = .ok (.aload_n 1, 1) := by decide +kernel
theorem dL_law_886 : decode cL_law 886 = .ok (.iconst 0, 1) := by decide +kernel
theorem dL_law_887 : decode cL_law 887 = .ok (.sipush 10000, 3) := by decide +kernel
theorem dL_law_890 : decode cL_law 890 = .ok (.invokevirtual 31, 3) := by decide +kernel
theorem dL_law_893 : decode cL_law 893 = .ok (.bipush (-2), 2) := by decide +kernel
theorem dL_law_895 : decode cL_law 895 = .ok (.if_icmp .ne 181, 3) := by decide +kernel
theorem dL_law_898 : decode cL_law 898 = .ok (.aload_n 1, 1) := by decide +kernel
theorem dL_law_899 : decode cL_law 899 = .ok (.bipush 12, 2) := by decide +kernel
theorem dL_law_901 : decode cL_law 901 = .ok (.iconst 1, 1) := by decide +kernel
theorem dL_law_902 : decode cL_law 902 = .ok (.invokevirtual 15, 3) := by decide +kernel
theorem dL_law_905 : decode cL_law 905 = .ok (.iconst (-1), 1) := by decide +kernel
theorem dL_law_906 : decode cL_law 906 = .ok (.if_icmp .ne 170, 3) := by decide +kernel
theorem dL_law_909 : decode cL_law 909 = .ok (.aload_n 1, 1) := by decide +kernel
theorem dL_law_910 : decode cL_law 910 = .ok (.iconst 0, 1) := by decide +kernel
theorem dL_law_911 : decode cL_law 911 = .ok (.iconst 3, 1) := by decide +kernel
theorem dL_law_912 : decode cL_law 912 = .ok (.iconst 1, 1) := by decide +kernel
theorem dL_law_913 : decode cL_law 913 = .ok (.iconst 0, 1) := by decide +kernel
theorem dL_law_914 : decode cL_law 914 = .ok (.iconst 1, 1) := by decide +kernel
theorem dL_law_915 : decode cL_law 915 = .ok (.invokevirtual 23, 3) := by decide +kernel
theorem dL_law_918 : decode cL_law 918 = .ok (.bipush (-2), 2) := by decide +kernel
theorem dL_law_920 : decode cL_law 920 = .ok (.if_icmp .ne 156, 3) := by decide +kernel
theorem dL_law_923 : decode cL_law 923 = .ok (.aload_n 1, 1) := by decide +kernel
theorem dL_law_924 : decode cL_law 924 = .ok (.iconst 0, 1) := by decide +kernel
theorem dL_law_925 : decode cL_law 925 = .ok (.iconst 0, 1) := by decide +kernel
theorem dL_law_926 : decode cL_law 926 = .ok (.iconst 1, 1) := by decide +kernel
theorem dL_law_927 : decode cL_law 927 = .ok (.iconst 5, 1) := by decide +kernel
theorem dL_law_928 : decode cL_law 928 = .ok (.iconst 4, 1) := by decide +kernel
theorem dL_law_929 : decode cL_law 929 = .ok (.invokevirtual 23, 3) := by decide +kernel
theorem dL_law_932 : decode cL_law 932 = .ok (.bipush (-2), 2) := by decide +kernel
theorem dL_law_934 : decode cL_law 934 = .ok (.if_icmp .ne 142, 3) := by decide +kernel
theorem dL_law_937 : decode cL_law 937 = .ok (.aload_n 1, 1) := by decide +kernel
theorem dL_law_938 : decode cL_law 938 = .ok (.bipush 12, 2) := by decide +kernel
theorem dL_law_940 : decode cL_law 940 = .ok (.iconst 0, 1) := by decide +kernel
theorem dL_law_941 : decode cL_law 941 = .ok (.iconst 1, 1) := by decide +kernel
theorem dL_law_942 : decode cL_law 942 = .ok (.iconst 0, 1) := by decide +kernel
theorem dL_law_943 : decode cL_law 943 = .ok (.iconst 1, 1) := by decide +kernel
theorem dL_law_944 : decode cL_law 944 = .ok (.invokevirtual 23, 3) := by decide +kernel
theorem dL_law_947 : decode cL_law 947 = .ok (.iconst (-1), 1) := by decide +kernel
theorem dL_law_948 : decode cL_law 948 = .ok (.if_icmp .ne 128, 3) := by decide +kernel
theorem dL_law_951 : decode cL_law 951 = .ok (.aload_n 1, 1) := by decide +kernel
theorem dL_law_952 : decode cL_law 952 = .ok (.iconst 5, 1) := by decide +kernel
theorem dL_law_953 : decode cL_law 953 = .ok (.iconst 1, 1) := by decide +kernel
theorem dL_law_954 : decode cL_law 954 = .ok (.invokevirtual 27, 3) := by decide +kernel
theorem dL_law_957 : decode cL_law 957 = .ok (.iconst (-1), 1) := by decide +kernel
theorem dL_law_958 : decode cL_law 958 = .ok (.if_icmp .ne 118, 3) := by decide +kernel
theorem dL_law_961 : decode cL_law 961 = .ok (.aload_n 1, 1) := by decide +kernel
theorem dL_law_962 : decode cL_law 962 = .ok (.iconst 1, 1) := by decide +kernel
theorem dL_law_963 : decode cL_law 963 = .ok (.iconst 0, 1) := by decide +kernel
theorem dL_law_964 : decode cL_law 964 = .ok (.invokevirtual 27, 3) := by decide +kernel
theorem dL_law_967 : decode cL_law 967 = .ok (.bipush (-2), 2) := by decide +kernel
theorem dL_law_969 : decode cL_law 969 = .ok (.if_icmp .ne 107, 3) := by decide +kernel
theorem dL_law_972 : decode cL_law 972 = .ok (.aload_n 1, 1) := by decide +kernel
theorem dL_law_973 : decode cL_law 973 = .ok (.iconst 3, 1) := by decide +kernel
theorem dL_law_974 : decode cL_law 974 = .ok (.bipush 13, 2) := by decide +kernel
theorem dL_law_976 : decode cL_law 976 = .ok (.invokevirtual 27, 3) := by decide +kernel
theorem dL_law_979 : decode cL_law 979 = .ok (.bipush (-2), 2) := by decide +kernel
theorem dL_law_981 : decode cL_law 981 = .ok (.if_icmp .ne 95, 3) := by decide +kernel
theorem dL_law_984 : decode cL_law 984 = .ok (.aload_n 1, 1) := by decide +kernel
theorem dL_law_985 : decode cL_law 985 = .ok (.iconst 0, 1) := by decide +kernel
theorem dL_law_986 : decode cL_law 986 = .ok (.iconst 3, 1) := by decide +kernel
theorem dL_law_987 : decode cL_law 987 = .ok (.iconst 1, 1) := by decide +kernel
theorem dL_law_988 : decode cL_law 988 = .ok (.invokevirtual 46, 3) := by decide +kernel
theorem dL_law_991 : decode cL_law 991 = .ok (.bipush (-2), 2) := by decide +kernel
theorem dL_law_993 : decode cL_law 993 = .ok (.if_icmp .ne 83, 3) := by decide +kernel
theorem dL_law_996 : decode cL_law 996 = .ok (.aload_n 1, 1) := by decide +kernel
theorem dL_law_997 : decode cL_law 997 = .ok (.iconst 2, 1) := by decide +kernel
theorem dL_law_998 : decode cL_law 998 = .ok (.iconst 0, 1) := by decide +kernel
theorem dL_law_999 : decode cL_law 999 = .ok (.invokevirtual 54, 3) := by decide +kernel
theorem dL_law_1002 : decode cL_law 1002 = .ok (.bipush (-2), 2) := by decide +kernel
theorem dL_law_1004 : decode cL_law 1004 = .ok (.if_icmp .ne 72, 3) := by decide +kernel
theorem dL_law_1007 : decode cL_law 1007 = .ok (.aload_n 1, 1) := by decide +kernel
theorem dL_law_1008 : decode cL_law 1008 = .ok (.iconst (-1), 1) := by decide +kernel
theorem dL_law_1009 : decode cL_law 1009 = .ok (.iconst 1, 1) := by decide +kernel
theorem dL_law_1010 : decode cL_law 1010 = .ok (.invokevirtual 37, 3) := by decide +kernel
theorem dL_law_1013 : decode cL_law 1013 = .ok (.iconst (-1), 1) := by decide +kernel
theorem dL_law_1014 : decode cL_law 1014 = .ok (.if_icmp .ne 62, 3) := by decide +kernel
theorem dL_law_1017 : decode cL_law 1017 = .ok (.aload_n 1, 1) := by decide +kernel
theorem dL_law_1018 : decode cL_law 1018 = .ok (.iconst 0, 1) := by decide +kernel
theorem dL_law_1019 : decode cL_law 1019 = .ok (.iconst 1, 1) := by decide +kernel
theorem dL_law_1020 : decode cL_law 1020 = .ok (.iconst 5, 1) := by decide +kernel
theorem dL_law_1021 : decode cL_law 1021 = .ok (.invokevirtual 80, 3) := by decide +kernel
theorem dL_law_1024 : decode cL_law 1024 = .ok (.bipush (-2), 2) := by decide +kernel
theorem dL_law_1026 : decode cL_law 1026 = .ok (.if_icmp .ne 50, 3) := by decide +kernel
theorem dL_law_1029 : decode cL_law 1029 = .ok (.aload_n 1, 1) := by decide +kernel
theorem dL_law_1030 : decode cL_law 1030 = .ok (.iconst 0, 1) := by decide +kernel
theorem dL_law_1031 : decode cL_law 1031 = .ok (.iconst 3, 1) := by decide +kernel
theorem dL_law_1032 : decode cL_law 1032 = .ok (.invokevirtual 57, 3) := by decide +kernel
theorem dL_law_1035 : decode cL_law 1035 = .ok (.bipush (-2), 2) := by decide +kernel
theorem dL_law_1037 : decode cL_law 1037 = .ok (.if_icmp .ne 39, 3) := by decide +kernel
theorem dL_law_1040 : decode cL_law 1040 = .ok (.aload_n 1, 1) := by decide +kernel
theorem dL_law_1041 : decode cL_law 1041 = .ok (.iconst 0, 1) := by decide +kernel
theorem dL_law_1042 : decode cL_law 1042 = .ok (.iconst 5, 1) := by decide +kernel
theorem dL_law_1043 : decode cL_law 1043 = .ok (.invokevirtual 40, 3) := by decide +kernel
theorem dL_law_1046 : decode cL_law 1046 = .ok (.bipush (-2), 2) := by decide +kernel
theorem dL_law_1048 : decode cL_law 1048 = .ok (.if_icmp .ne 28, 3) := by decide +kernel
theorem dL_law_1051 : decode cL_law 1051 = .ok (.aload_n 1, 1) := by decide +kernel
theorem dL_law_1052 : decode cL_law 1052 = .ok (.iconst 4, 1) := by decide +kernel
theorem dL_law_1053 : decode cL_law 1053 = .ok (.iconst 0, 1) := by decide +kernel
theorem dL_law_1054 : decode cL_law 1054 = .ok (.invokevirtual 40, 3) := by decide +kernel
theorem dL_law_1057 : decode cL_law 1057 = .ok (.iconst (-1), 1) := by decide +kernel
theorem dL_law_1058 : decode cL_law 1058 = .ok (.if_icmp .ne 18, 3) := by decide +kernel
theorem dL_law_1061 : decode cL_law 1061 = .ok (.aload_n 1, 1) := by decide +kernel
theorem dL_law_1062 : decode cL_law 1062 = .ok (.bipush 17, 2) := by decide +kernel
theorem dL_law_1064 : decode cL_law 1064 = .ok (.invokevirtual 43, 3) := by decide +kernel
theorem dL_law_1067 : decode cL_law 1067 = .ok (.bipush (-2), 2) := by decide +kernel
theorem dL_law_1069 : decode cL_law 1069 = .ok (.if_icmp .ne 7, 3) := by decide +kernel
theorem dL_law_1072 : decode cL_law 1072 = .ok (.iconst 1, 1) := by decide +kernel
theorem dL_law_1073 : decode cL_law 1073 = .ok (.goto 4, 3) := by decide +kernel
theorem dL_law_1076 : decode cL_law 1076 = .ok (.iconst 0, 1) := by decide +kernel
theorem dL_law_1077 : decode cL_law 1077 = .ok (.ireturn, 1) := by decide +kernel
