theorem dX0_init_0 : decode cX0_init 0 = .ok (.aload_n 0, 1) := by decide +kernel
theorem dX0_init_1 : decode cX0_init 1 = .ok (.invokespecial 1, 3) := by decide +kernel
theorem dX0_init_4 : decode cX0_init 4 = .ok (.return_, 1) := by decide +kernel
theorem dX0_read_0 : decode cX0_read 0 = .ok (.aload_n 0, 1) := by decide +kernel
theorem dX0_read_1 : decode cX0_read 1 = .ok (.iload_n 1, 1) := by decide +kernel
theorem dX0_read_2 : decode cX0_read 2 = .ok (.sipush 10000, 3) := by decide +kernel
theorem dX0_read_5 : decode cX0_read 5 = .ok (.idiv, 1) := by decide +kernel
theorem dX0_read_6 : decode cX0_read 6 = .ok (.putfield 7, 3) := by decide +kernel
theorem dX0_read_9 : decode cX0_read 9 = .ok (.aload_n 0, 1) := by decide +kernel
theorem dX0_read_10 : decode cX0_read 10 = .ok (.iload_n 1, 1) := by decide +kernel
theorem dX0_read_11 : decode cX0_read 11 = .ok (.sipush 1000, 3) := by decide +kernel
theorem dX0_read_14 : decode cX0_read 14 = .ok (.idiv, 1) := by decide +kernel
theorem dX0_read_15 : decode cX0_read 15 = .ok (.bipush 10, 2) := by decide +kernel
theorem dX0_read_17 : decode cX0_read 17 = .ok (.irem, 1) := by decide +kernel
theorem dX0_read_18 : decode cX0_read 18 = .ok (.putfield 13, 3) := by decide +kernel
theorem dX0_read_21 : decode cX0_read 21 = .ok (.aload_n 0, 1) := by decide +kernel
theorem dX0_read_22 : decode cX0_read 22 = .ok (.iload_n 1, 1) := by decide +kernel
theorem dX0_read_23 : decode cX0_read 23 = .ok (.bipush 100, 2) := by decide +kernel
theorem dX0_read_25 : decode cX0_read 25 = .ok (.idiv, 1) := by decide +kernel
theorem dX0_read_26 : decode cX0_read 26 = .ok (.bipush 10, 2) := by decide +kernel
theorem dX0_read_28 : decode cX0_read 28 = .ok (.irem, 1) := by decide +kernel
theorem dX0_read_29 : decode cX0_read 29 = .ok (.putfield 16, 3) := by decide +kernel
theorem dX0_read_32 : decode cX0_read 32 = .ok (.aload_n 0, 1) := by decide +kernel
theorem dX0_read_33 : decode cX0_read 33 = .ok (.iload_n 1, 1) := by decide +kernel
theorem dX0_read_34 : decode cX0_read 34 = .ok (.bipush 10, 2) := by decide +kernel
theorem dX0_read_36 : decode cX0_read 36 = .ok (.idiv, 1) := by decide +kernel
theorem dX0_read_37 : decode cX0_read 37 = .ok (.bipush 10, 2) := by decide +kernel
theorem dX0_read_39 : decode cX0_read 39 = .ok (.irem, 1) := by decide +kernel
theorem dX0_read_40 : decode cX0_read 40 = .ok (.putfield 19, 3) := by decide +kernel
theorem dX0_read_43 : decode cX0_read 43 = .ok (.aload_n 0, 1) := by decide +kernel
theorem dX0_read_44 : decode cX0_read 44 = .ok (.iload_n 1, 1) := by decide +kernel
theorem dX0_read_45 : decode cX0_read 45 = .ok (.bipush 10, 2) := by decide +kernel
theorem dX0_read_47 : decode cX0_read 47 = .ok (.irem, 1) := by decide +kernel
theorem dX0_read_48 : decode cX0_read 48 = .ok (.putfield 22, 3) := by decide +kernel
theorem dX0_read_51 : decode cX0_read 51 = .ok (.return_, 1) := by decide +kernel
theorem dX0_groupsBefore_0 : decode cX0_groupsBefore 0 = .ok (.lload_n 1, 1) := by decide +kernel
theorem dX0_groupsBefore_1 : decode cX0_groupsBefore 1 = .ok (.lstore_n 3, 1) := by decide +kernel
theorem dX0_groupsBefore_2 : decode cX0_groupsBefore 2 = .ok (.iconst 0, 1) := by decide +kernel
theorem dX0_groupsBefore_3 : decode cX0_groupsBefore 3 = .ok (.istore 5, 2) := by decide +kernel
theorem dX0_groupsBefore_5 : decode cX0_groupsBefore 5 = .ok (.iload 5, 2) := by decide +kernel
theorem dX0_groupsBefore_7 : decode cX0_groupsBefore 7 = .ok (.iload_n 0, 1) := by decide +kernel
theorem dX0_groupsBefore_8 : decode cX0_groupsBefore 8 = .ok (.if_icmp .ge 15, 3) := by decide +kernel
theorem dX0_groupsBefore_11 : decode cX0_groupsBefore 11 = .ok (.lload_n 3, 1) := by decide +kernel
theorem dX0_groupsBefore_12 : decode cX0_groupsBefore 12 = .ok (.ldc2_w 25, 3) := by decide +kernel
theorem dX0_groupsBefore_15 : decode cX0_groupsBefore 15 = .ok (.ldiv, 1) := by decide +kernel
theorem dX0_groupsBefore_16 : decode cX0_groupsBefore 16 = .ok (.lstore_n 3, 1) := by decide +kernel
theorem dX0_groupsBefore_17 : decode cX0_groupsBefore 17 = .ok (.iinc 5 1, 3) := by decide +kernel
theorem dX0_groupsBefore_20 : decode cX0_groupsBefore 20 = .ok (.goto (-15), 3) := by decide +kernel
theorem dX0_groupsBefore_23 : decode cX0_groupsBefore 23 = .ok (.lload_n 3, 1) := by decide +kernel
theorem dX0_groupsBefore_24 : decode cX0_groupsBefore 24 = .ok (.lreturn, 1) := by decide +kernel
theorem dX0_middleTwo_0 : decode cX0_middleTwo 0 = .ok (.bipush 10, 2) := by decide +kernel
theorem dX0_middleTwo_2 : decode cX0_middleTwo 2 = .ok (.aload_n 0, 1) := by decide +kernel
theorem dX0_middleTwo_3 : decode cX0_middleTwo 3 = .ok (.getfield 16, 3) := by decide +kernel
theorem dX0_middleTwo_6 : decode cX0_middleTwo 6 = .ok (.imul, 1) := by decide +kernel
theorem dX0_middleTwo_7 : decode cX0_middleTwo 7 = .ok (.aload_n 0, 1) := by decide +kernel
theorem dX0_middleTwo_8 : decode cX0_middleTwo 8 = .ok (.getfield 19, 3) := by decide +kernel
theorem dX0_middleTwo_11 : decode cX0_middleTwo 11 = .ok (.iadd, 1) := by decide +kernel
theorem dX0_middleTwo_12 : decode cX0_middleTwo 12 = .ok (.ireturn, 1) := by decide +kernel
theorem dX0_lastThree_0 : decode cX0_lastThree 0 = .ok (.bipush 100, 2) := by decide +kernel
theorem dX0_lastThree_2 : decode cX0_lastThree 2 = .ok (.aload_n 0, 1) := by decide +kernel
theorem dX0_lastThree_3 : decode cX0_lastThree 3 = .ok (.getfield 16, 3) := by decide +kernel
theorem dX0_lastThree_6 : decode cX0_lastThree 6 = .ok (.imul, 1) := by decide +kernel
theorem dX0_lastThree_7 : decode cX0_lastThree 7 = .ok (.bipush 10, 2) := by decide +kernel
theorem dX0_lastThree_9 : decode cX0_lastThree 9 = .ok (.aload_n 0, 1) := by decide +kernel
theorem dX0_lastThree_10 : decode cX0_lastThree 10 = .ok (.getfield 19, 3) := by decide +kernel
theorem dX0_lastThree_13 : decode cX0_lastThree 13 = .ok (.imul, 1) := by decide +kernel
theorem dX0_lastThree_14 : decode cX0_lastThree 14 = .ok (.iadd, 1) := by decide +kernel
theorem dX0_lastThree_15 : decode cX0_lastThree 15 = .ok (.aload_n 0, 1) := by decide +kernel
theorem dX0_lastThree_16 : decode cX0_lastThree 16 = .ok (.getfield 22, 3) := by decide +kernel
theorem dX0_lastThree_19 : decode cX0_lastThree 19 = .ok (.iadd, 1) := by decide +kernel
theorem dX0_lastThree_20 : decode cX0_lastThree 20 = .ok (.ireturn, 1) := by decide +kernel
theorem dX1_init_0 : decode cX1_init 0 = .ok (.aload_n 0, 1) := by decide +kernel
theorem dX1_init_1 : decode cX1_init 1 = .ok (.invokespecial 1, 3) := by decide +kernel
theorem dX1_init_4 : decode cX1_init 4 = .ok (.aload_n 0, 1) := by decide +kernel
theorem dX1_init_5 : decode cX1_init 5 = .ok (.bipush 14, 2) := by decide +kernel
theorem dX1_init_7 : decode cX1_init 7 = .ok (.anewarray 9, 3) := by decide +kernel
theorem dX1_init_10 : decode cX1_init 10 = .ok (.putfield 11, 3) := by decide +kernel
theorem dX1_init_13 : decode cX1_init 13 = .ok (.iconst 0, 1) := by decide +kernel
theorem dX1_init_14 : decode cX1_init 14 = .ok (.istore_n 1, 1) := by decide +kernel
theorem dX1_init_15 : decode cX1_init 15 = .ok (.iload_n 1, 1) := by decide +kernel
theorem dX1_init_16 : decode cX1_init 16 = .ok (.bipush 14, 2) := by decide +kernel
theorem dX1_init_18 : decode cX1_init 18 = .ok (.if_icmp .ge 22, 3) := by decide +kernel
theorem dX1_init_21 : decode cX1_init 21 = .ok (.aload_n 0, 1) := by decide +kernel
theorem dX1_init_22 : decode cX1_init 22 = .ok (.getfield 11, 3) := by decide +kernel
theorem dX1_init_25 : decode cX1_init 25 = .ok (.iload_n 1, 1) := by decide +kernel
theorem dX1_init_26 : decode cX1_init 26 = .ok (.new 9, 3) := by decide +kernel
theorem dX1_init_29 : decode cX1_init 29 = .ok (.dup, 1) := by decide +kernel
theorem dX1_init_30 : decode cX1_init 30 = .ok (.invokespecial 15, 3) := by decide +kernel
theorem dX1_init_33 : decode cX1_init 33 = .ok (.aastore, 1) := by decide +kernel
theorem dX1_init_34 : decode cX1_init 34 = .ok (.iinc 1 1, 3) := by decide +kernel
theorem dX1_init_37 : decode cX1_init 37 = .ok (.goto (-22), 3) := by decide +kernel
theorem dX1_init_40 : decode cX1_init 40 = .ok (.return_, 1) := by decide +kernel
theorem dX1_remember_0 : decode cX1_remember 0 = .ok (.aload_n 0, 1) := by decide +kernel
theorem dX1_remember_1 : decode cX1_remember 1 = .ok (.getfield 16, 3) := by decide +kernel
theorem dX1_remember_4 : decode cX1_remember 4 = .ok (.bipush 14, 2) := by decide +kernel
theorem dX1_remember_6 : decode cX1_remember 6 = .ok (.if_icmp .ne 26, 3) := by decide +kernel
theorem dX1_remember_9 : decode cX1_remember 9 = .ok (.aload_n 0, 1) := by decide +kernel
theorem dX1_remember_10 : decode cX1_remember 10 = .ok (.aload_n 0, 1) := by decide +kernel
theorem dX1_remember_11 : decode cX1_remember 11 = .ok (.getfield 20, 3) := by decide +kernel
theorem dX1_remember_14 : decode cX1_remember 14 = .ok (.iconst 1, 1) := by decide +kernel
theorem dX1_remember_15 : decode cX1_remember 15 = .ok (.iadd, 1) := by decide +kernel
theorem dX1_remember_16 : decode cX1_remember 16 = .ok (.bipush 14, 2) := by decide +kernel
theorem dX1_remember_18 : decode cX1_remember 18 = .ok (.irem, 1) := by decide +kernel
theorem dX1_remember_19 : decode cX1_remember 19 = .ok (.putfield 20, 3) := by decide +kernel
theorem dX1_remember_22 : decode cX1_remember 22 = .ok (.aload_n 0, 1) := by decide +kernel
theorem dX1_remember_23 : decode cX1_remember 23 = .ok (.dup, 1) := by decide +kernel
theorem dX1_remember_24 : decode cX1_remember 24 = .ok (.getfield 16, 3) := by decide +kernel
theorem dX1_remember_27 : decode cX1_remember 27 = .ok (.iconst 1, 1) := by decide +kernel
theorem dX1_remember_28 : decode cX1_remember 28 = .ok (.isub, 1) := by decide +kernel
theorem dX1_remember_29 : decode cX1_remember 29 = .ok (.putfield 16, 3) := by decide +kernel
theorem dX1_remember_32 : decode cX1_remember 32 = .ok (.aload_n 0, 1) := by decide +kernel
theorem dX1_remember_33 : decode cX1_remember 33 = .ok (.getfield 11, 3) := by decide +kernel
theorem dX1_remember_36 : decode cX1_remember 36 = .ok (.aload_n 0, 1) := by decide +kernel
theorem dX1_remember_37 : decode cX1_remember 37 = .ok (.getfield 20, 3) := by decide +kernel
theorem dX1_remember_40 : decode cX1_remember 40 = .ok (.aload_n 0, 1) := by decide +kernel
theorem dX1_remember_41 : decode cX1_remember 41 = .ok (.getfield 16, 3) := by decide +kernel
theorem dX1_remember_44 : decode cX1_remember 44 = .ok (.iadd, 1) := by decide +kernel
theorem dX1_remember_45 : decode cX1_remember 45 = .ok (.bipush 14, 2) := by decide +kernel
theorem dX1_remember_47 : decode cX1_remember 47 = .ok (.irem, 1) := by decide +kernel
theorem dX1_remember_48 : decode cX1_remember 48 = .ok (.aaload, 1) := by decide +kernel
theorem dX1_remember_49 : decode cX1_remember 49 = .ok (.aload_n 1, 1) := by decide +kernel
theorem dX1_remember_50 : decode cX1_remember 50 = .ok (.invokevirtual 23, 3) := by decide +kernel
theorem dX1_remember_53 : decode cX1_remember 53 = .ok (.aload_n 0, 1) := by decide +kernel
theorem dX1_remember_54 : decode cX1_remember 54 = .ok (.dup, 1) := by decide +kernel
theorem dX1_remember_55 : decode cX1_remember 55 = .ok (.getfield 16, 3) := by decide +kernel
theorem dX1_remember_58 : decode cX1_remember 58 = .ok (.iconst 1, 1) := by decide +kernel
theorem dX1_remember_59 : decode cX1_remember 59 = .ok (.iadd, 1) := by decide +kernel
theorem dX1_remember_60 : decode cX1_remember 60 = .ok (.putfield 16, 3) := by decide +kernel
theorem dX1_remember_63 : decode cX1_remember 63 = .ok (.return_, 1) := by decide +kernel
theorem dX1_takeBack_0 : decode cX1_takeBack 0 = .ok (.aload_n 0, 1) := by decide +kernel
theorem dX1_takeBack_1 : decode cX1_takeBack 1 = .ok (.getfield 16, 3) := by decide +kernel
theorem dX1_takeBack_4 : decode cX1_takeBack 4 = .ok (.ifCond .gt 5, 3) := by decide +kernel
theorem dX1_takeBack_7 : decode cX1_takeBack 7 = .ok (.iconst 0, 1) := by decide +kernel
theorem dX1_takeBack_8 : decode cX1_takeBack 8 = .ok (.ireturn, 1) := by decide +kernel
theorem dX1_takeBack_9 : decode cX1_takeBack 9 = .ok (.aload_n 0, 1) := by decide +kernel
theorem dX1_takeBack_10 : decode cX1_takeBack 10 = .ok (.dup, 1) := by decide +kernel
theorem dX1_takeBack_11 : decode cX1_takeBack 11 = .ok (.getfield 16, 3) := by decide +kernel
theorem dX1_takeBack_14 : decode cX1_takeBack 14 = .ok (.iconst 1, 1) := by decide +kernel
theorem dX1_takeBack_15 : decode cX1_takeBack 15 = .ok (.isub, 1) := by decide +kernel
theorem dX1_takeBack_16 : decode cX1_takeBack 16 = .ok (.putfield 16, 3) := by decide +kernel
theorem dX1_takeBack_19 : decode cX1_takeBack 19 = .ok (.aload_n 1, 1) := by decide +kernel
theorem dX1_takeBack_20 : decode cX1_takeBack 20 = .ok (.aload_n 0, 1) := by decide +kernel
theorem dX1_takeBack_21 : decode cX1_takeBack 21 = .ok (.getfield 11, 3) := by decide +kernel
theorem dX1_takeBack_24 : decode cX1_takeBack 24 = .ok (.aload_n 0, 1) := by decide +kernel
theorem dX1_takeBack_25 : decode cX1_takeBack 25 = .ok (.getfield 20, 3) := by decide +kernel
theorem dX1_takeBack_28 : decode cX1_takeBack 28 = .ok (.aload_n 0, 1) := by decide +kernel
theorem dX1_takeBack_29 : decode cX1_takeBack 29 = .ok (.getfield 16, 3) := by decide +kernel
theorem dX1_takeBack_32 : decode cX1_takeBack 32 = .ok (.iadd, 1) := by decide +kernel
theorem dX1_takeBack_33 : decode cX1_takeBack 33 = .ok (.bipush 14, 2) := by decide +kernel
theorem dX1_takeBack_35 : decode cX1_takeBack 35 = .ok (.irem, 1) := by decide +kernel
theorem dX1_takeBack_36 : decode cX1_takeBack 36 = .ok (.aaload, 1) := by decide +kernel
theorem dX1_takeBack_37 : decode cX1_takeBack 37 = .ok (.invokevirtual 23, 3) := by decide +kernel
theorem dX1_takeBack_40 : decode cX1_takeBack 40 = .ok (.iconst 1, 1) := by decide +kernel
theorem dX1_takeBack_41 : decode cX1_takeBack 41 = .ok (.ireturn, 1) := by decide +kernel
theorem dX1_forget_0 : decode cX1_forget 0 = .ok (.aload_n 0, 1) := by decide +kernel
theorem dX1_forget_1 : decode cX1_forget 1 = .ok (.iconst 0, 1) := by decide +kernel
theorem dX1_forget_2 : decode cX1_forget 2 = .ok (.putfield 16, 3) := by decide +kernel
theorem dX1_forget_5 : decode cX1_forget 5 = .ok (.return_, 1) := by decide +kernel
theorem dX2_init_0 : decode cX2_init 0 = .ok (.aload_n 0, 1) := by decide +kernel
theorem dX2_init_1 : decode cX2_init 1 = .ok (.invokespecial 3, 3) := by decide +kernel
theorem dX2_init_4 : decode cX2_init 4 = .ok (.aload_n 0, 1) := by decide +kernel
theorem dX2_init_5 : decode cX2_init 5 = .ok (.bipush 12, 2) := by decide +kernel
theorem dX2_init_7 : decode cX2_init 7 = .ok (.newarray .int, 2) := by decide +kernel
theorem dX2_init_9 : decode cX2_init 9 = .ok (.putfield 9, 3) := by decide +kernel
theorem dX2_init_12 : decode cX2_init 12 = .ok (.aload_n 0, 1) := by decide +kernel
theorem dX2_init_13 : decode cX2_init 13 = .ok (.bipush 12, 2) := by decide +kernel
theorem dX2_init_15 : decode cX2_init 15 = .ok (.newarray .int, 2) := by decide +kernel
theorem dX2_init_17 : decode cX2_init 17 = .ok (.putfield 15, 3) := by decide +kernel
theorem dX2_init_20 : decode cX2_init 20 = .ok (.aload_n 0, 1) := by decide +kernel
theorem dX2_init_21 : decode cX2_init 21 = .ok (.bipush 12, 2) := by decide +kernel
theorem dX2_init_23 : decode cX2_init 23 = .ok (.newarray .int, 2) := by decide +kernel
theorem dX2_init_25 : decode cX2_init 25 = .ok (.putfield 18, 3) := by decide +kernel
theorem dX2_init_28 : decode cX2_init 28 = .ok (.aload_n 0, 1) := by decide +kernel
theorem dX2_init_29 : decode cX2_init 29 = .ok (.bipush 12, 2) := by decide +kernel
theorem dX2_init_31 : decode cX2_init 31 = .ok (.newarray .int, 2) := by decide +kernel
theorem dX2_init_33 : decode cX2_init 33 = .ok (.putfield 21, 3) := by decide +kernel
theorem dX2_init_36 : decode cX2_init 36 = .ok (.aload_n 0, 1) := by decide +kernel
theorem dX2_init_37 : decode cX2_init 37 = .ok (.bipush 12, 2) := by decide +kernel
theorem dX2_init_39 : decode cX2_init 39 = .ok (.newarray .int, 2) := by decide +kernel
theorem dX2_init_41 : decode cX2_init 41 = .ok (.putfield 24, 3) := by decide +kernel
theorem dX2_init_44 : decode cX2_init 44 = .ok (.aload_n 0, 1) := by decide +kernel
theorem dX2_init_45 : decode cX2_init 45 = .ok (.bipush 36, 2) := by decide +kernel
theorem dX2_init_47 : decode cX2_init 47 = .ok (.newarray .int, 2) := by decide +kernel
theorem dX2_init_49 : decode cX2_init 49 = .ok (.putfield 27, 3) := by decide +kernel
theorem dX2_init_52 : decode cX2_init 52 = .ok (.aload_n 0, 1) := by decide +kernel
theorem dX2_init_53 : decode cX2_init 53 = .ok (.bipush 36, 2) := by decide +kernel
theorem dX2_init_55 : decode cX2_init 55 = .ok (.newarray .int, 2) := by decide +kernel
theorem dX2_init_57 : decode cX2_init 57 = .ok (.putfield 30, 3) := by decide +kernel
theorem dX2_init_60 : decode cX2_init 60 = .ok (.aload_n 0, 1) := by decide +kernel
theorem dX2_init_61 : decode cX2_init 61 = .ok (.bipush 36, 2) := by decide +kernel
theorem dX2_init_63 : decode cX2_init 63 = .ok (.newarray .int, 2) := by decide +kernel
theorem dX2_init_65 : decode cX2_init 65 = .ok (.putfield 33, 3) := by decide +kernel
theorem dX2_init_68 : decode cX2_init 68 = .ok (.aload_n 0, 1) := by decide +kernel
theorem dX2_init_69 : decode cX2_init 69 = .ok (.iconst 3, 1) := by decide +kernel
theorem dX2_init_70 : decode cX2_init 70 = .ok (.newarray .int, 2) := by decide +kernel
theorem dX2_init_72 : decode cX2_init 72 = .ok (.putfield 36, 3) := by decide +kernel
theorem dX2_init_75 : decode cX2_init 75 = .ok (.return_, 1) := by decide +kernel
theorem dX2_clear_0 : decode cX2_clear 0 = .ok (.aload_n 0, 1) := by decide +kernel
theorem dX2_clear_1 : decode cX2_clear 1 = .ok (.iconst 0, 1) := by decide +kernel
theorem dX2_clear_2 : decode cX2_clear 2 = .ok (.putfield 39, 3) := by decide +kernel
theorem dX2_clear_5 : decode cX2_clear 5 = .ok (.aload_n 0, 1) := by decide +kernel
theorem dX2_clear_6 : decode cX2_clear 6 = .ok (.iconst 0, 1) := by decide +kernel
theorem dX2_clear_7 : decode cX2_clear 7 = .ok (.putfield 43, 3) := by decide +kernel
theorem dX2_clear_10 : decode cX2_clear 10 = .ok (.aload_n 0, 1) := by decide +kernel
theorem dX2_clear_11 : decode cX2_clear 11 = .ok (.getfield 36, 3) := by decide +kernel
theorem dX2_clear_14 : decode cX2_clear 14 = .ok (.iconst 0, 1) := by decide +kernel
theorem dX2_clear_15 : decode cX2_clear 15 = .ok (.invokestatic 46, 3) := by decide +kernel
theorem dX2_clear_18 : decode cX2_clear 18 = .ok (.return_, 1) := by decide +kernel
theorem dX2_startElement_0 : decode cX2_startElement 0 = .ok (.aload_n 0, 1) := by decide +kernel
theorem dX2_startElement_1 : decode cX2_startElement 1 = .ok (.getfield 39, 3) := by decide +kernel
theorem dX2_startElement_4 : decode cX2_startElement 4 = .ok (.bipush 12, 2) := by decide +kernel
theorem dX2_startElement_6 : decode cX2_startElement 6 = .ok (.if_icmp .ge 63, 3) := by decide +kernel
theorem dX2_startElement_9 : decode cX2_startElement 9 = .ok (.aload_n 0, 1) := by decide +kernel
theorem dX2_startElement_10 : decode cX2_startElement 10 = .ok (.getfield 9, 3) := by decide +kernel
theorem dX2_startElement_13 : decode cX2_startElement 13 = .ok (.aload_n 0, 1) := by decide +kernel
theorem dX2_startElement_14 : decode cX2_startElement 14 = .ok (.getfield 39, 3) := by decide +kernel
theorem dX2_startElement_17 : decode cX2_startElement 17 = .ok (.iload_n 1, 1) := by decide +kernel
theorem dX2_startElement_18 : decode cX2_startElement 18 = .ok (.iastore, 1) := by decide +kernel
theorem dX2_startElement_19 : decode cX2_startElement 19 = .ok (.aload_n 0, 1) := by decide +kernel
theorem dX2_startElement_20 : decode cX2_startElement 20 = .ok (.getfield 15, 3) := by decide +kernel
theorem dX2_startElement_23 : decode cX2_startElement 23 = .ok (.aload_n 0, 1) := by decide +kernel
theorem dX2_startElement_24 : decode cX2_startElement 24 = .ok (.getfield 39, 3) := by decide +kernel
theorem dX2_startElement_27 : decode cX2_startElement 27 = .ok (.iconst 0, 1) := by decide +kernel
theorem dX2_startElement_28 : decode cX2_startElement 28 = .ok (.iastore, 1) := by decide +kernel
theorem dX2_startElement_29 : decode cX2_startElement 29 = .ok (.aload_n 0, 1) := by decide +kernel
theorem dX2_startElement_30 : decode cX2_startElement 30 = .ok (.getfield 18, 3) := by decide +kernel
theorem dX2_startElement_33 : decode cX2_startElement 33 = .ok (.aload_n 0, 1) := by decide +kernel
theorem dX2_startElement_34 : decode cX2_startElement 34 = .ok (.getfield 39, 3) := by decide +kernel
theorem dX2_startElement_37 : decode cX2_startElement 37 = .ok (.iconst 0, 1) := by decide +kernel
theorem dX2_startElement_38 : decode cX2_startElement 38 = .ok (.iastore, 1) := by decide +kernel
theorem dX2_startElement_39 : decode cX2_startElement 39 = .ok (.aload_n 0, 1) := by decide +kernel
theorem dX2_startElement_40 : decode cX2_startElement 40 = .ok (.getfield 21, 3) := by decide +kernel
theorem dX2_startElement_43 : decode cX2_startElement 43 = .ok (.aload_n 0, 1) := by decide +kernel
theorem dX2_startElement_44 : decode cX2_startElement 44 = .ok (.getfield 39, 3) := by decide +kernel
theorem dX2_startElement_47 : decode cX2_startElement 47 = .ok (.iconst 0, 1) := by decide +kernel
theorem dX2_startElement_48 : decode cX2_startElement 48 = .ok (.iastore, 1) := by decide +kernel
theorem dX2_startElement_49 : decode cX2_startElement 49 = .ok (.aload_n 0, 1) := by decide +kernel
theorem dX2_startElement_50 : decode cX2_startElement 50 = .ok (.getfield 24, 3) := by decide +kernel
theorem dX2_startElement_53 : decode cX2_startElement 53 = .ok (.aload_n 0, 1) := by decide +kernel
theorem dX2_startElement_54 : decode cX2_startElement 54 = .ok (.getfield 39, 3) := by decide +kernel
theorem dX2_startElement_57 : decode cX2_startElement 57 = .ok (.iconst 0, 1) := by decide +kernel
theorem dX2_startElement_58 : decode cX2_startElement 58 = .ok (.iastore, 1) := by decide +kernel
theorem dX2_startElement_59 : decode cX2_startElement 59 = .ok (.aload_n 0, 1) := by decide +kernel
theorem dX2_startElement_60 : decode cX2_startElement 60 = .ok (.dup, 1) := by decide +kernel
theorem dX2_startElement_61 : decode cX2_startElement 61 = .ok (.getfield 39, 3) := by decide +kernel
theorem dX2_startElement_64 : decode cX2_startElement 64 = .ok (.iconst 1, 1) := by decide +kernel
theorem dX2_startElement_65 : decode cX2_startElement 65 = .ok (.iadd, 1) := by decide +kernel
theorem dX2_startElement_66 : decode cX2_startElement 66 = .ok (.putfield 39, 3) := by decide +kernel
theorem dX2_startElement_69 : decode cX2_startElement 69 = .ok (.return_, 1) := by decide +kernel
theorem dX2_startPart_0 : decode cX2_startPart 0 = .ok (.aload_n 0, 1) := by decide +kernel
theorem dX2_startPart_1 : decode cX2_startPart 1 = .ok (.getfield 39, 3) := by decide +kernel
theorem dX2_startPart_4 : decode cX2_startPart 4 = .ok (.iconst 1, 1) := by decide +kernel
theorem dX2_startPart_5 : decode cX2_startPart 5 = .ok (.isub, 1) := by decide +kernel
theorem dX2_startPart_6 : decode cX2_startPart 6 = .ok (.istore 4, 2) := by decide +kernel
theorem dX2_startPart_8 : decode cX2_startPart 8 = .ok (.iload 4, 2) := by decide +kernel
theorem dX2_startPart_10 : decode cX2_startPart 10 = .ok (.ifCond .lt 63, 3) := by decide +kernel
theorem dX2_startPart_13 : decode cX2_startPart 13 = .ok (.aload_n 0, 1) := by decide +kernel
theorem dX2_startPart_14 : decode cX2_startPart 14 = .ok (.getfield 15, 3) := by decide +kernel
theorem dX2_startPart_17 : decode cX2_startPart 17 = .ok (.iload 4, 2) := by decide +kernel
theorem dX2_startPart_19 : decode cX2_startPart 19 = .ok (.iaload, 1) := by decide +kernel
theorem dX2_startPart_20 : decode cX2_startPart 20 = .ok (.iconst 3, 1) := by decide +kernel
theorem dX2_startPart_21 : decode cX2_startPart 21 = .ok (.if_icmp .ge 52, 3) := by decide +kernel
theorem dX2_startPart_24 : decode cX2_startPart 24 = .ok (.iconst 3, 1) := by decide +kernel
theorem dX2_startPart_25 : decode cX2_startPart 25 = .ok (.iload 4, 2) := by decide +kernel
theorem dX2_startPart_27 : decode cX2_startPart 27 = .ok (.imul, 1) := by decide +kernel
theorem dX2_startPart_28 : decode cX2_startPart 28 = .ok (.aload_n 0, 1) := by decide +kernel
theorem dX2_startPart_29 : decode cX2_startPart 29 = .ok (.getfield 15, 3) := by decide +kernel
theorem dX2_startPart_32 : decode cX2_startPart 32 = .ok (.iload 4, 2) := by decide +kernel
theorem dX2_startPart_34 : decode cX2_startPart 34 = .ok (.iaload, 1) := by decide +kernel
theorem dX2_startPart_35 : decode cX2_startPart 35 = .ok (.iadd, 1) := by decide +kernel
theorem dX2_startPart_36 : decode cX2_startPart 36 = .ok (.istore 5, 2) := by decide +kernel
theorem dX2_startPart_38 : decode cX2_startPart 38 = .ok (.aload_n 0, 1) := by decide +kernel
theorem dX2_startPart_39 : decode cX2_startPart 39 = .ok (.getfield 27, 3) := by decide +kernel
theorem dX2_startPart_42 : decode cX2_startPart 42 = .ok (.iload 5, 2) := by decide +kernel
theorem dX2_startPart_44 : decode cX2_startPart 44 = .ok (.iload_n 1, 1) := by decide +kernel
theorem dX2_startPart_45 : decode cX2_startPart 45 = .ok (.iastore, 1) := by decide +kernel
theorem dX2_startPart_46 : decode cX2_startPart 46 = .ok (.aload_n 0, 1) := by decide +kernel
theorem dX2_startPart_47 : decode cX2_startPart 47 = .ok (.getfield 30, 3) := by decide +kernel
theorem dX2_startPart_50 : decode cX2_startPart 50 = .ok (.iload 5, 2) := by decide +kernel
theorem dX2_startPart_52 : decode cX2_startPart 52 = .ok (.iload_n 2, 1) := by decide +kernel
theorem dX2_startPart_53 : decode cX2_startPart 53 = .ok (.iastore, 1) := by decide +kernel
theorem dX2_startPart_54 : decode cX2_startPart 54 = .ok (.aload_n 0, 1) := by decide +kernel
theorem dX2_startPart_55 : decode cX2_startPart 55 = .ok (.getfield 33, 3) := by decide +kernel
theorem dX2_startPart_58 : decode cX2_startPart 58 = .ok (.iload 5, 2) := by decide +kernel
theorem dX2_startPart_60 : decode cX2_startPart 60 = .ok (.iload_n 3, 1) := by decide +kernel
theorem dX2_startPart_61 : decode cX2_startPart 61 = .ok (.iastore, 1) := by decide +kernel
theorem dX2_startPart_62 : decode cX2_startPart 62 = .ok (.aload_n 0, 1) := by decide +kernel
theorem dX2_startPart_63 : decode cX2_startPart 63 = .ok (.getfield 15, 3) := by decide +kernel
theorem dX2_startPart_66 : decode cX2_startPart 66 = .ok (.iload 4, 2) := by decide +kernel
theorem dX2_startPart_68 : decode cX2_startPart 68 = .ok (.dup2, 1) := by decide +kernel
theorem dX2_startPart_69 : decode cX2_startPart 69 = .ok (.iaload, 1) := by decide +kernel
theorem dX2_startPart_70 : decode cX2_startPart 70 = .ok (.iconst 1, 1) := by decide +kernel
theorem dX2_startPart_71 : decode cX2_startPart 71 = .ok (.iadd, 1) := by decide +kernel
theorem dX2_startPart_72 : decode cX2_startPart 72 = .ok (.iastore, 1) := by decide +kernel
theorem dX2_startPart_73 : decode cX2_startPart 73 = .ok (.return_, 1) := by decide +kernel
theorem dX2_copyFrom_0 : decode cX2_copyFrom 0 = .ok (.aload_n 0, 1) := by decide +kernel
theorem dX2_copyFrom_1 : decode cX2_copyFrom 1 = .ok (.aload_n 1, 1) := by decide +kernel
theorem dX2_copyFrom_2 : decode cX2_copyFrom 2 = .ok (.invokevirtual 52, 3) := by decide +kernel
theorem dX2_copyFrom_5 : decode cX2_copyFrom 5 = .ok (.aload_n 1, 1) := by decide +kernel
theorem dX2_copyFrom_6 : decode cX2_copyFrom 6 = .ok (.getfield 36, 3) := by decide +kernel
theorem dX2_copyFrom_9 : decode cX2_copyFrom 9 = .ok (.iconst 0, 1) := by decide +kernel
theorem dX2_copyFrom_10 : decode cX2_copyFrom 10 = .ok (.aload_n 0, 1) := by decide +kernel
theorem dX2_copyFrom_11 : decode cX2_copyFrom 11 = .ok (.getfield 36, 3) := by decide +kernel
theorem dX2_copyFrom_14 : decode cX2_copyFrom 14 = .ok (.iconst 0, 1) := by decide +kernel
theorem dX2_copyFrom_15 : decode cX2_copyFrom 15 = .ok (.iconst 3, 1) := by decide +kernel
theorem dX2_copyFrom_16 : decode cX2_copyFrom 16 = .ok (.invokestatic 56, 3) := by decide +kernel
theorem dX2_copyFrom_19 : decode cX2_copyFrom 19 = .ok (.aload_n 0, 1) := by decide +kernel
theorem dX2_copyFrom_20 : decode cX2_copyFrom 20 = .ok (.aload_n 1, 1) := by decide +kernel
theorem dX2_copyFrom_21 : decode cX2_copyFrom 21 = .ok (.getfield 43, 3) := by decide +kernel
theorem dX2_copyFrom_24 : decode cX2_copyFrom 24 = .ok (.putfield 43, 3) := by decide +kernel
theorem dX2_copyFrom_27 : decode cX2_copyFrom 27 = .ok (.return_, 1) := by decide +kernel
theorem dX2_copyElements_0 : decode cX2_copyElements 0 = .ok (.aload_n 0, 1) := by decide +kernel
theorem dX2_copyElements_1 : decode cX2_copyElements 1 = .ok (.aload_n 1, 1) := by decide +kernel
theorem dX2_copyElements_2 : decode cX2_copyElements 2 = .ok (.getfield 39, 3) := by decide +kernel
theorem dX2_copyElements_5 : decode cX2_copyElements 5 = .ok (.putfield 39, 3) := by decide +kernel
theorem dX2_copyElements_8 : decode cX2_copyElements 8 = .ok (.aload_n 1, 1) := by decide +kernel
theorem dX2_copyElements_9 : decode cX2_copyElements 9 = .ok (.getfield 9, 3) := by decide +kernel
theorem dX2_copyElements_12 : decode cX2_copyElements 12 = .ok (.iconst 0, 1) := by decide +kernel
theorem dX2_copyElements_13 : decode cX2_copyElements 13 = .ok (.aload_n 0, 1) := by decide +kernel
theorem dX2_copyElements_14 : decode cX2_copyElements 14 = .ok (.getfield 9, 3) := by decide +kernel
theorem dX2_copyElements_17 : decode cX2_copyElements 17 = .ok (.iconst 0, 1) := by decide +kernel
theorem dX2_copyElements_18 : decode cX2_copyElements 18 = .ok (.bipush 12, 2) := by decide +kernel
theorem dX2_copyElements_20 : decode cX2_copyElements 20 = .ok (.invokestatic 56, 3) := by decide +kernel
theorem dX2_copyElements_23 : decode cX2_copyElements 23 = .ok (.aload_n 1, 1) := by decide +kernel
theorem dX2_copyElements_24 : decode cX2_copyElements 24 = .ok (.getfield 15, 3) := by decide +kernel
theorem dX2_copyElements_27 : decode cX2_copyElements 27 = .ok (.iconst 0, 1) := by decide +kernel
theorem dX2_copyElements_28 : decode cX2_copyElements 28 = .ok (.aload_n 0, 1) := by decide +kernel
theorem dX2_copyElements_29 : decode cX2_copyElements 29 = .ok (.getfield 15, 3) := by decide +kernel
theorem dX2_copyElements_32 : decode cX2_copyElements 32 = .ok (.iconst 0, 1) := by decide +kernel
theorem dX2_copyElements_33 : decode cX2_copyElements 33 = .ok (.bipush 12, 2) := by decide +kernel
theorem dX2_copyElements_35 : decode cX2_copyElements 35 = .ok (.invokestatic 56, 3) := by decide +kernel
theorem dX2_copyElements_38 : decode cX2_copyElements 38 = .ok (.aload_n 1, 1) := by decide +kernel
theorem dX2_copyElements_39 : decode cX2_copyElements 39 = .ok (.getfield 18, 3) := by decide +kernel
theorem dX2_copyElements_42 : decode cX2_copyElements 42 = .ok (.iconst 0, 1) := by decide +kernel
theorem dX2_copyElements_43 : decode cX2_copyElements 43 = .ok (.aload_n 0, 1) := by decide +kernel
theorem dX2_copyElements_44 : decode cX2_copyElements 44 = .ok (.getfield 18, 3) := by decide +kernel
theorem dX2_copyElements_47 : decode cX2_copyElements 47 = .ok (.iconst 0, 1) := by decide +kernel
theorem dX2_copyElements_48 : decode cX2_copyElements 48 = .ok (.bipush 12, 2) := by decide +kernel
theorem dX2_copyElements_50 : decode cX2_copyElements 50 = .ok (.invokestatic 56, 3) := by decide +kernel
theorem dX2_copyElements_53 : decode cX2_copyElements 53 = .ok (.aload_n 1, 1) := by decide +kernel
theorem dX2_copyElements_54 : decode cX2_copyElements 54 = .ok (.getfield 21, 3) := by decide +kernel
theorem dX2_copyElements_57 : decode cX2_copyElements 57 = .ok (.iconst 0, 1) := by decide +kernel
theorem dX2_copyElements_58 : decode cX2_copyElements 58 = .ok (.aload_n 0, 1) := by decide +kernel
theorem dX2_copyElements_59 : decode cX2_copyElements 59 = .ok (.getfield 21, 3) := by decide +kernel
theorem dX2_copyElements_62 : decode cX2_copyElements 62 = .ok (.iconst 0, 1) := by decide +kernel
theorem dX2_copyElements_63 : decode cX2_copyElements 63 = .ok (.bipush 12, 2) := by decide +kernel
theorem dX2_copyElements_65 : decode cX2_copyElements 65 = .ok (.invokestatic 56, 3) := by decide +kernel
theorem dX2_copyElements_68 : decode cX2_copyElements 68 = .ok (.aload_n 1, 1) := by decide +kernel
theorem dX2_copyElements_69 : decode cX2_copyElements 69 = .ok (.getfield 24, 3) := by decide +kernel
theorem dX2_copyElements_72 : decode cX2_copyElements 72 = .ok (.iconst 0, 1) := by decide +kernel
theorem dX2_copyElements_73 : decode cX2_copyElements 73 = .ok (.aload_n 0, 1) := by decide +kernel
theorem dX2_copyElements_74 : decode cX2_copyElements 74 = .ok (.getfield 24, 3) := by decide +kernel
theorem dX2_copyElements_77 : decode cX2_copyElements 77 = .ok (.iconst 0, 1) := by decide +kernel
theorem dX2_copyElements_78 : decode cX2_copyElements 78 = .ok (.bipush 12, 2) := by decide +kernel
theorem dX2_copyElements_80 : decode cX2_copyElements 80 = .ok (.invokestatic 56, 3) := by decide +kernel
theorem dX2_copyElements_83 : decode cX2_copyElements 83 = .ok (.aload_n 1, 1) := by decide +kernel
theorem dX2_copyElements_84 : decode cX2_copyElements 84 = .ok (.getfield 27, 3) := by decide +kernel
theorem dX2_copyElements_87 : decode cX2_copyElements 87 = .ok (.iconst 0, 1) := by decide +kernel
theorem dX2_copyElements_88 : decode cX2_copyElements 88 = .ok (.aload_n 0, 1) := by decide +kernel
theorem dX2_copyElements_89 : decode cX2_copyElements 89 = .ok (.getfield 27, 3) := by decide +kernel
theorem dX2_copyElements_92 : decode cX2_copyElements 92 = .ok (.iconst 0, 1) := by decide +kernel
theorem dX2_copyElements_93 : decode cX2_copyElements 93 = .ok (.bipush 36, 2) := by decide +kernel
theorem dX2_copyElements_95 : decode cX2_copyElements 95 = .ok (.invokestatic 56, 3) := by decide +kernel
theorem dX2_copyElements_98 : decode cX2_copyElements 98 = .ok (.aload_n 1, 1) := by decide +kernel
theorem dX2_copyElements_99 : decode cX2_copyElements 99 = .ok (.getfield 30, 3) := by decide +kernel
theorem dX2_copyElements_102 : decode cX2_copyElements 102 = .ok (.iconst 0, 1) := by decide +kernel
theorem dX2_copyElements_103 : decode cX2_copyElements 103 = .ok (.aload_n 0, 1) := by decide +kernel
theorem dX2_copyElements_104 : decode cX2_copyElements 104 = .ok (.getfield 30, 3) := by decide +kernel
theorem dX2_copyElements_107 : decode cX2_copyElements 107 = .ok (.iconst 0, 1) := by decide +kernel
theorem dX2_copyElements_108 : decode cX2_copyElements 108 = .ok (.bipush 36, 2) := by decide +kernel
theorem dX2_copyElements_110 : decode cX2_copyElements 110 = .ok (.invokestatic 56, 3) := by decide +kernel
theorem dX2_copyElements_113 : decode cX2_copyElements 113 = .ok (.aload_n 1, 1) := by decide +kernel
theorem dX2_copyElements_114 : decode cX2_copyElements 114 = .ok (.getfield 33, 3) := by decide +kernel
theorem dX2_copyElements_117 : decode cX2_copyElements 117 = .ok (.iconst 0, 1) := by decide +kernel
theorem dX2_copyElements_118 : decode cX2_copyElements 118 = .ok (.aload_n 0, 1) := by decide +kernel
theorem dX2_copyElements_119 : decode cX2_copyElements 119 = .ok (.getfield 33, 3) := by decide +kernel
theorem dX2_copyElements_122 : decode cX2_copyElements 122 = .ok (.iconst 0, 1) := by decide +kernel
theorem dX2_copyElements_123 : decode cX2_copyElements 123 = .ok (.bipush 36, 2) := by decide +kernel
theorem dX2_copyElements_125 : decode cX2_copyElements 125 = .ok (.invokestatic 56, 3) := by decide +kernel
theorem dX2_copyElements_128 : decode cX2_copyElements 128 = .ok (.return_, 1) := by decide +kernel
theorem dX2_takeElement_0 : decode cX2_takeElement 0 = .ok (.aload_n 0, 1) := by decide +kernel
theorem dX2_takeElement_1 : decode cX2_takeElement 1 = .ok (.getfield 9, 3) := by decide +kernel
theorem dX2_takeElement_4 : decode cX2_takeElement 4 = .ok (.iload_n 1, 1) := by decide +kernel
theorem dX2_takeElement_5 : decode cX2_takeElement 5 = .ok (.aload_n 2, 1) := by decide +kernel
theorem dX2_takeElement_6 : decode cX2_takeElement 6 = .ok (.getfield 9, 3) := by decide +kernel
theorem dX2_takeElement_9 : decode cX2_takeElement 9 = .ok (.iload_n 3, 1) := by decide +kernel
theorem dX2_takeElement_10 : decode cX2_takeElement 10 = .ok (.iaload, 1) := by decide +kernel
theorem dX2_takeElement_11 : decode cX2_takeElement 11 = .ok (.iastore, 1) := by decide +kernel
theorem dX2_takeElement_12 : decode cX2_takeElement 12 = .ok (.aload_n 0, 1) := by decide +kernel
theorem dX2_takeElement_13 : decode cX2_takeElement 13 = .ok (.getfield 15, 3) := by decide +kernel
theorem dX2_takeElement_16 : decode cX2_takeElement 16 = .ok (.iload_n 1, 1) := by decide +kernel
theorem dX2_takeElement_17 : decode cX2_takeElement 17 = .ok (.aload_n 2, 1) := by decide +kernel
theorem dX2_takeElement_18 : decode cX2_takeElement 18 = .ok (.getfield 15, 3) := by decide +kernel
theorem dX2_takeElement_21 : decode cX2_takeElement 21 = .ok (.iload_n 3, 1) := by decide +kernel
theorem dX2_takeElement_22 : decode cX2_takeElement 22 = .ok (.iaload, 1) := by decide +kernel
theorem dX2_takeElement_23 : decode cX2_takeElement 23 = .ok (.iastore, 1) := by decide +kernel
theorem dX2_takeElement_24 : decode cX2_takeElement 24 = .ok (.aload_n 0, 1) := by decide +kernel
theorem dX2_takeElement_25 : decode cX2_takeElement 25 = .ok (.getfield 18, 3) := by decide +kernel
theorem dX2_takeElement_28 : decode cX2_takeElement 28 = .ok (.iload_n 1, 1) := by decide +kernel
theorem dX2_takeElement_29 : decode cX2_takeElement 29 = .ok (.aload_n 2, 1) := by decide +kernel
theorem dX2_takeElement_30 : decode cX2_takeElement 30 = .ok (.getfield 18, 3) := by decide +kernel
theorem dX2_takeElement_33 : decode cX2_takeElement 33 = .ok (.iload_n 3, 1) := by decide +kernel
theorem dX2_takeElement_34 : decode cX2_takeElement 34 = .ok (.iaload, 1) := by decide +kernel
theorem dX2_takeElement_35 : decode cX2_takeElement 35 = .ok (.iastore, 1) := by decide +kernel
theorem dX2_takeElement_36 : decode cX2_takeElement 36 = .ok (.aload_n 0, 1) := by decide +kernel
theorem dX2_takeElement_37 : decode cX2_takeElement 37 = .ok (.getfield 21, 3) := by decide +kernel
theorem dX2_takeElement_40 : decode cX2_takeElement 40 = .ok (.iload_n 1, 1) := by decide +kernel
theorem dX2_takeElement_41 : decode cX2_takeElement 41 = .ok (.aload_n 2, 1) := by decide +kernel
theorem dX2_takeElement_42 : decode cX2_takeElement 42 = .ok (.getfield 21, 3) := by decide +kernel
theorem dX2_takeElement_45 : decode cX2_takeElement 45 = .ok (.iload_n 3, 1) := by decide +kernel
theorem dX2_takeElement_46 : decode cX2_takeElement 46 = .ok (.iaload, 1) := by decide +kernel
theorem dX2_takeElement_47 : decode cX2_takeElement 47 = .ok (.iastore, 1) := by decide +kernel
theorem dX2_takeElement_48 : decode cX2_takeElement 48 = .ok (.aload_n 0, 1) := by decide +kernel
theorem dX2_takeElement_49 : decode cX2_takeElement 49 = .ok (.getfield 24, 3) := by decide +kernel
theorem dX2_takeElement_52 : decode cX2_takeElement 52 = .ok (.iload_n 1, 1) := by decide +kernel
theorem dX2_takeElement_53 : decode cX2_takeElement 53 = .ok (.aload_n 2, 1) := by decide +kernel
theorem dX2_takeElement_54 : decode cX2_takeElement 54 = .ok (.getfield 24, 3) := by decide +kernel
theorem dX2_takeElement_57 : decode cX2_takeElement 57 = .ok (.iload_n 3, 1) := by decide +kernel
theorem dX2_takeElement_58 : decode cX2_takeElement 58 = .ok (.iaload, 1) := by decide +kernel
theorem dX2_takeElement_59 : decode cX2_takeElement 59 = .ok (.iastore, 1) := by decide +kernel
theorem dX2_takeElement_60 : decode cX2_takeElement 60 = .ok (.iconst 0, 1) := by decide +kernel
theorem dX2_takeElement_61 : decode cX2_takeElement 61 = .ok (.istore 4, 2) := by decide +kernel
theorem dX2_takeElement_63 : decode cX2_takeElement 63 = .ok (.iload 4, 2) := by decide +kernel
theorem dX2_takeElement_65 : decode cX2_takeElement 65 = .ok (.iconst 3, 1) := by decide +kernel
theorem dX2_takeElement_66 : decode cX2_takeElement 66 = .ok (.if_icmp .ge 75, 3) := by decide +kernel
theorem dX2_takeElement_69 : decode cX2_takeElement 69 = .ok (.aload_n 0, 1) := by decide +kernel
theorem dX2_takeElement_70 : decode cX2_takeElement 70 = .ok (.getfield 27, 3) := by decide +kernel
theorem dX2_takeElement_73 : decode cX2_takeElement 73 = .ok (.iconst 3, 1) := by decide +kernel
theorem dX2_takeElement_74 : decode cX2_takeElement 74 = .ok (.iload_n 1, 1) := by decide +kernel
theorem dX2_takeElement_75 : decode cX2_takeElement 75 = .ok (.imul, 1) := by decide +kernel
theorem dX2_takeElement_76 : decode cX2_takeElement 76 = .ok (.iload 4, 2) := by decide +kernel
theorem dX2_takeElement_78 : decode cX2_takeElement 78 = .ok (.iadd, 1) := by decide +kernel
theorem dX2_takeElement_79 : decode cX2_takeElement 79 = .ok (.aload_n 2, 1) := by decide +kernel
theorem dX2_takeElement_80 : decode cX2_takeElement 80 = .ok (.getfield 27, 3) := by decide +kernel
theorem dX2_takeElement_83 : decode cX2_takeElement 83 = .ok (.iconst 3, 1) := by decide +kernel
theorem dX2_takeElement_84 : decode cX2_takeElement 84 = .ok (.iload_n 3, 1) := by decide +kernel
theorem dX2_takeElement_85 : decode cX2_takeElement 85 = .ok (.imul, 1) := by decide +kernel
theorem dX2_takeElement_86 : decode cX2_takeElement 86 = .ok (.iload 4, 2) := by decide +kernel
theorem dX2_takeElement_88 : decode cX2_takeElement 88 = .ok (.iadd, 1) := by decide +kernel
theorem dX2_takeElement_89 : decode cX2_takeElement 89 = .ok (.iaload, 1) := by decide +kernel
theorem dX2_takeElement_90 : decode cX2_takeElement 90 = .ok (.iastore, 1) := by decide +kernel
theorem dX2_takeElement_91 : decode cX2_takeElement 91 = .ok (.aload_n 0, 1) := by decide +kernel
theorem dX2_takeElement_92 : decode cX2_takeElement 92 = .ok (.getfield 30, 3) := by decide +kernel
theorem dX2_takeElement_95 : decode cX2_takeElement 95 = .ok (.iconst 3, 1) := by decide +kernel
theorem dX2_takeElement_96 : decode cX2_takeElement 96 = .ok (.iload_n 1, 1) := by decide +kernel
theorem dX2_takeElement_97 : decode cX2_takeElement 97 = .ok (.imul, 1) := by decide +kernel
theorem dX2_takeElement_98 : decode cX2_takeElement 98 = .ok (.iload 4, 2) := by decide +kernel
theorem dX2_takeElement_100 : decode cX2_takeElement 100 = .ok (.iadd, 1) := by decide +kernel
theorem dX2_takeElement_101 : decode cX2_takeElement 101 = .ok (.aload_n 2, 1) := by decide +kernel
theorem dX2_takeElement_102 : decode cX2_takeElement 102 = .ok (.getfield 30, 3) := by decide +kernel
theorem dX2_takeElement_105 : decode cX2_takeElement 105 = .ok (.iconst 3, 1) := by decide +kernel
theorem dX2_takeElement_106 : decode cX2_takeElement 106 = .ok (.iload_n 3, 1) := by decide +kernel
theorem dX2_takeElement_107 : decode cX2_takeElement 107 = .ok (.imul, 1) := by decide +kernel
theorem dX2_takeElement_108 : decode cX2_takeElement 108 = .ok (.iload 4, 2) := by decide +kernel
theorem dX2_takeElement_110 : decode cX2_takeElement 110 = .ok (.iadd, 1) := by decide +kernel
theorem dX2_takeElement_111 : decode cX2_takeElement 111 = .ok (.iaload, 1) := by decide +kernel
theorem dX2_takeElement_112 : decode cX2_takeElement 112 = .ok (.iastore, 1) := by decide +kernel
theorem dX2_takeElement_113 : decode cX2_takeElement 113 = .ok (.aload_n 0, 1) := by decide +kernel
theorem dX2_takeElement_114 : decode cX2_takeElement 114 = .ok (.getfield 33, 3) := by decide +kernel
theorem dX2_takeElement_117 : decode cX2_takeElement 117 = .ok (.iconst 3, 1) := by decide +kernel
theorem dX2_takeElement_118 : decode cX2_takeElement 118 = .ok (.iload_n 1, 1) := by decide +kernel
theorem dX2_takeElement_119 : decode cX2_takeElement 119 = .ok (.imul, 1) := by decide +kernel
theorem dX2_takeElement_120 : decode cX2_takeElement 120 = .ok (.iload 4, 2) := by decide +kernel
theorem dX2_takeElement_122 : decode cX2_takeElement 122 = .ok (.iadd, 1) := by decide +kernel
theorem dX2_takeElement_123 : decode cX2_takeElement 123 = .ok (.aload_n 2, 1) := by decide +kernel
theorem dX2_takeElement_124 : decode cX2_takeElement 124 = .ok (.getfield 33, 3) := by decide +kernel
theorem dX2_takeElement_127 : decode cX2_takeElement 127 = .ok (.iconst 3, 1) := by decide +kernel
theorem dX2_takeElement_128 : decode cX2_takeElement 128 = .ok (.iload_n 3, 1) := by decide +kernel
theorem dX2_takeElement_129 : decode cX2_takeElement 129 = .ok (.imul, 1) := by decide +kernel
theorem dX2_takeElement_130 : decode cX2_takeElement 130 = .ok (.iload 4, 2) := by decide +kernel
theorem dX2_takeElement_132 : decode cX2_takeElement 132 = .ok (.iadd, 1) := by decide +kernel
theorem dX2_takeElement_133 : decode cX2_takeElement 133 = .ok (.iaload, 1) := by decide +kernel
theorem dX2_takeElement_134 : decode cX2_takeElement 134 = .ok (.iastore, 1) := by decide +kernel
theorem dX2_takeElement_135 : decode cX2_takeElement 135 = .ok (.iinc 4 1, 3) := by decide +kernel
theorem dX2_takeElement_138 : decode cX2_takeElement 138 = .ok (.goto (-75), 3) := by decide +kernel
theorem dX2_takeElement_141 : decode cX2_takeElement 141 = .ok (.return_, 1) := by decide +kernel
theorem dX2_takesCall_0 : decode cX2_takesCall 0 = .ok (.aload_n 0, 1) := by decide +kernel
theorem dX2_takesCall_1 : decode cX2_takesCall 1 = .ok (.getfield 9, 3) := by decide +kernel
theorem dX2_takesCall_4 : decode cX2_takesCall 4 = .ok (.iload_n 1, 1) := by decide +kernel
theorem dX2_takesCall_5 : decode cX2_takesCall 5 = .ok (.iaload, 1) := by decide +kernel
theorem dX2_takesCall_6 : decode cX2_takesCall 6 = .ok (.ifCond .eq 5, 3) := by decide +kernel
theorem dX2_takesCall_9 : decode cX2_takesCall 9 = .ok (.iconst 0, 1) := by decide +kernel
theorem dX2_takesCall_10 : decode cX2_takesCall 10 = .ok (.ireturn, 1) := by decide +kernel
theorem dX2_takesCall_11 : decode cX2_takesCall 11 = .ok (.iload_n 3, 1) := by decide +kernel
theorem dX2_takesCall_12 : decode cX2_takesCall 12 = .ok (.iconst 3, 1) := by decide +kernel
theorem dX2_takesCall_13 : decode cX2_takesCall 13 = .ok (.if_icmp .ne 19, 3) := by decide +kernel
theorem dX2_takesCall_16 : decode cX2_takesCall 16 = .ok (.aload_n 0, 1) := by decide +kernel
theorem dX2_takesCall_17 : decode cX2_takesCall 17 = .ok (.getfield 27, 3) := by decide +kernel
theorem dX2_takesCall_20 : decode cX2_takesCall 20 = .ok (.iconst 3, 1) := by decide +kernel
theorem dX2_takesCall_21 : decode cX2_takesCall 21 = .ok (.iload_n 1, 1) := by decide +kernel
theorem dX2_takesCall_22 : decode cX2_takesCall 22 = .ok (.imul, 1) := by decide +kernel
theorem dX2_takesCall_23 : decode cX2_takesCall 23 = .ok (.iload_n 2, 1) := by decide +kernel
theorem dX2_takesCall_24 : decode cX2_takesCall 24 = .ok (.iadd, 1) := by decide +kernel
theorem dX2_takesCall_25 : decode cX2_takesCall 25 = .ok (.iaload, 1) := by decide +kernel
theorem dX2_takesCall_26 : decode cX2_takesCall 26 = .ok (.invokestatic 62, 3) := by decide +kernel
theorem dX2_takesCall_29 : decode cX2_takesCall 29 = .ok (.ifCond .eq 7, 3) := by decide +kernel
theorem dX2_takesCall_32 : decode cX2_takesCall 32 = .ok (.iconst 1, 1) := by decide +kernel
theorem dX2_takesCall_33 : decode cX2_takesCall 33 = .ok (.goto 4, 3) := by decide +kernel
theorem dX2_takesCall_36 : decode cX2_takesCall 36 = .ok (.iconst 0, 1) := by decide +kernel
theorem dX2_takesCall_37 : decode cX2_takesCall 37 = .ok (.ireturn, 1) := by decide +kernel
theorem dX2_hasEdge_0 : decode cX2_hasEdge 0 = .ok (.iload_n 0, 1) := by decide +kernel
theorem dX2_hasEdge_1 : decode cX2_hasEdge 1 = .ok (.iconst 3, 1) := by decide +kernel
theorem dX2_hasEdge_2 : decode cX2_hasEdge 2 = .ok (.if_icmp .eq 8, 3) := by decide +kernel
theorem dX2_hasEdge_5 : decode cX2_hasEdge 5 = .ok (.iload_n 0, 1) := by decide +kernel
theorem dX2_hasEdge_6 : decode cX2_hasEdge 6 = .ok (.iconst 4, 1) := by decide +kernel
theorem dX2_hasEdge_7 : decode cX2_hasEdge 7 = .ok (.if_icmp .ne 7, 3) := by decide +kernel
theorem dX2_hasEdge_10 : decode cX2_hasEdge 10 = .ok (.iconst 1, 1) := by decide +kernel
theorem dX2_hasEdge_11 : decode cX2_hasEdge 11 = .ok (.goto 4, 3) := by decide +kernel
theorem dX2_hasEdge_14 : decode cX2_hasEdge 14 = .ok (.iconst 0, 1) := by decide +kernel
theorem dX2_hasEdge_15 : decode cX2_hasEdge 15 = .ok (.ireturn, 1) := by decide +kernel
theorem dX2_fallen_0 : decode cX2_fallen 0 = .ok (.iconst 0, 1) := by decide +kernel
theorem dX2_fallen_1 : decode cX2_fallen 1 = .ok (.istore_n 1, 1) := by decide +kernel
theorem dX2_fallen_2 : decode cX2_fallen 2 = .ok (.iconst 0, 1) := by decide +kernel
theorem dX2_fallen_3 : decode cX2_fallen 3 = .ok (.istore_n 2, 1) := by decide +kernel
theorem dX2_fallen_4 : decode cX2_fallen 4 = .ok (.iload_n 2, 1) := by decide +kernel
theorem dX2_fallen_5 : decode cX2_fallen 5 = .ok (.aload_n 0, 1) := by decide +kernel
theorem dX2_fallen_6 : decode cX2_fallen 6 = .ok (.getfield 39, 3) := by decide +kernel
theorem dX2_fallen_9 : decode cX2_fallen 9 = .ok (.if_icmp .ge 18, 3) := by decide +kernel
theorem dX2_fallen_12 : decode cX2_fallen 12 = .ok (.iload_n 1, 1) := by decide +kernel
theorem dX2_fallen_13 : decode cX2_fallen 13 = .ok (.aload_n 0, 1) := by decide +kernel
theorem dX2_fallen_14 : decode cX2_fallen 14 = .ok (.getfield 21, 3) := by decide +kernel
theorem dX2_fallen_17 : decode cX2_fallen 17 = .ok (.iload_n 2, 1) := by decide +kernel
theorem dX2_fallen_18 : decode cX2_fallen 18 = .ok (.iaload, 1) := by decide +kernel
theorem dX2_fallen_19 : decode cX2_fallen 19 = .ok (.iadd, 1) := by decide +kernel
theorem dX2_fallen_20 : decode cX2_fallen 20 = .ok (.istore_n 1, 1) := by decide +kernel
theorem dX2_fallen_21 : decode cX2_fallen 21 = .ok (.iinc 2 1, 3) := by decide +kernel
theorem dX2_fallen_24 : decode cX2_fallen 24 = .ok (.goto (-20), 3) := by decide +kernel
theorem dX2_fallen_27 : decode cX2_fallen 27 = .ok (.iload_n 1, 1) := by decide +kernel
theorem dX2_fallen_28 : decode cX2_fallen 28 = .ok (.ireturn, 1) := by decide +kernel
theorem dX2_reviewed_0 : decode cX2_reviewed 0 = .ok (.iconst 0, 1) := by decide +kernel
theorem dX2_reviewed_1 : decode cX2_reviewed 1 = .ok (.istore_n 1, 1) := by decide +kernel
theorem dX2_reviewed_2 : decode cX2_reviewed 2 = .ok (.iconst 0, 1) := by decide +kernel
theorem dX2_reviewed_3 : decode cX2_reviewed 3 = .ok (.istore_n 2, 1) := by decide +kernel
theorem dX2_reviewed_4 : decode cX2_reviewed 4 = .ok (.iload_n 2, 1) := by decide +kernel
theorem dX2_reviewed_5 : decode cX2_reviewed 5 = .ok (.aload_n 0, 1) := by decide +kernel
theorem dX2_reviewed_6 : decode cX2_reviewed 6 = .ok (.getfield 39, 3) := by decide +kernel
theorem dX2_reviewed_9 : decode cX2_reviewed 9 = .ok (.if_icmp .ge 18, 3) := by decide +kernel
theorem dX2_reviewed_12 : decode cX2_reviewed 12 = .ok (.iload_n 1, 1) := by decide +kernel
theorem dX2_reviewed_13 : decode cX2_reviewed 13 = .ok (.aload_n 0, 1) := by decide +kernel
theorem dX2_reviewed_14 : decode cX2_reviewed 14 = .ok (.getfield 24, 3) := by decide +kernel
theorem dX2_reviewed_17 : decode cX2_reviewed 17 = .ok (.iload_n 2, 1) := by decide +kernel
theorem dX2_reviewed_18 : decode cX2_reviewed 18 = .ok (.iaload, 1) := by decide +kernel
theorem dX2_reviewed_19 : decode cX2_reviewed 19 = .ok (.iadd, 1) := by decide +kernel
theorem dX2_reviewed_20 : decode cX2_reviewed 20 = .ok (.istore_n 1, 1) := by decide +kernel
theorem dX2_reviewed_21 : decode cX2_reviewed 21 = .ok (.iinc 2 1, 3) := by decide +kernel
theorem dX2_reviewed_24 : decode cX2_reviewed 24 = .ok (.goto (-20), 3) := by decide +kernel
theorem dX2_reviewed_27 : decode cX2_reviewed 27 = .ok (.iload_n 1, 1) := by decide +kernel
theorem dX2_reviewed_28 : decode cX2_reviewed 28 = .ok (.ireturn, 1) := by decide +kernel
theorem dX3_init_0 : decode cX3_init 0 = .ok (.aload_n 0, 1) := by decide +kernel
theorem dX3_init_1 : decode cX3_init 1 = .ok (.invokespecial 3, 3) := by decide +kernel
theorem dX3_init_4 : decode cX3_init 4 = .ok (.aload_n 0, 1) := by decide +kernel
theorem dX3_init_5 : decode cX3_init 5 = .ok (.bipush 36, 2) := by decide +kernel
theorem dX3_init_7 : decode cX3_init 7 = .ok (.newarray .int, 2) := by decide +kernel
theorem dX3_init_9 : decode cX3_init 9 = .ok (.putfield 9, 3) := by decide +kernel
theorem dX3_init_12 : decode cX3_init 12 = .ok (.aload_n 0, 1) := by decide +kernel
theorem dX3_init_13 : decode cX3_init 13 = .ok (.bipush 36, 2) := by decide +kernel
theorem dX3_init_15 : decode cX3_init 15 = .ok (.newarray .int, 2) := by decide +kernel
theorem dX3_init_17 : decode cX3_init 17 = .ok (.putfield 15, 3) := by decide +kernel
theorem dX3_init_20 : decode cX3_init 20 = .ok (.aload_n 0, 1) := by decide +kernel
theorem dX3_init_21 : decode cX3_init 21 = .ok (.bipush 12, 2) := by decide +kernel
theorem dX3_init_23 : decode cX3_init 23 = .ok (.newarray .int, 2) := by decide +kernel
theorem dX3_init_25 : decode cX3_init 25 = .ok (.putfield 18, 3) := by decide +kernel
theorem dX3_init_28 : decode cX3_init 28 = .ok (.aload_n 0, 1) := by decide +kernel
theorem dX3_init_29 : decode cX3_init 29 = .ok (.bipush 12, 2) := by decide +kernel
theorem dX3_init_31 : decode cX3_init 31 = .ok (.newarray .int, 2) := by decide +kernel
theorem dX3_init_33 : decode cX3_init 33 = .ok (.putfield 21, 3) := by decide +kernel
theorem dX3_init_36 : decode cX3_init 36 = .ok (.aload_n 0, 1) := by decide +kernel
theorem dX3_init_37 : decode cX3_init 37 = .ok (.bipush 12, 2) := by decide +kernel
theorem dX3_init_39 : decode cX3_init 39 = .ok (.newarray .int, 2) := by decide +kernel
theorem dX3_init_41 : decode cX3_init 41 = .ok (.putfield 24, 3) := by decide +kernel
theorem dX3_init_44 : decode cX3_init 44 = .ok (.aload_n 0, 1) := by decide +kernel
theorem dX3_init_45 : decode cX3_init 45 = .ok (.bipush 12, 2) := by decide +kernel
theorem dX3_init_47 : decode cX3_init 47 = .ok (.newarray .int, 2) := by decide +kernel
theorem dX3_init_49 : decode cX3_init 49 = .ok (.putfield 27, 3) := by decide +kernel
theorem dX3_init_52 : decode cX3_init 52 = .ok (.aload_n 0, 1) := by decide +kernel
theorem dX3_init_53 : decode cX3_init 53 = .ok (.bipush 12, 2) := by decide +kernel
theorem dX3_init_55 : decode cX3_init 55 = .ok (.newarray .int, 2) := by decide +kernel
theorem dX3_init_57 : decode cX3_init 57 = .ok (.putfield 30, 3) := by decide +kernel
theorem dX3_init_60 : decode cX3_init 60 = .ok (.aload_n 0, 1) := by decide +kernel
theorem dX3_init_61 : decode cX3_init 61 = .ok (.bipush 12, 2) := by decide +kernel
theorem dX3_init_63 : decode cX3_init 63 = .ok (.newarray .int, 2) := by decide +kernel
theorem dX3_init_65 : decode cX3_init 65 = .ok (.putfield 33, 3) := by decide +kernel
theorem dX3_init_68 : decode cX3_init 68 = .ok (.return_, 1) := by decide +kernel
theorem dX3_startOver_0 : decode cX3_startOver 0 = .ok (.aload_n 0, 1) := by decide +kernel
theorem dX3_startOver_1 : decode cX3_startOver 1 = .ok (.getfield 30, 3) := by decide +kernel
theorem dX3_startOver_4 : decode cX3_startOver 4 = .ok (.iconst 0, 1) := by decide +kernel
theorem dX3_startOver_5 : decode cX3_startOver 5 = .ok (.invokestatic 36, 3) := by decide +kernel
theorem dX3_startOver_8 : decode cX3_startOver 8 = .ok (.aload_n 0, 1) := by decide +kernel
theorem dX3_startOver_9 : decode cX3_startOver 9 = .ok (.iconst 0, 1) := by decide +kernel
theorem dX3_startOver_10 : decode cX3_startOver 10 = .ok (.putfield 42, 3) := by decide +kernel
theorem dX3_startOver_13 : decode cX3_startOver 13 = .ok (.aload_n 0, 1) := by decide +kernel
theorem dX3_startOver_14 : decode cX3_startOver 14 = .ok (.iconst 0, 1) := by decide +kernel
theorem dX3_startOver_15 : decode cX3_startOver 15 = .ok (.putfield 46, 3) := by decide +kernel
theorem dX3_startOver_18 : decode cX3_startOver 18 = .ok (.aload_n 0, 1) := by decide +kernel
theorem dX3_startOver_19 : decode cX3_startOver 19 = .ok (.iconst 0, 1) := by decide +kernel
theorem dX3_startOver_20 : decode cX3_startOver 20 = .ok (.putfield 49, 3) := by decide +kernel
theorem dX3_startOver_23 : decode cX3_startOver 23 = .ok (.aload_n 0, 1) := by decide +kernel
theorem dX3_startOver_24 : decode cX3_startOver 24 = .ok (.iconst 0, 1) := by decide +kernel
theorem dX3_startOver_25 : decode cX3_startOver 25 = .ok (.putfield 52, 3) := by decide +kernel
theorem dX3_startOver_28 : decode cX3_startOver 28 = .ok (.aload_n 0, 1) := by decide +kernel
theorem dX3_startOver_29 : decode cX3_startOver 29 = .ok (.iconst 0, 1) := by decide +kernel
theorem dX3_startOver_30 : decode cX3_startOver 30 = .ok (.putfield 55, 3) := by decide +kernel
theorem dX3_startOver_33 : decode cX3_startOver 33 = .ok (.aload_n 0, 1) := by decide +kernel
theorem dX3_startOver_34 : decode cX3_startOver 34 = .ok (.iconst 0, 1) := by decide +kernel
theorem dX3_startOver_35 : decode cX3_startOver 35 = .ok (.putfield 59, 3) := by decide +kernel
theorem dX3_startOver_38 : decode cX3_startOver 38 = .ok (.aload_n 0, 1) := by decide +kernel
theorem dX3_startOver_39 : decode cX3_startOver 39 = .ok (.iconst 0, 1) := by decide +kernel
theorem dX3_startOver_40 : decode cX3_startOver 40 = .ok (.putfield 62, 3) := by decide +kernel
theorem dX3_startOver_43 : decode cX3_startOver 43 = .ok (.aload_n 0, 1) := by decide +kernel
theorem dX3_startOver_44 : decode cX3_startOver 44 = .ok (.iconst 0, 1) := by decide +kernel
theorem dX3_startOver_45 : decode cX3_startOver 45 = .ok (.putfield 65, 3) := by decide +kernel
theorem dX3_startOver_48 : decode cX3_startOver 48 = .ok (.return_, 1) := by decide +kernel
theorem dX3_rate_0 : decode cX3_rate 0 = .ok (.aload_n 0, 1) := by decide +kernel
theorem dX3_rate_1 : decode cX3_rate 1 = .ok (.invokevirtual 68, 3) := by decide +kernel
theorem dX3_rate_4 : decode cX3_rate 4 = .ok (.iconst 0, 1) := by decide +kernel
theorem dX3_rate_5 : decode cX3_rate 5 = .ok (.istore_n 3, 1) := by decide +kernel
theorem dX3_rate_6 : decode cX3_rate 6 = .ok (.iload_n 3, 1) := by decide +kernel
theorem dX3_rate_7 : decode cX3_rate 7 = .ok (.aload_n 1, 1) := by decide +kernel
theorem dX3_rate_8 : decode cX3_rate 8 = .ok (.getfield 71, 3) := by decide +kernel
theorem dX3_rate_11 : decode cX3_rate 11 = .ok (.if_icmp .ge 56, 3) := by decide +kernel
theorem dX3_rate_14 : decode cX3_rate 14 = .ok (.aload_n 0, 1) := by decide +kernel
theorem dX3_rate_15 : decode cX3_rate 15 = .ok (.aload_n 1, 1) := by decide +kernel
theorem dX3_rate_16 : decode cX3_rate 16 = .ok (.iload_n 3, 1) := by decide +kernel
theorem dX3_rate_17 : decode cX3_rate 17 = .ok (.aload_n 2, 1) := by decide +kernel
theorem dX3_rate_18 : decode cX3_rate 18 = .ok (.invokevirtual 76, 3) := by decide +kernel
theorem dX3_rate_21 : decode cX3_rate 21 = .ok (.aload_n 0, 1) := by decide +kernel
theorem dX3_rate_22 : decode cX3_rate 22 = .ok (.dup, 1) := by decide +kernel
theorem dX3_rate_23 : decode cX3_rate 23 = .ok (.getfield 62, 3) := by decide +kernel
theorem dX3_rate_26 : decode cX3_rate 26 = .ok (.aload_n 0, 1) := by decide +kernel
theorem dX3_rate_27 : decode cX3_rate 27 = .ok (.getfield 18, 3) := by decide +kernel
theorem dX3_rate_30 : decode cX3_rate 30 = .ok (.iload_n 3, 1) := by decide +kernel
theorem dX3_rate_31 : decode cX3_rate 31 = .ok (.iaload, 1) := by decide +kernel
theorem dX3_rate_32 : decode cX3_rate 32 = .ok (.aload_n 0, 1) := by decide +kernel
theorem dX3_rate_33 : decode cX3_rate 33 = .ok (.getfield 24, 3) := by decide +kernel
theorem dX3_rate_36 : decode cX3_rate 36 = .ok (.iload_n 3, 1) := by decide +kernel
theorem dX3_rate_37 : decode cX3_rate 37 = .ok (.iaload, 1) := by decide +kernel
theorem dX3_rate_38 : decode cX3_rate 38 = .ok (.iadd, 1) := by decide +kernel
theorem dX3_rate_39 : decode cX3_rate 39 = .ok (.iadd, 1) := by decide +kernel
theorem dX3_rate_40 : decode cX3_rate 40 = .ok (.putfield 62, 3) := by decide +kernel
theorem dX3_rate_43 : decode cX3_rate 43 = .ok (.aload_n 0, 1) := by decide +kernel
theorem dX3_rate_44 : decode cX3_rate 44 = .ok (.dup, 1) := by decide +kernel
theorem dX3_rate_45 : decode cX3_rate 45 = .ok (.getfield 65, 3) := by decide +kernel
theorem dX3_rate_48 : decode cX3_rate 48 = .ok (.bipush 100, 2) := by decide +kernel
theorem dX3_rate_50 : decode cX3_rate 50 = .ok (.aload_n 1, 1) := by decide +kernel
theorem dX3_rate_51 : decode cX3_rate 51 = .ok (.getfield 80, 3) := by decide +kernel
theorem dX3_rate_54 : decode cX3_rate 54 = .ok (.iload_n 3, 1) := by decide +kernel
theorem dX3_rate_55 : decode cX3_rate 55 = .ok (.iaload, 1) := by decide +kernel
theorem dX3_rate_56 : decode cX3_rate 56 = .ok (.imul, 1) := by decide +kernel
theorem dX3_rate_57 : decode cX3_rate 57 = .ok (.iadd, 1) := by decide +kernel
theorem dX3_rate_58 : decode cX3_rate 58 = .ok (.putfield 65, 3) := by decide +kernel
theorem dX3_rate_61 : decode cX3_rate 61 = .ok (.iinc 3 1, 3) := by decide +kernel
theorem dX3_rate_64 : decode cX3_rate 64 = .ok (.goto (-58), 3) := by decide +kernel
theorem dX3_rate_67 : decode cX3_rate 67 = .ok (.aload_n 0, 1) := by decide +kernel
theorem dX3_rate_68 : decode cX3_rate 68 = .ok (.dup, 1) := by decide +kernel
theorem dX3_rate_69 : decode cX3_rate 69 = .ok (.getfield 65, 3) := by decide +kernel
theorem dX3_rate_72 : decode cX3_rate 72 = .ok (.bipush 100, 2) := by decide +kernel
theorem dX3_rate_74 : decode cX3_rate 74 = .ok (.aload_n 1, 1) := by decide +kernel
theorem dX3_rate_75 : decode cX3_rate 75 = .ok (.getfield 83, 3) := by decide +kernel
theorem dX3_rate_78 : decode cX3_rate 78 = .ok (.imul, 1) := by decide +kernel
theorem dX3_rate_79 : decode cX3_rate 79 = .ok (.iadd, 1) := by decide +kernel
theorem dX3_rate_80 : decode cX3_rate 80 = .ok (.putfield 65, 3) := by decide +kernel
theorem dX3_rate_83 : decode cX3_rate 83 = .ok (.iconst 0, 1) := by decide +kernel
theorem dX3_rate_84 : decode cX3_rate 84 = .ok (.istore_n 3, 1) := by decide +kernel
theorem dX3_rate_85 : decode cX3_rate 85 = .ok (.iconst 0, 1) := by decide +kernel
theorem dX3_rate_86 : decode cX3_rate 86 = .ok (.istore 4, 2) := by decide +kernel
theorem dX3_rate_88 : decode cX3_rate 88 = .ok (.iload 4, 2) := by decide +kernel
theorem dX3_rate_90 : decode cX3_rate 90 = .ok (.iconst 3, 1) := by decide +kernel
theorem dX3_rate_91 : decode cX3_rate 91 = .ok (.if_icmp .ge 19, 3) := by decide +kernel
theorem dX3_rate_94 : decode cX3_rate 94 = .ok (.iload_n 3, 1) := by decide +kernel
theorem dX3_rate_95 : decode cX3_rate 95 = .ok (.aload_n 1, 1) := by decide +kernel
theorem dX3_rate_96 : decode cX3_rate 96 = .ok (.getfield 86, 3) := by decide +kernel
theorem dX3_rate_99 : decode cX3_rate 99 = .ok (.iload 4, 2) := by decide +kernel
theorem dX3_rate_101 : decode cX3_rate 101 = .ok (.iaload, 1) := by decide +kernel
theorem dX3_rate_102 : decode cX3_rate 102 = .ok (.iadd, 1) := by decide +kernel
theorem dX3_rate_103 : decode cX3_rate 103 = .ok (.istore_n 3, 1) := by decide +kernel
theorem dX3_rate_104 : decode cX3_rate 104 = .ok (.iinc 4 1, 3) := by decide +kernel
theorem dX3_rate_107 : decode cX3_rate 107 = .ok (.goto (-19), 3) := by decide +kernel
theorem dX3_rate_110 : decode cX3_rate 110 = .ok (.aload_n 0, 1) := by decide +kernel
theorem dX3_rate_111 : decode cX3_rate 111 = .ok (.iload_n 3, 1) := by decide +kernel
theorem dX3_rate_112 : decode cX3_rate 112 = .ok (.aload_n 2, 1) := by decide +kernel
theorem dX3_rate_113 : decode cX3_rate 113 = .ok (.iconst 0, 1) := by decide +kernel
theorem dX3_rate_114 : decode cX3_rate 114 = .ok (.iaload, 1) := by decide +kernel
theorem dX3_rate_115 : decode cX3_rate 115 = .ok (.invokestatic 89, 3) := by decide +kernel
theorem dX3_rate_118 : decode cX3_rate 118 = .ok (.putfield 93, 3) := by decide +kernel
theorem dX3_rate_121 : decode cX3_rate 121 = .ok (.return_, 1) := by decide +kernel
theorem dX3_total_0 : decode cX3_total 0 = .ok (.aload_n 0, 1) := by decide +kernel
theorem dX3_total_1 : decode cX3_total 1 = .ok (.getfield 62, 3) := by decide +kernel
theorem dX3_total_4 : decode cX3_total 4 = .ok (.aload_n 0, 1) := by decide +kernel
theorem dX3_total_5 : decode cX3_total 5 = .ok (.getfield 93, 3) := by decide +kernel
theorem dX3_total_8 : decode cX3_total 8 = .ok (.iadd, 1) := by decide +kernel
theorem dX3_total_9 : decode cX3_total 9 = .ok (.aload_n 0, 1) := by decide +kernel
theorem dX3_total_10 : decode cX3_total 10 = .ok (.getfield 65, 3) := by decide +kernel
theorem dX3_total_13 : decode cX3_total 13 = .ok (.isub, 1) := by decide +kernel
theorem dX3_total_14 : decode cX3_total 14 = .ok (.ireturn, 1) := by decide +kernel
theorem dX3_rateElement_0 : decode cX3_rateElement 0 = .ok (.aload_n 1, 1) := by decide +kernel
theorem dX3_rateElement_1 : decode cX3_rateElement 1 = .ok (.getfield 95, 3) := by decide +kernel
theorem dX3_rateElement_4 : decode cX3_rateElement 4 = .ok (.iload_n 2, 1) := by decide +kernel
theorem dX3_rateElement_5 : decode cX3_rateElement 5 = .ok (.iaload, 1) := by decide +kernel
theorem dX3_rateElement_6 : decode cX3_rateElement 6 = .ok (.istore 4, 2) := by decide +kernel
theorem dX3_rateElement_8 : decode cX3_rateElement 8 = .ok (.aload_n 1, 1) := by decide +kernel
theorem dX3_rateElement_9 : decode cX3_rateElement 9 = .ok (.getfield 98, 3) := by decide +kernel
theorem dX3_rateElement_12 : decode cX3_rateElement 12 = .ok (.iload_n 2, 1) := by decide +kernel
theorem dX3_rateElement_13 : decode cX3_rateElement 13 = .ok (.iaload, 1) := by decide +kernel
theorem dX3_rateElement_14 : decode cX3_rateElement 14 = .ok (.istore 5, 2) := by decide +kernel
theorem dX3_rateElement_16 : decode cX3_rateElement 16 = .ok (.aload_n 0, 1) := by decide +kernel
theorem dX3_rateElement_17 : decode cX3_rateElement 17 = .ok (.iload 4, 2) := by decide +kernel
theorem dX3_rateElement_19 : decode cX3_rateElement 19 = .ok (.aload_n 3, 1) := by decide +kernel
theorem dX3_rateElement_20 : decode cX3_rateElement 20 = .ok (.invokevirtual 101, 3) := by decide +kernel
theorem dX3_rateElement_23 : decode cX3_rateElement 23 = .ok (.istore 6, 2) := by decide +kernel
theorem dX3_rateElement_25 : decode cX3_rateElement 25 = .ok (.iload 5, 2) := by decide +kernel
theorem dX3_rateElement_27 : decode cX3_rateElement 27 = .ok (.iconst 1, 1) := by decide +kernel
theorem dX3_rateElement_28 : decode cX3_rateElement 28 = .ok (.if_icmp .le 18, 3) := by decide +kernel
theorem dX3_rateElement_31 : decode cX3_rateElement 31 = .ok (.iload 6, 2) := by decide +kernel
theorem dX3_rateElement_33 : decode cX3_rateElement 33 = .ok (.ifCond .ne 13, 3) := by decide +kernel
theorem dX3_rateElement_36 : decode cX3_rateElement 36 = .ok (.aload_n 0, 1) := by decide +kernel
theorem dX3_rateElement_37 : decode cX3_rateElement 37 = .ok (.dup, 1) := by decide +kernel
theorem dX3_rateElement_38 : decode cX3_rateElement 38 = .ok (.getfield 52, 3) := by decide +kernel
theorem dX3_rateElement_41 : decode cX3_rateElement 41 = .ok (.iconst 1, 1) := by decide +kernel
theorem dX3_rateElement_42 : decode cX3_rateElement 42 = .ok (.iadd, 1) := by decide +kernel
theorem dX3_rateElement_43 : decode cX3_rateElement 43 = .ok (.putfield 52, 3) := by decide +kernel
theorem dX3_rateElement_46 : decode cX3_rateElement 46 = .ok (.iload 5, 2) := by decide +kernel
theorem dX3_rateElement_48 : decode cX3_rateElement 48 = .ok (.iconst 1, 1) := by decide +kernel
theorem dX3_rateElement_49 : decode cX3_rateElement 49 = .ok (.if_icmp .le 17, 3) := by decide +kernel
theorem dX3_rateElement_52 : decode cX3_rateElement 52 = .ok (.aload_n 0, 1) := by decide +kernel
theorem dX3_rateElement_53 : decode cX3_rateElement 53 = .ok (.getfield 52, 3) := by decide +kernel
theorem dX3_rateElement_56 : decode cX3_rateElement 56 = .ok (.aload_n 3, 1) := by decide +kernel
theorem dX3_rateElement_57 : decode cX3_rateElement 57 = .ok (.iconst 1, 1) := by decide +kernel
theorem dX3_rateElement_58 : decode cX3_rateElement 58 = .ok (.iaload, 1) := by decide +kernel
theorem dX3_rateElement_59 : decode cX3_rateElement 59 = .ok (.if_icmp .le 7, 3) := by decide +kernel
theorem dX3_rateElement_62 : decode cX3_rateElement 62 = .ok (.iconst 1, 1) := by decide +kernel
theorem dX3_rateElement_63 : decode cX3_rateElement 63 = .ok (.goto 4, 3) := by decide +kernel
theorem dX3_rateElement_66 : decode cX3_rateElement 66 = .ok (.iconst 0, 1) := by decide +kernel
theorem dX3_rateElement_67 : decode cX3_rateElement 67 = .ok (.istore 7, 2) := by decide +kernel
theorem dX3_rateElement_69 : decode cX3_rateElement 69 = .ok (.iconst 0, 1) := by decide +kernel
theorem dX3_rateElement_70 : decode cX3_rateElement 70 = .ok (.istore 8, 2) := by decide +kernel
theorem dX3_rateElement_72 : decode cX3_rateElement 72 = .ok (.iconst 0, 1) := by decide +kernel
theorem dX3_rateElement_73 : decode cX3_rateElement 73 = .ok (.istore 9, 2) := by decide +kernel
theorem dX3_rateElement_75 : decode cX3_rateElement 75 = .ok (.iconst 0, 1) := by decide +kernel
theorem dX3_rateElement_76 : decode cX3_rateElement 76 = .ok (.istore 10, 2) := by decide +kernel
theorem dX3_rateElement_78 : decode cX3_rateElement 78 = .ok (.iload 10, 2) := by decide +kernel
theorem dX3_rateElement_80 : decode cX3_rateElement 80 = .ok (.iload 5, 2) := by decide +kernel
theorem dX3_rateElement_82 : decode cX3_rateElement 82 = .ok (.if_icmp .ge 148, 3) := by decide +kernel
theorem dX3_rateElement_85 : decode cX3_rateElement 85 = .ok (.iconst 3, 1) := by decide +kernel
theorem dX3_rateElement_86 : decode cX3_rateElement 86 = .ok (.iload_n 2, 1) := by decide +kernel
theorem dX3_rateElement_87 : decode cX3_rateElement 87 = .ok (.imul, 1) := by decide +kernel
theorem dX3_rateElement_88 : decode cX3_rateElement 88 = .ok (.iload 10, 2) := by decide +kernel
theorem dX3_rateElement_90 : decode cX3_rateElement 90 = .ok (.iadd, 1) := by decide +kernel
theorem dX3_rateElement_91 : decode cX3_rateElement 91 = .ok (.istore 11, 2) := by decide +kernel
theorem dX3_rateElement_93 : decode cX3_rateElement 93 = .ok (.aload_n 0, 1) := by decide +kernel
theorem dX3_rateElement_94 : decode cX3_rateElement 94 = .ok (.aload_n 1, 1) := by decide +kernel
theorem dX3_rateElement_95 : decode cX3_rateElement 95 = .ok (.iload_n 2, 1) := by decide +kernel
theorem dX3_rateElement_96 : decode cX3_rateElement 96 = .ok (.iload 10, 2) := by decide +kernel
theorem dX3_rateElement_98 : decode cX3_rateElement 98 = .ok (.iload 6, 2) := by decide +kernel
theorem dX3_rateElement_100 : decode cX3_rateElement 100 = .ok (.iload 7, 2) := by decide +kernel
theorem dX3_rateElement_102 : decode cX3_rateElement 102 = .ok (.invokevirtual 105, 3) := by decide +kernel
theorem dX3_rateElement_105 : decode cX3_rateElement 105 = .ok (.istore 12, 2) := by decide +kernel
theorem dX3_rateElement_107 : decode cX3_rateElement 107 = .ok (.iload 12, 2) := by decide +kernel
theorem dX3_rateElement_109 : decode cX3_rateElement 109 = .ok (.iconst 1, 1) := by decide +kernel
theorem dX3_rateElement_110 : decode cX3_rateElement 110 = .ok (.if_icmp .le 7, 3) := by decide +kernel
theorem dX3_rateElement_113 : decode cX3_rateElement 113 = .ok (.iconst 0, 1) := by decide +kernel
theorem dX3_rateElement_114 : decode cX3_rateElement 114 = .ok (.goto 29, 3) := by decide +kernel
theorem dX3_rateElement_117 : decode cX3_rateElement 117 = .ok (.iload 4, 2) := by decide +kernel
theorem dX3_rateElement_119 : decode cX3_rateElement 119 = .ok (.aload_n 1, 1) := by decide +kernel
theorem dX3_rateElement_120 : decode cX3_rateElement 120 = .ok (.getfield 109, 3) := by decide +kernel
theorem dX3_rateElement_123 : decode cX3_rateElement 123 = .ok (.iload 11, 2) := by decide +kernel
theorem dX3_rateElement_125 : decode cX3_rateElement 125 = .ok (.iaload, 1) := by decide +kernel
theorem dX3_rateElement_126 : decode cX3_rateElement 126 = .ok (.aload_n 1, 1) := by decide +kernel
theorem dX3_rateElement_127 : decode cX3_rateElement 127 = .ok (.getfield 112, 3) := by decide +kernel
theorem dX3_rateElement_130 : decode cX3_rateElement 130 = .ok (.iload 11, 2) := by decide +kernel
theorem dX3_rateElement_132 : decode cX3_rateElement 132 = .ok (.iaload, 1) := by decide +kernel
theorem dX3_rateElement_133 : decode cX3_rateElement 133 = .ok (.aload_n 1, 1) := by decide +kernel
theorem dX3_rateElement_134 : decode cX3_rateElement 134 = .ok (.getfield 115, 3) := by decide +kernel
theorem dX3_rateElement_137 : decode cX3_rateElement 137 = .ok (.iload 11, 2) := by decide +kernel
theorem dX3_rateElement_139 : decode cX3_rateElement 139 = .ok (.iaload, 1) := by decide +kernel
theorem dX3_rateElement_140 : decode cX3_rateElement 140 = .ok (.invokestatic 118, 3) := by decide +kernel
theorem dX3_rateElement_143 : decode cX3_rateElement 143 = .ok (.istore 13, 2) := by decide +kernel
theorem dX3_rateElement_145 : decode cX3_rateElement 145 = .ok (.aload_n 0, 1) := by decide +kernel
theorem dX3_rateElement_146 : decode cX3_rateElement 146 = .ok (.getfield 9, 3) := by decide +kernel
theorem dX3_rateElement_149 : decode cX3_rateElement 149 = .ok (.iload 11, 2) := by decide +kernel
theorem dX3_rateElement_151 : decode cX3_rateElement 151 = .ok (.iload 12, 2) := by decide +kernel
theorem dX3_rateElement_153 : decode cX3_rateElement 153 = .ok (.iconst 1, 1) := by decide +kernel
theorem dX3_rateElement_154 : decode cX3_rateElement 154 = .ok (.if_icmp .ne 13, 3) := by decide +kernel
theorem dX3_rateElement_157 : decode cX3_rateElement 157 = .ok (.iload 13, 2) := by decide +kernel
theorem dX3_rateElement_159 : decode cX3_rateElement 159 = .ok (.bipush 70, 2) := by decide +kernel
theorem dX3_rateElement_161 : decode cX3_rateElement 161 = .ok (.invokestatic 89, 3) := by decide +kernel
theorem dX3_rateElement_164 : decode cX3_rateElement 164 = .ok (.goto 5, 3) := by decide +kernel
theorem dX3_rateElement_167 : decode cX3_rateElement 167 = .ok (.iload 13, 2) := by decide +kernel
theorem dX3_rateElement_169 : decode cX3_rateElement 169 = .ok (.iastore, 1) := by decide +kernel
theorem dX3_rateElement_170 : decode cX3_rateElement 170 = .ok (.aload_n 0, 1) := by decide +kernel
theorem dX3_rateElement_171 : decode cX3_rateElement 171 = .ok (.getfield 15, 3) := by decide +kernel
theorem dX3_rateElement_174 : decode cX3_rateElement 174 = .ok (.iload 11, 2) := by decide +kernel
theorem dX3_rateElement_176 : decode cX3_rateElement 176 = .ok (.iload 12, 2) := by decide +kernel
theorem dX3_rateElement_178 : decode cX3_rateElement 178 = .ok (.iastore, 1) := by decide +kernel
theorem dX3_rateElement_179 : decode cX3_rateElement 179 = .ok (.aload_n 0, 1) := by decide +kernel
theorem dX3_rateElement_180 : decode cX3_rateElement 180 = .ok (.dup, 1) := by decide +kernel
theorem dX3_rateElement_181 : decode cX3_rateElement 181 = .ok (.getfield 59, 3) := by decide +kernel
theorem dX3_rateElement_184 : decode cX3_rateElement 184 = .ok (.iload 12, 2) := by decide +kernel
theorem dX3_rateElement_186 : decode cX3_rateElement 186 = .ok (.ifCond .eq 7, 3) := by decide +kernel
theorem dX3_rateElement_189 : decode cX3_rateElement 189 = .ok (.iconst 1, 1) := by decide +kernel
theorem dX3_rateElement_190 : decode cX3_rateElement 190 = .ok (.goto 4, 3) := by decide +kernel
theorem dX3_rateElement_193 : decode cX3_rateElement 193 = .ok (.iconst 0, 1) := by decide +kernel
theorem dX3_rateElement_194 : decode cX3_rateElement 194 = .ok (.iadd, 1) := by decide +kernel
theorem dX3_rateElement_195 : decode cX3_rateElement 195 = .ok (.putfield 59, 3) := by decide +kernel
theorem dX3_rateElement_198 : decode cX3_rateElement 198 = .ok (.iload 8, 2) := by decide +kernel
theorem dX3_rateElement_200 : decode cX3_rateElement 200 = .ok (.aload_n 0, 1) := by decide +kernel
theorem dX3_rateElement_201 : decode cX3_rateElement 201 = .ok (.getfield 9, 3) := by decide +kernel
theorem dX3_rateElement_204 : decode cX3_rateElement 204 = .ok (.iload 11, 2) := by decide +kernel
theorem dX3_rateElement_206 : decode cX3_rateElement 206 = .ok (.iaload, 1) := by decide +kernel
theorem dX3_rateElement_207 : decode cX3_rateElement 207 = .ok (.iadd, 1) := by decide +kernel
theorem dX3_rateElement_208 : decode cX3_rateElement 208 = .ok (.istore 8, 2) := by decide +kernel
theorem dX3_rateElement_210 : decode cX3_rateElement 210 = .ok (.iload 9, 2) := by decide +kernel
theorem dX3_rateElement_212 : decode cX3_rateElement 212 = .ok (.aload_n 0, 1) := by decide +kernel
theorem dX3_rateElement_213 : decode cX3_rateElement 213 = .ok (.getfield 9, 3) := by decide +kernel
theorem dX3_rateElement_216 : decode cX3_rateElement 216 = .ok (.iload 11, 2) := by decide +kernel
theorem dX3_rateElement_218 : decode cX3_rateElement 218 = .ok (.iaload, 1) := by decide +kernel
theorem dX3_rateElement_219 : decode cX3_rateElement 219 = .ok (.invokestatic 122, 3) := by decide +kernel
theorem dX3_rateElement_222 : decode cX3_rateElement 222 = .ok (.istore 9, 2) := by decide +kernel
theorem dX3_rateElement_224 : decode cX3_rateElement 224 = .ok (.iinc 10 1, 3) := by decide +kernel
theorem dX3_rateElement_227 : decode cX3_rateElement 227 = .ok (.goto (-149), 3) := by decide +kernel
theorem dX3_rateElement_230 : decode cX3_rateElement 230 = .ok (.aload_n 0, 1) := by decide +kernel
theorem dX3_rateElement_231 : decode cX3_rateElement 231 = .ok (.aload_n 0, 1) := by decide +kernel
theorem dX3_rateElement_232 : decode cX3_rateElement 232 = .ok (.getfield 55, 3) := by decide +kernel
theorem dX3_rateElement_235 : decode cX3_rateElement 235 = .ok (.ifCond .ne 19, 3) := by decide +kernel
theorem dX3_rateElement_238 : decode cX3_rateElement 238 = .ok (.iload 5, 2) := by decide +kernel
theorem dX3_rateElement_240 : decode cX3_rateElement 240 = .ok (.iconst 3, 1) := by decide +kernel
theorem dX3_rateElement_241 : decode cX3_rateElement 241 = .ok (.if_icmp .ne 17, 3) := by decide +kernel
theorem dX3_rateElement_244 : decode cX3_rateElement 244 = .ok (.iload 6, 2) := by decide +kernel
theorem dX3_rateElement_246 : decode cX3_rateElement 246 = .ok (.ifCond .ne 12, 3) := by decide +kernel
theorem dX3_rateElement_249 : decode cX3_rateElement 249 = .ok (.iload 7, 2) := by decide +kernel
theorem dX3_rateElement_251 : decode cX3_rateElement 251 = .ok (.ifCond .ne 7, 3) := by decide +kernel
theorem dX3_rateElement_254 : decode cX3_rateElement 254 = .ok (.iconst 1, 1) := by decide +kernel
theorem dX3_rateElement_255 : decode cX3_rateElement 255 = .ok (.goto 4, 3) := by decide +kernel
theorem dX3_rateElement_258 : decode cX3_rateElement 258 = .ok (.iconst 0, 1) := by decide +kernel
theorem dX3_rateElement_259 : decode cX3_rateElement 259 = .ok (.putfield 55, 3) := by decide +kernel
theorem dX3_rateElement_262 : decode cX3_rateElement 262 = .ok (.iload 4, 2) := by decide +kernel
theorem dX3_rateElement_264 : decode cX3_rateElement 264 = .ok (.ifCond .ne 22, 3) := by decide +kernel
theorem dX3_rateElement_267 : decode cX3_rateElement 267 = .ok (.iload 6, 2) := by decide +kernel
theorem dX3_rateElement_269 : decode cX3_rateElement 269 = .ok (.ifCond .ne 17, 3) := by decide +kernel
theorem dX3_rateElement_272 : decode cX3_rateElement 272 = .ok (.iconst 2, 1) := by decide +kernel
theorem dX3_rateElement_273 : decode cX3_rateElement 273 = .ok (.iload_n 2, 1) := by decide +kernel
theorem dX3_rateElement_274 : decode cX3_rateElement 274 = .ok (.imul, 1) := by decide +kernel
theorem dX3_rateElement_275 : decode cX3_rateElement 275 = .ok (.aload_n 1, 1) := by decide +kernel
theorem dX3_rateElement_276 : decode cX3_rateElement 276 = .ok (.getfield 71, 3) := by decide +kernel
theorem dX3_rateElement_279 : decode cX3_rateElement 279 = .ok (.if_icmp .lt 7, 3) := by decide +kernel
theorem dX3_rateElement_282 : decode cX3_rateElement 282 = .ok (.iconst 1, 1) := by decide +kernel
theorem dX3_rateElement_283 : decode cX3_rateElement 283 = .ok (.goto 4, 3) := by decide +kernel
theorem dX3_rateElement_286 : decode cX3_rateElement 286 = .ok (.iconst 0, 1) := by decide +kernel
theorem dX3_rateElement_287 : decode cX3_rateElement 287 = .ok (.istore 10, 2) := by decide +kernel
theorem dX3_rateElement_289 : decode cX3_rateElement 289 = .ok (.aload_n 0, 1) := by decide +kernel
theorem dX3_rateElement_290 : decode cX3_rateElement 290 = .ok (.getfield 18, 3) := by decide +kernel
theorem dX3_rateElement_293 : decode cX3_rateElement 293 = .ok (.iload_n 2, 1) := by decide +kernel
theorem dX3_rateElement_294 : decode cX3_rateElement 294 = .ok (.iload 10, 2) := by decide +kernel
theorem dX3_rateElement_296 : decode cX3_rateElement 296 = .ok (.ifCond .eq 17, 3) := by decide +kernel
theorem dX3_rateElement_299 : decode cX3_rateElement 299 = .ok (.iload 8, 2) := by decide +kernel
theorem dX3_rateElement_301 : decode cX3_rateElement 301 = .ok (.bipush 100, 2) := by decide +kernel
theorem dX3_rateElement_303 : decode cX3_rateElement 303 = .ok (.aload_n 3, 1) := by decide +kernel
theorem dX3_rateElement_304 : decode cX3_rateElement 304 = .ok (.iconst 4, 1) := by decide +kernel
theorem dX3_rateElement_305 : decode cX3_rateElement 305 = .ok (.iaload, 1) := by decide +kernel
theorem dX3_rateElement_306 : decode cX3_rateElement 306 = .ok (.iadd, 1) := by decide +kernel
theorem dX3_rateElement_307 : decode cX3_rateElement 307 = .ok (.invokestatic 89, 3) := by decide +kernel
theorem dX3_rateElement_310 : decode cX3_rateElement 310 = .ok (.goto 5, 3) := by decide +kernel
theorem dX3_rateElement_313 : decode cX3_rateElement 313 = .ok (.iload 8, 2) := by decide +kernel
theorem dX3_rateElement_315 : decode cX3_rateElement 315 = .ok (.iastore, 1) := by decide +kernel
theorem dX3_rateElement_316 : decode cX3_rateElement 316 = .ok (.aload_n 0, 1) := by decide +kernel
theorem dX3_rateElement_317 : decode cX3_rateElement 317 = .ok (.getfield 27, 3) := by decide +kernel
theorem dX3_rateElement_320 : decode cX3_rateElement 320 = .ok (.iload_n 2, 1) := by decide +kernel
theorem dX3_rateElement_321 : decode cX3_rateElement 321 = .ok (.iload 10, 2) := by decide +kernel
theorem dX3_rateElement_323 : decode cX3_rateElement 323 = .ok (.ifCond .eq 7, 3) := by decide +kernel
theorem dX3_rateElement_326 : decode cX3_rateElement 326 = .ok (.iconst 1, 1) := by decide +kernel
theorem dX3_rateElement_327 : decode cX3_rateElement 327 = .ok (.goto 4, 3) := by decide +kernel
theorem dX3_rateElement_330 : decode cX3_rateElement 330 = .ok (.iconst 0, 1) := by decide +kernel
theorem dX3_rateElement_331 : decode cX3_rateElement 331 = .ok (.iastore, 1) := by decide +kernel
theorem dX3_rateElement_332 : decode cX3_rateElement 332 = .ok (.aload_n 0, 1) := by decide +kernel
theorem dX3_rateElement_333 : decode cX3_rateElement 333 = .ok (.getfield 21, 3) := by decide +kernel
theorem dX3_rateElement_336 : decode cX3_rateElement 336 = .ok (.iload_n 2, 1) := by decide +kernel
theorem dX3_rateElement_337 : decode cX3_rateElement 337 = .ok (.iload 9, 2) := by decide +kernel
theorem dX3_rateElement_339 : decode cX3_rateElement 339 = .ok (.iastore, 1) := by decide +kernel
theorem dX3_rateElement_340 : decode cX3_rateElement 340 = .ok (.aload_n 0, 1) := by decide +kernel
theorem dX3_rateElement_341 : decode cX3_rateElement 341 = .ok (.getfield 24, 3) := by decide +kernel
theorem dX3_rateElement_344 : decode cX3_rateElement 344 = .ok (.iload_n 2, 1) := by decide +kernel
theorem dX3_rateElement_345 : decode cX3_rateElement 345 = .ok (.aload_n 1, 1) := by decide +kernel
theorem dX3_rateElement_346 : decode cX3_rateElement 346 = .ok (.getfield 127, 3) := by decide +kernel
theorem dX3_rateElement_349 : decode cX3_rateElement 349 = .ok (.iload_n 2, 1) := by decide +kernel
theorem dX3_rateElement_350 : decode cX3_rateElement 350 = .ok (.iaload, 1) := by decide +kernel
theorem dX3_rateElement_351 : decode cX3_rateElement 351 = .ok (.iload 9, 2) := by decide +kernel
theorem dX3_rateElement_353 : decode cX3_rateElement 353 = .ok (.invokestatic 130, 3) := by decide +kernel
theorem dX3_rateElement_356 : decode cX3_rateElement 356 = .ok (.iastore, 1) := by decide +kernel
theorem dX3_rateElement_357 : decode cX3_rateElement 357 = .ok (.return_, 1) := by decide +kernel
theorem dX3_countsTooMany_0 : decode cX3_countsTooMany 0 = .ok (.iload_n 1, 1) := by decide +kernel
theorem dX3_countsTooMany_1 : decode cX3_countsTooMany 1 = .ok (.ifCond .ne 29, 3) := by decide +kernel
theorem dX3_countsTooMany_4 : decode cX3_countsTooMany 4 = .ok (.aload_n 0, 1) := by decide +kernel
theorem dX3_countsTooMany_5 : decode cX3_countsTooMany 5 = .ok (.dup, 1) := by decide +kernel
theorem dX3_countsTooMany_6 : decode cX3_countsTooMany 6 = .ok (.getfield 42, 3) := by decide +kernel
theorem dX3_countsTooMany_9 : decode cX3_countsTooMany 9 = .ok (.iconst 1, 1) := by decide +kernel
theorem dX3_countsTooMany_10 : decode cX3_countsTooMany 10 = .ok (.iadd, 1) := by decide +kernel
theorem dX3_countsTooMany_11 : decode cX3_countsTooMany 11 = .ok (.putfield 42, 3) := by decide +kernel
theorem dX3_countsTooMany_14 : decode cX3_countsTooMany 14 = .ok (.aload_n 0, 1) := by decide +kernel
theorem dX3_countsTooMany_15 : decode cX3_countsTooMany 15 = .ok (.getfield 42, 3) := by decide +kernel
theorem dX3_countsTooMany_18 : decode cX3_countsTooMany 18 = .ok (.aload_n 2, 1) := by decide +kernel
theorem dX3_countsTooMany_19 : decode cX3_countsTooMany 19 = .ok (.iconst 2, 1) := by decide +kernel
theorem dX3_countsTooMany_20 : decode cX3_countsTooMany 20 = .ok (.iaload, 1) := by decide +kernel
theorem dX3_countsTooMany_21 : decode cX3_countsTooMany 21 = .ok (.if_icmp .le 7, 3) := by decide +kernel
theorem dX3_countsTooMany_24 : decode cX3_countsTooMany 24 = .ok (.iconst 1, 1) := by decide +kernel
theorem dX3_countsTooMany_25 : decode cX3_countsTooMany 25 = .ok (.goto 4, 3) := by decide +kernel
theorem dX3_countsTooMany_28 : decode cX3_countsTooMany 28 = .ok (.iconst 0, 1) := by decide +kernel
theorem dX3_countsTooMany_29 : decode cX3_countsTooMany 29 = .ok (.ireturn, 1) := by decide +kernel
theorem dX3_countsTooMany_30 : decode cX3_countsTooMany 30 = .ok (.iload_n 1, 1) := by decide +kernel
theorem dX3_countsTooMany_31 : decode cX3_countsTooMany 31 = .ok (.iconst 1, 1) := by decide +kernel
theorem dX3_countsTooMany_32 : decode cX3_countsTooMany 32 = .ok (.if_icmp .ne 29, 3) := by decide +kernel
theorem dX3_countsTooMany_35 : decode cX3_countsTooMany 35 = .ok (.aload_n 0, 1) := by decide +kernel
theorem dX3_countsTooMany_36 : decode cX3_countsTooMany 36 = .ok (.dup, 1) := by decide +kernel
theorem dX3_countsTooMany_37 : decode cX3_countsTooMany 37 = .ok (.getfield 46, 3) := by decide +kernel
theorem dX3_countsTooMany_40 : decode cX3_countsTooMany 40 = .ok (.iconst 1, 1) := by decide +kernel
theorem dX3_countsTooMany_41 : decode cX3_countsTooMany 41 = .ok (.iadd, 1) := by decide +kernel
theorem dX3_countsTooMany_42 : decode cX3_countsTooMany 42 = .ok (.putfield 46, 3) := by decide +kernel
theorem dX3_countsTooMany_45 : decode cX3_countsTooMany 45 = .ok (.aload_n 0, 1) := by decide +kernel
theorem dX3_countsTooMany_46 : decode cX3_countsTooMany 46 = .ok (.getfield 46, 3) := by decide +kernel
theorem dX3_countsTooMany_49 : decode cX3_countsTooMany 49 = .ok (.aload_n 2, 1) := by decide +kernel
theorem dX3_countsTooMany_50 : decode cX3_countsTooMany 50 = .ok (.iconst 3, 1) := by decide +kernel
theorem dX3_countsTooMany_51 : decode cX3_countsTooMany 51 = .ok (.iaload, 1) := by decide +kernel
theorem dX3_countsTooMany_52 : decode cX3_countsTooMany 52 = .ok (.if_icmp .le 7, 3) := by decide +kernel
theorem dX3_countsTooMany_55 : decode cX3_countsTooMany 55 = .ok (.iconst 1, 1) := by decide +kernel
theorem dX3_countsTooMany_56 : decode cX3_countsTooMany 56 = .ok (.goto 4, 3) := by decide +kernel
theorem dX3_countsTooMany_59 : decode cX3_countsTooMany 59 = .ok (.iconst 0, 1) := by decide +kernel
theorem dX3_countsTooMany_60 : decode cX3_countsTooMany 60 = .ok (.ireturn, 1) := by decide +kernel
theorem dX3_countsTooMany_61 : decode cX3_countsTooMany 61 = .ok (.aload_n 0, 1) := by decide +kernel
theorem dX3_countsTooMany_62 : decode cX3_countsTooMany 62 = .ok (.dup, 1) := by decide +kernel
theorem dX3_countsTooMany_63 : decode cX3_countsTooMany 63 = .ok (.getfield 49, 3) := by decide +kernel
theorem dX3_countsTooMany_66 : decode cX3_countsTooMany 66 = .ok (.iconst 1, 1) := by decide +kernel
theorem dX3_countsTooMany_67 : decode cX3_countsTooMany 67 = .ok (.iadd, 1) := by decide +kernel
theorem dX3_countsTooMany_68 : decode cX3_countsTooMany 68 = .ok (.putfield 49, 3) := by decide +kernel
theorem dX3_countsTooMany_71 : decode cX3_countsTooMany 71 = .ok (.aload_n 0, 1) := by decide +kernel
theorem dX3_countsTooMany_72 : decode cX3_countsTooMany 72 = .ok (.getfield 49, 3) := by decide +kernel
theorem dX3_countsTooMany_75 : decode cX3_countsTooMany 75 = .ok (.iconst 1, 1) := by decide +kernel
theorem dX3_countsTooMany_76 : decode cX3_countsTooMany 76 = .ok (.if_icmp .le 7, 3) := by decide +kernel
theorem dX3_countsTooMany_79 : decode cX3_countsTooMany 79 = .ok (.iconst 1, 1) := by decide +kernel
theorem dX3_countsTooMany_80 : decode cX3_countsTooMany 80 = .ok (.goto 4, 3) := by decide +kernel
theorem dX3_countsTooMany_83 : decode cX3_countsTooMany 83 = .ok (.iconst 0, 1) := by decide +kernel
theorem dX3_countsTooMany_84 : decode cX3_countsTooMany 84 = .ok (.ireturn, 1) := by decide +kernel
theorem dX3_reasonOf_0 : decode cX3_reasonOf 0 = .ok (.iload 4, 2) := by decide +kernel
theorem dX3_reasonOf_2 : decode cX3_reasonOf 2 = .ok (.ifCond .eq 5, 3) := by decide +kernel
theorem dX3_reasonOf_5 : decode cX3_reasonOf 5 = .ok (.iconst 5, 1) := by decide +kernel
theorem dX3_reasonOf_6 : decode cX3_reasonOf 6 = .ok (.ireturn, 1) := by decide +kernel
theorem dX3_reasonOf_7 : decode cX3_reasonOf 7 = .ok (.iload 5, 2) := by decide +kernel
theorem dX3_reasonOf_9 : decode cX3_reasonOf 9 = .ok (.ifCond .eq 9, 3) := by decide +kernel
theorem dX3_reasonOf_12 : decode cX3_reasonOf 12 = .ok (.iload_n 3, 1) := by decide +kernel
theorem dX3_reasonOf_13 : decode cX3_reasonOf 13 = .ok (.ifCond .le 5, 3) := by decide +kernel
theorem dX3_reasonOf_16 : decode cX3_reasonOf 16 = .ok (.iconst 3, 1) := by decide +kernel
theorem dX3_reasonOf_17 : decode cX3_reasonOf 17 = .ok (.ireturn, 1) := by decide +kernel
theorem dX3_reasonOf_18 : decode cX3_reasonOf 18 = .ok (.aload_n 0, 1) := by decide +kernel
theorem dX3_reasonOf_19 : decode cX3_reasonOf 19 = .ok (.getfield 55, 3) := by decide +kernel
theorem dX3_reasonOf_22 : decode cX3_reasonOf 22 = .ok (.ifCond .eq 10, 3) := by decide +kernel
theorem dX3_reasonOf_25 : decode cX3_reasonOf 25 = .ok (.iload_n 3, 1) := by decide +kernel
theorem dX3_reasonOf_26 : decode cX3_reasonOf 26 = .ok (.iconst 2, 1) := by decide +kernel
theorem dX3_reasonOf_27 : decode cX3_reasonOf 27 = .ok (.if_icmp .ne 5, 3) := by decide +kernel
theorem dX3_reasonOf_30 : decode cX3_reasonOf 30 = .ok (.iconst 4, 1) := by decide +kernel
theorem dX3_reasonOf_31 : decode cX3_reasonOf 31 = .ok (.ireturn, 1) := by decide +kernel
theorem dX3_reasonOf_32 : decode cX3_reasonOf 32 = .ok (.aload_n 1, 1) := by decide +kernel
theorem dX3_reasonOf_33 : decode cX3_reasonOf 33 = .ok (.getfield 95, 3) := by decide +kernel
theorem dX3_reasonOf_36 : decode cX3_reasonOf 36 = .ok (.iload_n 2, 1) := by decide +kernel
theorem dX3_reasonOf_37 : decode cX3_reasonOf 37 = .ok (.iaload, 1) := by decide +kernel
theorem dX3_reasonOf_38 : decode cX3_reasonOf 38 = .ok (.ifCond .eq 5, 3) := by decide +kernel
theorem dX3_reasonOf_41 : decode cX3_reasonOf 41 = .ok (.iconst 0, 1) := by decide +kernel
theorem dX3_reasonOf_42 : decode cX3_reasonOf 42 = .ok (.ireturn, 1) := by decide +kernel
theorem dX3_reasonOf_43 : decode cX3_reasonOf 43 = .ok (.iconst 3, 1) := by decide +kernel
theorem dX3_reasonOf_44 : decode cX3_reasonOf 44 = .ok (.iload_n 2, 1) := by decide +kernel
theorem dX3_reasonOf_45 : decode cX3_reasonOf 45 = .ok (.imul, 1) := by decide +kernel
theorem dX3_reasonOf_46 : decode cX3_reasonOf 46 = .ok (.iload_n 3, 1) := by decide +kernel
theorem dX3_reasonOf_47 : decode cX3_reasonOf 47 = .ok (.iadd, 1) := by decide +kernel
theorem dX3_reasonOf_48 : decode cX3_reasonOf 48 = .ok (.istore 6, 2) := by decide +kernel
theorem dX3_reasonOf_50 : decode cX3_reasonOf 50 = .ok (.aload_n 0, 1) := by decide +kernel
theorem dX3_reasonOf_51 : decode cX3_reasonOf 51 = .ok (.aload_n 1, 1) := by decide +kernel
theorem dX3_reasonOf_52 : decode cX3_reasonOf 52 = .ok (.getfield 109, 3) := by decide +kernel
theorem dX3_reasonOf_55 : decode cX3_reasonOf 55 = .ok (.iload 6, 2) := by decide +kernel
theorem dX3_reasonOf_57 : decode cX3_reasonOf 57 = .ok (.iaload, 1) := by decide +kernel
theorem dX3_reasonOf_58 : decode cX3_reasonOf 58 = .ok (.aload_n 1, 1) := by decide +kernel
theorem dX3_reasonOf_59 : decode cX3_reasonOf 59 = .ok (.getfield 112, 3) := by decide +kernel
theorem dX3_reasonOf_62 : decode cX3_reasonOf 62 = .ok (.iload 6, 2) := by decide +kernel
theorem dX3_reasonOf_64 : decode cX3_reasonOf 64 = .ok (.iaload, 1) := by decide +kernel
theorem dX3_reasonOf_65 : decode cX3_reasonOf 65 = .ok (.aload_n 1, 1) := by decide +kernel
theorem dX3_reasonOf_66 : decode cX3_reasonOf 66 = .ok (.getfield 98, 3) := by decide +kernel
theorem dX3_reasonOf_69 : decode cX3_reasonOf 69 = .ok (.iload_n 2, 1) := by decide +kernel
theorem dX3_reasonOf_70 : decode cX3_reasonOf 70 = .ok (.iaload, 1) := by decide +kernel
theorem dX3_reasonOf_71 : decode cX3_reasonOf 71 = .ok (.iconst 1, 1) := by decide +kernel
theorem dX3_reasonOf_72 : decode cX3_reasonOf 72 = .ok (.if_icmp .ne 7, 3) := by decide +kernel
theorem dX3_reasonOf_75 : decode cX3_reasonOf 75 = .ok (.iconst 1, 1) := by decide +kernel
theorem dX3_reasonOf_76 : decode cX3_reasonOf 76 = .ok (.goto 4, 3) := by decide +kernel
theorem dX3_reasonOf_79 : decode cX3_reasonOf 79 = .ok (.iconst 0, 1) := by decide +kernel
theorem dX3_reasonOf_80 : decode cX3_reasonOf 80 = .ok (.invokevirtual 133, 3) := by decide +kernel
theorem dX3_reasonOf_83 : decode cX3_reasonOf 83 = .ok (.ireturn, 1) := by decide +kernel
theorem dX3_repeatReason_0 : decode cX3_repeatReason 0 = .ok (.iconst 2, 1) := by decide +kernel
theorem dX3_repeatReason_1 : decode cX3_repeatReason 1 = .ok (.iload_n 1, 1) := by decide +kernel
theorem dX3_repeatReason_2 : decode cX3_repeatReason 2 = .ok (.imul, 1) := by decide +kernel
theorem dX3_repeatReason_3 : decode cX3_repeatReason 3 = .ok (.iload_n 2, 1) := by decide +kernel
theorem dX3_repeatReason_4 : decode cX3_repeatReason 4 = .ok (.iadd, 1) := by decide +kernel
theorem dX3_repeatReason_5 : decode cX3_repeatReason 5 = .ok (.iconst 3, 1) := by decide +kernel
theorem dX3_repeatReason_6 : decode cX3_repeatReason 6 = .ok (.isub, 1) := by decide +kernel
theorem dX3_repeatReason_7 : decode cX3_repeatReason 7 = .ok (.istore 4, 2) := by decide +kernel
theorem dX3_repeatReason_9 : decode cX3_repeatReason 9 = .ok (.iload_n 2, 1) := by decide +kernel
theorem dX3_repeatReason_10 : decode cX3_repeatReason 10 = .ok (.iconst 3, 1) := by decide +kernel
theorem dX3_repeatReason_11 : decode cX3_repeatReason 11 = .ok (.if_icmp .lt 15, 3) := by decide +kernel
theorem dX3_repeatReason_14 : decode cX3_repeatReason 14 = .ok (.iload 4, 2) := by decide +kernel
theorem dX3_repeatReason_16 : decode cX3_repeatReason 16 = .ok (.ifCond .lt 10, 3) := by decide +kernel
theorem dX3_repeatReason_19 : decode cX3_repeatReason 19 = .ok (.iload 4, 2) := by decide +kernel
theorem dX3_repeatReason_21 : decode cX3_repeatReason 21 = .ok (.bipush 12, 2) := by decide +kernel
theorem dX3_repeatReason_23 : decode cX3_repeatReason 23 = .ok (.if_icmp .lt 5, 3) := by decide +kernel
theorem dX3_repeatReason_26 : decode cX3_repeatReason 26 = .ok (.iconst 0, 1) := by decide +kernel
theorem dX3_repeatReason_27 : decode cX3_repeatReason 27 = .ok (.ireturn, 1) := by decide +kernel
theorem dX3_repeatReason_28 : decode cX3_repeatReason 28 = .ok (.aload_n 0, 1) := by decide +kernel
theorem dX3_repeatReason_29 : decode cX3_repeatReason 29 = .ok (.getfield 30, 3) := by decide +kernel
theorem dX3_repeatReason_32 : decode cX3_repeatReason 32 = .ok (.iload 4, 2) := by decide +kernel
theorem dX3_repeatReason_34 : decode cX3_repeatReason 34 = .ok (.iaload, 1) := by decide +kernel
theorem dX3_repeatReason_35 : decode cX3_repeatReason 35 = .ok (.istore 5, 2) := by decide +kernel
theorem dX3_repeatReason_37 : decode cX3_repeatReason 37 = .ok (.aload_n 0, 1) := by decide +kernel
theorem dX3_repeatReason_38 : decode cX3_repeatReason 38 = .ok (.getfield 30, 3) := by decide +kernel
theorem dX3_repeatReason_41 : decode cX3_repeatReason 41 = .ok (.iload 4, 2) := by decide +kernel
theorem dX3_repeatReason_43 : decode cX3_repeatReason 43 = .ok (.iload 5, 2) := by decide +kernel
theorem dX3_repeatReason_45 : decode cX3_repeatReason 45 = .ok (.iconst 1, 1) := by decide +kernel
theorem dX3_repeatReason_46 : decode cX3_repeatReason 46 = .ok (.iadd, 1) := by decide +kernel
theorem dX3_repeatReason_47 : decode cX3_repeatReason 47 = .ok (.iastore, 1) := by decide +kernel
theorem dX3_repeatReason_48 : decode cX3_repeatReason 48 = .ok (.iload 5, 2) := by decide +kernel
theorem dX3_repeatReason_50 : decode cX3_repeatReason 50 = .ok (.ifCond .ne 21, 3) := by decide +kernel
theorem dX3_repeatReason_53 : decode cX3_repeatReason 53 = .ok (.aload_n 0, 1) := by decide +kernel
theorem dX3_repeatReason_54 : decode cX3_repeatReason 54 = .ok (.getfield 33, 3) := by decide +kernel
theorem dX3_repeatReason_57 : decode cX3_repeatReason 57 = .ok (.iload 4, 2) := by decide +kernel
theorem dX3_repeatReason_59 : decode cX3_repeatReason 59 = .ok (.iload_n 3, 1) := by decide +kernel
theorem dX3_repeatReason_60 : decode cX3_repeatReason 60 = .ok (.ifCond .eq 7, 3) := by decide +kernel
theorem dX3_repeatReason_63 : decode cX3_repeatReason 63 = .ok (.iconst 1, 1) := by decide +kernel
theorem dX3_repeatReason_64 : decode cX3_repeatReason 64 = .ok (.goto 4, 3) := by decide +kernel
theorem dX3_repeatReason_67 : decode cX3_repeatReason 67 = .ok (.iconst 0, 1) := by decide +kernel
theorem dX3_repeatReason_68 : decode cX3_repeatReason 68 = .ok (.iastore, 1) := by decide +kernel
theorem dX3_repeatReason_69 : decode cX3_repeatReason 69 = .ok (.iconst 0, 1) := by decide +kernel
theorem dX3_repeatReason_70 : decode cX3_repeatReason 70 = .ok (.ireturn, 1) := by decide +kernel
theorem dX3_repeatReason_71 : decode cX3_repeatReason 71 = .ok (.iload 5, 2) := by decide +kernel
theorem dX3_repeatReason_73 : decode cX3_repeatReason 73 = .ok (.iconst 1, 1) := by decide +kernel
theorem dX3_repeatReason_74 : decode cX3_repeatReason 74 = .ok (.if_icmp .le 5, 3) := by decide +kernel
theorem dX3_repeatReason_77 : decode cX3_repeatReason 77 = .ok (.iconst 2, 1) := by decide +kernel
theorem dX3_repeatReason_78 : decode cX3_repeatReason 78 = .ok (.ireturn, 1) := by decide +kernel
theorem dX3_repeatReason_79 : decode cX3_repeatReason 79 = .ok (.iload_n 3, 1) := by decide +kernel
theorem dX3_repeatReason_80 : decode cX3_repeatReason 80 = .ok (.ifCond .eq 18, 3) := by decide +kernel
theorem dX3_repeatReason_83 : decode cX3_repeatReason 83 = .ok (.aload_n 0, 1) := by decide +kernel
theorem dX3_repeatReason_84 : decode cX3_repeatReason 84 = .ok (.getfield 33, 3) := by decide +kernel
theorem dX3_repeatReason_87 : decode cX3_repeatReason 87 = .ok (.iload 4, 2) := by decide +kernel
theorem dX3_repeatReason_89 : decode cX3_repeatReason 89 = .ok (.iaload, 1) := by decide +kernel
theorem dX3_repeatReason_90 : decode cX3_repeatReason 90 = .ok (.iconst 1, 1) := by decide +kernel
theorem dX3_repeatReason_91 : decode cX3_repeatReason 91 = .ok (.if_icmp .ne 7, 3) := by decide +kernel
theorem dX3_repeatReason_94 : decode cX3_repeatReason 94 = .ok (.iconst 1, 1) := by decide +kernel
theorem dX3_repeatReason_95 : decode cX3_repeatReason 95 = .ok (.goto 4, 3) := by decide +kernel
theorem dX3_repeatReason_98 : decode cX3_repeatReason 98 = .ok (.iconst 0, 1) := by decide +kernel
theorem dX3_repeatReason_99 : decode cX3_repeatReason 99 = .ok (.ireturn, 1) := by decide +kernel
theorem dX3_partWorth_0 : decode cX3_partWorth 0 = .ok (.iload_n 0, 1) := by decide +kernel
theorem dX3_partWorth_1 : decode cX3_partWorth 1 = .ok (.iconst 1, 1) := by decide +kernel
theorem dX3_partWorth_2 : decode cX3_partWorth 2 = .ok (.if_icmp .ne 11, 3) := by decide +kernel
theorem dX3_partWorth_5 : decode cX3_partWorth 5 = .ok (.getstatic 137, 3) := by decide +kernel
theorem dX3_partWorth_8 : decode cX3_partWorth 8 = .ok (.iload_n 2, 1) := by decide +kernel
theorem dX3_partWorth_9 : decode cX3_partWorth 9 = .ok (.invokestatic 140, 3) := by decide +kernel
theorem dX3_partWorth_12 : decode cX3_partWorth 12 = .ok (.ireturn, 1) := by decide +kernel
theorem dX3_partWorth_13 : decode cX3_partWorth 13 = .ok (.iload_n 0, 1) := by decide +kernel
theorem dX3_partWorth_14 : decode cX3_partWorth 14 = .ok (.iconst 2, 1) := by decide +kernel
theorem dX3_partWorth_15 : decode cX3_partWorth 15 = .ok (.if_icmp .ne 11, 3) := by decide +kernel
theorem dX3_partWorth_18 : decode cX3_partWorth 18 = .ok (.getstatic 144, 3) := by decide +kernel
theorem dX3_partWorth_21 : decode cX3_partWorth 21 = .ok (.iload_n 2, 1) := by decide +kernel
theorem dX3_partWorth_22 : decode cX3_partWorth 22 = .ok (.invokestatic 140, 3) := by decide +kernel
theorem dX3_partWorth_25 : decode cX3_partWorth 25 = .ok (.ireturn, 1) := by decide +kernel
theorem dX3_partWorth_26 : decode cX3_partWorth 26 = .ok (.iload_n 3, 1) := by decide +kernel
theorem dX3_partWorth_27 : decode cX3_partWorth 27 = .ok (.iconst 2, 1) := by decide +kernel
theorem dX3_partWorth_28 : decode cX3_partWorth 28 = .ok (.if_icmp .ne 9, 3) := by decide +kernel
theorem dX3_partWorth_31 : decode cX3_partWorth 31 = .ok (.iload_n 2, 1) := by decide +kernel
theorem dX3_partWorth_32 : decode cX3_partWorth 32 = .ok (.iconst 1, 1) := by decide +kernel
theorem dX3_partWorth_33 : decode cX3_partWorth 33 = .ok (.isub, 1) := by decide +kernel
theorem dX3_partWorth_34 : decode cX3_partWorth 34 = .ok (.goto 4, 3) := by decide +kernel
theorem dX3_partWorth_37 : decode cX3_partWorth 37 = .ok (.iload_n 2, 1) := by decide +kernel
theorem dX3_partWorth_38 : decode cX3_partWorth 38 = .ok (.istore 4, 2) := by decide +kernel
theorem dX3_partWorth_40 : decode cX3_partWorth 40 = .ok (.iload 4, 2) := by decide +kernel
theorem dX3_partWorth_42 : decode cX3_partWorth 42 = .ok (.iconst 1, 1) := by decide +kernel
theorem dX3_partWorth_43 : decode cX3_partWorth 43 = .ok (.if_icmp .ge 7, 3) := by decide +kernel
theorem dX3_partWorth_46 : decode cX3_partWorth 46 = .ok (.iconst 0, 1) := by decide +kernel
theorem dX3_partWorth_47 : decode cX3_partWorth 47 = .ok (.goto 17, 3) := by decide +kernel
theorem dX3_partWorth_50 : decode cX3_partWorth 50 = .ok (.getstatic 147, 3) := by decide +kernel
theorem dX3_partWorth_53 : decode cX3_partWorth 53 = .ok (.iconst 4, 1) := by decide +kernel
theorem dX3_partWorth_54 : decode cX3_partWorth 54 = .ok (.iload_n 1, 1) := by decide +kernel
theorem dX3_partWorth_55 : decode cX3_partWorth 55 = .ok (.imul, 1) := by decide +kernel
theorem dX3_partWorth_56 : decode cX3_partWorth 56 = .ok (.iload 4, 2) := by decide +kernel
theorem dX3_partWorth_58 : decode cX3_partWorth 58 = .ok (.iadd, 1) := by decide +kernel
theorem dX3_partWorth_59 : decode cX3_partWorth 59 = .ok (.iconst 1, 1) := by decide +kernel
theorem dX3_partWorth_60 : decode cX3_partWorth 60 = .ok (.isub, 1) := by decide +kernel
theorem dX3_partWorth_61 : decode cX3_partWorth 61 = .ok (.invokestatic 140, 3) := by decide +kernel
theorem dX3_partWorth_64 : decode cX3_partWorth 64 = .ok (.istore 5, 2) := by decide +kernel
theorem dX3_partWorth_66 : decode cX3_partWorth 66 = .ok (.iload_n 3, 1) := by decide +kernel
theorem dX3_partWorth_67 : decode cX3_partWorth 67 = .ok (.iconst 1, 1) := by decide +kernel
theorem dX3_partWorth_68 : decode cX3_partWorth 68 = .ok (.if_icmp .eq 8, 3) := by decide +kernel
theorem dX3_partWorth_71 : decode cX3_partWorth 71 = .ok (.iload_n 3, 1) := by decide +kernel
theorem dX3_partWorth_72 : decode cX3_partWorth 72 = .ok (.iconst 3, 1) := by decide +kernel
theorem dX3_partWorth_73 : decode cX3_partWorth 73 = .ok (.if_icmp .ne 13, 3) := by decide +kernel
theorem dX3_partWorth_76 : decode cX3_partWorth 76 = .ok (.iload 5, 2) := by decide +kernel
theorem dX3_partWorth_78 : decode cX3_partWorth 78 = .ok (.bipush 80, 2) := by decide +kernel
theorem dX3_partWorth_80 : decode cX3_partWorth 80 = .ok (.invokestatic 89, 3) := by decide +kernel
theorem dX3_partWorth_83 : decode cX3_partWorth 83 = .ok (.goto 5, 3) := by decide +kernel
theorem dX3_partWorth_86 : decode cX3_partWorth 86 = .ok (.iload 5, 2) := by decide +kernel
theorem dX3_partWorth_88 : decode cX3_partWorth 88 = .ok (.ireturn, 1) := by decide +kernel
theorem dX3_worthAt_0 : decode cX3_worthAt 0 = .ok (.iload_n 1, 1) := by decide +kernel
theorem dX3_worthAt_1 : decode cX3_worthAt 1 = .ok (.ifCond .lt 15, 3) := by decide +kernel
theorem dX3_worthAt_4 : decode cX3_worthAt 4 = .ok (.iload_n 1, 1) := by decide +kernel
theorem dX3_worthAt_5 : decode cX3_worthAt 5 = .ok (.aload_n 0, 1) := by decide +kernel
theorem dX3_worthAt_6 : decode cX3_worthAt 6 = .ok (.arraylength, 1) := by decide +kernel
theorem dX3_worthAt_7 : decode cX3_worthAt 7 = .ok (.if_icmp .ge 9, 3) := by decide +kernel
theorem dX3_worthAt_10 : decode cX3_worthAt 10 = .ok (.aload_n 0, 1) := by decide +kernel
theorem dX3_worthAt_11 : decode cX3_worthAt 11 = .ok (.iload_n 1, 1) := by decide +kernel
theorem dX3_worthAt_12 : decode cX3_worthAt 12 = .ok (.iaload, 1) := by decide +kernel
theorem dX3_worthAt_13 : decode cX3_worthAt 13 = .ok (.goto 4, 3) := by decide +kernel
theorem dX3_worthAt_16 : decode cX3_worthAt 16 = .ok (.iconst 0, 1) := by decide +kernel
theorem dX3_worthAt_17 : decode cX3_worthAt 17 = .ok (.ireturn, 1) := by decide +kernel
theorem dX3_percent_0 : decode cX3_percent 0 = .ok (.iload_n 0, 1) := by decide +kernel
theorem dX3_percent_1 : decode cX3_percent 1 = .ok (.iload_n 1, 1) := by decide +kernel
theorem dX3_percent_2 : decode cX3_percent 2 = .ok (.imul, 1) := by decide +kernel
theorem dX3_percent_3 : decode cX3_percent 3 = .ok (.bipush 50, 2) := by decide +kernel
theorem dX3_percent_5 : decode cX3_percent 5 = .ok (.iadd, 1) := by decide +kernel
theorem dX3_percent_6 : decode cX3_percent 6 = .ok (.bipush 100, 2) := by decide +kernel
theorem dX3_percent_8 : decode cX3_percent 8 = .ok (.idiv, 1) := by decide +kernel
theorem dX3_percent_9 : decode cX3_percent 9 = .ok (.ireturn, 1) := by decide +kernel
theorem dX3_gradeOf_0 : decode cX3_gradeOf 0 = .ok (.iload_n 0, 1) := by decide +kernel
theorem dX3_gradeOf_1 : decode cX3_gradeOf 1 = .ok (.invokestatic 150, 3) := by decide +kernel
theorem dX3_gradeOf_4 : decode cX3_gradeOf 4 = .ok (.iload_n 1, 1) := by decide +kernel
theorem dX3_gradeOf_5 : decode cX3_gradeOf 5 = .ok (.imul, 1) := by decide +kernel
theorem dX3_gradeOf_6 : decode cX3_gradeOf 6 = .ok (.bipush 15, 2) := by decide +kernel
theorem dX3_gradeOf_8 : decode cX3_gradeOf 8 = .ok (.iadd, 1) := by decide +kernel
theorem dX3_gradeOf_9 : decode cX3_gradeOf 9 = .ok (.bipush 30, 2) := by decide +kernel
theorem dX3_gradeOf_11 : decode cX3_gradeOf 11 = .ok (.idiv, 1) := by decide +kernel
theorem dX3_gradeOf_12 : decode cX3_gradeOf 12 = .ok (.istore_n 2, 1) := by decide +kernel
theorem dX3_gradeOf_13 : decode cX3_gradeOf 13 = .ok (.iload_n 0, 1) := by decide +kernel
theorem dX3_gradeOf_14 : decode cX3_gradeOf 14 = .ok (.ifCond .ge 8, 3) := by decide +kernel
theorem dX3_gradeOf_17 : decode cX3_gradeOf 17 = .ok (.iload_n 2, 1) := by decide +kernel
theorem dX3_gradeOf_18 : decode cX3_gradeOf 18 = .ok (.ineg, 1) := by decide +kernel
theorem dX3_gradeOf_19 : decode cX3_gradeOf 19 = .ok (.goto 4, 3) := by decide +kernel
theorem dX3_gradeOf_22 : decode cX3_gradeOf 22 = .ok (.iload_n 2, 1) := by decide +kernel
theorem dX3_gradeOf_23 : decode cX3_gradeOf 23 = .ok (.ireturn, 1) := by decide +kernel
theorem dX4_init_0 : decode cX4_init 0 = .ok (.aload_n 0, 1) := by decide +kernel
theorem dX4_init_1 : decode cX4_init 1 = .ok (.invokespecial 3, 3) := by decide +kernel
theorem dX4_init_4 : decode cX4_init 4 = .ok (.aload_n 0, 1) := by decide +kernel
theorem dX4_init_5 : decode cX4_init 5 = .ok (.iconst 4, 1) := by decide +kernel
theorem dX4_init_6 : decode cX4_init 6 = .ok (.newarray .int, 2) := by decide +kernel
theorem dX4_init_8 : decode cX4_init 8 = .ok (.putfield 9, 3) := by decide +kernel
theorem dX4_init_11 : decode cX4_init 11 = .ok (.aload_n 0, 1) := by decide +kernel
theorem dX4_init_12 : decode cX4_init 12 = .ok (.iconst 4, 1) := by decide +kernel
theorem dX4_init_13 : decode cX4_init 13 = .ok (.newarray .int, 2) := by decide +kernel
theorem dX4_init_15 : decode cX4_init 15 = .ok (.putfield 15, 3) := by decide +kernel
theorem dX4_init_18 : decode cX4_init 18 = .ok (.return_, 1) := by decide +kernel
theorem dX4_rank_0 : decode cX4_rank 0 = .ok (.aload_n 0, 1) := by decide +kernel
theorem dX4_rank_1 : decode cX4_rank 1 = .ok (.aload_n 1, 1) := by decide +kernel
theorem dX4_rank_2 : decode cX4_rank 2 = .ok (.getfield 18, 3) := by decide +kernel
theorem dX4_rank_5 : decode cX4_rank 5 = .ok (.putfield 24, 3) := by decide +kernel
theorem dX4_rank_8 : decode cX4_rank 8 = .ok (.iconst 0, 1) := by decide +kernel
theorem dX4_rank_9 : decode cX4_rank 9 = .ok (.istore_n 3, 1) := by decide +kernel
theorem dX4_rank_10 : decode cX4_rank 10 = .ok (.iload_n 3, 1) := by decide +kernel
theorem dX4_rank_11 : decode cX4_rank 11 = .ok (.aload_n 0, 1) := by decide +kernel
theorem dX4_rank_12 : decode cX4_rank 12 = .ok (.getfield 24, 3) := by decide +kernel
theorem dX4_rank_15 : decode cX4_rank 15 = .ok (.if_icmp .ge 43, 3) := by decide +kernel
theorem dX4_rank_18 : decode cX4_rank 18 = .ok (.aload_n 2, 1) := by decide +kernel
theorem dX4_rank_19 : decode cX4_rank 19 = .ok (.aload_n 1, 1) := by decide +kernel
theorem dX4_rank_20 : decode cX4_rank 20 = .ok (.getfield 25, 3) := by decide +kernel
theorem dX4_rank_23 : decode cX4_rank 23 = .ok (.iload_n 3, 1) := by decide +kernel
theorem dX4_rank_24 : decode cX4_rank 24 = .ok (.aaload, 1) := by decide +kernel
theorem dX4_rank_25 : decode cX4_rank 25 = .ok (.aload_n 1, 1) := by decide +kernel
theorem dX4_rank_26 : decode cX4_rank 26 = .ok (.getfield 29, 3) := by decide +kernel
theorem dX4_rank_29 : decode cX4_rank 29 = .ok (.invokevirtual 32, 3) := by decide +kernel
theorem dX4_rank_32 : decode cX4_rank 32 = .ok (.aload_n 0, 1) := by decide +kernel
theorem dX4_rank_33 : decode cX4_rank 33 = .ok (.getfield 9, 3) := by decide +kernel
theorem dX4_rank_36 : decode cX4_rank 36 = .ok (.iload_n 3, 1) := by decide +kernel
theorem dX4_rank_37 : decode cX4_rank 37 = .ok (.aload_n 2, 1) := by decide +kernel
theorem dX4_rank_38 : decode cX4_rank 38 = .ok (.invokevirtual 38, 3) := by decide +kernel
theorem dX4_rank_41 : decode cX4_rank 41 = .ok (.iastore, 1) := by decide +kernel
theorem dX4_rank_42 : decode cX4_rank 42 = .ok (.aload_n 0, 1) := by decide +kernel
theorem dX4_rank_43 : decode cX4_rank 43 = .ok (.getfield 15, 3) := by decide +kernel
theorem dX4_rank_46 : decode cX4_rank 46 = .ok (.iload_n 3, 1) := by decide +kernel
theorem dX4_rank_47 : decode cX4_rank 47 = .ok (.aload_n 2, 1) := by decide +kernel
theorem dX4_rank_48 : decode cX4_rank 48 = .ok (.getfield 42, 3) := by decide +kernel
theorem dX4_rank_51 : decode cX4_rank 51 = .ok (.iastore, 1) := by decide +kernel
theorem dX4_rank_52 : decode cX4_rank 52 = .ok (.iinc 3 1, 3) := by decide +kernel
theorem dX4_rank_55 : decode cX4_rank 55 = .ok (.goto (-45), 3) := by decide +kernel
theorem dX4_rank_58 : decode cX4_rank 58 = .ok (.return_, 1) := by decide +kernel
theorem dX4_isAhead_0 : decode cX4_isAhead 0 = .ok (.aload_n 0, 1) := by decide +kernel
theorem dX4_isAhead_1 : decode cX4_isAhead 1 = .ok (.getfield 9, 3) := by decide +kernel
theorem dX4_isAhead_4 : decode cX4_isAhead 4 = .ok (.iload_n 1, 1) := by decide +kernel
theorem dX4_isAhead_5 : decode cX4_isAhead 5 = .ok (.iaload, 1) := by decide +kernel
theorem dX4_isAhead_6 : decode cX4_isAhead 6 = .ok (.aload_n 0, 1) := by decide +kernel
theorem dX4_isAhead_7 : decode cX4_isAhead 7 = .ok (.getfield 9, 3) := by decide +kernel
theorem dX4_isAhead_10 : decode cX4_isAhead 10 = .ok (.iload_n 2, 1) := by decide +kernel
theorem dX4_isAhead_11 : decode cX4_isAhead 11 = .ok (.iaload, 1) := by decide +kernel
theorem dX4_isAhead_12 : decode cX4_isAhead 12 = .ok (.if_icmp .eq 24, 3) := by decide +kernel
theorem dX4_isAhead_15 : decode cX4_isAhead 15 = .ok (.aload_n 0, 1) := by decide +kernel
theorem dX4_isAhead_16 : decode cX4_isAhead 16 = .ok (.getfield 9, 3) := by decide +kernel
theorem dX4_isAhead_19 : decode cX4_isAhead 19 = .ok (.iload_n 1, 1) := by decide +kernel
theorem dX4_isAhead_20 : decode cX4_isAhead 20 = .ok (.iaload, 1) := by decide +kernel
theorem dX4_isAhead_21 : decode cX4_isAhead 21 = .ok (.aload_n 0, 1) := by decide +kernel
theorem dX4_isAhead_22 : decode cX4_isAhead 22 = .ok (.getfield 9, 3) := by decide +kernel
theorem dX4_isAhead_25 : decode cX4_isAhead 25 = .ok (.iload_n 2, 1) := by decide +kernel
theorem dX4_isAhead_26 : decode cX4_isAhead 26 = .ok (.iaload, 1) := by decide +kernel
theorem dX4_isAhead_27 : decode cX4_isAhead 27 = .ok (.if_icmp .le 7, 3) := by decide +kernel
theorem dX4_isAhead_30 : decode cX4_isAhead 30 = .ok (.iconst 1, 1) := by decide +kernel
theorem dX4_isAhead_31 : decode cX4_isAhead 31 = .ok (.goto 4, 3) := by decide +kernel
theorem dX4_isAhead_34 : decode cX4_isAhead 34 = .ok (.iconst 0, 1) := by decide +kernel
theorem dX4_isAhead_35 : decode cX4_isAhead 35 = .ok (.ireturn, 1) := by decide +kernel
theorem dX4_isAhead_36 : decode cX4_isAhead 36 = .ok (.aload_n 0, 1) := by decide +kernel
theorem dX4_isAhead_37 : decode cX4_isAhead 37 = .ok (.getfield 15, 3) := by decide +kernel
theorem dX4_isAhead_40 : decode cX4_isAhead 40 = .ok (.iload_n 1, 1) := by decide +kernel
theorem dX4_isAhead_41 : decode cX4_isAhead 41 = .ok (.iaload, 1) := by decide +kernel
theorem dX4_isAhead_42 : decode cX4_isAhead 42 = .ok (.aload_n 0, 1) := by decide +kernel
theorem dX4_isAhead_43 : decode cX4_isAhead 43 = .ok (.getfield 15, 3) := by decide +kernel
theorem dX4_isAhead_46 : decode cX4_isAhead 46 = .ok (.iload_n 2, 1) := by decide +kernel
theorem dX4_isAhead_47 : decode cX4_isAhead 47 = .ok (.iaload, 1) := by decide +kernel
theorem dX4_isAhead_48 : decode cX4_isAhead 48 = .ok (.if_icmp .eq 24, 3) := by decide +kernel
theorem dX4_isAhead_51 : decode cX4_isAhead 51 = .ok (.aload_n 0, 1) := by decide +kernel
theorem dX4_isAhead_52 : decode cX4_isAhead 52 = .ok (.getfield 15, 3) := by decide +kernel
theorem dX4_isAhead_55 : decode cX4_isAhead 55 = .ok (.iload_n 1, 1) := by decide +kernel
theorem dX4_isAhead_56 : decode cX4_isAhead 56 = .ok (.iaload, 1) := by decide +kernel
theorem dX4_isAhead_57 : decode cX4_isAhead 57 = .ok (.aload_n 0, 1) := by decide +kernel
theorem dX4_isAhead_58 : decode cX4_isAhead 58 = .ok (.getfield 15, 3) := by decide +kernel
theorem dX4_isAhead_61 : decode cX4_isAhead 61 = .ok (.iload_n 2, 1) := by decide +kernel
theorem dX4_isAhead_62 : decode cX4_isAhead 62 = .ok (.iaload, 1) := by decide +kernel
theorem dX4_isAhead_63 : decode cX4_isAhead 63 = .ok (.if_icmp .le 7, 3) := by decide +kernel
theorem dX4_isAhead_66 : decode cX4_isAhead 66 = .ok (.iconst 1, 1) := by decide +kernel
theorem dX4_isAhead_67 : decode cX4_isAhead 67 = .ok (.goto 4, 3) := by decide +kernel
theorem dX4_isAhead_70 : decode cX4_isAhead 70 = .ok (.iconst 0, 1) := by decide +kernel
theorem dX4_isAhead_71 : decode cX4_isAhead 71 = .ok (.ireturn, 1) := by decide +kernel
theorem dX4_isAhead_72 : decode cX4_isAhead 72 = .ok (.iload_n 1, 1) := by decide +kernel
theorem dX4_isAhead_73 : decode cX4_isAhead 73 = .ok (.iload_n 2, 1) := by decide +kernel
theorem dX4_isAhead_74 : decode cX4_isAhead 74 = .ok (.if_icmp .ge 7, 3) := by decide +kernel
theorem dX4_isAhead_77 : decode cX4_isAhead 77 = .ok (.iconst 1, 1) := by decide +kernel
theorem dX4_isAhead_78 : decode cX4_isAhead 78 = .ok (.goto 4, 3) := by decide +kernel
theorem dX4_isAhead_81 : decode cX4_isAhead 81 = .ok (.iconst 0, 1) := by decide +kernel
theorem dX4_isAhead_82 : decode cX4_isAhead 82 = .ok (.ireturn, 1) := by decide +kernel
theorem dX4_place_0 : decode cX4_place 0 = .ok (.iconst 0, 1) := by decide +kernel
theorem dX4_place_1 : decode cX4_place 1 = .ok (.istore_n 2, 1) := by decide +kernel
theorem dX4_place_2 : decode cX4_place 2 = .ok (.iconst 0, 1) := by decide +kernel
theorem dX4_place_3 : decode cX4_place 3 = .ok (.istore_n 3, 1) := by decide +kernel
theorem dX4_place_4 : decode cX4_place 4 = .ok (.iload_n 3, 1) := by decide +kernel
theorem dX4_place_5 : decode cX4_place 5 = .ok (.aload_n 0, 1) := by decide +kernel
theorem dX4_place_6 : decode cX4_place 6 = .ok (.getfield 24, 3) := by decide +kernel
theorem dX4_place_9 : decode cX4_place 9 = .ok (.if_icmp .ge 26, 3) := by decide +kernel
theorem dX4_place_12 : decode cX4_place 12 = .ok (.iload_n 3, 1) := by decide +kernel
theorem dX4_place_13 : decode cX4_place 13 = .ok (.iload_n 1, 1) := by decide +kernel
theorem dX4_place_14 : decode cX4_place 14 = .ok (.if_icmp .eq 15, 3) := by decide +kernel
theorem dX4_place_17 : decode cX4_place 17 = .ok (.aload_n 0, 1) := by decide +kernel
theorem dX4_place_18 : decode cX4_place 18 = .ok (.iload_n 3, 1) := by decide +kernel
theorem dX4_place_19 : decode cX4_place 19 = .ok (.iload_n 1, 1) := by decide +kernel
theorem dX4_place_20 : decode cX4_place 20 = .ok (.invokevirtual 45, 3) := by decide +kernel
theorem dX4_place_23 : decode cX4_place 23 = .ok (.ifCond .eq 6, 3) := by decide +kernel
theorem dX4_place_26 : decode cX4_place 26 = .ok (.iinc 2 1, 3) := by decide +kernel
theorem dX4_place_29 : decode cX4_place 29 = .ok (.iinc 3 1, 3) := by decide +kernel
theorem dX4_place_32 : decode cX4_place 32 = .ok (.goto (-28), 3) := by decide +kernel
theorem dX4_place_35 : decode cX4_place 35 = .ok (.iload_n 2, 1) := by decide +kernel
theorem dX4_place_36 : decode cX4_place 36 = .ok (.ireturn, 1) := by decide +kernel
theorem dX4_first_0 : decode cX4_first 0 = .ok (.iconst (-1), 1) := by decide +kernel
theorem dX4_first_1 : decode cX4_first 1 = .ok (.istore_n 1, 1) := by decide +kernel
theorem dX4_first_2 : decode cX4_first 2 = .ok (.iconst 0, 1) := by decide +kernel
theorem dX4_first_3 : decode cX4_first 3 = .ok (.istore_n 2, 1) := by decide +kernel
theorem dX4_first_4 : decode cX4_first 4 = .ok (.iload_n 2, 1) := by decide +kernel
theorem dX4_first_5 : decode cX4_first 5 = .ok (.aload_n 0, 1) := by decide +kernel
theorem dX4_first_6 : decode cX4_first 6 = .ok (.getfield 24, 3) := by decide +kernel
theorem dX4_first_9 : decode cX4_first 9 = .ok (.if_icmp .ge 25, 3) := by decide +kernel
theorem dX4_first_12 : decode cX4_first 12 = .ok (.iload_n 1, 1) := by decide +kernel
theorem dX4_first_13 : decode cX4_first 13 = .ok (.iconst (-1), 1) := by decide +kernel
theorem dX4_first_14 : decode cX4_first 14 = .ok (.if_icmp .eq 12, 3) := by decide +kernel
theorem dX4_first_17 : decode cX4_first 17 = .ok (.aload_n 0, 1) := by decide +kernel
theorem dX4_first_18 : decode cX4_first 18 = .ok (.iload_n 2, 1) := by decide +kernel
theorem dX4_first_19 : decode cX4_first 19 = .ok (.iload_n 1, 1) := by decide +kernel
theorem dX4_first_20 : decode cX4_first 20 = .ok (.invokevirtual 45, 3) := by decide +kernel
theorem dX4_first_23 : decode cX4_first 23 = .ok (.ifCond .eq 5, 3) := by decide +kernel
theorem dX4_first_26 : decode cX4_first 26 = .ok (.iload_n 2, 1) := by decide +kernel
theorem dX4_first_27 : decode cX4_first 27 = .ok (.istore_n 1, 1) := by decide +kernel
theorem dX4_first_28 : decode cX4_first 28 = .ok (.iinc 2 1, 3) := by decide +kernel
theorem dX4_first_31 : decode cX4_first 31 = .ok (.goto (-27), 3) := by decide +kernel
theorem dX4_first_34 : decode cX4_first 34 = .ok (.iload_n 1, 1) := by decide +kernel
theorem dX4_first_35 : decode cX4_first 35 = .ok (.ireturn, 1) := by decide +kernel
theorem dX5_init_0 : decode cX5_init 0 = .ok (.aload_n 0, 1) := by decide +kernel
theorem dX5_init_1 : decode cX5_init 1 = .ok (.invokespecial 3, 3) := by decide +kernel
theorem dX5_init_4 : decode cX5_init 4 = .ok (.aload_n 0, 1) := by decide +kernel
theorem dX5_init_5 : decode cX5_init 5 = .ok (.iconst 4, 1) := by decide +kernel
theorem dX5_init_6 : decode cX5_init 6 = .ok (.anewarray 9, 3) := by decide +kernel
theorem dX5_init_9 : decode cX5_init 9 = .ok (.putfield 11, 3) := by decide +kernel
theorem dX5_init_12 : decode cX5_init 12 = .ok (.aload_n 0, 1) := by decide +kernel
theorem dX5_init_13 : decode cX5_init 13 = .ok (.iconst 5, 1) := by decide +kernel
theorem dX5_init_14 : decode cX5_init 14 = .ok (.newarray .int, 2) := by decide +kernel
theorem dX5_init_16 : decode cX5_init 16 = .ok (.dup, 1) := by decide +kernel
theorem dX5_init_17 : decode cX5_init 17 = .ok (.iconst 0, 1) := by decide +kernel
theorem dX5_init_18 : decode cX5_init 18 = .ok (.bipush 100, 2) := by decide +kernel
theorem dX5_init_20 : decode cX5_init 20 = .ok (.iastore, 1) := by decide +kernel
theorem dX5_init_21 : decode cX5_init 21 = .ok (.dup, 1) := by decide +kernel
theorem dX5_init_22 : decode cX5_init 22 = .ok (.iconst 1, 1) := by decide +kernel
theorem dX5_init_23 : decode cX5_init 23 = .ok (.iconst 3, 1) := by decide +kernel
theorem dX5_init_24 : decode cX5_init 24 = .ok (.iastore, 1) := by decide +kernel
theorem dX5_init_25 : decode cX5_init 25 = .ok (.dup, 1) := by decide +kernel
theorem dX5_init_26 : decode cX5_init 26 = .ok (.iconst 2, 1) := by decide +kernel
theorem dX5_init_27 : decode cX5_init 27 = .ok (.bipush 7, 2) := by decide +kernel
theorem dX5_init_29 : decode cX5_init 29 = .ok (.iastore, 1) := by decide +kernel
theorem dX5_init_30 : decode cX5_init 30 = .ok (.dup, 1) := by decide +kernel
theorem dX5_init_31 : decode cX5_init 31 = .ok (.iconst 3, 1) := by decide +kernel
theorem dX5_init_32 : decode cX5_init 32 = .ok (.iconst 3, 1) := by decide +kernel
theorem dX5_init_33 : decode cX5_init 33 = .ok (.iastore, 1) := by decide +kernel
theorem dX5_init_34 : decode cX5_init 34 = .ok (.dup, 1) := by decide +kernel
theorem dX5_init_35 : decode cX5_init 35 = .ok (.iconst 4, 1) := by decide +kernel
theorem dX5_init_36 : decode cX5_init 36 = .ok (.bipush 10, 2) := by decide +kernel
theorem dX5_init_38 : decode cX5_init 38 = .ok (.iastore, 1) := by decide +kernel
theorem dX5_init_39 : decode cX5_init 39 = .ok (.putfield 17, 3) := by decide +kernel
theorem dX5_init_42 : decode cX5_init 42 = .ok (.iconst 0, 1) := by decide +kernel
theorem dX5_init_43 : decode cX5_init 43 = .ok (.istore_n 1, 1) := by decide +kernel
theorem dX5_init_44 : decode cX5_init 44 = .ok (.iload_n 1, 1) := by decide +kernel
theorem dX5_init_45 : decode cX5_init 45 = .ok (.iconst 4, 1) := by decide +kernel
theorem dX5_init_46 : decode cX5_init 46 = .ok (.if_icmp .ge 22, 3) := by decide +kernel
theorem dX5_init_49 : decode cX5_init 49 = .ok (.aload_n 0, 1) := by decide +kernel
theorem dX5_init_50 : decode cX5_init 50 = .ok (.getfield 11, 3) := by decide +kernel
theorem dX5_init_53 : decode cX5_init 53 = .ok (.iload_n 1, 1) := by decide +kernel
theorem dX5_init_54 : decode cX5_init 54 = .ok (.new 9, 3) := by decide +kernel
theorem dX5_init_57 : decode cX5_init 57 = .ok (.dup, 1) := by decide +kernel
theorem dX5_init_58 : decode cX5_init 58 = .ok (.invokespecial 21, 3) := by decide +kernel
theorem dX5_init_61 : decode cX5_init 61 = .ok (.aastore, 1) := by decide +kernel
theorem dX5_init_62 : decode cX5_init 62 = .ok (.iinc 1 1, 3) := by decide +kernel
theorem dX5_init_65 : decode cX5_init 65 = .ok (.goto (-21), 3) := by decide +kernel
theorem dX5_init_68 : decode cX5_init 68 = .ok (.return_, 1) := by decide +kernel
theorem dX5_copyFrom_0 : decode cX5_copyFrom 0 = .ok (.aload_n 0, 1) := by decide +kernel
theorem dX5_copyFrom_1 : decode cX5_copyFrom 1 = .ok (.aload_n 1, 1) := by decide +kernel
theorem dX5_copyFrom_2 : decode cX5_copyFrom 2 = .ok (.getfield 22, 3) := by decide +kernel
theorem dX5_copyFrom_5 : decode cX5_copyFrom 5 = .ok (.putfield 22, 3) := by decide +kernel
theorem dX5_copyFrom_8 : decode cX5_copyFrom 8 = .ok (.iconst 0, 1) := by decide +kernel
theorem dX5_copyFrom_9 : decode cX5_copyFrom 9 = .ok (.istore_n 2, 1) := by decide +kernel
theorem dX5_copyFrom_10 : decode cX5_copyFrom 10 = .ok (.iload_n 2, 1) := by decide +kernel
theorem dX5_copyFrom_11 : decode cX5_copyFrom 11 = .ok (.aload_n 0, 1) := by decide +kernel
theorem dX5_copyFrom_12 : decode cX5_copyFrom 12 = .ok (.getfield 22, 3) := by decide +kernel
theorem dX5_copyFrom_15 : decode cX5_copyFrom 15 = .ok (.if_icmp .ge 24, 3) := by decide +kernel
theorem dX5_copyFrom_18 : decode cX5_copyFrom 18 = .ok (.aload_n 0, 1) := by decide +kernel
theorem dX5_copyFrom_19 : decode cX5_copyFrom 19 = .ok (.getfield 11, 3) := by decide +kernel
theorem dX5_copyFrom_22 : decode cX5_copyFrom 22 = .ok (.iload_n 2, 1) := by decide +kernel
theorem dX5_copyFrom_23 : decode cX5_copyFrom 23 = .ok (.aaload, 1) := by decide +kernel
theorem dX5_copyFrom_24 : decode cX5_copyFrom 24 = .ok (.aload_n 1, 1) := by decide +kernel
theorem dX5_copyFrom_25 : decode cX5_copyFrom 25 = .ok (.getfield 11, 3) := by decide +kernel
theorem dX5_copyFrom_28 : decode cX5_copyFrom 28 = .ok (.iload_n 2, 1) := by decide +kernel
theorem dX5_copyFrom_29 : decode cX5_copyFrom 29 = .ok (.aaload, 1) := by decide +kernel
theorem dX5_copyFrom_30 : decode cX5_copyFrom 30 = .ok (.invokevirtual 26, 3) := by decide +kernel
theorem dX5_copyFrom_33 : decode cX5_copyFrom 33 = .ok (.iinc 2 1, 3) := by decide +kernel
theorem dX5_copyFrom_36 : decode cX5_copyFrom 36 = .ok (.goto (-26), 3) := by decide +kernel
theorem dX5_copyFrom_39 : decode cX5_copyFrom 39 = .ok (.aload_n 1, 1) := by decide +kernel
theorem dX5_copyFrom_40 : decode cX5_copyFrom 40 = .ok (.getfield 17, 3) := by decide +kernel
theorem dX5_copyFrom_43 : decode cX5_copyFrom 43 = .ok (.iconst 0, 1) := by decide +kernel
theorem dX5_copyFrom_44 : decode cX5_copyFrom 44 = .ok (.aload_n 0, 1) := by decide +kernel
theorem dX5_copyFrom_45 : decode cX5_copyFrom 45 = .ok (.getfield 17, 3) := by decide +kernel
theorem dX5_copyFrom_48 : decode cX5_copyFrom 48 = .ok (.iconst 0, 1) := by decide +kernel
theorem dX5_copyFrom_49 : decode cX5_copyFrom 49 = .ok (.iconst 5, 1) := by decide +kernel
theorem dX5_copyFrom_50 : decode cX5_copyFrom 50 = .ok (.invokestatic 30, 3) := by decide +kernel
theorem dX5_copyFrom_53 : decode cX5_copyFrom 53 = .ok (.return_, 1) := by decide +kernel
theorem dX5_hasSkater_0 : decode cX5_hasSkater 0 = .ok (.iload_n 1, 1) := by decide +kernel
theorem dX5_hasSkater_1 : decode cX5_hasSkater 1 = .ok (.ifCond .lt 15, 3) := by decide +kernel
theorem dX5_hasSkater_4 : decode cX5_hasSkater 4 = .ok (.iload_n 1, 1) := by decide +kernel
theorem dX5_hasSkater_5 : decode cX5_hasSkater 5 = .ok (.aload_n 0, 1) := by decide +kernel
theorem dX5_hasSkater_6 : decode cX5_hasSkater 6 = .ok (.getfield 22, 3) := by decide +kernel
theorem dX5_hasSkater_9 : decode cX5_hasSkater 9 = .ok (.if_icmp .ge 7, 3) := by decide +kernel
theorem dX5_hasSkater_12 : decode cX5_hasSkater 12 = .ok (.iconst 1, 1) := by decide +kernel
theorem dX5_hasSkater_13 : decode cX5_hasSkater 13 = .ok (.goto 4, 3) := by decide +kernel
theorem dX5_hasSkater_16 : decode cX5_hasSkater 16 = .ok (.iconst 0, 1) := by decide +kernel
theorem dX5_hasSkater_17 : decode cX5_hasSkater 17 = .ok (.ireturn, 1) := by decide +kernel
theorem dX5_hasElement_0 : decode cX5_hasElement 0 = .ok (.aload_n 0, 1) := by decide +kernel
theorem dX5_hasElement_1 : decode cX5_hasElement 1 = .ok (.iload_n 1, 1) := by decide +kernel
theorem dX5_hasElement_2 : decode cX5_hasElement 2 = .ok (.invokevirtual 36, 3) := by decide +kernel
theorem dX5_hasElement_5 : decode cX5_hasElement 5 = .ok (.ifCond .eq 24, 3) := by decide +kernel
theorem dX5_hasElement_8 : decode cX5_hasElement 8 = .ok (.iload_n 2, 1) := by decide +kernel
theorem dX5_hasElement_9 : decode cX5_hasElement 9 = .ok (.ifCond .lt 20, 3) := by decide +kernel
theorem dX5_hasElement_12 : decode cX5_hasElement 12 = .ok (.iload_n 2, 1) := by decide +kernel
theorem dX5_hasElement_13 : decode cX5_hasElement 13 = .ok (.aload_n 0, 1) := by decide +kernel
theorem dX5_hasElement_14 : decode cX5_hasElement 14 = .ok (.getfield 11, 3) := by decide +kernel
theorem dX5_hasElement_17 : decode cX5_hasElement 17 = .ok (.iload_n 1, 1) := by decide +kernel
theorem dX5_hasElement_18 : decode cX5_hasElement 18 = .ok (.aaload, 1) := by decide +kernel
theorem dX5_hasElement_19 : decode cX5_hasElement 19 = .ok (.getfield 40, 3) := by decide +kernel
theorem dX5_hasElement_22 : decode cX5_hasElement 22 = .ok (.if_icmp .ge 7, 3) := by decide +kernel
theorem dX5_hasElement_25 : decode cX5_hasElement 25 = .ok (.iconst 1, 1) := by decide +kernel
theorem dX5_hasElement_26 : decode cX5_hasElement 26 = .ok (.goto 4, 3) := by decide +kernel
theorem dX5_hasElement_29 : decode cX5_hasElement 29 = .ok (.iconst 0, 1) := by decide +kernel
theorem dX5_hasElement_30 : decode cX5_hasElement 30 = .ok (.ireturn, 1) := by decide +kernel
theorem dX5_hasPart_0 : decode cX5_hasPart 0 = .ok (.aload_n 0, 1) := by decide +kernel
theorem dX5_hasPart_1 : decode cX5_hasPart 1 = .ok (.iload_n 1, 1) := by decide +kernel
theorem dX5_hasPart_2 : decode cX5_hasPart 2 = .ok (.iload_n 2, 1) := by decide +kernel
theorem dX5_hasPart_3 : decode cX5_hasPart 3 = .ok (.invokevirtual 43, 3) := by decide +kernel
theorem dX5_hasPart_6 : decode cX5_hasPart 6 = .ok (.ifCond .eq 26, 3) := by decide +kernel
theorem dX5_hasPart_9 : decode cX5_hasPart 9 = .ok (.iload_n 3, 1) := by decide +kernel
theorem dX5_hasPart_10 : decode cX5_hasPart 10 = .ok (.ifCond .lt 22, 3) := by decide +kernel
theorem dX5_hasPart_13 : decode cX5_hasPart 13 = .ok (.iload_n 3, 1) := by decide +kernel
theorem dX5_hasPart_14 : decode cX5_hasPart 14 = .ok (.aload_n 0, 1) := by decide +kernel
theorem dX5_hasPart_15 : decode cX5_hasPart 15 = .ok (.getfield 11, 3) := by decide +kernel
theorem dX5_hasPart_18 : decode cX5_hasPart 18 = .ok (.iload_n 1, 1) := by decide +kernel
theorem dX5_hasPart_19 : decode cX5_hasPart 19 = .ok (.aaload, 1) := by decide +kernel
theorem dX5_hasPart_20 : decode cX5_hasPart 20 = .ok (.getfield 47, 3) := by decide +kernel
theorem dX5_hasPart_23 : decode cX5_hasPart 23 = .ok (.iload_n 2, 1) := by decide +kernel
theorem dX5_hasPart_24 : decode cX5_hasPart 24 = .ok (.iaload, 1) := by decide +kernel
theorem dX5_hasPart_25 : decode cX5_hasPart 25 = .ok (.if_icmp .ge 7, 3) := by decide +kernel
theorem dX5_hasPart_28 : decode cX5_hasPart 28 = .ok (.iconst 1, 1) := by decide +kernel
theorem dX5_hasPart_29 : decode cX5_hasPart 29 = .ok (.goto 4, 3) := by decide +kernel
theorem dX5_hasPart_32 : decode cX5_hasPart 32 = .ok (.iconst 0, 1) := by decide +kernel
theorem dX5_hasPart_33 : decode cX5_hasPart 33 = .ok (.ireturn, 1) := by decide +kernel
theorem dX5_settingFits_0 : decode cX5_settingFits 0 = .ok (.iload_n 0, 1) := by decide +kernel
theorem dX5_settingFits_1 : decode cX5_settingFits 1 = .ok (.tableswitch 101 0 4 #[35, 54, 69, 54, 85], 35) := by decide +kernel
theorem dX5_settingFits_36 : decode cX5_settingFits 36 = .ok (.iload_n 1, 1) := by decide +kernel
theorem dX5_settingFits_37 : decode cX5_settingFits 37 = .ok (.bipush 50, 2) := by decide +kernel
theorem dX5_settingFits_39 : decode cX5_settingFits 39 = .ok (.if_icmp .lt 14, 3) := by decide +kernel
theorem dX5_settingFits_42 : decode cX5_settingFits 42 = .ok (.iload_n 1, 1) := by decide +kernel
theorem dX5_settingFits_43 : decode cX5_settingFits 43 = .ok (.sipush 300, 3) := by decide +kernel
theorem dX5_settingFits_46 : decode cX5_settingFits 46 = .ok (.if_icmp .gt 7, 3) := by decide +kernel
theorem dX5_settingFits_49 : decode cX5_settingFits 49 = .ok (.iconst 1, 1) := by decide +kernel
theorem dX5_settingFits_50 : decode cX5_settingFits 50 = .ok (.goto 4, 3) := by decide +kernel
theorem dX5_settingFits_53 : decode cX5_settingFits 53 = .ok (.iconst 0, 1) := by decide +kernel
theorem dX5_settingFits_54 : decode cX5_settingFits 54 = .ok (.ireturn, 1) := by decide +kernel
theorem dX5_settingFits_55 : decode cX5_settingFits 55 = .ok (.iload_n 1, 1) := by decide +kernel
theorem dX5_settingFits_56 : decode cX5_settingFits 56 = .ok (.ifCond .lt 12, 3) := by decide +kernel
theorem dX5_settingFits_59 : decode cX5_settingFits 59 = .ok (.iload_n 1, 1) := by decide +kernel
theorem dX5_settingFits_60 : decode cX5_settingFits 60 = .ok (.iconst 5, 1) := by decide +kernel
theorem dX5_settingFits_61 : decode cX5_settingFits 61 = .ok (.if_icmp .gt 7, 3) := by decide +kernel
theorem dX5_settingFits_64 : decode cX5_settingFits 64 = .ok (.iconst 1, 1) := by decide +kernel
theorem dX5_settingFits_65 : decode cX5_settingFits 65 = .ok (.goto 4, 3) := by decide +kernel
theorem dX5_settingFits_68 : decode cX5_settingFits 68 = .ok (.iconst 0, 1) := by decide +kernel
theorem dX5_settingFits_69 : decode cX5_settingFits 69 = .ok (.ireturn, 1) := by decide +kernel
theorem dX5_settingFits_70 : decode cX5_settingFits 70 = .ok (.iload_n 1, 1) := by decide +kernel
theorem dX5_settingFits_71 : decode cX5_settingFits 71 = .ok (.ifCond .lt 13, 3) := by decide +kernel
theorem dX5_settingFits_74 : decode cX5_settingFits 74 = .ok (.iload_n 1, 1) := by decide +kernel
theorem dX5_settingFits_75 : decode cX5_settingFits 75 = .ok (.bipush 12, 2) := by decide +kernel
theorem dX5_settingFits_77 : decode cX5_settingFits 77 = .ok (.if_icmp .gt 7, 3) := by decide +kernel
theorem dX5_settingFits_80 : decode cX5_settingFits 80 = .ok (.iconst 1, 1) := by decide +kernel
theorem dX5_settingFits_81 : decode cX5_settingFits 81 = .ok (.goto 4, 3) := by decide +kernel
theorem dX5_settingFits_84 : decode cX5_settingFits 84 = .ok (.iconst 0, 1) := by decide +kernel
theorem dX5_settingFits_85 : decode cX5_settingFits 85 = .ok (.ireturn, 1) := by decide +kernel
theorem dX5_settingFits_86 : decode cX5_settingFits 86 = .ok (.iload_n 1, 1) := by decide +kernel
theorem dX5_settingFits_87 : decode cX5_settingFits 87 = .ok (.ifCond .lt 13, 3) := by decide +kernel
theorem dX5_settingFits_90 : decode cX5_settingFits 90 = .ok (.iload_n 1, 1) := by decide +kernel
theorem dX5_settingFits_91 : decode cX5_settingFits 91 = .ok (.bipush 30, 2) := by decide +kernel
theorem dX5_settingFits_93 : decode cX5_settingFits 93 = .ok (.if_icmp .gt 7, 3) := by decide +kernel
theorem dX5_settingFits_96 : decode cX5_settingFits 96 = .ok (.iconst 1, 1) := by decide +kernel
theorem dX5_settingFits_97 : decode cX5_settingFits 97 = .ok (.goto 4, 3) := by decide +kernel
theorem dX5_settingFits_100 : decode cX5_settingFits 100 = .ok (.iconst 0, 1) := by decide +kernel
theorem dX5_settingFits_101 : decode cX5_settingFits 101 = .ok (.ireturn, 1) := by decide +kernel
theorem dX5_settingFits_102 : decode cX5_settingFits 102 = .ok (.iconst 0, 1) := by decide +kernel
theorem dX5_settingFits_103 : decode cX5_settingFits 103 = .ok (.ireturn, 1) := by decide +kernel
theorem dX5_reviewed_0 : decode cX5_reviewed 0 = .ok (.iconst 0, 1) := by decide +kernel
theorem dX5_reviewed_1 : decode cX5_reviewed 1 = .ok (.istore_n 1, 1) := by decide +kernel
theorem dX5_reviewed_2 : decode cX5_reviewed 2 = .ok (.iconst 0, 1) := by decide +kernel
theorem dX5_reviewed_3 : decode cX5_reviewed 3 = .ok (.istore_n 2, 1) := by decide +kernel
theorem dX5_reviewed_4 : decode cX5_reviewed 4 = .ok (.iload_n 2, 1) := by decide +kernel
theorem dX5_reviewed_5 : decode cX5_reviewed 5 = .ok (.aload_n 0, 1) := by decide +kernel
theorem dX5_reviewed_6 : decode cX5_reviewed 6 = .ok (.getfield 22, 3) := by decide +kernel
theorem dX5_reviewed_9 : decode cX5_reviewed 9 = .ok (.if_icmp .ge 21, 3) := by decide +kernel
theorem dX5_reviewed_12 : decode cX5_reviewed 12 = .ok (.iload_n 1, 1) := by decide +kernel
theorem dX5_reviewed_13 : decode cX5_reviewed 13 = .ok (.aload_n 0, 1) := by decide +kernel
theorem dX5_reviewed_14 : decode cX5_reviewed 14 = .ok (.getfield 11, 3) := by decide +kernel
theorem dX5_reviewed_17 : decode cX5_reviewed 17 = .ok (.iload_n 2, 1) := by decide +kernel
theorem dX5_reviewed_18 : decode cX5_reviewed 18 = .ok (.aaload, 1) := by decide +kernel
theorem dX5_reviewed_19 : decode cX5_reviewed 19 = .ok (.invokevirtual 50, 3) := by decide +kernel
theorem dX5_reviewed_22 : decode cX5_reviewed 22 = .ok (.iadd, 1) := by decide +kernel
theorem dX5_reviewed_23 : decode cX5_reviewed 23 = .ok (.istore_n 1, 1) := by decide +kernel
theorem dX5_reviewed_24 : decode cX5_reviewed 24 = .ok (.iinc 2 1, 3) := by decide +kernel
theorem dX5_reviewed_27 : decode cX5_reviewed 27 = .ok (.goto (-23), 3) := by decide +kernel
theorem dX5_reviewed_30 : decode cX5_reviewed 30 = .ok (.iload_n 1, 1) := by decide +kernel
theorem dX5_reviewed_31 : decode cX5_reviewed 31 = .ok (.ireturn, 1) := by decide +kernel
theorem dX5_fallen_0 : decode cX5_fallen 0 = .ok (.iconst 0, 1) := by decide +kernel
theorem dX5_fallen_1 : decode cX5_fallen 1 = .ok (.istore_n 1, 1) := by decide +kernel
theorem dX5_fallen_2 : decode cX5_fallen 2 = .ok (.iconst 0, 1) := by decide +kernel
theorem dX5_fallen_3 : decode cX5_fallen 3 = .ok (.istore_n 2, 1) := by decide +kernel
theorem dX5_fallen_4 : decode cX5_fallen 4 = .ok (.iload_n 2, 1) := by decide +kernel
theorem dX5_fallen_5 : decode cX5_fallen 5 = .ok (.aload_n 0, 1) := by decide +kernel
theorem dX5_fallen_6 : decode cX5_fallen 6 = .ok (.getfield 22, 3) := by decide +kernel
theorem dX5_fallen_9 : decode cX5_fallen 9 = .ok (.if_icmp .ge 21, 3) := by decide +kernel
theorem dX5_fallen_12 : decode cX5_fallen 12 = .ok (.iload_n 1, 1) := by decide +kernel
theorem dX5_fallen_13 : decode cX5_fallen 13 = .ok (.aload_n 0, 1) := by decide +kernel
theorem dX5_fallen_14 : decode cX5_fallen 14 = .ok (.getfield 11, 3) := by decide +kernel
theorem dX5_fallen_17 : decode cX5_fallen 17 = .ok (.iload_n 2, 1) := by decide +kernel
theorem dX5_fallen_18 : decode cX5_fallen 18 = .ok (.aaload, 1) := by decide +kernel
theorem dX5_fallen_19 : decode cX5_fallen 19 = .ok (.invokevirtual 54, 3) := by decide +kernel
theorem dX5_fallen_22 : decode cX5_fallen 22 = .ok (.iadd, 1) := by decide +kernel
theorem dX5_fallen_23 : decode cX5_fallen 23 = .ok (.istore_n 1, 1) := by decide +kernel
theorem dX5_fallen_24 : decode cX5_fallen 24 = .ok (.iinc 2 1, 3) := by decide +kernel
theorem dX5_fallen_27 : decode cX5_fallen 27 = .ok (.goto (-23), 3) := by decide +kernel
theorem dX5_fallen_30 : decode cX5_fallen 30 = .ok (.iload_n 1, 1) := by decide +kernel
theorem dX5_fallen_31 : decode cX5_fallen 31 = .ok (.ireturn, 1) := by decide +kernel
theorem dX5_allElements_0 : decode cX5_allElements 0 = .ok (.iconst 0, 1) := by decide +kernel
theorem dX5_allElements_1 : decode cX5_allElements 1 = .ok (.istore_n 1, 1) := by decide +kernel
theorem dX5_allElements_2 : decode cX5_allElements 2 = .ok (.iconst 0, 1) := by decide +kernel
theorem dX5_allElements_3 : decode cX5_allElements 3 = .ok (.istore_n 2, 1) := by decide +kernel
theorem dX5_allElements_4 : decode cX5_allElements 4 = .ok (.iload_n 2, 1) := by decide +kernel
theorem dX5_allElements_5 : decode cX5_allElements 5 = .ok (.aload_n 0, 1) := by decide +kernel
theorem dX5_allElements_6 : decode cX5_allElements 6 = .ok (.getfield 22, 3) := by decide +kernel
theorem dX5_allElements_9 : decode cX5_allElements 9 = .ok (.if_icmp .ge 21, 3) := by decide +kernel
theorem dX5_allElements_12 : decode cX5_allElements 12 = .ok (.iload_n 1, 1) := by decide +kernel
theorem dX5_allElements_13 : decode cX5_allElements 13 = .ok (.aload_n 0, 1) := by decide +kernel
theorem dX5_allElements_14 : decode cX5_allElements 14 = .ok (.getfield 11, 3) := by decide +kernel
theorem dX5_allElements_17 : decode cX5_allElements 17 = .ok (.iload_n 2, 1) := by decide +kernel
theorem dX5_allElements_18 : decode cX5_allElements 18 = .ok (.aaload, 1) := by decide +kernel
theorem dX5_allElements_19 : decode cX5_allElements 19 = .ok (.getfield 40, 3) := by decide +kernel
theorem dX5_allElements_22 : decode cX5_allElements 22 = .ok (.iadd, 1) := by decide +kernel
theorem dX5_allElements_23 : decode cX5_allElements 23 = .ok (.istore_n 1, 1) := by decide +kernel
theorem dX5_allElements_24 : decode cX5_allElements 24 = .ok (.iinc 2 1, 3) := by decide +kernel
theorem dX5_allElements_27 : decode cX5_allElements 27 = .ok (.goto (-23), 3) := by decide +kernel
theorem dX5_allElements_30 : decode cX5_allElements 30 = .ok (.iload_n 1, 1) := by decide +kernel
theorem dX5_allElements_31 : decode cX5_allElements 31 = .ok (.ireturn, 1) := by decide +kernel
theorem dX5_putFall_0 : decode cX5_putFall 0 = .ok (.aload_n 0, 1) := by decide +kernel
theorem dX5_putFall_1 : decode cX5_putFall 1 = .ok (.iload_n 1, 1) := by decide +kernel
theorem dX5_putFall_2 : decode cX5_putFall 2 = .ok (.iload_n 2, 1) := by decide +kernel
theorem dX5_putFall_3 : decode cX5_putFall 3 = .ok (.invokevirtual 43, 3) := by decide +kernel
theorem dX5_putFall_6 : decode cX5_putFall 6 = .ok (.ifCond .ne 5, 3) := by decide +kernel
theorem dX5_putFall_9 : decode cX5_putFall 9 = .ok (.iconst 0, 1) := by decide +kernel
theorem dX5_putFall_10 : decode cX5_putFall 10 = .ok (.ireturn, 1) := by decide +kernel
theorem dX5_putFall_11 : decode cX5_putFall 11 = .ok (.aload_n 0, 1) := by decide +kernel
theorem dX5_putFall_12 : decode cX5_putFall 12 = .ok (.getfield 11, 3) := by decide +kernel
theorem dX5_putFall_15 : decode cX5_putFall 15 = .ok (.iload_n 1, 1) := by decide +kernel
theorem dX5_putFall_16 : decode cX5_putFall 16 = .ok (.aaload, 1) := by decide +kernel
theorem dX5_putFall_17 : decode cX5_putFall 17 = .ok (.getfield 57, 3) := by decide +kernel
theorem dX5_putFall_20 : decode cX5_putFall 20 = .ok (.iload_n 2, 1) := by decide +kernel
theorem dX5_putFall_21 : decode cX5_putFall 21 = .ok (.iload_n 3, 1) := by decide +kernel
theorem dX5_putFall_22 : decode cX5_putFall 22 = .ok (.iastore, 1) := by decide +kernel
theorem dX5_putFall_23 : decode cX5_putFall 23 = .ok (.iconst 1, 1) := by decide +kernel
theorem dX5_putFall_24 : decode cX5_putFall 24 = .ok (.ireturn, 1) := by decide +kernel
theorem dX5_putReview_0 : decode cX5_putReview 0 = .ok (.aload_n 0, 1) := by decide +kernel
theorem dX5_putReview_1 : decode cX5_putReview 1 = .ok (.iload_n 1, 1) := by decide +kernel
theorem dX5_putReview_2 : decode cX5_putReview 2 = .ok (.iload_n 2, 1) := by decide +kernel
theorem dX5_putReview_3 : decode cX5_putReview 3 = .ok (.invokevirtual 43, 3) := by decide +kernel
theorem dX5_putReview_6 : decode cX5_putReview 6 = .ok (.ifCond .ne 5, 3) := by decide +kernel
theorem dX5_putReview_9 : decode cX5_putReview 9 = .ok (.iconst 0, 1) := by decide +kernel
theorem dX5_putReview_10 : decode cX5_putReview 10 = .ok (.ireturn, 1) := by decide +kernel
theorem dX5_putReview_11 : decode cX5_putReview 11 = .ok (.aload_n 0, 1) := by decide +kernel
theorem dX5_putReview_12 : decode cX5_putReview 12 = .ok (.getfield 11, 3) := by decide +kernel
theorem dX5_putReview_15 : decode cX5_putReview 15 = .ok (.iload_n 1, 1) := by decide +kernel
theorem dX5_putReview_16 : decode cX5_putReview 16 = .ok (.aaload, 1) := by decide +kernel
theorem dX5_putReview_17 : decode cX5_putReview 17 = .ok (.getfield 60, 3) := by decide +kernel
theorem dX5_putReview_20 : decode cX5_putReview 20 = .ok (.iload_n 2, 1) := by decide +kernel
theorem dX5_putReview_21 : decode cX5_putReview 21 = .ok (.iload_n 3, 1) := by decide +kernel
theorem dX5_putReview_22 : decode cX5_putReview 22 = .ok (.iastore, 1) := by decide +kernel
theorem dX5_putReview_23 : decode cX5_putReview 23 = .ok (.iconst 1, 1) := by decide +kernel
theorem dX5_putReview_24 : decode cX5_putReview 24 = .ok (.ireturn, 1) := by decide +kernel
theorem dX5_putKernel_0 : decode cX5_putKernel 0 = .ok (.aload_n 0, 1) := by decide +kernel
theorem dX5_putKernel_1 : decode cX5_putKernel 1 = .ok (.iload_n 1, 1) := by decide +kernel
theorem dX5_putKernel_2 : decode cX5_putKernel 2 = .ok (.iload_n 2, 1) := by decide +kernel
theorem dX5_putKernel_3 : decode cX5_putKernel 3 = .ok (.invokevirtual 43, 3) := by decide +kernel
theorem dX5_putKernel_6 : decode cX5_putKernel 6 = .ok (.ifCond .eq 15, 3) := by decide +kernel
theorem dX5_putKernel_9 : decode cX5_putKernel 9 = .ok (.aload_n 0, 1) := by decide +kernel
theorem dX5_putKernel_10 : decode cX5_putKernel 10 = .ok (.getfield 11, 3) := by decide +kernel
theorem dX5_putKernel_13 : decode cX5_putKernel 13 = .ok (.iload_n 1, 1) := by decide +kernel
theorem dX5_putKernel_14 : decode cX5_putKernel 14 = .ok (.aaload, 1) := by decide +kernel
theorem dX5_putKernel_15 : decode cX5_putKernel 15 = .ok (.getfield 63, 3) := by decide +kernel
theorem dX5_putKernel_18 : decode cX5_putKernel 18 = .ok (.iload_n 2, 1) := by decide +kernel
theorem dX5_putKernel_19 : decode cX5_putKernel 19 = .ok (.iload_n 3, 1) := by decide +kernel
theorem dX5_putKernel_20 : decode cX5_putKernel 20 = .ok (.iastore, 1) := by decide +kernel
theorem dX5_putKernel_21 : decode cX5_putKernel 21 = .ok (.return_, 1) := by decide +kernel
theorem dX5_putCall_0 : decode cX5_putCall 0 = .ok (.aload_n 0, 1) := by decide +kernel
theorem dX5_putCall_1 : decode cX5_putCall 1 = .ok (.iload_n 1, 1) := by decide +kernel
theorem dX5_putCall_2 : decode cX5_putCall 2 = .ok (.iload_n 2, 1) := by decide +kernel
theorem dX5_putCall_3 : decode cX5_putCall 3 = .ok (.iload_n 3, 1) := by decide +kernel
theorem dX5_putCall_4 : decode cX5_putCall 4 = .ok (.invokevirtual 66, 3) := by decide +kernel
theorem dX5_putCall_7 : decode cX5_putCall 7 = .ok (.ifCond .eq 30, 3) := by decide +kernel
theorem dX5_putCall_10 : decode cX5_putCall 10 = .ok (.iload 4, 2) := by decide +kernel
theorem dX5_putCall_12 : decode cX5_putCall 12 = .ok (.ifCond .lt 25, 3) := by decide +kernel
theorem dX5_putCall_15 : decode cX5_putCall 15 = .ok (.iload 4, 2) := by decide +kernel
theorem dX5_putCall_17 : decode cX5_putCall 17 = .ok (.iconst 3, 1) := by decide +kernel
theorem dX5_putCall_18 : decode cX5_putCall 18 = .ok (.if_icmp .gt 19, 3) := by decide +kernel
theorem dX5_putCall_21 : decode cX5_putCall 21 = .ok (.aload_n 0, 1) := by decide +kernel
theorem dX5_putCall_22 : decode cX5_putCall 22 = .ok (.getfield 11, 3) := by decide +kernel
theorem dX5_putCall_25 : decode cX5_putCall 25 = .ok (.iload_n 1, 1) := by decide +kernel
theorem dX5_putCall_26 : decode cX5_putCall 26 = .ok (.aaload, 1) := by decide +kernel
theorem dX5_putCall_27 : decode cX5_putCall 27 = .ok (.iload_n 2, 1) := by decide +kernel
theorem dX5_putCall_28 : decode cX5_putCall 28 = .ok (.iload_n 3, 1) := by decide +kernel
theorem dX5_putCall_29 : decode cX5_putCall 29 = .ok (.iload 4, 2) := by decide +kernel
theorem dX5_putCall_31 : decode cX5_putCall 31 = .ok (.invokevirtual 70, 3) := by decide +kernel
theorem dX5_putCall_34 : decode cX5_putCall 34 = .ok (.ifCond .ne 5, 3) := by decide +kernel
theorem dX5_putCall_37 : decode cX5_putCall 37 = .ok (.iconst 0, 1) := by decide +kernel
theorem dX5_putCall_38 : decode cX5_putCall 38 = .ok (.ireturn, 1) := by decide +kernel
theorem dX5_putCall_39 : decode cX5_putCall 39 = .ok (.aload_n 0, 1) := by decide +kernel
theorem dX5_putCall_40 : decode cX5_putCall 40 = .ok (.getfield 11, 3) := by decide +kernel
theorem dX5_putCall_43 : decode cX5_putCall 43 = .ok (.iload_n 1, 1) := by decide +kernel
theorem dX5_putCall_44 : decode cX5_putCall 44 = .ok (.aaload, 1) := by decide +kernel
theorem dX5_putCall_45 : decode cX5_putCall 45 = .ok (.getfield 73, 3) := by decide +kernel
theorem dX5_putCall_48 : decode cX5_putCall 48 = .ok (.iconst 3, 1) := by decide +kernel
theorem dX5_putCall_49 : decode cX5_putCall 49 = .ok (.iload_n 2, 1) := by decide +kernel
theorem dX5_putCall_50 : decode cX5_putCall 50 = .ok (.imul, 1) := by decide +kernel
theorem dX5_putCall_51 : decode cX5_putCall 51 = .ok (.iload_n 3, 1) := by decide +kernel
theorem dX5_putCall_52 : decode cX5_putCall 52 = .ok (.iadd, 1) := by decide +kernel
theorem dX5_putCall_53 : decode cX5_putCall 53 = .ok (.iload 4, 2) := by decide +kernel
theorem dX5_putCall_55 : decode cX5_putCall 55 = .ok (.iastore, 1) := by decide +kernel
theorem dX5_putCall_56 : decode cX5_putCall 56 = .ok (.iconst 1, 1) := by decide +kernel
theorem dX5_putCall_57 : decode cX5_putCall 57 = .ok (.ireturn, 1) := by decide +kernel
theorem dX5_putComponent_0 : decode cX5_putComponent 0 = .ok (.aload_n 0, 1) := by decide +kernel
theorem dX5_putComponent_1 : decode cX5_putComponent 1 = .ok (.iload_n 1, 1) := by decide +kernel
theorem dX5_putComponent_2 : decode cX5_putComponent 2 = .ok (.invokevirtual 36, 3) := by decide +kernel
theorem dX5_putComponent_5 : decode cX5_putComponent 5 = .ok (.ifCond .eq 24, 3) := by decide +kernel
theorem dX5_putComponent_8 : decode cX5_putComponent 8 = .ok (.iload_n 2, 1) := by decide +kernel
theorem dX5_putComponent_9 : decode cX5_putComponent 9 = .ok (.ifCond .lt 20, 3) := by decide +kernel
theorem dX5_putComponent_12 : decode cX5_putComponent 12 = .ok (.iload_n 2, 1) := by decide +kernel
theorem dX5_putComponent_13 : decode cX5_putComponent 13 = .ok (.iconst 3, 1) := by decide +kernel
theorem dX5_putComponent_14 : decode cX5_putComponent 14 = .ok (.if_icmp .ge 15, 3) := by decide +kernel
theorem dX5_putComponent_17 : decode cX5_putComponent 17 = .ok (.aload_n 0, 1) := by decide +kernel
theorem dX5_putComponent_18 : decode cX5_putComponent 18 = .ok (.getfield 11, 3) := by decide +kernel
theorem dX5_putComponent_21 : decode cX5_putComponent 21 = .ok (.iload_n 1, 1) := by decide +kernel
theorem dX5_putComponent_22 : decode cX5_putComponent 22 = .ok (.aaload, 1) := by decide +kernel
theorem dX5_putComponent_23 : decode cX5_putComponent 23 = .ok (.getfield 76, 3) := by decide +kernel
theorem dX5_putComponent_26 : decode cX5_putComponent 26 = .ok (.iload_n 2, 1) := by decide +kernel
theorem dX5_putComponent_27 : decode cX5_putComponent 27 = .ok (.iload_n 3, 1) := by decide +kernel
theorem dX5_putComponent_28 : decode cX5_putComponent 28 = .ok (.iastore, 1) := by decide +kernel
theorem dX5_putComponent_29 : decode cX5_putComponent 29 = .ok (.return_, 1) := by decide +kernel
theorem dX5_putPoints_0 : decode cX5_putPoints 0 = .ok (.aload_n 0, 1) := by decide +kernel
theorem dX5_putPoints_1 : decode cX5_putPoints 1 = .ok (.iload_n 1, 1) := by decide +kernel
theorem dX5_putPoints_2 : decode cX5_putPoints 2 = .ok (.invokevirtual 36, 3) := by decide +kernel
theorem dX5_putPoints_5 : decode cX5_putPoints 5 = .ok (.ifCond .ne 5, 3) := by decide +kernel
theorem dX5_putPoints_8 : decode cX5_putPoints 8 = .ok (.iconst 0, 1) := by decide +kernel
theorem dX5_putPoints_9 : decode cX5_putPoints 9 = .ok (.ireturn, 1) := by decide +kernel
theorem dX5_putPoints_10 : decode cX5_putPoints 10 = .ok (.aload_n 0, 1) := by decide +kernel
theorem dX5_putPoints_11 : decode cX5_putPoints 11 = .ok (.getfield 11, 3) := by decide +kernel
theorem dX5_putPoints_14 : decode cX5_putPoints 14 = .ok (.iload_n 1, 1) := by decide +kernel
theorem dX5_putPoints_15 : decode cX5_putPoints 15 = .ok (.aaload, 1) := by decide +kernel
theorem dX5_putPoints_16 : decode cX5_putPoints 16 = .ok (.iload_n 2, 1) := by decide +kernel
theorem dX5_putPoints_17 : decode cX5_putPoints 17 = .ok (.putfield 79, 3) := by decide +kernel
theorem dX5_putPoints_20 : decode cX5_putPoints 20 = .ok (.iconst 1, 1) := by decide +kernel
theorem dX5_putPoints_21 : decode cX5_putPoints 21 = .ok (.ireturn, 1) := by decide +kernel
theorem dX5_putSetting_0 : decode cX5_putSetting 0 = .ok (.iload_n 1, 1) := by decide +kernel
theorem dX5_putSetting_1 : decode cX5_putSetting 1 = .ok (.iload_n 2, 1) := by decide +kernel
theorem dX5_putSetting_2 : decode cX5_putSetting 2 = .ok (.invokestatic 82, 3) := by decide +kernel
theorem dX5_putSetting_5 : decode cX5_putSetting 5 = .ok (.ifCond .ne 5, 3) := by decide +kernel
theorem dX5_putSetting_8 : decode cX5_putSetting 8 = .ok (.iconst 0, 1) := by decide +kernel
theorem dX5_putSetting_9 : decode cX5_putSetting 9 = .ok (.ireturn, 1) := by decide +kernel
theorem dX5_putSetting_10 : decode cX5_putSetting 10 = .ok (.aload_n 0, 1) := by decide +kernel
theorem dX5_putSetting_11 : decode cX5_putSetting 11 = .ok (.getfield 17, 3) := by decide +kernel
theorem dX5_putSetting_14 : decode cX5_putSetting 14 = .ok (.iload_n 1, 1) := by decide +kernel
theorem dX5_putSetting_15 : decode cX5_putSetting 15 = .ok (.iload_n 2, 1) := by decide +kernel
theorem dX5_putSetting_16 : decode cX5_putSetting 16 = .ok (.iastore, 1) := by decide +kernel
theorem dX5_putSetting_17 : decode cX5_putSetting 17 = .ok (.iconst 1, 1) := by decide +kernel
theorem dX5_putSetting_18 : decode cX5_putSetting 18 = .ok (.ireturn, 1) := by decide +kernel
theorem dX6_init_0 : decode cX6_init 0 = .ok (.aload_n 0, 1) := by decide +kernel
theorem dX6_init_1 : decode cX6_init 1 = .ok (.invokespecial 3, 3) := by decide +kernel
theorem dX6_init_4 : decode cX6_init 4 = .ok (.aload_n 0, 1) := by decide +kernel
theorem dX6_init_5 : decode cX6_init 5 = .ok (.bipush 120, 2) := by decide +kernel
theorem dX6_init_7 : decode cX6_init 7 = .ok (.newarray .int, 2) := by decide +kernel
theorem dX6_init_9 : decode cX6_init 9 = .ok (.putfield 11, 3) := by decide +kernel
theorem dX6_init_12 : decode cX6_init 12 = .ok (.return_, 1) := by decide +kernel
theorem dX6_isFull_0 : decode cX6_isFull 0 = .ok (.aload_n 0, 1) := by decide +kernel
theorem dX6_isFull_1 : decode cX6_isFull 1 = .ok (.getfield 15, 3) := by decide +kernel
theorem dX6_isFull_4 : decode cX6_isFull 4 = .ok (.bipush 120, 2) := by decide +kernel
theorem dX6_isFull_6 : decode cX6_isFull 6 = .ok (.if_icmp .lt 7, 3) := by decide +kernel
theorem dX6_isFull_9 : decode cX6_isFull 9 = .ok (.iconst 1, 1) := by decide +kernel
theorem dX6_isFull_10 : decode cX6_isFull 10 = .ok (.goto 4, 3) := by decide +kernel
theorem dX6_isFull_13 : decode cX6_isFull 13 = .ok (.iconst 0, 1) := by decide +kernel
theorem dX6_isFull_14 : decode cX6_isFull 14 = .ok (.ireturn, 1) := by decide +kernel
theorem dX6_put_0 : decode cX6_put 0 = .ok (.aload_n 0, 1) := by decide +kernel
theorem dX6_put_1 : decode cX6_put 1 = .ok (.invokevirtual 19, 3) := by decide +kernel
theorem dX6_put_4 : decode cX6_put 4 = .ok (.ifCond .ne 23, 3) := by decide +kernel
theorem dX6_put_7 : decode cX6_put 7 = .ok (.aload_n 0, 1) := by decide +kernel
theorem dX6_put_8 : decode cX6_put 8 = .ok (.getfield 11, 3) := by decide +kernel
theorem dX6_put_11 : decode cX6_put 11 = .ok (.aload_n 0, 1) := by decide +kernel
theorem dX6_put_12 : decode cX6_put 12 = .ok (.getfield 15, 3) := by decide +kernel
theorem dX6_put_15 : decode cX6_put 15 = .ok (.iload_n 1, 1) := by decide +kernel
theorem dX6_put_16 : decode cX6_put 16 = .ok (.iastore, 1) := by decide +kernel
theorem dX6_put_17 : decode cX6_put 17 = .ok (.aload_n 0, 1) := by decide +kernel
theorem dX6_put_18 : decode cX6_put 18 = .ok (.dup, 1) := by decide +kernel
theorem dX6_put_19 : decode cX6_put 19 = .ok (.getfield 15, 3) := by decide +kernel
theorem dX6_put_22 : decode cX6_put 22 = .ok (.iconst 1, 1) := by decide +kernel
theorem dX6_put_23 : decode cX6_put 23 = .ok (.iadd, 1) := by decide +kernel
theorem dX6_put_24 : decode cX6_put 24 = .ok (.putfield 15, 3) := by decide +kernel
theorem dX6_put_27 : decode cX6_put 27 = .ok (.return_, 1) := by decide +kernel
theorem dX6_sign_0 : decode cX6_sign 0 = .ok (.aload_n 0, 1) := by decide +kernel
theorem dX6_sign_1 : decode cX6_sign 1 = .ok (.getfield 23, 3) := by decide +kernel
theorem dX6_sign_4 : decode cX6_sign 4 = .ok (.aload_n 0, 1) := by decide +kernel
theorem dX6_sign_5 : decode cX6_sign 5 = .ok (.getfield 15, 3) := by decide +kernel
theorem dX6_sign_8 : decode cX6_sign 8 = .ok (.if_icmp .ge 15, 3) := by decide +kernel
theorem dX6_sign_11 : decode cX6_sign 11 = .ok (.aload_n 0, 1) := by decide +kernel
theorem dX6_sign_12 : decode cX6_sign 12 = .ok (.getfield 11, 3) := by decide +kernel
theorem dX6_sign_15 : decode cX6_sign 15 = .ok (.aload_n 0, 1) := by decide +kernel
theorem dX6_sign_16 : decode cX6_sign 16 = .ok (.getfield 23, 3) := by decide +kernel
theorem dX6_sign_19 : decode cX6_sign 19 = .ok (.iaload, 1) := by decide +kernel
theorem dX6_sign_20 : decode cX6_sign 20 = .ok (.goto 4, 3) := by decide +kernel
theorem dX6_sign_23 : decode cX6_sign 23 = .ok (.iconst (-1), 1) := by decide +kernel
theorem dX6_sign_24 : decode cX6_sign 24 = .ok (.ireturn, 1) := by decide +kernel
theorem dX6_readInto_0 : decode cX6_readInto 0 = .ok (.aload_n 1, 1) := by decide +kernel
theorem dX6_readInto_1 : decode cX6_readInto 1 = .ok (.iconst 0, 1) := by decide +kernel
theorem dX6_readInto_2 : decode cX6_readInto 2 = .ok (.putfield 26, 3) := by decide +kernel
theorem dX6_readInto_5 : decode cX6_readInto 5 = .ok (.aload_n 0, 1) := by decide +kernel
theorem dX6_readInto_6 : decode cX6_readInto 6 = .ok (.iconst 0, 1) := by decide +kernel
theorem dX6_readInto_7 : decode cX6_readInto 7 = .ok (.putfield 23, 3) := by decide +kernel
theorem dX6_readInto_10 : decode cX6_readInto 10 = .ok (.iconst 1, 1) := by decide +kernel
theorem dX6_readInto_11 : decode cX6_readInto 11 = .ok (.istore_n 2, 1) := by decide +kernel
theorem dX6_readInto_12 : decode cX6_readInto 12 = .ok (.iconst 1, 1) := by decide +kernel
theorem dX6_readInto_13 : decode cX6_readInto 13 = .ok (.istore_n 3, 1) := by decide +kernel
theorem dX6_readInto_14 : decode cX6_readInto 14 = .ok (.iload_n 3, 1) := by decide +kernel
theorem dX6_readInto_15 : decode cX6_readInto 15 = .ok (.bipush 12, 2) := by decide +kernel
theorem dX6_readInto_17 : decode cX6_readInto 17 = .ok (.if_icmp .gt 65, 3) := by decide +kernel
theorem dX6_readInto_20 : decode cX6_readInto 20 = .ok (.iload_n 2, 1) := by decide +kernel
theorem dX6_readInto_21 : decode cX6_readInto 21 = .ok (.ifCond .eq 61, 3) := by decide +kernel
theorem dX6_readInto_24 : decode cX6_readInto 24 = .ok (.aload_n 0, 1) := by decide +kernel
theorem dX6_readInto_25 : decode cX6_readInto 25 = .ok (.aload_n 1, 1) := by decide +kernel
theorem dX6_readInto_26 : decode cX6_readInto 26 = .ok (.invokevirtual 31, 3) := by decide +kernel
theorem dX6_readInto_29 : decode cX6_readInto 29 = .ok (.ifCond .ne 8, 3) := by decide +kernel
theorem dX6_readInto_32 : decode cX6_readInto 32 = .ok (.aload_n 0, 1) := by decide +kernel
theorem dX6_readInto_33 : decode cX6_readInto 33 = .ok (.getfield 23, 3) := by decide +kernel
theorem dX6_readInto_36 : decode cX6_readInto 36 = .ok (.ireturn, 1) := by decide +kernel
theorem dX6_readInto_37 : decode cX6_readInto 37 = .ok (.aload_n 0, 1) := by decide +kernel
theorem dX6_readInto_38 : decode cX6_readInto 38 = .ok (.invokevirtual 35, 3) := by decide +kernel
theorem dX6_readInto_41 : decode cX6_readInto 41 = .ok (.bipush 59, 2) := by decide +kernel
theorem dX6_readInto_43 : decode cX6_readInto 43 = .ok (.if_icmp .ne 13, 3) := by decide +kernel
theorem dX6_readInto_46 : decode cX6_readInto 46 = .ok (.iload_n 3, 1) := by decide +kernel
theorem dX6_readInto_47 : decode cX6_readInto 47 = .ok (.bipush 12, 2) := by decide +kernel
theorem dX6_readInto_49 : decode cX6_readInto 49 = .ok (.if_icmp .ge 7, 3) := by decide +kernel
theorem dX6_readInto_52 : decode cX6_readInto 52 = .ok (.iconst 1, 1) := by decide +kernel
theorem dX6_readInto_53 : decode cX6_readInto 53 = .ok (.goto 4, 3) := by decide +kernel
theorem dX6_readInto_56 : decode cX6_readInto 56 = .ok (.iconst 0, 1) := by decide +kernel
theorem dX6_readInto_57 : decode cX6_readInto 57 = .ok (.istore_n 2, 1) := by decide +kernel
theorem dX6_readInto_58 : decode cX6_readInto 58 = .ok (.aload_n 0, 1) := by decide +kernel
theorem dX6_readInto_59 : decode cX6_readInto 59 = .ok (.dup, 1) := by decide +kernel
theorem dX6_readInto_60 : decode cX6_readInto 60 = .ok (.getfield 23, 3) := by decide +kernel
theorem dX6_readInto_63 : decode cX6_readInto 63 = .ok (.iload_n 2, 1) := by decide +kernel
theorem dX6_readInto_64 : decode cX6_readInto 64 = .ok (.ifCond .eq 7, 3) := by decide +kernel
theorem dX6_readInto_67 : decode cX6_readInto 67 = .ok (.iconst 1, 1) := by decide +kernel
theorem dX6_readInto_68 : decode cX6_readInto 68 = .ok (.goto 4, 3) := by decide +kernel
theorem dX6_readInto_71 : decode cX6_readInto 71 = .ok (.iconst 0, 1) := by decide +kernel
theorem dX6_readInto_72 : decode cX6_readInto 72 = .ok (.iadd, 1) := by decide +kernel
theorem dX6_readInto_73 : decode cX6_readInto 73 = .ok (.putfield 23, 3) := by decide +kernel
theorem dX6_readInto_76 : decode cX6_readInto 76 = .ok (.iinc 3 1, 3) := by decide +kernel
theorem dX6_readInto_79 : decode cX6_readInto 79 = .ok (.goto (-65), 3) := by decide +kernel
theorem dX6_readInto_82 : decode cX6_readInto 82 = .ok (.aload_n 0, 1) := by decide +kernel
theorem dX6_readInto_83 : decode cX6_readInto 83 = .ok (.getfield 23, 3) := by decide +kernel
theorem dX6_readInto_86 : decode cX6_readInto 86 = .ok (.aload_n 0, 1) := by decide +kernel
theorem dX6_readInto_87 : decode cX6_readInto 87 = .ok (.getfield 15, 3) := by decide +kernel
theorem dX6_readInto_90 : decode cX6_readInto 90 = .ok (.if_icmp .ne 7, 3) := by decide +kernel
theorem dX6_readInto_93 : decode cX6_readInto 93 = .ok (.iconst (-1), 1) := by decide +kernel
theorem dX6_readInto_94 : decode cX6_readInto 94 = .ok (.goto 7, 3) := by decide +kernel
theorem dX6_readInto_97 : decode cX6_readInto 97 = .ok (.aload_n 0, 1) := by decide +kernel
theorem dX6_readInto_98 : decode cX6_readInto 98 = .ok (.getfield 23, 3) := by decide +kernel
theorem dX6_readInto_101 : decode cX6_readInto 101 = .ok (.ireturn, 1) := by decide +kernel
theorem dX6_readElement_0 : decode cX6_readElement 0 = .ok (.aload_n 0, 1) := by decide +kernel
theorem dX6_readElement_1 : decode cX6_readElement 1 = .ok (.invokevirtual 35, 3) := by decide +kernel
theorem dX6_readElement_4 : decode cX6_readElement 4 = .ok (.bipush 112, 2) := by decide +kernel
theorem dX6_readElement_6 : decode cX6_readElement 6 = .ok (.if_icmp .ne 10, 3) := by decide +kernel
theorem dX6_readElement_9 : decode cX6_readElement 9 = .ok (.aload_n 0, 1) := by decide +kernel
theorem dX6_readElement_10 : decode cX6_readElement 10 = .ok (.aload_n 1, 1) := by decide +kernel
theorem dX6_readElement_11 : decode cX6_readElement 11 = .ok (.iconst 1, 1) := by decide +kernel
theorem dX6_readElement_12 : decode cX6_readElement 12 = .ok (.invokevirtual 39, 3) := by decide +kernel
theorem dX6_readElement_15 : decode cX6_readElement 15 = .ok (.ireturn, 1) := by decide +kernel
theorem dX6_readElement_16 : decode cX6_readElement 16 = .ok (.aload_n 0, 1) := by decide +kernel
theorem dX6_readElement_17 : decode cX6_readElement 17 = .ok (.invokevirtual 35, 3) := by decide +kernel
theorem dX6_readElement_20 : decode cX6_readElement 20 = .ok (.bipush 115, 2) := by decide +kernel
theorem dX6_readElement_22 : decode cX6_readElement 22 = .ok (.if_icmp .ne 10, 3) := by decide +kernel
theorem dX6_readElement_25 : decode cX6_readElement 25 = .ok (.aload_n 0, 1) := by decide +kernel
theorem dX6_readElement_26 : decode cX6_readElement 26 = .ok (.aload_n 1, 1) := by decide +kernel
theorem dX6_readElement_27 : decode cX6_readElement 27 = .ok (.iconst 2, 1) := by decide +kernel
theorem dX6_readElement_28 : decode cX6_readElement 28 = .ok (.invokevirtual 39, 3) := by decide +kernel
theorem dX6_readElement_31 : decode cX6_readElement 31 = .ok (.ireturn, 1) := by decide +kernel
theorem dX6_readElement_32 : decode cX6_readElement 32 = .ok (.aload_n 0, 1) := by decide +kernel
theorem dX6_readElement_33 : decode cX6_readElement 33 = .ok (.aload_n 1, 1) := by decide +kernel
theorem dX6_readElement_34 : decode cX6_readElement 34 = .ok (.invokevirtual 43, 3) := by decide +kernel
theorem dX6_readElement_37 : decode cX6_readElement 37 = .ok (.ireturn, 1) := by decide +kernel
theorem dX6_readLevel_0 : decode cX6_readLevel 0 = .ok (.aload_n 0, 1) := by decide +kernel
theorem dX6_readLevel_1 : decode cX6_readLevel 1 = .ok (.dup, 1) := by decide +kernel
theorem dX6_readLevel_2 : decode cX6_readLevel 2 = .ok (.getfield 23, 3) := by decide +kernel
theorem dX6_readLevel_5 : decode cX6_readLevel 5 = .ok (.iconst 1, 1) := by decide +kernel
theorem dX6_readLevel_6 : decode cX6_readLevel 6 = .ok (.iadd, 1) := by decide +kernel
theorem dX6_readLevel_7 : decode cX6_readLevel 7 = .ok (.putfield 23, 3) := by decide +kernel
theorem dX6_readLevel_10 : decode cX6_readLevel 10 = .ok (.aload_n 0, 1) := by decide +kernel
theorem dX6_readLevel_11 : decode cX6_readLevel 11 = .ok (.invokevirtual 35, 3) := by decide +kernel
theorem dX6_readLevel_14 : decode cX6_readLevel 14 = .ok (.bipush 48, 2) := by decide +kernel
theorem dX6_readLevel_16 : decode cX6_readLevel 16 = .ok (.isub, 1) := by decide +kernel
theorem dX6_readLevel_17 : decode cX6_readLevel 17 = .ok (.istore_n 3, 1) := by decide +kernel
theorem dX6_readLevel_18 : decode cX6_readLevel 18 = .ok (.iload_n 3, 1) := by decide +kernel
theorem dX6_readLevel_19 : decode cX6_readLevel 19 = .ok (.ifCond .lt 8, 3) := by decide +kernel
theorem dX6_readLevel_22 : decode cX6_readLevel 22 = .ok (.iload_n 3, 1) := by decide +kernel
theorem dX6_readLevel_23 : decode cX6_readLevel 23 = .ok (.iconst 4, 1) := by decide +kernel
theorem dX6_readLevel_24 : decode cX6_readLevel 24 = .ok (.if_icmp .le 5, 3) := by decide +kernel
theorem dX6_readLevel_27 : decode cX6_readLevel 27 = .ok (.iconst 0, 1) := by decide +kernel
theorem dX6_readLevel_28 : decode cX6_readLevel 28 = .ok (.ireturn, 1) := by decide +kernel
theorem dX6_readLevel_29 : decode cX6_readLevel 29 = .ok (.aload_n 0, 1) := by decide +kernel
theorem dX6_readLevel_30 : decode cX6_readLevel 30 = .ok (.dup, 1) := by decide +kernel
theorem dX6_readLevel_31 : decode cX6_readLevel 31 = .ok (.getfield 23, 3) := by decide +kernel
theorem dX6_readLevel_34 : decode cX6_readLevel 34 = .ok (.iconst 1, 1) := by decide +kernel
theorem dX6_readLevel_35 : decode cX6_readLevel 35 = .ok (.iadd, 1) := by decide +kernel
theorem dX6_readLevel_36 : decode cX6_readLevel 36 = .ok (.putfield 23, 3) := by decide +kernel
theorem dX6_readLevel_39 : decode cX6_readLevel 39 = .ok (.aload_n 1, 1) := by decide +kernel
theorem dX6_readLevel_40 : decode cX6_readLevel 40 = .ok (.iload_n 2, 1) := by decide +kernel
theorem dX6_readLevel_41 : decode cX6_readLevel 41 = .ok (.invokevirtual 46, 3) := by decide +kernel
theorem dX6_readLevel_44 : decode cX6_readLevel 44 = .ok (.aload_n 1, 1) := by decide +kernel
theorem dX6_readLevel_45 : decode cX6_readLevel 45 = .ok (.iconst (-1), 1) := by decide +kernel
theorem dX6_readLevel_46 : decode cX6_readLevel 46 = .ok (.iload_n 3, 1) := by decide +kernel
theorem dX6_readLevel_47 : decode cX6_readLevel 47 = .ok (.iconst 0, 1) := by decide +kernel
theorem dX6_readLevel_48 : decode cX6_readLevel 48 = .ok (.invokevirtual 50, 3) := by decide +kernel
theorem dX6_readLevel_51 : decode cX6_readLevel 51 = .ok (.iconst 1, 1) := by decide +kernel
theorem dX6_readLevel_52 : decode cX6_readLevel 52 = .ok (.ireturn, 1) := by decide +kernel
theorem dX6_readChain_0 : decode cX6_readChain 0 = .ok (.aload_n 1, 1) := by decide +kernel
theorem dX6_readChain_1 : decode cX6_readChain 1 = .ok (.iconst 0, 1) := by decide +kernel
theorem dX6_readChain_2 : decode cX6_readChain 2 = .ok (.invokevirtual 46, 3) := by decide +kernel
theorem dX6_readChain_5 : decode cX6_readChain 5 = .ok (.iconst 1, 1) := by decide +kernel
theorem dX6_readChain_6 : decode cX6_readChain 6 = .ok (.istore_n 2, 1) := by decide +kernel
theorem dX6_readChain_7 : decode cX6_readChain 7 = .ok (.iconst 1, 1) := by decide +kernel
theorem dX6_readChain_8 : decode cX6_readChain 8 = .ok (.istore_n 3, 1) := by decide +kernel
theorem dX6_readChain_9 : decode cX6_readChain 9 = .ok (.iload_n 3, 1) := by decide +kernel
theorem dX6_readChain_10 : decode cX6_readChain 10 = .ok (.iconst 3, 1) := by decide +kernel
theorem dX6_readChain_11 : decode cX6_readChain 11 = .ok (.if_icmp .gt 61, 3) := by decide +kernel
theorem dX6_readChain_14 : decode cX6_readChain 14 = .ok (.iload_n 2, 1) := by decide +kernel
theorem dX6_readChain_15 : decode cX6_readChain 15 = .ok (.ifCond .eq 57, 3) := by decide +kernel
theorem dX6_readChain_18 : decode cX6_readChain 18 = .ok (.aload_n 0, 1) := by decide +kernel
theorem dX6_readChain_19 : decode cX6_readChain 19 = .ok (.aload_n 1, 1) := by decide +kernel
theorem dX6_readChain_20 : decode cX6_readChain 20 = .ok (.invokevirtual 54, 3) := by decide +kernel
theorem dX6_readChain_23 : decode cX6_readChain 23 = .ok (.ifCond .ne 5, 3) := by decide +kernel
theorem dX6_readChain_26 : decode cX6_readChain 26 = .ok (.iconst 0, 1) := by decide +kernel
theorem dX6_readChain_27 : decode cX6_readChain 27 = .ok (.ireturn, 1) := by decide +kernel
theorem dX6_readChain_28 : decode cX6_readChain 28 = .ok (.aload_n 0, 1) := by decide +kernel
theorem dX6_readChain_29 : decode cX6_readChain 29 = .ok (.invokevirtual 35, 3) := by decide +kernel
theorem dX6_readChain_32 : decode cX6_readChain 32 = .ok (.bipush 43, 2) := by decide +kernel
theorem dX6_readChain_34 : decode cX6_readChain 34 = .ok (.if_icmp .ne 12, 3) := by decide +kernel
theorem dX6_readChain_37 : decode cX6_readChain 37 = .ok (.iload_n 3, 1) := by decide +kernel
theorem dX6_readChain_38 : decode cX6_readChain 38 = .ok (.iconst 3, 1) := by decide +kernel
theorem dX6_readChain_39 : decode cX6_readChain 39 = .ok (.if_icmp .ge 7, 3) := by decide +kernel
theorem dX6_readChain_42 : decode cX6_readChain 42 = .ok (.iconst 1, 1) := by decide +kernel
theorem dX6_readChain_43 : decode cX6_readChain 43 = .ok (.goto 4, 3) := by decide +kernel
theorem dX6_readChain_46 : decode cX6_readChain 46 = .ok (.iconst 0, 1) := by decide +kernel
theorem dX6_readChain_47 : decode cX6_readChain 47 = .ok (.istore_n 2, 1) := by decide +kernel
theorem dX6_readChain_48 : decode cX6_readChain 48 = .ok (.aload_n 0, 1) := by decide +kernel
theorem dX6_readChain_49 : decode cX6_readChain 49 = .ok (.dup, 1) := by decide +kernel
theorem dX6_readChain_50 : decode cX6_readChain 50 = .ok (.getfield 23, 3) := by decide +kernel
theorem dX6_readChain_53 : decode cX6_readChain 53 = .ok (.iload_n 2, 1) := by decide +kernel
theorem dX6_readChain_54 : decode cX6_readChain 54 = .ok (.ifCond .eq 7, 3) := by decide +kernel
theorem dX6_readChain_57 : decode cX6_readChain 57 = .ok (.iconst 1, 1) := by decide +kernel
theorem dX6_readChain_58 : decode cX6_readChain 58 = .ok (.goto 4, 3) := by decide +kernel
theorem dX6_readChain_61 : decode cX6_readChain 61 = .ok (.iconst 0, 1) := by decide +kernel
theorem dX6_readChain_62 : decode cX6_readChain 62 = .ok (.iadd, 1) := by decide +kernel
theorem dX6_readChain_63 : decode cX6_readChain 63 = .ok (.putfield 23, 3) := by decide +kernel
theorem dX6_readChain_66 : decode cX6_readChain 66 = .ok (.iinc 3 1, 3) := by decide +kernel
theorem dX6_readChain_69 : decode cX6_readChain 69 = .ok (.goto (-60), 3) := by decide +kernel
theorem dX6_readChain_72 : decode cX6_readChain 72 = .ok (.iconst 1, 1) := by decide +kernel
theorem dX6_readChain_73 : decode cX6_readChain 73 = .ok (.ireturn, 1) := by decide +kernel
theorem dX6_readJump_0 : decode cX6_readJump 0 = .ok (.aload_n 0, 1) := by decide +kernel
theorem dX6_readJump_1 : decode cX6_readJump 1 = .ok (.invokevirtual 35, 3) := by decide +kernel
theorem dX6_readJump_4 : decode cX6_readJump 4 = .ok (.bipush 48, 2) := by decide +kernel
theorem dX6_readJump_6 : decode cX6_readJump 6 = .ok (.isub, 1) := by decide +kernel
theorem dX6_readJump_7 : decode cX6_readJump 7 = .ok (.istore_n 2, 1) := by decide +kernel
theorem dX6_readJump_8 : decode cX6_readJump 8 = .ok (.iload_n 2, 1) := by decide +kernel
theorem dX6_readJump_9 : decode cX6_readJump 9 = .ok (.iconst 1, 1) := by decide +kernel
theorem dX6_readJump_10 : decode cX6_readJump 10 = .ok (.if_icmp .lt 8, 3) := by decide +kernel
theorem dX6_readJump_13 : decode cX6_readJump 13 = .ok (.iload_n 2, 1) := by decide +kernel
theorem dX6_readJump_14 : decode cX6_readJump 14 = .ok (.iconst 4, 1) := by decide +kernel
theorem dX6_readJump_15 : decode cX6_readJump 15 = .ok (.if_icmp .le 5, 3) := by decide +kernel
theorem dX6_readJump_18 : decode cX6_readJump 18 = .ok (.iconst 0, 1) := by decide +kernel
theorem dX6_readJump_19 : decode cX6_readJump 19 = .ok (.ireturn, 1) := by decide +kernel
theorem dX6_readJump_20 : decode cX6_readJump 20 = .ok (.aload_n 0, 1) := by decide +kernel
theorem dX6_readJump_21 : decode cX6_readJump 21 = .ok (.dup, 1) := by decide +kernel
theorem dX6_readJump_22 : decode cX6_readJump 22 = .ok (.getfield 23, 3) := by decide +kernel
theorem dX6_readJump_25 : decode cX6_readJump 25 = .ok (.iconst 1, 1) := by decide +kernel
theorem dX6_readJump_26 : decode cX6_readJump 26 = .ok (.iadd, 1) := by decide +kernel
theorem dX6_readJump_27 : decode cX6_readJump 27 = .ok (.putfield 23, 3) := by decide +kernel
theorem dX6_readJump_30 : decode cX6_readJump 30 = .ok (.aload_n 0, 1) := by decide +kernel
theorem dX6_readJump_31 : decode cX6_readJump 31 = .ok (.invokevirtual 35, 3) := by decide +kernel
theorem dX6_readJump_34 : decode cX6_readJump 34 = .ok (.invokestatic 57, 3) := by decide +kernel
theorem dX6_readJump_37 : decode cX6_readJump 37 = .ok (.istore_n 3, 1) := by decide +kernel
theorem dX6_readJump_38 : decode cX6_readJump 38 = .ok (.iload_n 3, 1) := by decide +kernel
theorem dX6_readJump_39 : decode cX6_readJump 39 = .ok (.iconst (-1), 1) := by decide +kernel
theorem dX6_readJump_40 : decode cX6_readJump 40 = .ok (.if_icmp .ne 5, 3) := by decide +kernel
theorem dX6_readJump_43 : decode cX6_readJump 43 = .ok (.iconst 0, 1) := by decide +kernel
theorem dX6_readJump_44 : decode cX6_readJump 44 = .ok (.ireturn, 1) := by decide +kernel
theorem dX6_readJump_45 : decode cX6_readJump 45 = .ok (.aload_n 0, 1) := by decide +kernel
theorem dX6_readJump_46 : decode cX6_readJump 46 = .ok (.dup, 1) := by decide +kernel
theorem dX6_readJump_47 : decode cX6_readJump 47 = .ok (.getfield 23, 3) := by decide +kernel
theorem dX6_readJump_50 : decode cX6_readJump 50 = .ok (.iconst 1, 1) := by decide +kernel
theorem dX6_readJump_51 : decode cX6_readJump 51 = .ok (.iadd, 1) := by decide +kernel
theorem dX6_readJump_52 : decode cX6_readJump 52 = .ok (.putfield 23, 3) := by decide +kernel
theorem dX6_readJump_55 : decode cX6_readJump 55 = .ok (.aload_n 0, 1) := by decide +kernel
theorem dX6_readJump_56 : decode cX6_readJump 56 = .ok (.invokevirtual 35, 3) := by decide +kernel
theorem dX6_readJump_59 : decode cX6_readJump 59 = .ok (.iload_n 3, 1) := by decide +kernel
theorem dX6_readJump_60 : decode cX6_readJump 60 = .ok (.invokestatic 61, 3) := by decide +kernel
theorem dX6_readJump_63 : decode cX6_readJump 63 = .ok (.istore 4, 2) := by decide +kernel
theorem dX6_readJump_65 : decode cX6_readJump 65 = .ok (.aload_n 0, 1) := by decide +kernel
theorem dX6_readJump_66 : decode cX6_readJump 66 = .ok (.dup, 1) := by decide +kernel
theorem dX6_readJump_67 : decode cX6_readJump 67 = .ok (.getfield 23, 3) := by decide +kernel
theorem dX6_readJump_70 : decode cX6_readJump 70 = .ok (.iload 4, 2) := by decide +kernel
theorem dX6_readJump_72 : decode cX6_readJump 72 = .ok (.ifCond .eq 7, 3) := by decide +kernel
theorem dX6_readJump_75 : decode cX6_readJump 75 = .ok (.iconst 1, 1) := by decide +kernel
theorem dX6_readJump_76 : decode cX6_readJump 76 = .ok (.goto 4, 3) := by decide +kernel
theorem dX6_readJump_79 : decode cX6_readJump 79 = .ok (.iconst 0, 1) := by decide +kernel
theorem dX6_readJump_80 : decode cX6_readJump 80 = .ok (.iadd, 1) := by decide +kernel
theorem dX6_readJump_81 : decode cX6_readJump 81 = .ok (.putfield 23, 3) := by decide +kernel
theorem dX6_readJump_84 : decode cX6_readJump 84 = .ok (.aload_n 1, 1) := by decide +kernel
theorem dX6_readJump_85 : decode cX6_readJump 85 = .ok (.iload_n 3, 1) := by decide +kernel
theorem dX6_readJump_86 : decode cX6_readJump 86 = .ok (.iload_n 2, 1) := by decide +kernel
theorem dX6_readJump_87 : decode cX6_readJump 87 = .ok (.iload 4, 2) := by decide +kernel
theorem dX6_readJump_89 : decode cX6_readJump 89 = .ok (.invokevirtual 50, 3) := by decide +kernel
theorem dX6_readJump_92 : decode cX6_readJump 92 = .ok (.iconst 1, 1) := by decide +kernel
theorem dX6_readJump_93 : decode cX6_readJump 93 = .ok (.ireturn, 1) := by decide +kernel
theorem dX6_kindOf_0 : decode cX6_kindOf 0 = .ok (.iload_n 0, 1) := by decide +kernel
theorem dX6_kindOf_1 : decode cX6_kindOf 1 = .ok (.lookupswitch 71 #[(65, 69), (70, 65), (79, 63), (83, 61), (84, 59), (90, 67)], 59) := by decide +kernel
theorem dX6_kindOf_60 : decode cX6_kindOf 60 = .ok (.iconst 0, 1) := by decide +kernel
theorem dX6_kindOf_61 : decode cX6_kindOf 61 = .ok (.ireturn, 1) := by decide +kernel
theorem dX6_kindOf_62 : decode cX6_kindOf 62 = .ok (.iconst 1, 1) := by decide +kernel
theorem dX6_kindOf_63 : decode cX6_kindOf 63 = .ok (.ireturn, 1) := by decide +kernel
theorem dX6_kindOf_64 : decode cX6_kindOf 64 = .ok (.iconst 2, 1) := by decide +kernel
theorem dX6_kindOf_65 : decode cX6_kindOf 65 = .ok (.ireturn, 1) := by decide +kernel
theorem dX6_kindOf_66 : decode cX6_kindOf 66 = .ok (.iconst 3, 1) := by decide +kernel
theorem dX6_kindOf_67 : decode cX6_kindOf 67 = .ok (.ireturn, 1) := by decide +kernel
theorem dX6_kindOf_68 : decode cX6_kindOf 68 = .ok (.iconst 4, 1) := by decide +kernel
theorem dX6_kindOf_69 : decode cX6_kindOf 69 = .ok (.ireturn, 1) := by decide +kernel
theorem dX6_kindOf_70 : decode cX6_kindOf 70 = .ok (.iconst 5, 1) := by decide +kernel
theorem dX6_kindOf_71 : decode cX6_kindOf 71 = .ok (.ireturn, 1) := by decide +kernel
theorem dX6_kindOf_72 : decode cX6_kindOf 72 = .ok (.iconst (-1), 1) := by decide +kernel
theorem dX6_kindOf_73 : decode cX6_kindOf 73 = .ok (.ireturn, 1) := by decide +kernel
theorem dX6_callOf_0 : decode cX6_callOf 0 = .ok (.iload_n 0, 1) := by decide +kernel
theorem dX6_callOf_1 : decode cX6_callOf 1 = .ok (.lookupswitch 52 #[(33, 37), (60, 35), (101, 39)], 35) := by decide +kernel
theorem dX6_callOf_36 : decode cX6_callOf 36 = .ok (.iconst 1, 1) := by decide +kernel
theorem dX6_callOf_37 : decode cX6_callOf 37 = .ok (.ireturn, 1) := by decide +kernel
theorem dX6_callOf_38 : decode cX6_callOf 38 = .ok (.iconst 2, 1) := by decide +kernel
theorem dX6_callOf_39 : decode cX6_callOf 39 = .ok (.ireturn, 1) := by decide +kernel
theorem dX6_callOf_40 : decode cX6_callOf 40 = .ok (.iload_n 1, 1) := by decide +kernel
theorem dX6_callOf_41 : decode cX6_callOf 41 = .ok (.invokestatic 65, 3) := by decide +kernel
theorem dX6_callOf_44 : decode cX6_callOf 44 = .ok (.ifCond .eq 7, 3) := by decide +kernel
theorem dX6_callOf_47 : decode cX6_callOf 47 = .ok (.iconst 3, 1) := by decide +kernel
theorem dX6_callOf_48 : decode cX6_callOf 48 = .ok (.goto 4, 3) := by decide +kernel
theorem dX6_callOf_51 : decode cX6_callOf 51 = .ok (.iconst 0, 1) := by decide +kernel
theorem dX6_callOf_52 : decode cX6_callOf 52 = .ok (.ireturn, 1) := by decide +kernel
theorem dX6_callOf_53 : decode cX6_callOf 53 = .ok (.iconst 0, 1) := by decide +kernel
theorem dX6_callOf_54 : decode cX6_callOf 54 = .ok (.ireturn, 1) := by decide +kernel
theorem dX7_init_0 : decode cX7_init 0 = .ok (.aload_n 0, 1) := by decide +kernel
theorem dX7_init_1 : decode cX7_init 1 = .ok (.invokespecial 1, 3) := by decide +kernel
theorem dX7_init_4 : decode cX7_init 4 = .ok (.aload_n 0, 1) := by decide +kernel
theorem dX7_init_5 : decode cX7_init 5 = .ok (.new 7, 3) := by decide +kernel
theorem dX7_init_8 : decode cX7_init 8 = .ok (.dup, 1) := by decide +kernel
theorem dX7_init_9 : decode cX7_init 9 = .ok (.invokespecial 9, 3) := by decide +kernel
theorem dX7_init_12 : decode cX7_init 12 = .ok (.putfield 10, 3) := by decide +kernel
theorem dX7_init_15 : decode cX7_init 15 = .ok (.aload_n 0, 1) := by decide +kernel
theorem dX7_init_16 : decode cX7_init 16 = .ok (.new 16, 3) := by decide +kernel
theorem dX7_init_19 : decode cX7_init 19 = .ok (.dup, 1) := by decide +kernel
theorem dX7_init_20 : decode cX7_init 20 = .ok (.invokespecial 18, 3) := by decide +kernel
theorem dX7_init_23 : decode cX7_init 23 = .ok (.putfield 19, 3) := by decide +kernel
theorem dX7_init_26 : decode cX7_init 26 = .ok (.aload_n 0, 1) := by decide +kernel
theorem dX7_init_27 : decode cX7_init 27 = .ok (.iconst 2, 1) := by decide +kernel
theorem dX7_init_28 : decode cX7_init 28 = .ok (.anewarray 7, 3) := by decide +kernel
theorem dX7_init_31 : decode cX7_init 31 = .ok (.putfield 23, 3) := by decide +kernel
theorem dX7_init_34 : decode cX7_init 34 = .ok (.iconst 0, 1) := by decide +kernel
theorem dX7_init_35 : decode cX7_init 35 = .ok (.istore_n 1, 1) := by decide +kernel
theorem dX7_init_36 : decode cX7_init 36 = .ok (.iload_n 1, 1) := by decide +kernel
theorem dX7_init_37 : decode cX7_init 37 = .ok (.iconst 2, 1) := by decide +kernel
theorem dX7_init_38 : decode cX7_init 38 = .ok (.if_icmp .ge 22, 3) := by decide +kernel
theorem dX7_init_41 : decode cX7_init 41 = .ok (.aload_n 0, 1) := by decide +kernel
theorem dX7_init_42 : decode cX7_init 42 = .ok (.getfield 23, 3) := by decide +kernel
theorem dX7_init_45 : decode cX7_init 45 = .ok (.iload_n 1, 1) := by decide +kernel
theorem dX7_init_46 : decode cX7_init 46 = .ok (.new 7, 3) := by decide +kernel
theorem dX7_init_49 : decode cX7_init 49 = .ok (.dup, 1) := by decide +kernel
theorem dX7_init_50 : decode cX7_init 50 = .ok (.invokespecial 9, 3) := by decide +kernel
theorem dX7_init_53 : decode cX7_init 53 = .ok (.aastore, 1) := by decide +kernel
theorem dX7_init_54 : decode cX7_init 54 = .ok (.iinc 1 1, 3) := by decide +kernel
theorem dX7_init_57 : decode cX7_init 57 = .ok (.goto (-21), 3) := by decide +kernel
theorem dX7_init_60 : decode cX7_init 60 = .ok (.aload_n 0, 1) := by decide +kernel
theorem dX7_init_61 : decode cX7_init 61 = .ok (.iconst 2, 1) := by decide +kernel
theorem dX7_init_62 : decode cX7_init 62 = .ok (.newarray .boolean, 2) := by decide +kernel
theorem dX7_init_64 : decode cX7_init 64 = .ok (.putfield 27, 3) := by decide +kernel
theorem dX7_init_67 : decode cX7_init 67 = .ok (.aload_n 0, 1) := by decide +kernel
theorem dX7_init_68 : decode cX7_init 68 = .ok (.new 31, 3) := by decide +kernel
theorem dX7_init_71 : decode cX7_init 71 = .ok (.dup, 1) := by decide +kernel
theorem dX7_init_72 : decode cX7_init 72 = .ok (.invokespecial 33, 3) := by decide +kernel
theorem dX7_init_75 : decode cX7_init 75 = .ok (.putfield 34, 3) := by decide +kernel
theorem dX7_init_78 : decode cX7_init 78 = .ok (.aload_n 0, 1) := by decide +kernel
theorem dX7_init_79 : decode cX7_init 79 = .ok (.new 38, 3) := by decide +kernel
theorem dX7_init_82 : decode cX7_init 82 = .ok (.dup, 1) := by decide +kernel
theorem dX7_init_83 : decode cX7_init 83 = .ok (.invokespecial 40, 3) := by decide +kernel
theorem dX7_init_86 : decode cX7_init 86 = .ok (.putfield 41, 3) := by decide +kernel
theorem dX7_init_89 : decode cX7_init 89 = .ok (.aload_n 0, 1) := by decide +kernel
theorem dX7_init_90 : decode cX7_init 90 = .ok (.new 45, 3) := by decide +kernel
theorem dX7_init_93 : decode cX7_init 93 = .ok (.dup, 1) := by decide +kernel
theorem dX7_init_94 : decode cX7_init 94 = .ok (.invokespecial 47, 3) := by decide +kernel
theorem dX7_init_97 : decode cX7_init 97 = .ok (.putfield 48, 3) := by decide +kernel
theorem dX7_init_100 : decode cX7_init 100 = .ok (.aload_n 0, 1) := by decide +kernel
theorem dX7_init_101 : decode cX7_init 101 = .ok (.new 52, 3) := by decide +kernel
theorem dX7_init_104 : decode cX7_init 104 = .ok (.dup, 1) := by decide +kernel
theorem dX7_init_105 : decode cX7_init 105 = .ok (.invokespecial 54, 3) := by decide +kernel
theorem dX7_init_108 : decode cX7_init 108 = .ok (.putfield 55, 3) := by decide +kernel
theorem dX7_init_111 : decode cX7_init 111 = .ok (.aload_n 0, 1) := by decide +kernel
theorem dX7_init_112 : decode cX7_init 112 = .ok (.new 7, 3) := by decide +kernel
theorem dX7_init_115 : decode cX7_init 115 = .ok (.dup, 1) := by decide +kernel
theorem dX7_init_116 : decode cX7_init 116 = .ok (.invokespecial 9, 3) := by decide +kernel
theorem dX7_init_119 : decode cX7_init 119 = .ok (.putfield 59, 3) := by decide +kernel
theorem dX7_init_122 : decode cX7_init 122 = .ok (.aload_n 0, 1) := by decide +kernel
theorem dX7_init_123 : decode cX7_init 123 = .ok (.new 62, 3) := by decide +kernel
theorem dX7_init_126 : decode cX7_init 126 = .ok (.dup, 1) := by decide +kernel
theorem dX7_init_127 : decode cX7_init 127 = .ok (.invokespecial 64, 3) := by decide +kernel
theorem dX7_init_130 : decode cX7_init 130 = .ok (.putfield 65, 3) := by decide +kernel
theorem dX7_init_133 : decode cX7_init 133 = .ok (.return_, 1) := by decide +kernel
theorem dX7_append_0 : decode cX7_append 0 = .ok (.iload_n 1, 1) := by decide +kernel
theorem dX7_append_1 : decode cX7_append 1 = .ok (.ifCond .lt 10, 3) := by decide +kernel
theorem dX7_append_4 : decode cX7_append 4 = .ok (.iload_n 1, 1) := by decide +kernel
theorem dX7_append_5 : decode cX7_append 5 = .ok (.sipush 255, 3) := by decide +kernel
theorem dX7_append_8 : decode cX7_append 8 = .ok (.if_icmp .le 13, 3) := by decide +kernel
theorem dX7_append_11 : decode cX7_append 11 = .ok (.new 69, 3) := by decide +kernel
theorem dX7_append_14 : decode cX7_append 14 = .ok (.dup, 1) := by decide +kernel
theorem dX7_append_15 : decode cX7_append 15 = .ok (.ldc 71, 2) := by decide +kernel
theorem dX7_append_17 : decode cX7_append 17 = .ok (.invokespecial 73, 3) := by decide +kernel
theorem dX7_append_20 : decode cX7_append 20 = .ok (.athrow, 1) := by decide +kernel
theorem dX7_append_21 : decode cX7_append 21 = .ok (.aload_n 0, 1) := by decide +kernel
theorem dX7_append_22 : decode cX7_append 22 = .ok (.getfield 34, 3) := by decide +kernel
theorem dX7_append_25 : decode cX7_append 25 = .ok (.invokevirtual 76, 3) := by decide +kernel
theorem dX7_append_28 : decode cX7_append 28 = .ok (.ifCond .eq 13, 3) := by decide +kernel
theorem dX7_append_31 : decode cX7_append 31 = .ok (.new 80, 3) := by decide +kernel
theorem dX7_append_34 : decode cX7_append 34 = .ok (.dup, 1) := by decide +kernel
theorem dX7_append_35 : decode cX7_append 35 = .ok (.ldc 82, 2) := by decide +kernel
theorem dX7_append_37 : decode cX7_append 37 = .ok (.invokespecial 84, 3) := by decide +kernel
theorem dX7_append_40 : decode cX7_append 40 = .ok (.athrow, 1) := by decide +kernel
theorem dX7_append_41 : decode cX7_append 41 = .ok (.aload_n 0, 1) := by decide +kernel
theorem dX7_append_42 : decode cX7_append 42 = .ok (.getfield 34, 3) := by decide +kernel
theorem dX7_append_45 : decode cX7_append 45 = .ok (.iload_n 1, 1) := by decide +kernel
theorem dX7_append_46 : decode cX7_append 46 = .ok (.invokevirtual 85, 3) := by decide +kernel
theorem dX7_append_49 : decode cX7_append 49 = .ok (.aload_n 0, 1) := by decide +kernel
theorem dX7_append_50 : decode cX7_append 50 = .ok (.getfield 34, 3) := by decide +kernel
theorem dX7_append_53 : decode cX7_append 53 = .ok (.getfield 89, 3) := by decide +kernel
theorem dX7_append_56 : decode cX7_append 56 = .ok (.ireturn, 1) := by decide +kernel
theorem dX7_clearText_0 : decode cX7_clearText 0 = .ok (.aload_n 0, 1) := by decide +kernel
theorem dX7_clearText_1 : decode cX7_clearText 1 = .ok (.getfield 34, 3) := by decide +kernel
theorem dX7_clearText_4 : decode cX7_clearText 4 = .ok (.getfield 89, 3) := by decide +kernel
theorem dX7_clearText_7 : decode cX7_clearText 7 = .ok (.istore_n 1, 1) := by decide +kernel
theorem dX7_clearText_8 : decode cX7_clearText 8 = .ok (.aload_n 0, 1) := by decide +kernel
theorem dX7_clearText_9 : decode cX7_clearText 9 = .ok (.getfield 34, 3) := by decide +kernel
theorem dX7_clearText_12 : decode cX7_clearText 12 = .ok (.iconst 0, 1) := by decide +kernel
theorem dX7_clearText_13 : decode cX7_clearText 13 = .ok (.putfield 89, 3) := by decide +kernel
theorem dX7_clearText_16 : decode cX7_clearText 16 = .ok (.iload_n 1, 1) := by decide +kernel
theorem dX7_clearText_17 : decode cX7_clearText 17 = .ok (.ireturn, 1) := by decide +kernel
theorem dX7_errorPosition_0 : decode cX7_errorPosition 0 = .ok (.aload_n 0, 1) := by decide +kernel
theorem dX7_errorPosition_1 : decode cX7_errorPosition 1 = .ok (.getfield 34, 3) := by decide +kernel
theorem dX7_errorPosition_4 : decode cX7_errorPosition 4 = .ok (.aload_n 0, 1) := by decide +kernel
theorem dX7_errorPosition_5 : decode cX7_errorPosition 5 = .ok (.getfield 65, 3) := by decide +kernel
theorem dX7_errorPosition_8 : decode cX7_errorPosition 8 = .ok (.invokevirtual 93, 3) := by decide +kernel
theorem dX7_errorPosition_11 : decode cX7_errorPosition 11 = .ok (.ireturn, 1) := by decide +kernel
theorem dX7_about_0 : decode cX7_about 0 = .ok (.iload_n 1, 1) := by decide +kernel
theorem dX7_about_1 : decode cX7_about 1 = .ok (.ifCond .lt 8, 3) := by decide +kernel
theorem dX7_about_4 : decode cX7_about 4 = .ok (.iload_n 1, 1) := by decide +kernel
theorem dX7_about_5 : decode cX7_about 5 = .ok (.iconst 5, 1) := by decide +kernel
theorem dX7_about_6 : decode cX7_about 6 = .ok (.if_icmp .le 13, 3) := by decide +kernel
theorem dX7_about_9 : decode cX7_about 9 = .ok (.new 69, 3) := by decide +kernel
theorem dX7_about_12 : decode cX7_about 12 = .ok (.dup, 1) := by decide +kernel
theorem dX7_about_13 : decode cX7_about 13 = .ok (.ldc 97, 2) := by decide +kernel
theorem dX7_about_15 : decode cX7_about 15 = .ok (.invokespecial 73, 3) := by decide +kernel
theorem dX7_about_18 : decode cX7_about 18 = .ok (.athrow, 1) := by decide +kernel
theorem dX7_about_19 : decode cX7_about 19 = .ok (.iload_n 1, 1) := by decide +kernel
theorem dX7_about_20 : decode cX7_about 20 = .ok (.tableswitch 91 0 4 #[36, 44, 52, 60, 68], 36) := by decide +kernel
theorem dX7_about_56 : decode cX7_about 56 = .ok (.aload_n 0, 1) := by decide +kernel
theorem dX7_about_57 : decode cX7_about 57 = .ok (.getfield 10, 3) := by decide +kernel
theorem dX7_about_60 : decode cX7_about 60 = .ok (.getfield 99, 3) := by decide +kernel
theorem dX7_about_63 : decode cX7_about 63 = .ok (.ireturn, 1) := by decide +kernel
theorem dX7_about_64 : decode cX7_about 64 = .ok (.aload_n 0, 1) := by decide +kernel
theorem dX7_about_65 : decode cX7_about 65 = .ok (.getfield 10, 3) := by decide +kernel
theorem dX7_about_68 : decode cX7_about 68 = .ok (.invokevirtual 102, 3) := by decide +kernel
theorem dX7_about_71 : decode cX7_about 71 = .ok (.ireturn, 1) := by decide +kernel
theorem dX7_about_72 : decode cX7_about 72 = .ok (.aload_n 0, 1) := by decide +kernel
theorem dX7_about_73 : decode cX7_about 73 = .ok (.getfield 10, 3) := by decide +kernel
theorem dX7_about_76 : decode cX7_about 76 = .ok (.invokevirtual 106, 3) := by decide +kernel
theorem dX7_about_79 : decode cX7_about 79 = .ok (.ireturn, 1) := by decide +kernel
theorem dX7_about_80 : decode cX7_about 80 = .ok (.aload_n 0, 1) := by decide +kernel
theorem dX7_about_81 : decode cX7_about 81 = .ok (.getfield 10, 3) := by decide +kernel
theorem dX7_about_84 : decode cX7_about 84 = .ok (.invokevirtual 109, 3) := by decide +kernel
theorem dX7_about_87 : decode cX7_about 87 = .ok (.ireturn, 1) := by decide +kernel
theorem dX7_about_88 : decode cX7_about 88 = .ok (.aload_n 0, 1) := by decide +kernel
theorem dX7_about_89 : decode cX7_about 89 = .ok (.getfield 48, 3) := by decide +kernel
theorem dX7_about_92 : decode cX7_about 92 = .ok (.aload_n 0, 1) := by decide +kernel
theorem dX7_about_93 : decode cX7_about 93 = .ok (.getfield 10, 3) := by decide +kernel
theorem dX7_about_96 : decode cX7_about 96 = .ok (.aload_n 0, 1) := by decide +kernel
theorem dX7_about_97 : decode cX7_about 97 = .ok (.getfield 41, 3) := by decide +kernel
theorem dX7_about_100 : decode cX7_about 100 = .ok (.invokevirtual 112, 3) := by decide +kernel
theorem dX7_about_103 : decode cX7_about 103 = .ok (.aload_n 0, 1) := by decide +kernel
theorem dX7_about_104 : decode cX7_about 104 = .ok (.getfield 48, 3) := by decide +kernel
theorem dX7_about_107 : decode cX7_about 107 = .ok (.invokevirtual 116, 3) := by decide +kernel
theorem dX7_about_110 : decode cX7_about 110 = .ok (.ireturn, 1) := by decide +kernel
theorem dX7_about_111 : decode cX7_about 111 = .ok (.aload_n 0, 1) := by decide +kernel
theorem dX7_about_112 : decode cX7_about 112 = .ok (.invokevirtual 119, 3) := by decide +kernel
theorem dX7_about_115 : decode cX7_about 115 = .ok (.ireturn, 1) := by decide +kernel
theorem dX7_skater_0 : decode cX7_skater 0 = .ok (.aload_n 0, 1) := by decide +kernel
theorem dX7_skater_1 : decode cX7_skater 1 = .ok (.getfield 10, 3) := by decide +kernel
theorem dX7_skater_4 : decode cX7_skater 4 = .ok (.iload_n 1, 1) := by decide +kernel
theorem dX7_skater_5 : decode cX7_skater 5 = .ok (.invokevirtual 122, 3) := by decide +kernel
theorem dX7_skater_8 : decode cX7_skater 8 = .ok (.ifCond .ne 13, 3) := by decide +kernel
theorem dX7_skater_11 : decode cX7_skater 11 = .ok (.new 126, 3) := by decide +kernel
theorem dX7_skater_14 : decode cX7_skater 14 = .ok (.dup, 1) := by decide +kernel
theorem dX7_skater_15 : decode cX7_skater 15 = .ok (.ldc 128, 2) := by decide +kernel
theorem dX7_skater_17 : decode cX7_skater 17 = .ok (.invokespecial 130, 3) := by decide +kernel
theorem dX7_skater_20 : decode cX7_skater 20 = .ok (.athrow, 1) := by decide +kernel
theorem dX7_skater_21 : decode cX7_skater 21 = .ok (.iload_n 2, 1) := by decide +kernel
theorem dX7_skater_22 : decode cX7_skater 22 = .ok (.ifCond .lt 9, 3) := by decide +kernel
theorem dX7_skater_25 : decode cX7_skater 25 = .ok (.iload_n 2, 1) := by decide +kernel
theorem dX7_skater_26 : decode cX7_skater 26 = .ok (.bipush 7, 2) := by decide +kernel
theorem dX7_skater_28 : decode cX7_skater 28 = .ok (.if_icmp .le 13, 3) := by decide +kernel
theorem dX7_skater_31 : decode cX7_skater 31 = .ok (.new 69, 3) := by decide +kernel
theorem dX7_skater_34 : decode cX7_skater 34 = .ok (.dup, 1) := by decide +kernel
theorem dX7_skater_35 : decode cX7_skater 35 = .ok (.ldc 131, 2) := by decide +kernel
theorem dX7_skater_37 : decode cX7_skater 37 = .ok (.invokespecial 73, 3) := by decide +kernel
theorem dX7_skater_40 : decode cX7_skater 40 = .ok (.athrow, 1) := by decide +kernel
theorem dX7_skater_41 : decode cX7_skater 41 = .ok (.aload_n 0, 1) := by decide +kernel
theorem dX7_skater_42 : decode cX7_skater 42 = .ok (.getfield 10, 3) := by decide +kernel
theorem dX7_skater_45 : decode cX7_skater 45 = .ok (.getfield 133, 3) := by decide +kernel
theorem dX7_skater_48 : decode cX7_skater 48 = .ok (.iload_n 1, 1) := by decide +kernel
theorem dX7_skater_49 : decode cX7_skater 49 = .ok (.aaload, 1) := by decide +kernel
theorem dX7_skater_50 : decode cX7_skater 50 = .ok (.astore_n 3, 1) := by decide +kernel
theorem dX7_skater_51 : decode cX7_skater 51 = .ok (.aload_n 0, 1) := by decide +kernel
theorem dX7_skater_52 : decode cX7_skater 52 = .ok (.getfield 41, 3) := by decide +kernel
theorem dX7_skater_55 : decode cX7_skater 55 = .ok (.aload_n 3, 1) := by decide +kernel
theorem dX7_skater_56 : decode cX7_skater 56 = .ok (.aload_n 0, 1) := by decide +kernel
theorem dX7_skater_57 : decode cX7_skater 57 = .ok (.getfield 10, 3) := by decide +kernel
theorem dX7_skater_60 : decode cX7_skater 60 = .ok (.getfield 137, 3) := by decide +kernel
theorem dX7_skater_63 : decode cX7_skater 63 = .ok (.invokevirtual 141, 3) := by decide +kernel
theorem dX7_skater_66 : decode cX7_skater 66 = .ok (.iload_n 2, 1) := by decide +kernel
theorem dX7_skater_67 : decode cX7_skater 67 = .ok (.tableswitch 107 0 6 #[41, 46, 54, 62, 70, 78, 102], 41) := by decide +kernel
theorem dX7_skater_108 : decode cX7_skater 108 = .ok (.aload_n 3, 1) := by decide +kernel
theorem dX7_skater_109 : decode cX7_skater 109 = .ok (.getfield 145, 3) := by decide +kernel
theorem dX7_skater_112 : decode cX7_skater 112 = .ok (.ireturn, 1) := by decide +kernel
theorem dX7_skater_113 : decode cX7_skater 113 = .ok (.aload_n 0, 1) := by decide +kernel
theorem dX7_skater_114 : decode cX7_skater 114 = .ok (.getfield 41, 3) := by decide +kernel
theorem dX7_skater_117 : decode cX7_skater 117 = .ok (.getfield 148, 3) := by decide +kernel
theorem dX7_skater_120 : decode cX7_skater 120 = .ok (.ireturn, 1) := by decide +kernel
theorem dX7_skater_121 : decode cX7_skater 121 = .ok (.aload_n 0, 1) := by decide +kernel
theorem dX7_skater_122 : decode cX7_skater 122 = .ok (.getfield 41, 3) := by decide +kernel
theorem dX7_skater_125 : decode cX7_skater 125 = .ok (.getfield 151, 3) := by decide +kernel
theorem dX7_skater_128 : decode cX7_skater 128 = .ok (.ireturn, 1) := by decide +kernel
theorem dX7_skater_129 : decode cX7_skater 129 = .ok (.aload_n 0, 1) := by decide +kernel
theorem dX7_skater_130 : decode cX7_skater 130 = .ok (.getfield 41, 3) := by decide +kernel
theorem dX7_skater_133 : decode cX7_skater 133 = .ok (.getfield 154, 3) := by decide +kernel
theorem dX7_skater_136 : decode cX7_skater 136 = .ok (.ireturn, 1) := by decide +kernel
theorem dX7_skater_137 : decode cX7_skater 137 = .ok (.aload_n 0, 1) := by decide +kernel
theorem dX7_skater_138 : decode cX7_skater 138 = .ok (.getfield 41, 3) := by decide +kernel
theorem dX7_skater_141 : decode cX7_skater 141 = .ok (.invokevirtual 157, 3) := by decide +kernel
theorem dX7_skater_144 : decode cX7_skater 144 = .ok (.ireturn, 1) := by decide +kernel
theorem dX7_skater_145 : decode cX7_skater 145 = .ok (.aload_n 0, 1) := by decide +kernel
theorem dX7_skater_146 : decode cX7_skater 146 = .ok (.getfield 48, 3) := by decide +kernel
theorem dX7_skater_149 : decode cX7_skater 149 = .ok (.aload_n 0, 1) := by decide +kernel
theorem dX7_skater_150 : decode cX7_skater 150 = .ok (.getfield 10, 3) := by decide +kernel
theorem dX7_skater_153 : decode cX7_skater 153 = .ok (.aload_n 0, 1) := by decide +kernel
theorem dX7_skater_154 : decode cX7_skater 154 = .ok (.getfield 41, 3) := by decide +kernel
theorem dX7_skater_157 : decode cX7_skater 157 = .ok (.invokevirtual 112, 3) := by decide +kernel
theorem dX7_skater_160 : decode cX7_skater 160 = .ok (.aload_n 0, 1) := by decide +kernel
theorem dX7_skater_161 : decode cX7_skater 161 = .ok (.getfield 48, 3) := by decide +kernel
theorem dX7_skater_164 : decode cX7_skater 164 = .ok (.iload_n 1, 1) := by decide +kernel
theorem dX7_skater_165 : decode cX7_skater 165 = .ok (.invokevirtual 160, 3) := by decide +kernel
theorem dX7_skater_168 : decode cX7_skater 168 = .ok (.ireturn, 1) := by decide +kernel
theorem dX7_skater_169 : decode cX7_skater 169 = .ok (.aload_n 3, 1) := by decide +kernel
theorem dX7_skater_170 : decode cX7_skater 170 = .ok (.invokevirtual 164, 3) := by decide +kernel
theorem dX7_skater_173 : decode cX7_skater 173 = .ok (.ireturn, 1) := by decide +kernel
theorem dX7_skater_174 : decode cX7_skater 174 = .ok (.aload_n 3, 1) := by decide +kernel
theorem dX7_skater_175 : decode cX7_skater 175 = .ok (.invokevirtual 165, 3) := by decide +kernel
theorem dX7_skater_178 : decode cX7_skater 178 = .ok (.ireturn, 1) := by decide +kernel
theorem dX7_element_0 : decode cX7_element 0 = .ok (.aload_n 0, 1) := by decide +kernel
theorem dX7_element_1 : decode cX7_element 1 = .ok (.getfield 10, 3) := by decide +kernel
theorem dX7_element_4 : decode cX7_element 4 = .ok (.iload_n 1, 1) := by decide +kernel
theorem dX7_element_5 : decode cX7_element 5 = .ok (.iload_n 2, 1) := by decide +kernel
theorem dX7_element_6 : decode cX7_element 6 = .ok (.invokevirtual 166, 3) := by decide +kernel
theorem dX7_element_9 : decode cX7_element 9 = .ok (.ifCond .ne 13, 3) := by decide +kernel
theorem dX7_element_12 : decode cX7_element 12 = .ok (.new 126, 3) := by decide +kernel
theorem dX7_element_15 : decode cX7_element 15 = .ok (.dup, 1) := by decide +kernel
theorem dX7_element_16 : decode cX7_element 16 = .ok (.ldc 170, 2) := by decide +kernel
theorem dX7_element_18 : decode cX7_element 18 = .ok (.invokespecial 130, 3) := by decide +kernel
theorem dX7_element_21 : decode cX7_element 21 = .ok (.athrow, 1) := by decide +kernel
theorem dX7_element_22 : decode cX7_element 22 = .ok (.iload_n 3, 1) := by decide +kernel
theorem dX7_element_23 : decode cX7_element 23 = .ok (.ifCond .lt 9, 3) := by decide +kernel
theorem dX7_element_26 : decode cX7_element 26 = .ok (.iload_n 3, 1) := by decide +kernel
theorem dX7_element_27 : decode cX7_element 27 = .ok (.bipush 8, 2) := by decide +kernel
theorem dX7_element_29 : decode cX7_element 29 = .ok (.if_icmp .le 13, 3) := by decide +kernel
theorem dX7_element_32 : decode cX7_element 32 = .ok (.new 69, 3) := by decide +kernel
theorem dX7_element_35 : decode cX7_element 35 = .ok (.dup, 1) := by decide +kernel
theorem dX7_element_36 : decode cX7_element 36 = .ok (.ldc 172, 2) := by decide +kernel
theorem dX7_element_38 : decode cX7_element 38 = .ok (.invokespecial 73, 3) := by decide +kernel
theorem dX7_element_41 : decode cX7_element 41 = .ok (.athrow, 1) := by decide +kernel
theorem dX7_element_42 : decode cX7_element 42 = .ok (.aload_n 0, 1) := by decide +kernel
theorem dX7_element_43 : decode cX7_element 43 = .ok (.getfield 10, 3) := by decide +kernel
theorem dX7_element_46 : decode cX7_element 46 = .ok (.getfield 133, 3) := by decide +kernel
theorem dX7_element_49 : decode cX7_element 49 = .ok (.iload_n 1, 1) := by decide +kernel
theorem dX7_element_50 : decode cX7_element 50 = .ok (.aaload, 1) := by decide +kernel
theorem dX7_element_51 : decode cX7_element 51 = .ok (.astore 4, 2) := by decide +kernel
theorem dX7_element_53 : decode cX7_element 53 = .ok (.aload_n 0, 1) := by decide +kernel
theorem dX7_element_54 : decode cX7_element 54 = .ok (.getfield 41, 3) := by decide +kernel
theorem dX7_element_57 : decode cX7_element 57 = .ok (.aload 4, 2) := by decide +kernel
theorem dX7_element_59 : decode cX7_element 59 = .ok (.aload_n 0, 1) := by decide +kernel
theorem dX7_element_60 : decode cX7_element 60 = .ok (.getfield 10, 3) := by decide +kernel
theorem dX7_element_63 : decode cX7_element 63 = .ok (.getfield 137, 3) := by decide +kernel
theorem dX7_element_66 : decode cX7_element 66 = .ok (.invokevirtual 141, 3) := by decide +kernel
theorem dX7_element_69 : decode cX7_element 69 = .ok (.iload_n 3, 1) := by decide +kernel
theorem dX7_element_70 : decode cX7_element 70 = .ok (.tableswitch 126 0 7 #[46, 54, 62, 72, 80, 90, 110, 118], 46) := by decide +kernel
theorem dX7_element_116 : decode cX7_element 116 = .ok (.aload 4, 2) := by decide +kernel
theorem dX7_element_118 : decode cX7_element 118 = .ok (.getfield 174, 3) := by decide +kernel
theorem dX7_element_121 : decode cX7_element 121 = .ok (.iload_n 2, 1) := by decide +kernel
theorem dX7_element_122 : decode cX7_element 122 = .ok (.iaload, 1) := by decide +kernel
theorem dX7_element_123 : decode cX7_element 123 = .ok (.ireturn, 1) := by decide +kernel
theorem dX7_element_124 : decode cX7_element 124 = .ok (.aload 4, 2) := by decide +kernel
theorem dX7_element_126 : decode cX7_element 126 = .ok (.getfield 177, 3) := by decide +kernel
theorem dX7_element_129 : decode cX7_element 129 = .ok (.iload_n 2, 1) := by decide +kernel
theorem dX7_element_130 : decode cX7_element 130 = .ok (.iaload, 1) := by decide +kernel
theorem dX7_element_131 : decode cX7_element 131 = .ok (.ireturn, 1) := by decide +kernel
theorem dX7_element_132 : decode cX7_element 132 = .ok (.aload_n 0, 1) := by decide +kernel
theorem dX7_element_133 : decode cX7_element 133 = .ok (.getfield 41, 3) := by decide +kernel
theorem dX7_element_136 : decode cX7_element 136 = .ok (.getfield 180, 3) := by decide +kernel
theorem dX7_element_139 : decode cX7_element 139 = .ok (.iload_n 2, 1) := by decide +kernel
theorem dX7_element_140 : decode cX7_element 140 = .ok (.iaload, 1) := by decide +kernel
theorem dX7_element_141 : decode cX7_element 141 = .ok (.ireturn, 1) := by decide +kernel
theorem dX7_element_142 : decode cX7_element 142 = .ok (.aload 4, 2) := by decide +kernel
theorem dX7_element_144 : decode cX7_element 144 = .ok (.getfield 183, 3) := by decide +kernel
theorem dX7_element_147 : decode cX7_element 147 = .ok (.iload_n 2, 1) := by decide +kernel
theorem dX7_element_148 : decode cX7_element 148 = .ok (.iaload, 1) := by decide +kernel
theorem dX7_element_149 : decode cX7_element 149 = .ok (.ireturn, 1) := by decide +kernel
theorem dX7_element_150 : decode cX7_element 150 = .ok (.aload_n 0, 1) := by decide +kernel
theorem dX7_element_151 : decode cX7_element 151 = .ok (.getfield 41, 3) := by decide +kernel
theorem dX7_element_154 : decode cX7_element 154 = .ok (.getfield 186, 3) := by decide +kernel
theorem dX7_element_157 : decode cX7_element 157 = .ok (.iload_n 2, 1) := by decide +kernel
theorem dX7_element_158 : decode cX7_element 158 = .ok (.iaload, 1) := by decide +kernel
theorem dX7_element_159 : decode cX7_element 159 = .ok (.ireturn, 1) := by decide +kernel
theorem dX7_element_160 : decode cX7_element 160 = .ok (.aload_n 0, 1) := by decide +kernel
theorem dX7_element_161 : decode cX7_element 161 = .ok (.getfield 41, 3) := by decide +kernel
theorem dX7_element_164 : decode cX7_element 164 = .ok (.getfield 180, 3) := by decide +kernel
theorem dX7_element_167 : decode cX7_element 167 = .ok (.iload_n 2, 1) := by decide +kernel
