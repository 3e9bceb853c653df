theorem dX3_init_0 : decode cX3_init 0 = .ok (.aload_n 0, 1) := by decide +kernel
theorem dX3_init_1 : decode cX3_init 1 = .ok (.invokespecial 3, 3) := by decide +kernel
theorem dX3_init_4 : decode cX3_init 4 = .ok (.return_, 1) := by decide +kernel
theorem dX3_begin_0 : decode cX3_begin 0 = .ok (.aload_n 0, 1) := by decide +kernel
theorem dX3_begin_1 : decode cX3_begin 1 = .ok (.iconst 0, 1) := by decide +kernel
theorem dX3_begin_2 : decode cX3_begin 2 = .ok (.putfield 9, 3) := by decide +kernel
theorem dX3_begin_5 : decode cX3_begin 5 = .ok (.aload_n 0, 1) := by decide +kernel
theorem dX3_begin_6 : decode cX3_begin 6 = .ok (.iconst 0, 1) := by decide +kernel
theorem dX3_begin_7 : decode cX3_begin 7 = .ok (.putfield 15, 3) := by decide +kernel
theorem dX3_begin_10 : decode cX3_begin 10 = .ok (.aload_n 0, 1) := by decide +kernel
theorem dX3_begin_11 : decode cX3_begin 11 = .ok (.sipush (-201), 3) := by decide +kernel
theorem dX3_begin_14 : decode cX3_begin 14 = .ok (.putfield 18, 3) := by decide +kernel
theorem dX3_begin_17 : decode cX3_begin 17 = .ok (.aload_n 0, 1) := by decide +kernel
theorem dX3_begin_18 : decode cX3_begin 18 = .ok (.iload_n 1, 1) := by decide +kernel
theorem dX3_begin_19 : decode cX3_begin 19 = .ok (.putfield 21, 3) := by decide +kernel
theorem dX3_begin_22 : decode cX3_begin 22 = .ok (.return_, 1) := by decide +kernel
theorem dX3_putPair_0 : decode cX3_putPair 0 = .ok (.aload_n 0, 1) := by decide +kernel
theorem dX3_putPair_1 : decode cX3_putPair 1 = .ok (.iload_n 1, 1) := by decide +kernel
theorem dX3_putPair_2 : decode cX3_putPair 2 = .ok (.invokevirtual 24, 3) := by decide +kernel
theorem dX3_putPair_5 : decode cX3_putPair 5 = .ok (.aload_n 0, 1) := by decide +kernel
theorem dX3_putPair_6 : decode cX3_putPair 6 = .ok (.bipush 46, 2) := by decide +kernel
theorem dX3_putPair_8 : decode cX3_putPair 8 = .ok (.invokevirtual 28, 3) := by decide +kernel
theorem dX3_putPair_11 : decode cX3_putPair 11 = .ok (.aload_n 0, 1) := by decide +kernel
theorem dX3_putPair_12 : decode cX3_putPair 12 = .ok (.iload_n 2, 1) := by decide +kernel
theorem dX3_putPair_13 : decode cX3_putPair 13 = .ok (.invokevirtual 24, 3) := by decide +kernel
theorem dX3_putPair_16 : decode cX3_putPair 16 = .ok (.aload_n 0, 1) := by decide +kernel
theorem dX3_putPair_17 : decode cX3_putPair 17 = .ok (.iload_n 3, 1) := by decide +kernel
theorem dX3_putPair_18 : decode cX3_putPair 18 = .ok (.invokevirtual 28, 3) := by decide +kernel
theorem dX3_putPair_21 : decode cX3_putPair 21 = .ok (.return_, 1) := by decide +kernel
theorem dX3_putNumber_0 : decode cX3_putNumber 0 = .ok (.iload_n 1, 1) := by decide +kernel
theorem dX3_putNumber_1 : decode cX3_putNumber 1 = .ok (.invokestatic 32, 3) := by decide +kernel
theorem dX3_putNumber_4 : decode cX3_putNumber 4 = .ok (.istore_n 2, 1) := by decide +kernel
theorem dX3_putNumber_5 : decode cX3_putNumber 5 = .ok (.iload_n 1, 1) := by decide +kernel
theorem dX3_putNumber_6 : decode cX3_putNumber 6 = .ok (.ifCond .ge 9, 3) := by decide +kernel
theorem dX3_putNumber_9 : decode cX3_putNumber 9 = .ok (.aload_n 0, 1) := by decide +kernel
theorem dX3_putNumber_10 : decode cX3_putNumber 10 = .ok (.bipush 45, 2) := by decide +kernel
theorem dX3_putNumber_12 : decode cX3_putNumber 12 = .ok (.invokevirtual 28, 3) := by decide +kernel
theorem dX3_putNumber_15 : decode cX3_putNumber 15 = .ok (.iload_n 2, 1) := by decide +kernel
theorem dX3_putNumber_16 : decode cX3_putNumber 16 = .ok (.bipush 10, 2) := by decide +kernel
theorem dX3_putNumber_18 : decode cX3_putNumber 18 = .ok (.if_icmp .lt 15, 3) := by decide +kernel
theorem dX3_putNumber_21 : decode cX3_putNumber 21 = .ok (.aload_n 0, 1) := by decide +kernel
theorem dX3_putNumber_22 : decode cX3_putNumber 22 = .ok (.bipush 48, 2) := by decide +kernel
theorem dX3_putNumber_24 : decode cX3_putNumber 24 = .ok (.iload_n 2, 1) := by decide +kernel
theorem dX3_putNumber_25 : decode cX3_putNumber 25 = .ok (.bipush 10, 2) := by decide +kernel
theorem dX3_putNumber_27 : decode cX3_putNumber 27 = .ok (.idiv, 1) := by decide +kernel
theorem dX3_putNumber_28 : decode cX3_putNumber 28 = .ok (.iadd, 1) := by decide +kernel
theorem dX3_putNumber_29 : decode cX3_putNumber 29 = .ok (.i2c, 1) := by decide +kernel
theorem dX3_putNumber_30 : decode cX3_putNumber 30 = .ok (.invokevirtual 28, 3) := by decide +kernel
theorem dX3_putNumber_33 : decode cX3_putNumber 33 = .ok (.aload_n 0, 1) := by decide +kernel
theorem dX3_putNumber_34 : decode cX3_putNumber 34 = .ok (.bipush 48, 2) := by decide +kernel
theorem dX3_putNumber_36 : decode cX3_putNumber 36 = .ok (.iload_n 2, 1) := by decide +kernel
theorem dX3_putNumber_37 : decode cX3_putNumber 37 = .ok (.bipush 10, 2) := by decide +kernel
theorem dX3_putNumber_39 : decode cX3_putNumber 39 = .ok (.irem, 1) := by decide +kernel
theorem dX3_putNumber_40 : decode cX3_putNumber 40 = .ok (.iadd, 1) := by decide +kernel
theorem dX3_putNumber_41 : decode cX3_putNumber 41 = .ok (.i2c, 1) := by decide +kernel
theorem dX3_putNumber_42 : decode cX3_putNumber 42 = .ok (.invokevirtual 28, 3) := by decide +kernel
theorem dX3_putNumber_45 : decode cX3_putNumber 45 = .ok (.return_, 1) := by decide +kernel
theorem dX3_put_0 : decode cX3_put 0 = .ok (.aload_n 0, 1) := by decide +kernel
theorem dX3_put_1 : decode cX3_put 1 = .ok (.getfield 9, 3) := by decide +kernel
theorem dX3_put_4 : decode cX3_put 4 = .ok (.aload_n 0, 1) := by decide +kernel
theorem dX3_put_5 : decode cX3_put 5 = .ok (.getfield 21, 3) := by decide +kernel
theorem dX3_put_8 : decode cX3_put 8 = .ok (.if_icmp .ne 8, 3) := by decide +kernel
theorem dX3_put_11 : decode cX3_put 11 = .ok (.aload_n 0, 1) := by decide +kernel
theorem dX3_put_12 : decode cX3_put 12 = .ok (.iload_n 1, 1) := by decide +kernel
theorem dX3_put_13 : decode cX3_put 13 = .ok (.putfield 18, 3) := by decide +kernel
theorem dX3_put_16 : decode cX3_put 16 = .ok (.aload_n 0, 1) := by decide +kernel
theorem dX3_put_17 : decode cX3_put 17 = .ok (.dup, 1) := by decide +kernel
theorem dX3_put_18 : decode cX3_put 18 = .ok (.getfield 9, 3) := by decide +kernel
theorem dX3_put_21 : decode cX3_put 21 = .ok (.iconst 1, 1) := by decide +kernel
theorem dX3_put_22 : decode cX3_put 22 = .ok (.iadd, 1) := by decide +kernel
theorem dX3_put_23 : decode cX3_put 23 = .ok (.putfield 9, 3) := by decide +kernel
theorem dX3_put_26 : decode cX3_put 26 = .ok (.aload_n 0, 1) := by decide +kernel
theorem dX3_put_27 : decode cX3_put 27 = .ok (.bipush 31, 2) := by decide +kernel
theorem dX3_put_29 : decode cX3_put 29 = .ok (.aload_n 0, 1) := by decide +kernel
theorem dX3_put_30 : decode cX3_put 30 = .ok (.getfield 15, 3) := by decide +kernel
theorem dX3_put_33 : decode cX3_put 33 = .ok (.imul, 1) := by decide +kernel
theorem dX3_put_34 : decode cX3_put 34 = .ok (.iload_n 1, 1) := by decide +kernel
theorem dX3_put_35 : decode cX3_put 35 = .ok (.iadd, 1) := by decide +kernel
theorem dX3_put_36 : decode cX3_put 36 = .ok (.putfield 15, 3) := by decide +kernel
theorem dX3_put_39 : decode cX3_put 39 = .ok (.return_, 1) := by decide +kernel
theorem dX4_init_0 : decode cX4_init 0 = .ok (.aload_n 0, 1) := by decide +kernel
theorem dX4_init_1 : decode cX4_init 1 = .ok (.invokespecial 3, 3) := by decide +kernel
theorem dX4_init_4 : decode cX4_init 4 = .ok (.aload_n 0, 1) := by decide +kernel
theorem dX4_init_5 : decode cX4_init 5 = .ok (.bipush 120, 2) := by decide +kernel
theorem dX4_init_7 : decode cX4_init 7 = .ok (.newarray .byte, 2) := by decide +kernel
theorem dX4_init_9 : decode cX4_init 9 = .ok (.putfield 9, 3) := by decide +kernel
theorem dX4_init_12 : decode cX4_init 12 = .ok (.aload_n 0, 1) := by decide +kernel
theorem dX4_init_13 : decode cX4_init 13 = .ok (.sipush 144, 3) := by decide +kernel
theorem dX4_init_16 : decode cX4_init 16 = .ok (.newarray .int, 2) := by decide +kernel
theorem dX4_init_18 : decode cX4_init 18 = .ok (.putfield 15, 3) := by decide +kernel
theorem dX4_init_21 : decode cX4_init 21 = .ok (.return_, 1) := by decide +kernel
theorem dX4_add_0 : decode cX4_add 0 = .ok (.aload_n 0, 1) := by decide +kernel
theorem dX4_add_1 : decode cX4_add 1 = .ok (.getfield 19, 3) := by decide +kernel
theorem dX4_add_4 : decode cX4_add 4 = .ok (.bipush 120, 2) := by decide +kernel
theorem dX4_add_6 : decode cX4_add 6 = .ok (.if_icmp .lt 5, 3) := by decide +kernel
theorem dX4_add_9 : decode cX4_add 9 = .ok (.iconst 0, 1) := by decide +kernel
theorem dX4_add_10 : decode cX4_add 10 = .ok (.ireturn, 1) := by decide +kernel
theorem dX4_add_11 : decode cX4_add 11 = .ok (.aload_n 0, 1) := by decide +kernel
theorem dX4_add_12 : decode cX4_add 12 = .ok (.getfield 9, 3) := by decide +kernel
theorem dX4_add_15 : decode cX4_add 15 = .ok (.aload_n 0, 1) := by decide +kernel
theorem dX4_add_16 : decode cX4_add 16 = .ok (.getfield 19, 3) := by decide +kernel
theorem dX4_add_19 : decode cX4_add 19 = .ok (.iload_n 1, 1) := by decide +kernel
theorem dX4_add_20 : decode cX4_add 20 = .ok (.i2b, 1) := by decide +kernel
theorem dX4_add_21 : decode cX4_add 21 = .ok (.bastore, 1) := by decide +kernel
theorem dX4_add_22 : decode cX4_add 22 = .ok (.aload_n 0, 1) := by decide +kernel
theorem dX4_add_23 : decode cX4_add 23 = .ok (.dup, 1) := by decide +kernel
theorem dX4_add_24 : decode cX4_add 24 = .ok (.getfield 19, 3) := by decide +kernel
theorem dX4_add_27 : decode cX4_add 27 = .ok (.iconst 1, 1) := by decide +kernel
theorem dX4_add_28 : decode cX4_add 28 = .ok (.iadd, 1) := by decide +kernel
theorem dX4_add_29 : decode cX4_add 29 = .ok (.putfield 19, 3) := by decide +kernel
theorem dX4_add_32 : decode cX4_add 32 = .ok (.iconst 1, 1) := by decide +kernel
theorem dX4_add_33 : decode cX4_add 33 = .ok (.ireturn, 1) := by decide +kernel
theorem dX4_areaOf_0 : decode cX4_areaOf 0 = .ok (.aload_n 0, 1) := by decide +kernel
theorem dX4_areaOf_1 : decode cX4_areaOf 1 = .ok (.getfield 15, 3) := by decide +kernel
theorem dX4_areaOf_4 : decode cX4_areaOf 4 = .ok (.iload_n 1, 1) := by decide +kernel
theorem dX4_areaOf_5 : decode cX4_areaOf 5 = .ok (.bipush 6, 2) := by decide +kernel
theorem dX4_areaOf_7 : decode cX4_areaOf 7 = .ok (.imul, 1) := by decide +kernel
theorem dX4_areaOf_8 : decode cX4_areaOf 8 = .ok (.iaload, 1) := by decide +kernel
theorem dX4_areaOf_9 : decode cX4_areaOf 9 = .ok (.ireturn, 1) := by decide +kernel
theorem dX4_wordOf_0 : decode cX4_wordOf 0 = .ok (.aload_n 0, 1) := by decide +kernel
theorem dX4_wordOf_1 : decode cX4_wordOf 1 = .ok (.getfield 15, 3) := by decide +kernel
theorem dX4_wordOf_4 : decode cX4_wordOf 4 = .ok (.iload_n 1, 1) := by decide +kernel
theorem dX4_wordOf_5 : decode cX4_wordOf 5 = .ok (.bipush 6, 2) := by decide +kernel
theorem dX4_wordOf_7 : decode cX4_wordOf 7 = .ok (.imul, 1) := by decide +kernel
theorem dX4_wordOf_8 : decode cX4_wordOf 8 = .ok (.iconst 1, 1) := by decide +kernel
theorem dX4_wordOf_9 : decode cX4_wordOf 9 = .ok (.iadd, 1) := by decide +kernel
theorem dX4_wordOf_10 : decode cX4_wordOf 10 = .ok (.iaload, 1) := by decide +kernel
theorem dX4_wordOf_11 : decode cX4_wordOf 11 = .ok (.ireturn, 1) := by decide +kernel
theorem dX4_numberOf_0 : decode cX4_numberOf 0 = .ok (.aload_n 0, 1) := by decide +kernel
theorem dX4_numberOf_1 : decode cX4_numberOf 1 = .ok (.getfield 15, 3) := by decide +kernel
theorem dX4_numberOf_4 : decode cX4_numberOf 4 = .ok (.iload_n 1, 1) := by decide +kernel
theorem dX4_numberOf_5 : decode cX4_numberOf 5 = .ok (.bipush 6, 2) := by decide +kernel
theorem dX4_numberOf_7 : decode cX4_numberOf 7 = .ok (.imul, 1) := by decide +kernel
theorem dX4_numberOf_8 : decode cX4_numberOf 8 = .ok (.iconst 2, 1) := by decide +kernel
theorem dX4_numberOf_9 : decode cX4_numberOf 9 = .ok (.iadd, 1) := by decide +kernel
theorem dX4_numberOf_10 : decode cX4_numberOf 10 = .ok (.iload_n 2, 1) := by decide +kernel
theorem dX4_numberOf_11 : decode cX4_numberOf 11 = .ok (.iadd, 1) := by decide +kernel
theorem dX4_numberOf_12 : decode cX4_numberOf 12 = .ok (.iaload, 1) := by decide +kernel
theorem dX4_numberOf_13 : decode cX4_numberOf 13 = .ok (.ireturn, 1) := by decide +kernel
theorem dX4_parse_0 : decode cX4_parse 0 = .ok (.aload_n 0, 1) := by decide +kernel
theorem dX4_parse_1 : decode cX4_parse 1 = .ok (.iconst 0, 1) := by decide +kernel
theorem dX4_parse_2 : decode cX4_parse 2 = .ok (.putfield 23, 3) := by decide +kernel
theorem dX4_parse_5 : decode cX4_parse 5 = .ok (.aload_n 0, 1) := by decide +kernel
theorem dX4_parse_6 : decode cX4_parse 6 = .ok (.iconst 0, 1) := by decide +kernel
theorem dX4_parse_7 : decode cX4_parse 7 = .ok (.putfield 26, 3) := by decide +kernel
theorem dX4_parse_10 : decode cX4_parse 10 = .ok (.aload_n 0, 1) := by decide +kernel
theorem dX4_parse_11 : decode cX4_parse 11 = .ok (.invokevirtual 29, 3) := by decide +kernel
theorem dX4_parse_14 : decode cX4_parse 14 = .ok (.aload_n 0, 1) := by decide +kernel
theorem dX4_parse_15 : decode cX4_parse 15 = .ok (.getfield 32, 3) := by decide +kernel
theorem dX4_parse_18 : decode cX4_parse 18 = .ok (.ifCond .ne 8, 3) := by decide +kernel
theorem dX4_parse_21 : decode cX4_parse 21 = .ok (.aload_n 0, 1) := by decide +kernel
theorem dX4_parse_22 : decode cX4_parse 22 = .ok (.getfield 35, 3) := by decide +kernel
theorem dX4_parse_25 : decode cX4_parse 25 = .ok (.ireturn, 1) := by decide +kernel
theorem dX4_parse_26 : decode cX4_parse 26 = .ok (.aload_n 0, 1) := by decide +kernel
theorem dX4_parse_27 : decode cX4_parse 27 = .ok (.getfield 32, 3) := by decide +kernel
theorem dX4_parse_30 : decode cX4_parse 30 = .ok (.ifCond .eq 48, 3) := by decide +kernel
theorem dX4_parse_33 : decode cX4_parse 33 = .ok (.aload_n 0, 1) := by decide +kernel
theorem dX4_parse_34 : decode cX4_parse 34 = .ok (.getfield 23, 3) := by decide +kernel
theorem dX4_parse_37 : decode cX4_parse 37 = .ok (.bipush 24, 2) := by decide +kernel
theorem dX4_parse_39 : decode cX4_parse 39 = .ok (.if_icmp .ge 39, 3) := by decide +kernel
theorem dX4_parse_42 : decode cX4_parse 42 = .ok (.aload_n 0, 1) := by decide +kernel
theorem dX4_parse_43 : decode cX4_parse 43 = .ok (.aload_n 0, 1) := by decide +kernel
theorem dX4_parse_44 : decode cX4_parse 44 = .ok (.getfield 23, 3) := by decide +kernel
theorem dX4_parse_47 : decode cX4_parse 47 = .ok (.bipush 6, 2) := by decide +kernel
theorem dX4_parse_49 : decode cX4_parse 49 = .ok (.imul, 1) := by decide +kernel
theorem dX4_parse_50 : decode cX4_parse 50 = .ok (.invokevirtual 38, 3) := by decide +kernel
theorem dX4_parse_53 : decode cX4_parse 53 = .ok (.ifCond .ne 8, 3) := by decide +kernel
theorem dX4_parse_56 : decode cX4_parse 56 = .ok (.aload_n 0, 1) := by decide +kernel
theorem dX4_parse_57 : decode cX4_parse 57 = .ok (.getfield 35, 3) := by decide +kernel
theorem dX4_parse_60 : decode cX4_parse 60 = .ok (.ireturn, 1) := by decide +kernel
theorem dX4_parse_61 : decode cX4_parse 61 = .ok (.aload_n 0, 1) := by decide +kernel
theorem dX4_parse_62 : decode cX4_parse 62 = .ok (.dup, 1) := by decide +kernel
theorem dX4_parse_63 : decode cX4_parse 63 = .ok (.getfield 23, 3) := by decide +kernel
theorem dX4_parse_66 : decode cX4_parse 66 = .ok (.iconst 1, 1) := by decide +kernel
theorem dX4_parse_67 : decode cX4_parse 67 = .ok (.iadd, 1) := by decide +kernel
theorem dX4_parse_68 : decode cX4_parse 68 = .ok (.putfield 23, 3) := by decide +kernel
theorem dX4_parse_71 : decode cX4_parse 71 = .ok (.aload_n 0, 1) := by decide +kernel
theorem dX4_parse_72 : decode cX4_parse 72 = .ok (.invokevirtual 29, 3) := by decide +kernel
theorem dX4_parse_75 : decode cX4_parse 75 = .ok (.goto (-49), 3) := by decide +kernel
theorem dX4_parse_78 : decode cX4_parse 78 = .ok (.iconst (-1), 1) := by decide +kernel
theorem dX4_parse_79 : decode cX4_parse 79 = .ok (.ireturn, 1) := by decide +kernel
theorem dX4_readSentence_0 : decode cX4_readSentence 0 = .ok (.aload_n 0, 1) := by decide +kernel
theorem dX4_readSentence_1 : decode cX4_readSentence 1 = .ok (.iconst 0, 1) := by decide +kernel
theorem dX4_readSentence_2 : decode cX4_readSentence 2 = .ok (.iconst 4, 1) := by decide +kernel
theorem dX4_readSentence_3 : decode cX4_readSentence 3 = .ok (.invokevirtual 42, 3) := by decide +kernel
theorem dX4_readSentence_6 : decode cX4_readSentence 6 = .ok (.ifCond .ne 5, 3) := by decide +kernel
theorem dX4_readSentence_9 : decode cX4_readSentence 9 = .ok (.iconst 0, 1) := by decide +kernel
theorem dX4_readSentence_10 : decode cX4_readSentence 10 = .ok (.ireturn, 1) := by decide +kernel
theorem dX4_readSentence_11 : decode cX4_readSentence 11 = .ok (.aload_n 0, 1) := by decide +kernel
theorem dX4_readSentence_12 : decode cX4_readSentence 12 = .ok (.getfield 15, 3) := by decide +kernel
theorem dX4_readSentence_15 : decode cX4_readSentence 15 = .ok (.iload_n 1, 1) := by decide +kernel
theorem dX4_readSentence_16 : decode cX4_readSentence 16 = .ok (.aload_n 0, 1) := by decide +kernel
theorem dX4_readSentence_17 : decode cX4_readSentence 17 = .ok (.getfield 46, 3) := by decide +kernel
theorem dX4_readSentence_20 : decode cX4_readSentence 20 = .ok (.iastore, 1) := by decide +kernel
theorem dX4_readSentence_21 : decode cX4_readSentence 21 = .ok (.aload_n 0, 1) := by decide +kernel
theorem dX4_readSentence_22 : decode cX4_readSentence 22 = .ok (.invokevirtual 29, 3) := by decide +kernel
theorem dX4_readSentence_25 : decode cX4_readSentence 25 = .ok (.aload_n 0, 1) := by decide +kernel
theorem dX4_readSentence_26 : decode cX4_readSentence 26 = .ok (.getfield 32, 3) := by decide +kernel
theorem dX4_readSentence_29 : decode cX4_readSentence 29 = .ok (.iconst 1, 1) := by decide +kernel
theorem dX4_readSentence_30 : decode cX4_readSentence 30 = .ok (.if_icmp .eq 5, 3) := by decide +kernel
theorem dX4_readSentence_33 : decode cX4_readSentence 33 = .ok (.iconst 0, 1) := by decide +kernel
theorem dX4_readSentence_34 : decode cX4_readSentence 34 = .ok (.ireturn, 1) := by decide +kernel
theorem dX4_readSentence_35 : decode cX4_readSentence 35 = .ok (.aload_n 0, 1) := by decide +kernel
theorem dX4_readSentence_36 : decode cX4_readSentence 36 = .ok (.getfield 46, 3) := by decide +kernel
theorem dX4_readSentence_39 : decode cX4_readSentence 39 = .ok (.istore_n 2, 1) := by decide +kernel
theorem dX4_readSentence_40 : decode cX4_readSentence 40 = .ok (.aload_n 0, 1) := by decide +kernel
theorem dX4_readSentence_41 : decode cX4_readSentence 41 = .ok (.getfield 15, 3) := by decide +kernel
theorem dX4_readSentence_44 : decode cX4_readSentence 44 = .ok (.iload_n 1, 1) := by decide +kernel
theorem dX4_readSentence_45 : decode cX4_readSentence 45 = .ok (.iconst 1, 1) := by decide +kernel
theorem dX4_readSentence_46 : decode cX4_readSentence 46 = .ok (.iadd, 1) := by decide +kernel
theorem dX4_readSentence_47 : decode cX4_readSentence 47 = .ok (.iload_n 2, 1) := by decide +kernel
theorem dX4_readSentence_48 : decode cX4_readSentence 48 = .ok (.iastore, 1) := by decide +kernel
theorem dX4_readSentence_49 : decode cX4_readSentence 49 = .ok (.iload_n 2, 1) := by decide +kernel
theorem dX4_readSentence_50 : decode cX4_readSentence 50 = .ok (.invokestatic 49, 3) := by decide +kernel
theorem dX4_readSentence_53 : decode cX4_readSentence 53 = .ok (.istore_n 3, 1) := by decide +kernel
theorem dX4_readSentence_54 : decode cX4_readSentence 54 = .ok (.iconst 0, 1) := by decide +kernel
theorem dX4_readSentence_55 : decode cX4_readSentence 55 = .ok (.istore 4, 2) := by decide +kernel
theorem dX4_readSentence_57 : decode cX4_readSentence 57 = .ok (.iload 4, 2) := by decide +kernel
theorem dX4_readSentence_59 : decode cX4_readSentence 59 = .ok (.iload_n 3, 1) := by decide +kernel
theorem dX4_readSentence_60 : decode cX4_readSentence 60 = .ok (.if_icmp .ge 49, 3) := by decide +kernel
theorem dX4_readSentence_63 : decode cX4_readSentence 63 = .ok (.aload_n 0, 1) := by decide +kernel
theorem dX4_readSentence_64 : decode cX4_readSentence 64 = .ok (.invokevirtual 29, 3) := by decide +kernel
theorem dX4_readSentence_67 : decode cX4_readSentence 67 = .ok (.aload_n 0, 1) := by decide +kernel
theorem dX4_readSentence_68 : decode cX4_readSentence 68 = .ok (.iload_n 2, 1) := by decide +kernel
theorem dX4_readSentence_69 : decode cX4_readSentence 69 = .ok (.iload 4, 2) := by decide +kernel
theorem dX4_readSentence_71 : decode cX4_readSentence 71 = .ok (.invokestatic 53, 3) := by decide +kernel
theorem dX4_readSentence_74 : decode cX4_readSentence 74 = .ok (.iload_n 2, 1) := by decide +kernel
theorem dX4_readSentence_75 : decode cX4_readSentence 75 = .ok (.iload 4, 2) := by decide +kernel
theorem dX4_readSentence_77 : decode cX4_readSentence 77 = .ok (.invokestatic 57, 3) := by decide +kernel
theorem dX4_readSentence_80 : decode cX4_readSentence 80 = .ok (.invokevirtual 42, 3) := by decide +kernel
theorem dX4_readSentence_83 : decode cX4_readSentence 83 = .ok (.ifCond .ne 5, 3) := by decide +kernel
theorem dX4_readSentence_86 : decode cX4_readSentence 86 = .ok (.iconst 0, 1) := by decide +kernel
theorem dX4_readSentence_87 : decode cX4_readSentence 87 = .ok (.ireturn, 1) := by decide +kernel
theorem dX4_readSentence_88 : decode cX4_readSentence 88 = .ok (.aload_n 0, 1) := by decide +kernel
theorem dX4_readSentence_89 : decode cX4_readSentence 89 = .ok (.getfield 15, 3) := by decide +kernel
theorem dX4_readSentence_92 : decode cX4_readSentence 92 = .ok (.iload_n 1, 1) := by decide +kernel
theorem dX4_readSentence_93 : decode cX4_readSentence 93 = .ok (.iconst 2, 1) := by decide +kernel
theorem dX4_readSentence_94 : decode cX4_readSentence 94 = .ok (.iadd, 1) := by decide +kernel
theorem dX4_readSentence_95 : decode cX4_readSentence 95 = .ok (.iload 4, 2) := by decide +kernel
theorem dX4_readSentence_97 : decode cX4_readSentence 97 = .ok (.iadd, 1) := by decide +kernel
theorem dX4_readSentence_98 : decode cX4_readSentence 98 = .ok (.aload_n 0, 1) := by decide +kernel
theorem dX4_readSentence_99 : decode cX4_readSentence 99 = .ok (.getfield 46, 3) := by decide +kernel
theorem dX4_readSentence_102 : decode cX4_readSentence 102 = .ok (.iastore, 1) := by decide +kernel
theorem dX4_readSentence_103 : decode cX4_readSentence 103 = .ok (.iinc 4 1, 3) := by decide +kernel
theorem dX4_readSentence_106 : decode cX4_readSentence 106 = .ok (.goto (-49), 3) := by decide +kernel
theorem dX4_readSentence_109 : decode cX4_readSentence 109 = .ok (.aload_n 0, 1) := by decide +kernel
theorem dX4_readSentence_110 : decode cX4_readSentence 110 = .ok (.invokevirtual 29, 3) := by decide +kernel
theorem dX4_readSentence_113 : decode cX4_readSentence 113 = .ok (.aload_n 0, 1) := by decide +kernel
theorem dX4_readSentence_114 : decode cX4_readSentence 114 = .ok (.getfield 32, 3) := by decide +kernel
theorem dX4_readSentence_117 : decode cX4_readSentence 117 = .ok (.iconst 3, 1) := by decide +kernel
theorem dX4_readSentence_118 : decode cX4_readSentence 118 = .ok (.if_icmp .ne 7, 3) := by decide +kernel
theorem dX4_readSentence_121 : decode cX4_readSentence 121 = .ok (.iconst 1, 1) := by decide +kernel
theorem dX4_readSentence_122 : decode cX4_readSentence 122 = .ok (.goto 4, 3) := by decide +kernel
theorem dX4_readSentence_125 : decode cX4_readSentence 125 = .ok (.iconst 0, 1) := by decide +kernel
theorem dX4_readSentence_126 : decode cX4_readSentence 126 = .ok (.ireturn, 1) := by decide +kernel
theorem dX4_isNumber_0 : decode cX4_isNumber 0 = .ok (.aload_n 0, 1) := by decide +kernel
theorem dX4_isNumber_1 : decode cX4_isNumber 1 = .ok (.getfield 32, 3) := by decide +kernel
theorem dX4_isNumber_4 : decode cX4_isNumber 4 = .ok (.iconst 2, 1) := by decide +kernel
theorem dX4_isNumber_5 : decode cX4_isNumber 5 = .ok (.if_icmp .ne 19, 3) := by decide +kernel
theorem dX4_isNumber_8 : decode cX4_isNumber 8 = .ok (.aload_n 0, 1) := by decide +kernel
theorem dX4_isNumber_9 : decode cX4_isNumber 9 = .ok (.getfield 46, 3) := by decide +kernel
theorem dX4_isNumber_12 : decode cX4_isNumber 12 = .ok (.iload_n 1, 1) := by decide +kernel
theorem dX4_isNumber_13 : decode cX4_isNumber 13 = .ok (.iload_n 2, 1) := by decide +kernel
theorem dX4_isNumber_14 : decode cX4_isNumber 14 = .ok (.invokestatic 60, 3) := by decide +kernel
theorem dX4_isNumber_17 : decode cX4_isNumber 17 = .ok (.ifCond .eq 7, 3) := by decide +kernel
theorem dX4_isNumber_20 : decode cX4_isNumber 20 = .ok (.iconst 1, 1) := by decide +kernel
theorem dX4_isNumber_21 : decode cX4_isNumber 21 = .ok (.goto 4, 3) := by decide +kernel
theorem dX4_isNumber_24 : decode cX4_isNumber 24 = .ok (.iconst 0, 1) := by decide +kernel
theorem dX4_isNumber_25 : decode cX4_isNumber 25 = .ok (.ireturn, 1) := by decide +kernel
theorem dX4_numbersOf_0 : decode cX4_numbersOf 0 = .ok (.iload_n 0, 1) := by decide +kernel
theorem dX4_numbersOf_1 : decode cX4_numbersOf 1 = .ok (.tableswitch 61 0 9 #[59, 55, 61, 59, 59, 59, 59, 57, 59, 59], 55) := by decide +kernel
theorem dX4_numbersOf_56 : decode cX4_numbersOf 56 = .ok (.iconst 4, 1) := by decide +kernel
theorem dX4_numbersOf_57 : decode cX4_numbersOf 57 = .ok (.ireturn, 1) := by decide +kernel
theorem dX4_numbersOf_58 : decode cX4_numbersOf 58 = .ok (.iconst 2, 1) := by decide +kernel
theorem dX4_numbersOf_59 : decode cX4_numbersOf 59 = .ok (.ireturn, 1) := by decide +kernel
theorem dX4_numbersOf_60 : decode cX4_numbersOf 60 = .ok (.iconst 1, 1) := by decide +kernel
theorem dX4_numbersOf_61 : decode cX4_numbersOf 61 = .ok (.ireturn, 1) := by decide +kernel
theorem dX4_numbersOf_62 : decode cX4_numbersOf 62 = .ok (.iconst 0, 1) := by decide +kernel
theorem dX4_numbersOf_63 : decode cX4_numbersOf 63 = .ok (.ireturn, 1) := by decide +kernel
theorem dX4_least_0 : decode cX4_least 0 = .ok (.iload_n 0, 1) := by decide +kernel
theorem dX4_least_1 : decode cX4_least 1 = .ok (.tableswitch 68 1 9 #[51, 68, 68, 68, 68, 68, 63, 66, 66], 51) := by decide +kernel
theorem dX4_least_52 : decode cX4_least 52 = .ok (.iload_n 1, 1) := by decide +kernel
theorem dX4_least_53 : decode cX4_least 53 = .ok (.iconst 2, 1) := by decide +kernel
theorem dX4_least_54 : decode cX4_least 54 = .ok (.if_icmp .ge 8, 3) := by decide +kernel
theorem dX4_least_57 : decode cX4_least 57 = .ok (.bipush (-60), 2) := by decide +kernel
theorem dX4_least_59 : decode cX4_least 59 = .ok (.goto 4, 3) := by decide +kernel
theorem dX4_least_62 : decode cX4_least 62 = .ok (.iconst 1, 1) := by decide +kernel
theorem dX4_least_63 : decode cX4_least 63 = .ok (.ireturn, 1) := by decide +kernel
theorem dX4_least_64 : decode cX4_least 64 = .ok (.bipush (-99), 2) := by decide +kernel
theorem dX4_least_66 : decode cX4_least 66 = .ok (.ireturn, 1) := by decide +kernel
theorem dX4_least_67 : decode cX4_least 67 = .ok (.iconst 1, 1) := by decide +kernel
theorem dX4_least_68 : decode cX4_least 68 = .ok (.ireturn, 1) := by decide +kernel
theorem dX4_least_69 : decode cX4_least 69 = .ok (.iconst 0, 1) := by decide +kernel
theorem dX4_least_70 : decode cX4_least 70 = .ok (.ireturn, 1) := by decide +kernel
theorem dX4_greatest_0 : decode cX4_greatest 0 = .ok (.iload_n 0, 1) := by decide +kernel
theorem dX4_greatest_1 : decode cX4_greatest 1 = .ok (.tableswitch 70 1 9 #[51, 70, 70, 70, 70, 70, 64, 67, 67], 51) := by decide +kernel
theorem dX4_greatest_52 : decode cX4_greatest 52 = .ok (.iload_n 1, 1) := by decide +kernel
theorem dX4_greatest_53 : decode cX4_greatest 53 = .ok (.iconst 2, 1) := by decide +kernel
theorem dX4_greatest_54 : decode cX4_greatest 54 = .ok (.if_icmp .ge 8, 3) := by decide +kernel
theorem dX4_greatest_57 : decode cX4_greatest 57 = .ok (.bipush 59, 2) := by decide +kernel
theorem dX4_greatest_59 : decode cX4_greatest 59 = .ok (.goto 5, 3) := by decide +kernel
theorem dX4_greatest_62 : decode cX4_greatest 62 = .ok (.bipush 99, 2) := by decide +kernel
theorem dX4_greatest_64 : decode cX4_greatest 64 = .ok (.ireturn, 1) := by decide +kernel
theorem dX4_greatest_65 : decode cX4_greatest 65 = .ok (.bipush 99, 2) := by decide +kernel
theorem dX4_greatest_67 : decode cX4_greatest 67 = .ok (.ireturn, 1) := by decide +kernel
theorem dX4_greatest_68 : decode cX4_greatest 68 = .ok (.bipush 9, 2) := by decide +kernel
theorem dX4_greatest_70 : decode cX4_greatest 70 = .ok (.ireturn, 1) := by decide +kernel
theorem dX4_greatest_71 : decode cX4_greatest 71 = .ok (.iconst 4, 1) := by decide +kernel
theorem dX4_greatest_72 : decode cX4_greatest 72 = .ok (.ireturn, 1) := by decide +kernel
theorem dX4_readNext_0 : decode cX4_readNext 0 = .ok (.aload_n 0, 1) := by decide +kernel
theorem dX4_readNext_1 : decode cX4_readNext 1 = .ok (.getfield 26, 3) := by decide +kernel
theorem dX4_readNext_4 : decode cX4_readNext 4 = .ok (.aload_n 0, 1) := by decide +kernel
theorem dX4_readNext_5 : decode cX4_readNext 5 = .ok (.getfield 19, 3) := by decide +kernel
theorem dX4_readNext_8 : decode cX4_readNext 8 = .ok (.if_icmp .ge 30, 3) := by decide +kernel
theorem dX4_readNext_11 : decode cX4_readNext 11 = .ok (.aload_n 0, 1) := by decide +kernel
theorem dX4_readNext_12 : decode cX4_readNext 12 = .ok (.getfield 9, 3) := by decide +kernel
theorem dX4_readNext_15 : decode cX4_readNext 15 = .ok (.aload_n 0, 1) := by decide +kernel
theorem dX4_readNext_16 : decode cX4_readNext 16 = .ok (.getfield 26, 3) := by decide +kernel
theorem dX4_readNext_19 : decode cX4_readNext 19 = .ok (.baload, 1) := by decide +kernel
theorem dX4_readNext_20 : decode cX4_readNext 20 = .ok (.bipush 32, 2) := by decide +kernel
theorem dX4_readNext_22 : decode cX4_readNext 22 = .ok (.if_icmp .ne 16, 3) := by decide +kernel
theorem dX4_readNext_25 : decode cX4_readNext 25 = .ok (.aload_n 0, 1) := by decide +kernel
theorem dX4_readNext_26 : decode cX4_readNext 26 = .ok (.dup, 1) := by decide +kernel
theorem dX4_readNext_27 : decode cX4_readNext 27 = .ok (.getfield 26, 3) := by decide +kernel
theorem dX4_readNext_30 : decode cX4_readNext 30 = .ok (.iconst 1, 1) := by decide +kernel
theorem dX4_readNext_31 : decode cX4_readNext 31 = .ok (.iadd, 1) := by decide +kernel
theorem dX4_readNext_32 : decode cX4_readNext 32 = .ok (.putfield 26, 3) := by decide +kernel
theorem dX4_readNext_35 : decode cX4_readNext 35 = .ok (.goto (-35), 3) := by decide +kernel
theorem dX4_readNext_38 : decode cX4_readNext 38 = .ok (.aload_n 0, 1) := by decide +kernel
theorem dX4_readNext_39 : decode cX4_readNext 39 = .ok (.aload_n 0, 1) := by decide +kernel
theorem dX4_readNext_40 : decode cX4_readNext 40 = .ok (.getfield 26, 3) := by decide +kernel
theorem dX4_readNext_43 : decode cX4_readNext 43 = .ok (.putfield 35, 3) := by decide +kernel
theorem dX4_readNext_46 : decode cX4_readNext 46 = .ok (.aload_n 0, 1) := by decide +kernel
theorem dX4_readNext_47 : decode cX4_readNext 47 = .ok (.getfield 26, 3) := by decide +kernel
theorem dX4_readNext_50 : decode cX4_readNext 50 = .ok (.aload_n 0, 1) := by decide +kernel
theorem dX4_readNext_51 : decode cX4_readNext 51 = .ok (.getfield 19, 3) := by decide +kernel
theorem dX4_readNext_54 : decode cX4_readNext 54 = .ok (.if_icmp .lt 11, 3) := by decide +kernel
theorem dX4_readNext_57 : decode cX4_readNext 57 = .ok (.aload_n 0, 1) := by decide +kernel
theorem dX4_readNext_58 : decode cX4_readNext 58 = .ok (.iconst 0, 1) := by decide +kernel
theorem dX4_readNext_59 : decode cX4_readNext 59 = .ok (.putfield 32, 3) := by decide +kernel
theorem dX4_readNext_62 : decode cX4_readNext 62 = .ok (.goto 86, 3) := by decide +kernel
theorem dX4_readNext_65 : decode cX4_readNext 65 = .ok (.aload_n 0, 1) := by decide +kernel
theorem dX4_readNext_66 : decode cX4_readNext 66 = .ok (.aload_n 0, 1) := by decide +kernel
theorem dX4_readNext_67 : decode cX4_readNext 67 = .ok (.getfield 26, 3) := by decide +kernel
theorem dX4_readNext_70 : decode cX4_readNext 70 = .ok (.invokevirtual 64, 3) := by decide +kernel
theorem dX4_readNext_73 : decode cX4_readNext 73 = .ok (.ifCond .eq 10, 3) := by decide +kernel
theorem dX4_readNext_76 : decode cX4_readNext 76 = .ok (.aload_n 0, 1) := by decide +kernel
theorem dX4_readNext_77 : decode cX4_readNext 77 = .ok (.invokevirtual 67, 3) := by decide +kernel
theorem dX4_readNext_80 : decode cX4_readNext 80 = .ok (.goto 68, 3) := by decide +kernel
theorem dX4_readNext_83 : decode cX4_readNext 83 = .ok (.aload_n 0, 1) := by decide +kernel
theorem dX4_readNext_84 : decode cX4_readNext 84 = .ok (.getfield 9, 3) := by decide +kernel
theorem dX4_readNext_87 : decode cX4_readNext 87 = .ok (.aload_n 0, 1) := by decide +kernel
theorem dX4_readNext_88 : decode cX4_readNext 88 = .ok (.getfield 26, 3) := by decide +kernel
theorem dX4_readNext_91 : decode cX4_readNext 91 = .ok (.baload, 1) := by decide +kernel
theorem dX4_readNext_92 : decode cX4_readNext 92 = .ok (.bipush 45, 2) := by decide +kernel
theorem dX4_readNext_94 : decode cX4_readNext 94 = .ok (.if_icmp .eq 14, 3) := by decide +kernel
theorem dX4_readNext_97 : decode cX4_readNext 97 = .ok (.aload_n 0, 1) := by decide +kernel
theorem dX4_readNext_98 : decode cX4_readNext 98 = .ok (.aload_n 0, 1) := by decide +kernel
theorem dX4_readNext_99 : decode cX4_readNext 99 = .ok (.getfield 26, 3) := by decide +kernel
theorem dX4_readNext_102 : decode cX4_readNext 102 = .ok (.invokevirtual 70, 3) := by decide +kernel
theorem dX4_readNext_105 : decode cX4_readNext 105 = .ok (.ifCond .eq 10, 3) := by decide +kernel
theorem dX4_readNext_108 : decode cX4_readNext 108 = .ok (.aload_n 0, 1) := by decide +kernel
theorem dX4_readNext_109 : decode cX4_readNext 109 = .ok (.invokevirtual 73, 3) := by decide +kernel
theorem dX4_readNext_112 : decode cX4_readNext 112 = .ok (.goto 36, 3) := by decide +kernel
theorem dX4_readNext_115 : decode cX4_readNext 115 = .ok (.aload_n 0, 1) := by decide +kernel
theorem dX4_readNext_116 : decode cX4_readNext 116 = .ok (.aload_n 0, 1) := by decide +kernel
theorem dX4_readNext_117 : decode cX4_readNext 117 = .ok (.getfield 9, 3) := by decide +kernel
theorem dX4_readNext_120 : decode cX4_readNext 120 = .ok (.aload_n 0, 1) := by decide +kernel
theorem dX4_readNext_121 : decode cX4_readNext 121 = .ok (.getfield 26, 3) := by decide +kernel
theorem dX4_readNext_124 : decode cX4_readNext 124 = .ok (.baload, 1) := by decide +kernel
theorem dX4_readNext_125 : decode cX4_readNext 125 = .ok (.bipush 59, 2) := by decide +kernel
theorem dX4_readNext_127 : decode cX4_readNext 127 = .ok (.if_icmp .ne 7, 3) := by decide +kernel
theorem dX4_readNext_130 : decode cX4_readNext 130 = .ok (.iconst 3, 1) := by decide +kernel
theorem dX4_readNext_131 : decode cX4_readNext 131 = .ok (.goto 4, 3) := by decide +kernel
theorem dX4_readNext_134 : decode cX4_readNext 134 = .ok (.iconst 4, 1) := by decide +kernel
theorem dX4_readNext_135 : decode cX4_readNext 135 = .ok (.putfield 32, 3) := by decide +kernel
theorem dX4_readNext_138 : decode cX4_readNext 138 = .ok (.aload_n 0, 1) := by decide +kernel
theorem dX4_readNext_139 : decode cX4_readNext 139 = .ok (.dup, 1) := by decide +kernel
theorem dX4_readNext_140 : decode cX4_readNext 140 = .ok (.getfield 26, 3) := by decide +kernel
theorem dX4_readNext_143 : decode cX4_readNext 143 = .ok (.iconst 1, 1) := by decide +kernel
theorem dX4_readNext_144 : decode cX4_readNext 144 = .ok (.iadd, 1) := by decide +kernel
theorem dX4_readNext_145 : decode cX4_readNext 145 = .ok (.putfield 26, 3) := by decide +kernel
theorem dX4_readNext_148 : decode cX4_readNext 148 = .ok (.return_, 1) := by decide +kernel
theorem dX4_readWord_0 : decode cX4_readWord 0 = .ok (.aload_n 0, 1) := by decide +kernel
theorem dX4_readWord_1 : decode cX4_readWord 1 = .ok (.getfield 26, 3) := by decide +kernel
theorem dX4_readWord_4 : decode cX4_readWord 4 = .ok (.aload_n 0, 1) := by decide +kernel
theorem dX4_readWord_5 : decode cX4_readWord 5 = .ok (.getfield 19, 3) := by decide +kernel
theorem dX4_readWord_8 : decode cX4_readWord 8 = .ok (.if_icmp .ge 27, 3) := by decide +kernel
theorem dX4_readWord_11 : decode cX4_readWord 11 = .ok (.aload_n 0, 1) := by decide +kernel
theorem dX4_readWord_12 : decode cX4_readWord 12 = .ok (.aload_n 0, 1) := by decide +kernel
theorem dX4_readWord_13 : decode cX4_readWord 13 = .ok (.getfield 26, 3) := by decide +kernel
theorem dX4_readWord_16 : decode cX4_readWord 16 = .ok (.invokevirtual 64, 3) := by decide +kernel
theorem dX4_readWord_19 : decode cX4_readWord 19 = .ok (.ifCond .eq 16, 3) := by decide +kernel
theorem dX4_readWord_22 : decode cX4_readWord 22 = .ok (.aload_n 0, 1) := by decide +kernel
theorem dX4_readWord_23 : decode cX4_readWord 23 = .ok (.dup, 1) := by decide +kernel
theorem dX4_readWord_24 : decode cX4_readWord 24 = .ok (.getfield 26, 3) := by decide +kernel
theorem dX4_readWord_27 : decode cX4_readWord 27 = .ok (.iconst 1, 1) := by decide +kernel
theorem dX4_readWord_28 : decode cX4_readWord 28 = .ok (.iadd, 1) := by decide +kernel
theorem dX4_readWord_29 : decode cX4_readWord 29 = .ok (.putfield 26, 3) := by decide +kernel
theorem dX4_readWord_32 : decode cX4_readWord 32 = .ok (.goto (-32), 3) := by decide +kernel
theorem dX4_readWord_35 : decode cX4_readWord 35 = .ok (.aload_n 0, 1) := by decide +kernel
theorem dX4_readWord_36 : decode cX4_readWord 36 = .ok (.iconst 0, 1) := by decide +kernel
theorem dX4_readWord_37 : decode cX4_readWord 37 = .ok (.putfield 46, 3) := by decide +kernel
theorem dX4_readWord_40 : decode cX4_readWord 40 = .ok (.aload_n 0, 1) := by decide +kernel
theorem dX4_readWord_41 : decode cX4_readWord 41 = .ok (.getfield 46, 3) := by decide +kernel
theorem dX4_readWord_44 : decode cX4_readWord 44 = .ok (.bipush 12, 2) := by decide +kernel
theorem dX4_readWord_46 : decode cX4_readWord 46 = .ok (.if_icmp .ge 27, 3) := by decide +kernel
theorem dX4_readWord_49 : decode cX4_readWord 49 = .ok (.aload_n 0, 1) := by decide +kernel
theorem dX4_readWord_50 : decode cX4_readWord 50 = .ok (.aload_n 0, 1) := by decide +kernel
theorem dX4_readWord_51 : decode cX4_readWord 51 = .ok (.getfield 46, 3) := by decide +kernel
theorem dX4_readWord_54 : decode cX4_readWord 54 = .ok (.invokevirtual 76, 3) := by decide +kernel
theorem dX4_readWord_57 : decode cX4_readWord 57 = .ok (.ifCond .ne 16, 3) := by decide +kernel
theorem dX4_readWord_60 : decode cX4_readWord 60 = .ok (.aload_n 0, 1) := by decide +kernel
theorem dX4_readWord_61 : decode cX4_readWord 61 = .ok (.dup, 1) := by decide +kernel
theorem dX4_readWord_62 : decode cX4_readWord 62 = .ok (.getfield 46, 3) := by decide +kernel
theorem dX4_readWord_65 : decode cX4_readWord 65 = .ok (.iconst 1, 1) := by decide +kernel
theorem dX4_readWord_66 : decode cX4_readWord 66 = .ok (.iadd, 1) := by decide +kernel
theorem dX4_readWord_67 : decode cX4_readWord 67 = .ok (.putfield 46, 3) := by decide +kernel
theorem dX4_readWord_70 : decode cX4_readWord 70 = .ok (.goto (-30), 3) := by decide +kernel
theorem dX4_readWord_73 : decode cX4_readWord 73 = .ok (.aload_n 0, 1) := by decide +kernel
theorem dX4_readWord_74 : decode cX4_readWord 74 = .ok (.aload_n 0, 1) := by decide +kernel
theorem dX4_readWord_75 : decode cX4_readWord 75 = .ok (.getfield 46, 3) := by decide +kernel
theorem dX4_readWord_78 : decode cX4_readWord 78 = .ok (.bipush 12, 2) := by decide +kernel
theorem dX4_readWord_80 : decode cX4_readWord 80 = .ok (.if_icmp .ge 7, 3) := by decide +kernel
theorem dX4_readWord_83 : decode cX4_readWord 83 = .ok (.iconst 1, 1) := by decide +kernel
theorem dX4_readWord_84 : decode cX4_readWord 84 = .ok (.goto 4, 3) := by decide +kernel
theorem dX4_readWord_87 : decode cX4_readWord 87 = .ok (.iconst 4, 1) := by decide +kernel
theorem dX4_readWord_88 : decode cX4_readWord 88 = .ok (.putfield 32, 3) := by decide +kernel
theorem dX4_readWord_91 : decode cX4_readWord 91 = .ok (.return_, 1) := by decide +kernel
theorem dX4_isWord_0 : decode cX4_isWord 0 = .ok (.aload_n 0, 1) := by decide +kernel
theorem dX4_isWord_1 : decode cX4_isWord 1 = .ok (.getfield 26, 3) := by decide +kernel
theorem dX4_isWord_4 : decode cX4_isWord 4 = .ok (.aload_n 0, 1) := by decide +kernel
theorem dX4_isWord_5 : decode cX4_isWord 5 = .ok (.getfield 35, 3) := by decide +kernel
theorem dX4_isWord_8 : decode cX4_isWord 8 = .ok (.isub, 1) := by decide +kernel
theorem dX4_isWord_9 : decode cX4_isWord 9 = .ok (.bipush 6, 2) := by decide +kernel
theorem dX4_isWord_11 : decode cX4_isWord 11 = .ok (.if_icmp .le 5, 3) := by decide +kernel
theorem dX4_isWord_14 : decode cX4_isWord 14 = .ok (.iconst 0, 1) := by decide +kernel
theorem dX4_isWord_15 : decode cX4_isWord 15 = .ok (.ireturn, 1) := by decide +kernel
theorem dX4_isWord_16 : decode cX4_isWord 16 = .ok (.iconst 0, 1) := by decide +kernel
theorem dX4_isWord_17 : decode cX4_isWord 17 = .ok (.istore_n 2, 1) := by decide +kernel
theorem dX4_isWord_18 : decode cX4_isWord 18 = .ok (.iload_n 2, 1) := by decide +kernel
theorem dX4_isWord_19 : decode cX4_isWord 19 = .ok (.bipush 6, 2) := by decide +kernel
theorem dX4_isWord_21 : decode cX4_isWord 21 = .ok (.if_icmp .ge 56, 3) := by decide +kernel
theorem dX4_isWord_24 : decode cX4_isWord 24 = .ok (.aload_n 0, 1) := by decide +kernel
theorem dX4_isWord_25 : decode cX4_isWord 25 = .ok (.getfield 35, 3) := by decide +kernel
theorem dX4_isWord_28 : decode cX4_isWord 28 = .ok (.iload_n 2, 1) := by decide +kernel
theorem dX4_isWord_29 : decode cX4_isWord 29 = .ok (.iadd, 1) := by decide +kernel
theorem dX4_isWord_30 : decode cX4_isWord 30 = .ok (.aload_n 0, 1) := by decide +kernel
theorem dX4_isWord_31 : decode cX4_isWord 31 = .ok (.getfield 26, 3) := by decide +kernel
theorem dX4_isWord_34 : decode cX4_isWord 34 = .ok (.if_icmp .ge 17, 3) := by decide +kernel
theorem dX4_isWord_37 : decode cX4_isWord 37 = .ok (.aload_n 0, 1) := by decide +kernel
theorem dX4_isWord_38 : decode cX4_isWord 38 = .ok (.getfield 9, 3) := by decide +kernel
theorem dX4_isWord_41 : decode cX4_isWord 41 = .ok (.aload_n 0, 1) := by decide +kernel
theorem dX4_isWord_42 : decode cX4_isWord 42 = .ok (.getfield 35, 3) := by decide +kernel
theorem dX4_isWord_45 : decode cX4_isWord 45 = .ok (.iload_n 2, 1) := by decide +kernel
theorem dX4_isWord_46 : decode cX4_isWord 46 = .ok (.iadd, 1) := by decide +kernel
theorem dX4_isWord_47 : decode cX4_isWord 47 = .ok (.baload, 1) := by decide +kernel
theorem dX4_isWord_48 : decode cX4_isWord 48 = .ok (.goto 5, 3) := by decide +kernel
theorem dX4_isWord_51 : decode cX4_isWord 51 = .ok (.bipush 32, 2) := by decide +kernel
theorem dX4_isWord_53 : decode cX4_isWord 53 = .ok (.istore_n 3, 1) := by decide +kernel
theorem dX4_isWord_54 : decode cX4_isWord 54 = .ok (.ldc 79, 2) := by decide +kernel
theorem dX4_isWord_56 : decode cX4_isWord 56 = .ok (.iload_n 1, 1) := by decide +kernel
theorem dX4_isWord_57 : decode cX4_isWord 57 = .ok (.bipush 6, 2) := by decide +kernel
theorem dX4_isWord_59 : decode cX4_isWord 59 = .ok (.imul, 1) := by decide +kernel
theorem dX4_isWord_60 : decode cX4_isWord 60 = .ok (.iload_n 2, 1) := by decide +kernel
theorem dX4_isWord_61 : decode cX4_isWord 61 = .ok (.iadd, 1) := by decide +kernel
theorem dX4_isWord_62 : decode cX4_isWord 62 = .ok (.invokevirtual 81, 3) := by decide +kernel
theorem dX4_isWord_65 : decode cX4_isWord 65 = .ok (.iload_n 3, 1) := by decide +kernel
theorem dX4_isWord_66 : decode cX4_isWord 66 = .ok (.if_icmp .eq 5, 3) := by decide +kernel
theorem dX4_isWord_69 : decode cX4_isWord 69 = .ok (.iconst 0, 1) := by decide +kernel
theorem dX4_isWord_70 : decode cX4_isWord 70 = .ok (.ireturn, 1) := by decide +kernel
theorem dX4_isWord_71 : decode cX4_isWord 71 = .ok (.iinc 2 1, 3) := by decide +kernel
theorem dX4_isWord_74 : decode cX4_isWord 74 = .ok (.goto (-56), 3) := by decide +kernel
theorem dX4_isWord_77 : decode cX4_isWord 77 = .ok (.iconst 1, 1) := by decide +kernel
theorem dX4_isWord_78 : decode cX4_isWord 78 = .ok (.ireturn, 1) := by decide +kernel
theorem dX4_readNumber_0 : decode cX4_readNumber 0 = .ok (.aload_n 0, 1) := by decide +kernel
theorem dX4_readNumber_1 : decode cX4_readNumber 1 = .ok (.getfield 9, 3) := by decide +kernel
theorem dX4_readNumber_4 : decode cX4_readNumber 4 = .ok (.aload_n 0, 1) := by decide +kernel
theorem dX4_readNumber_5 : decode cX4_readNumber 5 = .ok (.getfield 26, 3) := by decide +kernel
theorem dX4_readNumber_8 : decode cX4_readNumber 8 = .ok (.baload, 1) := by decide +kernel
theorem dX4_readNumber_9 : decode cX4_readNumber 9 = .ok (.bipush 45, 2) := by decide +kernel
theorem dX4_readNumber_11 : decode cX4_readNumber 11 = .ok (.if_icmp .ne 7, 3) := by decide +kernel
theorem dX4_readNumber_14 : decode cX4_readNumber 14 = .ok (.iconst 1, 1) := by decide +kernel
theorem dX4_readNumber_15 : decode cX4_readNumber 15 = .ok (.goto 4, 3) := by decide +kernel
theorem dX4_readNumber_18 : decode cX4_readNumber 18 = .ok (.iconst 0, 1) := by decide +kernel
theorem dX4_readNumber_19 : decode cX4_readNumber 19 = .ok (.istore_n 1, 1) := by decide +kernel
theorem dX4_readNumber_20 : decode cX4_readNumber 20 = .ok (.iload_n 1, 1) := by decide +kernel
theorem dX4_readNumber_21 : decode cX4_readNumber 21 = .ok (.ifCond .eq 13, 3) := by decide +kernel
theorem dX4_readNumber_24 : decode cX4_readNumber 24 = .ok (.aload_n 0, 1) := by decide +kernel
theorem dX4_readNumber_25 : decode cX4_readNumber 25 = .ok (.dup, 1) := by decide +kernel
theorem dX4_readNumber_26 : decode cX4_readNumber 26 = .ok (.getfield 26, 3) := by decide +kernel
theorem dX4_readNumber_29 : decode cX4_readNumber 29 = .ok (.iconst 1, 1) := by decide +kernel
theorem dX4_readNumber_30 : decode cX4_readNumber 30 = .ok (.iadd, 1) := by decide +kernel
theorem dX4_readNumber_31 : decode cX4_readNumber 31 = .ok (.putfield 26, 3) := by decide +kernel
theorem dX4_readNumber_34 : decode cX4_readNumber 34 = .ok (.iconst 0, 1) := by decide +kernel
theorem dX4_readNumber_35 : decode cX4_readNumber 35 = .ok (.istore_n 2, 1) := by decide +kernel
theorem dX4_readNumber_36 : decode cX4_readNumber 36 = .ok (.iconst 0, 1) := by decide +kernel
theorem dX4_readNumber_37 : decode cX4_readNumber 37 = .ok (.istore_n 3, 1) := by decide +kernel
theorem dX4_readNumber_38 : decode cX4_readNumber 38 = .ok (.aload_n 0, 1) := by decide +kernel
theorem dX4_readNumber_39 : decode cX4_readNumber 39 = .ok (.getfield 26, 3) := by decide +kernel
theorem dX4_readNumber_42 : decode cX4_readNumber 42 = .ok (.aload_n 0, 1) := by decide +kernel
theorem dX4_readNumber_43 : decode cX4_readNumber 43 = .ok (.getfield 19, 3) := by decide +kernel
theorem dX4_readNumber_46 : decode cX4_readNumber 46 = .ok (.if_icmp .ge 57, 3) := by decide +kernel
theorem dX4_readNumber_49 : decode cX4_readNumber 49 = .ok (.aload_n 0, 1) := by decide +kernel
theorem dX4_readNumber_50 : decode cX4_readNumber 50 = .ok (.aload_n 0, 1) := by decide +kernel
theorem dX4_readNumber_51 : decode cX4_readNumber 51 = .ok (.getfield 26, 3) := by decide +kernel
theorem dX4_readNumber_54 : decode cX4_readNumber 54 = .ok (.invokevirtual 70, 3) := by decide +kernel
theorem dX4_readNumber_57 : decode cX4_readNumber 57 = .ok (.ifCond .eq 46, 3) := by decide +kernel
theorem dX4_readNumber_60 : decode cX4_readNumber 60 = .ok (.iload_n 2, 1) := by decide +kernel
theorem dX4_readNumber_61 : decode cX4_readNumber 61 = .ok (.iconst 2, 1) := by decide +kernel
theorem dX4_readNumber_62 : decode cX4_readNumber 62 = .ok (.if_icmp .ge 23, 3) := by decide +kernel
theorem dX4_readNumber_65 : decode cX4_readNumber 65 = .ok (.bipush 10, 2) := by decide +kernel
theorem dX4_readNumber_67 : decode cX4_readNumber 67 = .ok (.iload_n 3, 1) := by decide +kernel
theorem dX4_readNumber_68 : decode cX4_readNumber 68 = .ok (.imul, 1) := by decide +kernel
theorem dX4_readNumber_69 : decode cX4_readNumber 69 = .ok (.aload_n 0, 1) := by decide +kernel
theorem dX4_readNumber_70 : decode cX4_readNumber 70 = .ok (.getfield 9, 3) := by decide +kernel
theorem dX4_readNumber_73 : decode cX4_readNumber 73 = .ok (.aload_n 0, 1) := by decide +kernel
theorem dX4_readNumber_74 : decode cX4_readNumber 74 = .ok (.getfield 26, 3) := by decide +kernel
theorem dX4_readNumber_77 : decode cX4_readNumber 77 = .ok (.baload, 1) := by decide +kernel
theorem dX4_readNumber_78 : decode cX4_readNumber 78 = .ok (.iadd, 1) := by decide +kernel
theorem dX4_readNumber_79 : decode cX4_readNumber 79 = .ok (.bipush 48, 2) := by decide +kernel
theorem dX4_readNumber_81 : decode cX4_readNumber 81 = .ok (.isub, 1) := by decide +kernel
theorem dX4_readNumber_82 : decode cX4_readNumber 82 = .ok (.goto 4, 3) := by decide +kernel
theorem dX4_readNumber_85 : decode cX4_readNumber 85 = .ok (.iload_n 3, 1) := by decide +kernel
theorem dX4_readNumber_86 : decode cX4_readNumber 86 = .ok (.istore_n 3, 1) := by decide +kernel
theorem dX4_readNumber_87 : decode cX4_readNumber 87 = .ok (.iinc 2 1, 3) := by decide +kernel
theorem dX4_readNumber_90 : decode cX4_readNumber 90 = .ok (.aload_n 0, 1) := by decide +kernel
theorem dX4_readNumber_91 : decode cX4_readNumber 91 = .ok (.dup, 1) := by decide +kernel
theorem dX4_readNumber_92 : decode cX4_readNumber 92 = .ok (.getfield 26, 3) := by decide +kernel
theorem dX4_readNumber_95 : decode cX4_readNumber 95 = .ok (.iconst 1, 1) := by decide +kernel
theorem dX4_readNumber_96 : decode cX4_readNumber 96 = .ok (.iadd, 1) := by decide +kernel
theorem dX4_readNumber_97 : decode cX4_readNumber 97 = .ok (.putfield 26, 3) := by decide +kernel
theorem dX4_readNumber_100 : decode cX4_readNumber 100 = .ok (.goto (-62), 3) := by decide +kernel
theorem dX4_readNumber_103 : decode cX4_readNumber 103 = .ok (.aload_n 0, 1) := by decide +kernel
theorem dX4_readNumber_104 : decode cX4_readNumber 104 = .ok (.iload_n 2, 1) := by decide +kernel
theorem dX4_readNumber_105 : decode cX4_readNumber 105 = .ok (.iconst 1, 1) := by decide +kernel
theorem dX4_readNumber_106 : decode cX4_readNumber 106 = .ok (.if_icmp .eq 8, 3) := by decide +kernel
theorem dX4_readNumber_109 : decode cX4_readNumber 109 = .ok (.iload_n 2, 1) := by decide +kernel
theorem dX4_readNumber_110 : decode cX4_readNumber 110 = .ok (.iconst 2, 1) := by decide +kernel
theorem dX4_readNumber_111 : decode cX4_readNumber 111 = .ok (.if_icmp .ne 7, 3) := by decide +kernel
theorem dX4_readNumber_114 : decode cX4_readNumber 114 = .ok (.iconst 2, 1) := by decide +kernel
theorem dX4_readNumber_115 : decode cX4_readNumber 115 = .ok (.goto 4, 3) := by decide +kernel
theorem dX4_readNumber_118 : decode cX4_readNumber 118 = .ok (.iconst 4, 1) := by decide +kernel
theorem dX4_readNumber_119 : decode cX4_readNumber 119 = .ok (.putfield 32, 3) := by decide +kernel
theorem dX4_readNumber_122 : decode cX4_readNumber 122 = .ok (.aload_n 0, 1) := by decide +kernel
theorem dX4_readNumber_123 : decode cX4_readNumber 123 = .ok (.iload_n 1, 1) := by decide +kernel
theorem dX4_readNumber_124 : decode cX4_readNumber 124 = .ok (.ifCond .eq 8, 3) := by decide +kernel
theorem dX4_readNumber_127 : decode cX4_readNumber 127 = .ok (.iload_n 3, 1) := by decide +kernel
theorem dX4_readNumber_128 : decode cX4_readNumber 128 = .ok (.ineg, 1) := by decide +kernel
theorem dX4_readNumber_129 : decode cX4_readNumber 129 = .ok (.goto 4, 3) := by decide +kernel
theorem dX4_readNumber_132 : decode cX4_readNumber 132 = .ok (.iload_n 3, 1) := by decide +kernel
theorem dX4_readNumber_133 : decode cX4_readNumber 133 = .ok (.putfield 46, 3) := by decide +kernel
theorem dX4_readNumber_136 : decode cX4_readNumber 136 = .ok (.return_, 1) := by decide +kernel
theorem dX4_isLetter_0 : decode cX4_isLetter 0 = .ok (.aload_n 0, 1) := by decide +kernel
theorem dX4_isLetter_1 : decode cX4_isLetter 1 = .ok (.getfield 9, 3) := by decide +kernel
theorem dX4_isLetter_4 : decode cX4_isLetter 4 = .ok (.iload_n 1, 1) := by decide +kernel
theorem dX4_isLetter_5 : decode cX4_isLetter 5 = .ok (.baload, 1) := by decide +kernel
theorem dX4_isLetter_6 : decode cX4_isLetter 6 = .ok (.bipush 97, 2) := by decide +kernel
theorem dX4_isLetter_8 : decode cX4_isLetter 8 = .ok (.bipush 122, 2) := by decide +kernel
theorem dX4_isLetter_10 : decode cX4_isLetter 10 = .ok (.invokestatic 60, 3) := by decide +kernel
theorem dX4_isLetter_13 : decode cX4_isLetter 13 = .ok (.ireturn, 1) := by decide +kernel
theorem dX4_isFigure_0 : decode cX4_isFigure 0 = .ok (.aload_n 0, 1) := by decide +kernel
theorem dX4_isFigure_1 : decode cX4_isFigure 1 = .ok (.getfield 9, 3) := by decide +kernel
theorem dX4_isFigure_4 : decode cX4_isFigure 4 = .ok (.iload_n 1, 1) := by decide +kernel
theorem dX4_isFigure_5 : decode cX4_isFigure 5 = .ok (.baload, 1) := by decide +kernel
theorem dX4_isFigure_6 : decode cX4_isFigure 6 = .ok (.bipush 48, 2) := by decide +kernel
theorem dX4_isFigure_8 : decode cX4_isFigure 8 = .ok (.bipush 57, 2) := by decide +kernel
theorem dX4_isFigure_10 : decode cX4_isFigure 10 = .ok (.invokestatic 60, 3) := by decide +kernel
theorem dX4_isFigure_13 : decode cX4_isFigure 13 = .ok (.ireturn, 1) := by decide +kernel
theorem dX5_init_0 : decode cX5_init 0 = .ok (.aload_n 0, 1) := by decide +kernel
theorem dX5_init_1 : decode cX5_init 1 = .ok (.invokespecial 3, 3) := by decide +kernel
theorem dX5_init_4 : decode cX5_init 4 = .ok (.aload_n 0, 1) := by decide +kernel
theorem dX5_init_5 : decode cX5_init 5 = .ok (.iconst 5, 1) := by decide +kernel
theorem dX5_init_6 : decode cX5_init 6 = .ok (.anewarray 9, 3) := by decide +kernel
theorem dX5_init_9 : decode cX5_init 9 = .ok (.putfield 11, 3) := by decide +kernel
theorem dX5_init_12 : decode cX5_init 12 = .ok (.aload_n 0, 1) := by decide +kernel
theorem dX5_init_13 : decode cX5_init 13 = .ok (.iconst 5, 1) := by decide +kernel
theorem dX5_init_14 : decode cX5_init 14 = .ok (.anewarray 9, 3) := by decide +kernel
theorem dX5_init_17 : decode cX5_init 17 = .ok (.putfield 15, 3) := by decide +kernel
theorem dX5_init_20 : decode cX5_init 20 = .ok (.iconst 0, 1) := by decide +kernel
theorem dX5_init_21 : decode cX5_init 21 = .ok (.istore_n 1, 1) := by decide +kernel
theorem dX5_init_22 : decode cX5_init 22 = .ok (.iload_n 1, 1) := by decide +kernel
theorem dX5_init_23 : decode cX5_init 23 = .ok (.iconst 5, 1) := by decide +kernel
theorem dX5_init_24 : decode cX5_init 24 = .ok (.if_icmp .ge 35, 3) := by decide +kernel
theorem dX5_init_27 : decode cX5_init 27 = .ok (.aload_n 0, 1) := by decide +kernel
theorem dX5_init_28 : decode cX5_init 28 = .ok (.getfield 11, 3) := by decide +kernel
theorem dX5_init_31 : decode cX5_init 31 = .ok (.iload_n 1, 1) := by decide +kernel
theorem dX5_init_32 : decode cX5_init 32 = .ok (.new 9, 3) := by decide +kernel
theorem dX5_init_35 : decode cX5_init 35 = .ok (.dup, 1) := by decide +kernel
theorem dX5_init_36 : decode cX5_init 36 = .ok (.invokespecial 18, 3) := by decide +kernel
theorem dX5_init_39 : decode cX5_init 39 = .ok (.aastore, 1) := by decide +kernel
theorem dX5_init_40 : decode cX5_init 40 = .ok (.aload_n 0, 1) := by decide +kernel
theorem dX5_init_41 : decode cX5_init 41 = .ok (.getfield 15, 3) := by decide +kernel
theorem dX5_init_44 : decode cX5_init 44 = .ok (.iload_n 1, 1) := by decide +kernel
theorem dX5_init_45 : decode cX5_init 45 = .ok (.new 9, 3) := by decide +kernel
theorem dX5_init_48 : decode cX5_init 48 = .ok (.dup, 1) := by decide +kernel
theorem dX5_init_49 : decode cX5_init 49 = .ok (.invokespecial 18, 3) := by decide +kernel
theorem dX5_init_52 : decode cX5_init 52 = .ok (.aastore, 1) := by decide +kernel
theorem dX5_init_53 : decode cX5_init 53 = .ok (.iinc 1 1, 3) := by decide +kernel
theorem dX5_init_56 : decode cX5_init 56 = .ok (.goto (-34), 3) := by decide +kernel
theorem dX5_init_59 : decode cX5_init 59 = .ok (.aload_n 0, 1) := by decide +kernel
theorem dX5_init_60 : decode cX5_init 60 = .ok (.new 9, 3) := by decide +kernel
theorem dX5_init_63 : decode cX5_init 63 = .ok (.dup, 1) := by decide +kernel
theorem dX5_init_64 : decode cX5_init 64 = .ok (.invokespecial 18, 3) := by decide +kernel
theorem dX5_init_67 : decode cX5_init 67 = .ok (.putfield 19, 3) := by decide +kernel
theorem dX5_init_70 : decode cX5_init 70 = .ok (.aload_n 0, 1) := by decide +kernel
theorem dX5_init_71 : decode cX5_init 71 = .ok (.new 23, 3) := by decide +kernel
theorem dX5_init_74 : decode cX5_init 74 = .ok (.dup, 1) := by decide +kernel
theorem dX5_init_75 : decode cX5_init 75 = .ok (.invokespecial 25, 3) := by decide +kernel
theorem dX5_init_78 : decode cX5_init 78 = .ok (.putfield 26, 3) := by decide +kernel
theorem dX5_init_81 : decode cX5_init 81 = .ok (.aload_n 0, 1) := by decide +kernel
theorem dX5_init_82 : decode cX5_init 82 = .ok (.new 30, 3) := by decide +kernel
theorem dX5_init_85 : decode cX5_init 85 = .ok (.dup, 1) := by decide +kernel
theorem dX5_init_86 : decode cX5_init 86 = .ok (.invokespecial 32, 3) := by decide +kernel
theorem dX5_init_89 : decode cX5_init 89 = .ok (.putfield 33, 3) := by decide +kernel
theorem dX5_init_92 : decode cX5_init 92 = .ok (.aload_n 0, 1) := by decide +kernel
theorem dX5_init_93 : decode cX5_init 93 = .ok (.new 37, 3) := by decide +kernel
theorem dX5_init_96 : decode cX5_init 96 = .ok (.dup, 1) := by decide +kernel
theorem dX5_init_97 : decode cX5_init 97 = .ok (.invokespecial 39, 3) := by decide +kernel
theorem dX5_init_100 : decode cX5_init 100 = .ok (.putfield 40, 3) := by decide +kernel
theorem dX5_init_103 : decode cX5_init 103 = .ok (.aload_n 0, 1) := by decide +kernel
theorem dX5_init_104 : decode cX5_init 104 = .ok (.new 44, 3) := by decide +kernel
theorem dX5_init_107 : decode cX5_init 107 = .ok (.dup, 1) := by decide +kernel
theorem dX5_init_108 : decode cX5_init 108 = .ok (.invokespecial 46, 3) := by decide +kernel
theorem dX5_init_111 : decode cX5_init 111 = .ok (.putfield 47, 3) := by decide +kernel
theorem dX5_init_114 : decode cX5_init 114 = .ok (.aload_n 0, 1) := by decide +kernel
theorem dX5_init_115 : decode cX5_init 115 = .ok (.iconst 3, 1) := by decide +kernel
theorem dX5_init_116 : decode cX5_init 116 = .ok (.newarray .int, 2) := by decide +kernel
theorem dX5_init_118 : decode cX5_init 118 = .ok (.putfield 51, 3) := by decide +kernel
theorem dX5_init_121 : decode cX5_init 121 = .ok (.return_, 1) := by decide +kernel
theorem dX5_box_0 : decode cX5_box 0 = .ok (.iload_n 1, 1) := by decide +kernel
theorem dX5_box_1 : decode cX5_box 1 = .ok (.invokestatic 55, 3) := by decide +kernel
theorem dX5_box_4 : decode cX5_box 4 = .ok (.ifCond .eq 43, 3) := by decide +kernel
theorem dX5_box_7 : decode cX5_box 7 = .ok (.iload_n 2, 1) := by decide +kernel
theorem dX5_box_8 : decode cX5_box 8 = .ok (.invokestatic 55, 3) := by decide +kernel
theorem dX5_box_11 : decode cX5_box 11 = .ok (.ifCond .eq 36, 3) := by decide +kernel
theorem dX5_box_14 : decode cX5_box 14 = .ok (.iload_n 3, 1) := by decide +kernel
theorem dX5_box_15 : decode cX5_box 15 = .ok (.iconst 1, 1) := by decide +kernel
theorem dX5_box_16 : decode cX5_box 16 = .ok (.bipush 99, 2) := by decide +kernel
theorem dX5_box_18 : decode cX5_box 18 = .ok (.invokestatic 59, 3) := by decide +kernel
theorem dX5_box_21 : decode cX5_box 21 = .ok (.ifCond .eq 26, 3) := by decide +kernel
theorem dX5_box_24 : decode cX5_box 24 = .ok (.iload 4, 2) := by decide +kernel
theorem dX5_box_26 : decode cX5_box 26 = .ok (.iconst 1, 1) := by decide +kernel
theorem dX5_box_27 : decode cX5_box 27 = .ok (.bipush 99, 2) := by decide +kernel
theorem dX5_box_29 : decode cX5_box 29 = .ok (.invokestatic 59, 3) := by decide +kernel
theorem dX5_box_32 : decode cX5_box 32 = .ok (.ifCond .eq 15, 3) := by decide +kernel
theorem dX5_box_35 : decode cX5_box 35 = .ok (.iload 5, 2) := by decide +kernel
theorem dX5_box_37 : decode cX5_box 37 = .ok (.invokestatic 63, 3) := by decide +kernel
theorem dX5_box_40 : decode cX5_box 40 = .ok (.ifCond .eq 7, 3) := by decide +kernel
theorem dX5_box_43 : decode cX5_box 43 = .ok (.iconst 1, 1) := by decide +kernel
theorem dX5_box_44 : decode cX5_box 44 = .ok (.goto 4, 3) := by decide +kernel
theorem dX5_box_47 : decode cX5_box 47 = .ok (.iconst 0, 1) := by decide +kernel
theorem dX5_box_48 : decode cX5_box 48 = .ok (.istore 6, 2) := by decide +kernel
theorem dX5_box_50 : decode cX5_box 50 = .ok (.iload 6, 2) := by decide +kernel
theorem dX5_box_52 : decode cX5_box 52 = .ok (.ifCond .ne 11, 3) := by decide +kernel
theorem dX5_box_55 : decode cX5_box 55 = .ok (.aload_n 0, 1) := by decide +kernel
theorem dX5_box_56 : decode cX5_box 56 = .ok (.sipush (-202), 3) := by decide +kernel
theorem dX5_box_59 : decode cX5_box 59 = .ok (.invokevirtual 66, 3) := by decide +kernel
theorem dX5_box_62 : decode cX5_box 62 = .ok (.ireturn, 1) := by decide +kernel
theorem dX5_box_63 : decode cX5_box 63 = .ok (.aload_n 0, 1) := by decide +kernel
theorem dX5_box_64 : decode cX5_box 64 = .ok (.aload_n 0, 1) := by decide +kernel
theorem dX5_box_65 : decode cX5_box 65 = .ok (.iload_n 1, 1) := by decide +kernel
theorem dX5_box_66 : decode cX5_box 66 = .ok (.iload_n 2, 1) := by decide +kernel
theorem dX5_box_67 : decode cX5_box 67 = .ok (.iload_n 3, 1) := by decide +kernel
theorem dX5_box_68 : decode cX5_box 68 = .ok (.iload 4, 2) := by decide +kernel
theorem dX5_box_70 : decode cX5_box 70 = .ok (.invokevirtual 70, 3) := by decide +kernel
theorem dX5_box_73 : decode cX5_box 73 = .ok (.ifCond .eq 16, 3) := by decide +kernel
theorem dX5_box_76 : decode cX5_box 76 = .ok (.aload_n 0, 1) := by decide +kernel
theorem dX5_box_77 : decode cX5_box 77 = .ok (.aload_n 0, 1) := by decide +kernel
theorem dX5_box_78 : decode cX5_box 78 = .ok (.getfield 11, 3) := by decide +kernel
theorem dX5_box_81 : decode cX5_box 81 = .ok (.iload 5, 2) := by decide +kernel
theorem dX5_box_83 : decode cX5_box 83 = .ok (.invokevirtual 74, 3) := by decide +kernel
theorem dX5_box_86 : decode cX5_box 86 = .ok (.goto 6, 3) := by decide +kernel
theorem dX5_box_89 : decode cX5_box 89 = .ok (.sipush (-203), 3) := by decide +kernel
theorem dX5_box_92 : decode cX5_box 92 = .ok (.invokevirtual 66, 3) := by decide +kernel
theorem dX5_box_95 : decode cX5_box 95 = .ok (.ireturn, 1) := by decide +kernel
theorem dX5_mix_0 : decode cX5_mix 0 = .ok (.iload_n 1, 1) := by decide +kernel
theorem dX5_mix_1 : decode cX5_mix 1 = .ok (.iconst 0, 1) := by decide +kernel
theorem dX5_mix_2 : decode cX5_mix 2 = .ok (.iconst 3, 1) := by decide +kernel
theorem dX5_mix_3 : decode cX5_mix 3 = .ok (.invokestatic 59, 3) := by decide +kernel
theorem dX5_mix_6 : decode cX5_mix 6 = .ok (.ifCond .eq 25, 3) := by decide +kernel
theorem dX5_mix_9 : decode cX5_mix 9 = .ok (.iload_n 2, 1) := by decide +kernel
theorem dX5_mix_10 : decode cX5_mix 10 = .ok (.invokestatic 63, 3) := by decide +kernel
theorem dX5_mix_13 : decode cX5_mix 13 = .ok (.ifCond .eq 18, 3) := by decide +kernel
theorem dX5_mix_16 : decode cX5_mix 16 = .ok (.iload_n 3, 1) := by decide +kernel
theorem dX5_mix_17 : decode cX5_mix 17 = .ok (.invokestatic 63, 3) := by decide +kernel
theorem dX5_mix_20 : decode cX5_mix 20 = .ok (.ifCond .eq 11, 3) := by decide +kernel
theorem dX5_mix_23 : decode cX5_mix 23 = .ok (.iload 4, 2) := by decide +kernel
theorem dX5_mix_25 : decode cX5_mix 25 = .ok (.invokestatic 63, 3) := by decide +kernel
theorem dX5_mix_28 : decode cX5_mix 28 = .ok (.ifCond .ne 11, 3) := by decide +kernel
theorem dX5_mix_31 : decode cX5_mix 31 = .ok (.aload_n 0, 1) := by decide +kernel
theorem dX5_mix_32 : decode cX5_mix 32 = .ok (.sipush (-202), 3) := by decide +kernel
theorem dX5_mix_35 : decode cX5_mix 35 = .ok (.invokevirtual 66, 3) := by decide +kernel
theorem dX5_mix_38 : decode cX5_mix 38 = .ok (.ireturn, 1) := by decide +kernel
theorem dX5_mix_39 : decode cX5_mix 39 = .ok (.aload_n 0, 1) := by decide +kernel
theorem dX5_mix_40 : decode cX5_mix 40 = .ok (.getfield 19, 3) := by decide +kernel
theorem dX5_mix_43 : decode cX5_mix 43 = .ok (.iload_n 1, 1) := by decide +kernel
theorem dX5_mix_44 : decode cX5_mix 44 = .ok (.aload_n 0, 1) := by decide +kernel
theorem dX5_mix_45 : decode cX5_mix 45 = .ok (.getfield 11, 3) := by decide +kernel
theorem dX5_mix_48 : decode cX5_mix 48 = .ok (.iload_n 2, 1) := by decide +kernel
theorem dX5_mix_49 : decode cX5_mix 49 = .ok (.aaload, 1) := by decide +kernel
theorem dX5_mix_50 : decode cX5_mix 50 = .ok (.aload_n 0, 1) := by decide +kernel
theorem dX5_mix_51 : decode cX5_mix 51 = .ok (.getfield 11, 3) := by decide +kernel
theorem dX5_mix_54 : decode cX5_mix 54 = .ok (.iload_n 3, 1) := by decide +kernel
theorem dX5_mix_55 : decode cX5_mix 55 = .ok (.aaload, 1) := by decide +kernel
theorem dX5_mix_56 : decode cX5_mix 56 = .ok (.invokevirtual 78, 3) := by decide +kernel
theorem dX5_mix_59 : decode cX5_mix 59 = .ok (.aload_n 0, 1) := by decide +kernel
theorem dX5_mix_60 : decode cX5_mix 60 = .ok (.aload_n 0, 1) := by decide +kernel
theorem dX5_mix_61 : decode cX5_mix 61 = .ok (.aload_n 0, 1) := by decide +kernel
theorem dX5_mix_62 : decode cX5_mix 62 = .ok (.getfield 11, 3) := by decide +kernel
theorem dX5_mix_65 : decode cX5_mix 65 = .ok (.iload 4, 2) := by decide +kernel
theorem dX5_mix_67 : decode cX5_mix 67 = .ok (.invokevirtual 74, 3) := by decide +kernel
theorem dX5_mix_70 : decode cX5_mix 70 = .ok (.invokevirtual 66, 3) := by decide +kernel
theorem dX5_mix_73 : decode cX5_mix 73 = .ok (.ireturn, 1) := by decide +kernel
theorem dX5_move_0 : decode cX5_move 0 = .ok (.iload_n 1, 1) := by decide +kernel
theorem dX5_move_1 : decode cX5_move 1 = .ok (.invokestatic 63, 3) := by decide +kernel
theorem dX5_move_4 : decode cX5_move 4 = .ok (.ifCond .eq 33, 3) := by decide +kernel
theorem dX5_move_7 : decode cX5_move 7 = .ok (.iload_n 2, 1) := by decide +kernel
theorem dX5_move_8 : decode cX5_move 8 = .ok (.bipush (-120), 2) := by decide +kernel
theorem dX5_move_10 : decode cX5_move 10 = .ok (.bipush 120, 2) := by decide +kernel
theorem dX5_move_12 : decode cX5_move 12 = .ok (.invokestatic 59, 3) := by decide +kernel
theorem dX5_move_15 : decode cX5_move 15 = .ok (.ifCond .eq 22, 3) := by decide +kernel
theorem dX5_move_18 : decode cX5_move 18 = .ok (.iload_n 3, 1) := by decide +kernel
theorem dX5_move_19 : decode cX5_move 19 = .ok (.bipush (-120), 2) := by decide +kernel
theorem dX5_move_21 : decode cX5_move 21 = .ok (.bipush 120, 2) := by decide +kernel
theorem dX5_move_23 : decode cX5_move 23 = .ok (.invokestatic 59, 3) := by decide +kernel
theorem dX5_move_26 : decode cX5_move 26 = .ok (.ifCond .eq 11, 3) := by decide +kernel
theorem dX5_move_29 : decode cX5_move 29 = .ok (.iload 4, 2) := by decide +kernel
theorem dX5_move_31 : decode cX5_move 31 = .ok (.invokestatic 63, 3) := by decide +kernel
theorem dX5_move_34 : decode cX5_move 34 = .ok (.ifCond .ne 11, 3) := by decide +kernel
theorem dX5_move_37 : decode cX5_move 37 = .ok (.aload_n 0, 1) := by decide +kernel
theorem dX5_move_38 : decode cX5_move 38 = .ok (.sipush (-202), 3) := by decide +kernel
theorem dX5_move_41 : decode cX5_move 41 = .ok (.invokevirtual 66, 3) := by decide +kernel
theorem dX5_move_44 : decode cX5_move 44 = .ok (.ireturn, 1) := by decide +kernel
theorem dX5_move_45 : decode cX5_move 45 = .ok (.aload_n 0, 1) := by decide +kernel
theorem dX5_move_46 : decode cX5_move 46 = .ok (.aload_n 0, 1) := by decide +kernel
theorem dX5_move_47 : decode cX5_move 47 = .ok (.aload_n 0, 1) := by decide +kernel
theorem dX5_move_48 : decode cX5_move 48 = .ok (.getfield 11, 3) := by decide +kernel
theorem dX5_move_51 : decode cX5_move 51 = .ok (.iload_n 1, 1) := by decide +kernel
theorem dX5_move_52 : decode cX5_move 52 = .ok (.aaload, 1) := by decide +kernel
theorem dX5_move_53 : decode cX5_move 53 = .ok (.iload_n 2, 1) := by decide +kernel
theorem dX5_move_54 : decode cX5_move 54 = .ok (.iload_n 3, 1) := by decide +kernel
theorem dX5_move_55 : decode cX5_move 55 = .ok (.invokevirtual 82, 3) := by decide +kernel
theorem dX5_move_58 : decode cX5_move 58 = .ok (.ifCond .eq 16, 3) := by decide +kernel
theorem dX5_move_61 : decode cX5_move 61 = .ok (.aload_n 0, 1) := by decide +kernel
theorem dX5_move_62 : decode cX5_move 62 = .ok (.aload_n 0, 1) := by decide +kernel
theorem dX5_move_63 : decode cX5_move 63 = .ok (.getfield 11, 3) := by decide +kernel
theorem dX5_move_66 : decode cX5_move 66 = .ok (.iload 4, 2) := by decide +kernel
theorem dX5_move_68 : decode cX5_move 68 = .ok (.invokevirtual 74, 3) := by decide +kernel
theorem dX5_move_71 : decode cX5_move 71 = .ok (.goto 6, 3) := by decide +kernel
theorem dX5_move_74 : decode cX5_move 74 = .ok (.sipush (-203), 3) := by decide +kernel
theorem dX5_move_77 : decode cX5_move 77 = .ok (.invokevirtual 66, 3) := by decide +kernel
theorem dX5_move_80 : decode cX5_move 80 = .ok (.ireturn, 1) := by decide +kernel
theorem dX5_grow_0 : decode cX5_grow 0 = .ok (.iload_n 1, 1) := by decide +kernel
theorem dX5_grow_1 : decode cX5_grow 1 = .ok (.invokestatic 63, 3) := by decide +kernel
theorem dX5_grow_4 : decode cX5_grow 4 = .ok (.ifCond .eq 21, 3) := by decide +kernel
theorem dX5_grow_7 : decode cX5_grow 7 = .ok (.iload_n 2, 1) := by decide +kernel
theorem dX5_grow_8 : decode cX5_grow 8 = .ok (.bipush (-9), 2) := by decide +kernel
theorem dX5_grow_10 : decode cX5_grow 10 = .ok (.bipush 9, 2) := by decide +kernel
theorem dX5_grow_12 : decode cX5_grow 12 = .ok (.invokestatic 59, 3) := by decide +kernel
theorem dX5_grow_15 : decode cX5_grow 15 = .ok (.ifCond .eq 10, 3) := by decide +kernel
theorem dX5_grow_18 : decode cX5_grow 18 = .ok (.iload_n 3, 1) := by decide +kernel
theorem dX5_grow_19 : decode cX5_grow 19 = .ok (.invokestatic 63, 3) := by decide +kernel
theorem dX5_grow_22 : decode cX5_grow 22 = .ok (.ifCond .ne 11, 3) := by decide +kernel
theorem dX5_grow_25 : decode cX5_grow 25 = .ok (.aload_n 0, 1) := by decide +kernel
theorem dX5_grow_26 : decode cX5_grow 26 = .ok (.sipush (-202), 3) := by decide +kernel
theorem dX5_grow_29 : decode cX5_grow 29 = .ok (.invokevirtual 66, 3) := by decide +kernel
theorem dX5_grow_32 : decode cX5_grow 32 = .ok (.ireturn, 1) := by decide +kernel
theorem dX5_grow_33 : decode cX5_grow 33 = .ok (.aload_n 0, 1) := by decide +kernel
theorem dX5_grow_34 : decode cX5_grow 34 = .ok (.aload_n 0, 1) := by decide +kernel
theorem dX5_grow_35 : decode cX5_grow 35 = .ok (.getfield 11, 3) := by decide +kernel
theorem dX5_grow_38 : decode cX5_grow 38 = .ok (.iload_n 1, 1) := by decide +kernel
theorem dX5_grow_39 : decode cX5_grow 39 = .ok (.aaload, 1) := by decide +kernel
theorem dX5_grow_40 : decode cX5_grow 40 = .ok (.iload_n 2, 1) := by decide +kernel
theorem dX5_grow_41 : decode cX5_grow 41 = .ok (.invokevirtual 86, 3) := by decide +kernel
theorem dX5_grow_44 : decode cX5_grow 44 = .ok (.aload_n 0, 1) := by decide +kernel
theorem dX5_grow_45 : decode cX5_grow 45 = .ok (.aload_n 0, 1) := by decide +kernel
theorem dX5_grow_46 : decode cX5_grow 46 = .ok (.aload_n 0, 1) := by decide +kernel
theorem dX5_grow_47 : decode cX5_grow 47 = .ok (.getfield 11, 3) := by decide +kernel
theorem dX5_grow_50 : decode cX5_grow 50 = .ok (.iload_n 3, 1) := by decide +kernel
theorem dX5_grow_51 : decode cX5_grow 51 = .ok (.invokevirtual 74, 3) := by decide +kernel
theorem dX5_grow_54 : decode cX5_grow 54 = .ok (.invokevirtual 66, 3) := by decide +kernel
theorem dX5_grow_57 : decode cX5_grow 57 = .ok (.ireturn, 1) := by decide +kernel
theorem dX5_flip_0 : decode cX5_flip 0 = .ok (.iload_n 1, 1) := by decide +kernel
theorem dX5_flip_1 : decode cX5_flip 1 = .ok (.invokestatic 63, 3) := by decide +kernel
theorem dX5_flip_4 : decode cX5_flip 4 = .ok (.ifCond .eq 19, 3) := by decide +kernel
theorem dX5_flip_7 : decode cX5_flip 7 = .ok (.iload_n 2, 1) := by decide +kernel
theorem dX5_flip_8 : decode cX5_flip 8 = .ok (.iconst 0, 1) := by decide +kernel
theorem dX5_flip_9 : decode cX5_flip 9 = .ok (.iconst 2, 1) := by decide +kernel
theorem dX5_flip_10 : decode cX5_flip 10 = .ok (.invokestatic 59, 3) := by decide +kernel
theorem dX5_flip_13 : decode cX5_flip 13 = .ok (.ifCond .eq 10, 3) := by decide +kernel
theorem dX5_flip_16 : decode cX5_flip 16 = .ok (.iload_n 3, 1) := by decide +kernel
theorem dX5_flip_17 : decode cX5_flip 17 = .ok (.invokestatic 63, 3) := by decide +kernel
theorem dX5_flip_20 : decode cX5_flip 20 = .ok (.ifCond .ne 11, 3) := by decide +kernel
theorem dX5_flip_23 : decode cX5_flip 23 = .ok (.aload_n 0, 1) := by decide +kernel
theorem dX5_flip_24 : decode cX5_flip 24 = .ok (.sipush (-202), 3) := by decide +kernel
theorem dX5_flip_27 : decode cX5_flip 27 = .ok (.invokevirtual 66, 3) := by decide +kernel
theorem dX5_flip_30 : decode cX5_flip 30 = .ok (.ireturn, 1) := by decide +kernel
theorem dX5_flip_31 : decode cX5_flip 31 = .ok (.aload_n 0, 1) := by decide +kernel
theorem dX5_flip_32 : decode cX5_flip 32 = .ok (.aload_n 0, 1) := by decide +kernel
theorem dX5_flip_33 : decode cX5_flip 33 = .ok (.getfield 11, 3) := by decide +kernel
theorem dX5_flip_36 : decode cX5_flip 36 = .ok (.iload_n 1, 1) := by decide +kernel
theorem dX5_flip_37 : decode cX5_flip 37 = .ok (.aaload, 1) := by decide +kernel
theorem dX5_flip_38 : decode cX5_flip 38 = .ok (.iload_n 2, 1) := by decide +kernel
theorem dX5_flip_39 : decode cX5_flip 39 = .ok (.invokevirtual 90, 3) := by decide +kernel
theorem dX5_flip_42 : decode cX5_flip 42 = .ok (.aload_n 0, 1) := by decide +kernel
theorem dX5_flip_43 : decode cX5_flip 43 = .ok (.aload_n 0, 1) := by decide +kernel
theorem dX5_flip_44 : decode cX5_flip 44 = .ok (.aload_n 0, 1) := by decide +kernel
theorem dX5_flip_45 : decode cX5_flip 45 = .ok (.getfield 11, 3) := by decide +kernel
theorem dX5_flip_48 : decode cX5_flip 48 = .ok (.iload_n 3, 1) := by decide +kernel
theorem dX5_flip_49 : decode cX5_flip 49 = .ok (.invokevirtual 74, 3) := by decide +kernel
theorem dX5_flip_52 : decode cX5_flip 52 = .ok (.invokevirtual 66, 3) := by decide +kernel
theorem dX5_flip_55 : decode cX5_flip 55 = .ok (.ireturn, 1) := by decide +kernel
theorem dX5_rest_0 : decode cX5_rest 0 = .ok (.iload_n 1, 1) := by decide +kernel
theorem dX5_rest_1 : decode cX5_rest 1 = .ok (.invokestatic 63, 3) := by decide +kernel
theorem dX5_rest_4 : decode cX5_rest 4 = .ok (.ifCond .eq 10, 3) := by decide +kernel
theorem dX5_rest_7 : decode cX5_rest 7 = .ok (.iload_n 2, 1) := by decide +kernel
theorem dX5_rest_8 : decode cX5_rest 8 = .ok (.invokestatic 63, 3) := by decide +kernel
theorem dX5_rest_11 : decode cX5_rest 11 = .ok (.ifCond .ne 11, 3) := by decide +kernel
theorem dX5_rest_14 : decode cX5_rest 14 = .ok (.aload_n 0, 1) := by decide +kernel
theorem dX5_rest_15 : decode cX5_rest 15 = .ok (.sipush (-202), 3) := by decide +kernel
theorem dX5_rest_18 : decode cX5_rest 18 = .ok (.invokevirtual 66, 3) := by decide +kernel
theorem dX5_rest_21 : decode cX5_rest 21 = .ok (.ireturn, 1) := by decide +kernel
theorem dX5_rest_22 : decode cX5_rest 22 = .ok (.aload_n 0, 1) := by decide +kernel
theorem dX5_rest_23 : decode cX5_rest 23 = .ok (.getfield 19, 3) := by decide +kernel
theorem dX5_rest_26 : decode cX5_rest 26 = .ok (.aload_n 0, 1) := by decide +kernel
theorem dX5_rest_27 : decode cX5_rest 27 = .ok (.getfield 11, 3) := by decide +kernel
theorem dX5_rest_30 : decode cX5_rest 30 = .ok (.iload_n 1, 1) := by decide +kernel
theorem dX5_rest_31 : decode cX5_rest 31 = .ok (.aaload, 1) := by decide +kernel
theorem dX5_rest_32 : decode cX5_rest 32 = .ok (.invokevirtual 93, 3) := by decide +kernel
theorem dX5_rest_35 : decode cX5_rest 35 = .ok (.aload_n 0, 1) := by decide +kernel
theorem dX5_rest_36 : decode cX5_rest 36 = .ok (.getfield 19, 3) := by decide +kernel
theorem dX5_rest_39 : decode cX5_rest 39 = .ok (.invokevirtual 97, 3) := by decide +kernel
theorem dX5_rest_42 : decode cX5_rest 42 = .ok (.aload_n 0, 1) := by decide +kernel
theorem dX5_rest_43 : decode cX5_rest 43 = .ok (.aload_n 0, 1) := by decide +kernel
theorem dX5_rest_44 : decode cX5_rest 44 = .ok (.aload_n 0, 1) := by decide +kernel
theorem dX5_rest_45 : decode cX5_rest 45 = .ok (.getfield 11, 3) := by decide +kernel
theorem dX5_rest_48 : decode cX5_rest 48 = .ok (.iload_n 2, 1) := by decide +kernel
theorem dX5_rest_49 : decode cX5_rest 49 = .ok (.invokevirtual 74, 3) := by decide +kernel
theorem dX5_rest_52 : decode cX5_rest 52 = .ok (.invokevirtual 66, 3) := by decide +kernel
theorem dX5_rest_55 : decode cX5_rest 55 = .ok (.ireturn, 1) := by decide +kernel
theorem dX5_part_0 : decode cX5_part 0 = .ok (.iload_n 1, 1) := by decide +kernel
theorem dX5_part_1 : decode cX5_part 1 = .ok (.invokestatic 63, 3) := by decide +kernel
theorem dX5_part_4 : decode cX5_part 4 = .ok (.ifCond .eq 25, 3) := by decide +kernel
theorem dX5_part_7 : decode cX5_part 7 = .ok (.iload_n 2, 1) := by decide +kernel
theorem dX5_part_8 : decode cX5_part 8 = .ok (.invokestatic 55, 3) := by decide +kernel
theorem dX5_part_11 : decode cX5_part 11 = .ok (.ifCond .eq 18, 3) := by decide +kernel
theorem dX5_part_14 : decode cX5_part 14 = .ok (.iload_n 3, 1) := by decide +kernel
theorem dX5_part_15 : decode cX5_part 15 = .ok (.invokestatic 55, 3) := by decide +kernel
theorem dX5_part_18 : decode cX5_part 18 = .ok (.ifCond .eq 11, 3) := by decide +kernel
theorem dX5_part_21 : decode cX5_part 21 = .ok (.iload 4, 2) := by decide +kernel
theorem dX5_part_23 : decode cX5_part 23 = .ok (.invokestatic 63, 3) := by decide +kernel
theorem dX5_part_26 : decode cX5_part 26 = .ok (.ifCond .ne 11, 3) := by decide +kernel
theorem dX5_part_29 : decode cX5_part 29 = .ok (.aload_n 0, 1) := by decide +kernel
theorem dX5_part_30 : decode cX5_part 30 = .ok (.sipush (-202), 3) := by decide +kernel
theorem dX5_part_33 : decode cX5_part 33 = .ok (.invokevirtual 66, 3) := by decide +kernel
theorem dX5_part_36 : decode cX5_part 36 = .ok (.ireturn, 1) := by decide +kernel
theorem dX5_part_37 : decode cX5_part 37 = .ok (.aload_n 0, 1) := by decide +kernel
theorem dX5_part_38 : decode cX5_part 38 = .ok (.getfield 11, 3) := by decide +kernel
theorem dX5_part_41 : decode cX5_part 41 = .ok (.iload_n 1, 1) := by decide +kernel
theorem dX5_part_42 : decode cX5_part 42 = .ok (.aaload, 1) := by decide +kernel
theorem dX5_part_43 : decode cX5_part 43 = .ok (.iload_n 2, 1) := by decide +kernel
theorem dX5_part_44 : decode cX5_part 44 = .ok (.iload_n 3, 1) := by decide +kernel
theorem dX5_part_45 : decode cX5_part 45 = .ok (.invokevirtual 100, 3) := by decide +kernel
theorem dX5_part_48 : decode cX5_part 48 = .ok (.ifCond .ne 11, 3) := by decide +kernel
theorem dX5_part_51 : decode cX5_part 51 = .ok (.aload_n 0, 1) := by decide +kernel
theorem dX5_part_52 : decode cX5_part 52 = .ok (.sipush (-203), 3) := by decide +kernel
theorem dX5_part_55 : decode cX5_part 55 = .ok (.invokevirtual 66, 3) := by decide +kernel
theorem dX5_part_58 : decode cX5_part 58 = .ok (.ireturn, 1) := by decide +kernel
theorem dX5_part_59 : decode cX5_part 59 = .ok (.aload_n 0, 1) := by decide +kernel
theorem dX5_part_60 : decode cX5_part 60 = .ok (.getfield 26, 3) := by decide +kernel
theorem dX5_part_63 : decode cX5_part 63 = .ok (.aload_n 0, 1) := by decide +kernel
theorem dX5_part_64 : decode cX5_part 64 = .ok (.getfield 11, 3) := by decide +kernel
theorem dX5_part_67 : decode cX5_part 67 = .ok (.iload_n 1, 1) := by decide +kernel
theorem dX5_part_68 : decode cX5_part 68 = .ok (.aaload, 1) := by decide +kernel
theorem dX5_part_69 : decode cX5_part 69 = .ok (.invokevirtual 104, 3) := by decide +kernel
theorem dX5_part_72 : decode cX5_part 72 = .ok (.pop, 1) := by decide +kernel
theorem dX5_part_73 : decode cX5_part 73 = .ok (.aload_n 0, 1) := by decide +kernel
theorem dX5_part_74 : decode cX5_part 74 = .ok (.getfield 26, 3) := by decide +kernel
theorem dX5_part_77 : decode cX5_part 77 = .ok (.invokevirtual 108, 3) := by decide +kernel
theorem dX5_part_80 : decode cX5_part 80 = .ok (.pop, 1) := by decide +kernel
theorem dX5_part_81 : decode cX5_part 81 = .ok (.aload_n 0, 1) := by decide +kernel
theorem dX5_part_82 : decode cX5_part 82 = .ok (.getfield 26, 3) := by decide +kernel
theorem dX5_part_85 : decode cX5_part 85 = .ok (.aload_n 0, 1) := by decide +kernel
theorem dX5_part_86 : decode cX5_part 86 = .ok (.getfield 19, 3) := by decide +kernel
theorem dX5_part_89 : decode cX5_part 89 = .ok (.iload_n 2, 1) := by decide +kernel
theorem dX5_part_90 : decode cX5_part 90 = .ok (.iload_n 3, 1) := by decide +kernel
theorem dX5_part_91 : decode cX5_part 91 = .ok (.invokevirtual 112, 3) := by decide +kernel
theorem dX5_part_94 : decode cX5_part 94 = .ok (.aload_n 0, 1) := by decide +kernel
theorem dX5_part_95 : decode cX5_part 95 = .ok (.aload_n 0, 1) := by decide +kernel
theorem dX5_part_96 : decode cX5_part 96 = .ok (.aload_n 0, 1) := by decide +kernel
theorem dX5_part_97 : decode cX5_part 97 = .ok (.getfield 11, 3) := by decide +kernel
theorem dX5_part_100 : decode cX5_part 100 = .ok (.iload 4, 2) := by decide +kernel
theorem dX5_part_102 : decode cX5_part 102 = .ok (.invokevirtual 74, 3) := by decide +kernel
theorem dX5_part_105 : decode cX5_part 105 = .ok (.invokevirtual 66, 3) := by decide +kernel
theorem dX5_part_108 : decode cX5_part 108 = .ok (.ireturn, 1) := by decide +kernel
theorem dX5_corner_0 : decode cX5_corner 0 = .ok (.iload_n 1, 1) := by decide +kernel
theorem dX5_corner_1 : decode cX5_corner 1 = .ok (.bipush (-60), 2) := by decide +kernel
theorem dX5_corner_3 : decode cX5_corner 3 = .ok (.bipush 60, 2) := by decide +kernel
theorem dX5_corner_5 : decode cX5_corner 5 = .ok (.invokestatic 59, 3) := by decide +kernel
theorem dX5_corner_8 : decode cX5_corner 8 = .ok (.ifCond .eq 14, 3) := by decide +kernel
theorem dX5_corner_11 : decode cX5_corner 11 = .ok (.iload_n 2, 1) := by decide +kernel
theorem dX5_corner_12 : decode cX5_corner 12 = .ok (.bipush (-60), 2) := by decide +kernel
theorem dX5_corner_14 : decode cX5_corner 14 = .ok (.bipush 60, 2) := by decide +kernel
theorem dX5_corner_16 : decode cX5_corner 16 = .ok (.invokestatic 59, 3) := by decide +kernel
theorem dX5_corner_19 : decode cX5_corner 19 = .ok (.ifCond .ne 11, 3) := by decide +kernel
theorem dX5_corner_22 : decode cX5_corner 22 = .ok (.aload_n 0, 1) := by decide +kernel
theorem dX5_corner_23 : decode cX5_corner 23 = .ok (.sipush (-202), 3) := by decide +kernel
theorem dX5_corner_26 : decode cX5_corner 26 = .ok (.invokevirtual 66, 3) := by decide +kernel
theorem dX5_corner_29 : decode cX5_corner 29 = .ok (.ireturn, 1) := by decide +kernel
theorem dX5_corner_30 : decode cX5_corner 30 = .ok (.aload_n 0, 1) := by decide +kernel
theorem dX5_corner_31 : decode cX5_corner 31 = .ok (.aload_n 0, 1) := by decide +kernel
theorem dX5_corner_32 : decode cX5_corner 32 = .ok (.getfield 33, 3) := by decide +kernel
theorem dX5_corner_35 : decode cX5_corner 35 = .ok (.iload_n 1, 1) := by decide +kernel
theorem dX5_corner_36 : decode cX5_corner 36 = .ok (.iload_n 2, 1) := by decide +kernel
theorem dX5_corner_37 : decode cX5_corner 37 = .ok (.invokevirtual 116, 3) := by decide +kernel
theorem dX5_corner_40 : decode cX5_corner 40 = .ok (.ifCond .eq 13, 3) := by decide +kernel
theorem dX5_corner_43 : decode cX5_corner 43 = .ok (.aload_n 0, 1) := by decide +kernel
theorem dX5_corner_44 : decode cX5_corner 44 = .ok (.getfield 33, 3) := by decide +kernel
theorem dX5_corner_47 : decode cX5_corner 47 = .ok (.getfield 119, 3) := by decide +kernel
theorem dX5_corner_50 : decode cX5_corner 50 = .ok (.goto 6, 3) := by decide +kernel
theorem dX5_corner_53 : decode cX5_corner 53 = .ok (.sipush (-204), 3) := by decide +kernel
theorem dX5_corner_56 : decode cX5_corner 56 = .ok (.invokevirtual 66, 3) := by decide +kernel
theorem dX5_corner_59 : decode cX5_corner 59 = .ok (.ireturn, 1) := by decide +kernel
theorem dX5_round_0 : decode cX5_round 0 = .ok (.iload_n 1, 1) := by decide +kernel
theorem dX5_round_1 : decode cX5_round 1 = .ok (.invokestatic 63, 3) := by decide +kernel
theorem dX5_round_4 : decode cX5_round 4 = .ok (.ifCond .ne 11, 3) := by decide +kernel
theorem dX5_round_7 : decode cX5_round 7 = .ok (.aload_n 0, 1) := by decide +kernel
theorem dX5_round_8 : decode cX5_round 8 = .ok (.sipush (-202), 3) := by decide +kernel
theorem dX5_round_11 : decode cX5_round 11 = .ok (.invokevirtual 66, 3) := by decide +kernel
theorem dX5_round_14 : decode cX5_round 14 = .ok (.ireturn, 1) := by decide +kernel
theorem dX5_round_15 : decode cX5_round 15 = .ok (.aload_n 0, 1) := by decide +kernel
theorem dX5_round_16 : decode cX5_round 16 = .ok (.getfield 33, 3) := by decide +kernel
theorem dX5_round_19 : decode cX5_round 19 = .ok (.getfield 119, 3) := by decide +kernel
theorem dX5_round_22 : decode cX5_round 22 = .ok (.iconst 3, 1) := by decide +kernel
theorem dX5_round_23 : decode cX5_round 23 = .ok (.if_icmp .ge 11, 3) := by decide +kernel
theorem dX5_round_26 : decode cX5_round 26 = .ok (.aload_n 0, 1) := by decide +kernel
theorem dX5_round_27 : decode cX5_round 27 = .ok (.sipush (-203), 3) := by decide +kernel
theorem dX5_round_30 : decode cX5_round 30 = .ok (.invokevirtual 66, 3) := by decide +kernel
theorem dX5_round_33 : decode cX5_round 33 = .ok (.ireturn, 1) := by decide +kernel
theorem dX5_round_34 : decode cX5_round 34 = .ok (.aload_n 0, 1) := by decide +kernel
theorem dX5_round_35 : decode cX5_round 35 = .ok (.getfield 33, 3) := by decide +kernel
theorem dX5_round_38 : decode cX5_round 38 = .ok (.aload_n 0, 1) := by decide +kernel
theorem dX5_round_39 : decode cX5_round 39 = .ok (.getfield 19, 3) := by decide +kernel
theorem dX5_round_42 : decode cX5_round 42 = .ok (.invokevirtual 123, 3) := by decide +kernel
theorem dX5_round_45 : decode cX5_round 45 = .ok (.aload_n 0, 1) := by decide +kernel
theorem dX5_round_46 : decode cX5_round 46 = .ok (.aload_n 0, 1) := by decide +kernel
theorem dX5_round_47 : decode cX5_round 47 = .ok (.getfield 11, 3) := by decide +kernel
theorem dX5_round_50 : decode cX5_round 50 = .ok (.iload_n 1, 1) := by decide +kernel
theorem dX5_round_51 : decode cX5_round 51 = .ok (.invokevirtual 74, 3) := by decide +kernel
theorem dX5_round_54 : decode cX5_round 54 = .ok (.istore_n 2, 1) := by decide +kernel
theorem dX5_round_55 : decode cX5_round 55 = .ok (.iload_n 2, 1) := by decide +kernel
theorem dX5_round_56 : decode cX5_round 56 = .ok (.sipush (-204), 3) := by decide +kernel
theorem dX5_round_59 : decode cX5_round 59 = .ok (.if_icmp .eq 11, 3) := by decide +kernel
theorem dX5_round_62 : decode cX5_round 62 = .ok (.aload_n 0, 1) := by decide +kernel
theorem dX5_round_63 : decode cX5_round 63 = .ok (.getfield 33, 3) := by decide +kernel
theorem dX5_round_66 : decode cX5_round 66 = .ok (.iconst 0, 1) := by decide +kernel
theorem dX5_round_67 : decode cX5_round 67 = .ok (.putfield 119, 3) := by decide +kernel
theorem dX5_round_70 : decode cX5_round 70 = .ok (.aload_n 0, 1) := by decide +kernel
theorem dX5_round_71 : decode cX5_round 71 = .ok (.iload_n 2, 1) := by decide +kernel
theorem dX5_round_72 : decode cX5_round 72 = .ok (.invokevirtual 66, 3) := by decide +kernel
theorem dX5_round_75 : decode cX5_round 75 = .ok (.ireturn, 1) := by decide +kernel
theorem dX5_draw_0 : decode cX5_draw 0 = .ok (.iload_n 1, 1) := by decide +kernel
theorem dX5_draw_1 : decode cX5_draw 1 = .ok (.iconst 0, 1) := by decide +kernel
theorem dX5_draw_2 : decode cX5_draw 2 = .ok (.ldc 126, 2) := by decide +kernel
theorem dX5_draw_4 : decode cX5_draw 4 = .ok (.invokestatic 59, 3) := by decide +kernel
theorem dX5_draw_7 : decode cX5_draw 7 = .ok (.ifCond .eq 20, 3) := by decide +kernel
theorem dX5_draw_10 : decode cX5_draw 10 = .ok (.iload_n 2, 1) := by decide +kernel
theorem dX5_draw_11 : decode cX5_draw 11 = .ok (.iconst 1, 1) := by decide +kernel
theorem dX5_draw_12 : decode cX5_draw 12 = .ok (.bipush 9, 2) := by decide +kernel
theorem dX5_draw_14 : decode cX5_draw 14 = .ok (.invokestatic 59, 3) := by decide +kernel
theorem dX5_draw_17 : decode cX5_draw 17 = .ok (.ifCond .eq 10, 3) := by decide +kernel
theorem dX5_draw_20 : decode cX5_draw 20 = .ok (.iload_n 3, 1) := by decide +kernel
theorem dX5_draw_21 : decode cX5_draw 21 = .ok (.invokestatic 63, 3) := by decide +kernel
theorem dX5_draw_24 : decode cX5_draw 24 = .ok (.ifCond .ne 11, 3) := by decide +kernel
theorem dX5_draw_27 : decode cX5_draw 27 = .ok (.aload_n 0, 1) := by decide +kernel
theorem dX5_draw_28 : decode cX5_draw 28 = .ok (.sipush (-202), 3) := by decide +kernel
theorem dX5_draw_31 : decode cX5_draw 31 = .ok (.invokevirtual 66, 3) := by decide +kernel
theorem dX5_draw_34 : decode cX5_draw 34 = .ok (.ireturn, 1) := by decide +kernel
theorem dX5_draw_35 : decode cX5_draw 35 = .ok (.aload_n 0, 1) := by decide +kernel
theorem dX5_draw_36 : decode cX5_draw 36 = .ok (.iload_n 1, 1) := by decide +kernel
theorem dX5_draw_37 : decode cX5_draw 37 = .ok (.iload_n 2, 1) := by decide +kernel
theorem dX5_draw_38 : decode cX5_draw 38 = .ok (.invokevirtual 127, 3) := by decide +kernel
theorem dX5_draw_41 : decode cX5_draw 41 = .ok (.aload_n 0, 1) := by decide +kernel
theorem dX5_draw_42 : decode cX5_draw 42 = .ok (.aload_n 0, 1) := by decide +kernel
theorem dX5_draw_43 : decode cX5_draw 43 = .ok (.aload_n 0, 1) := by decide +kernel
theorem dX5_draw_44 : decode cX5_draw 44 = .ok (.getfield 11, 3) := by decide +kernel
theorem dX5_draw_47 : decode cX5_draw 47 = .ok (.iload_n 3, 1) := by decide +kernel
theorem dX5_draw_48 : decode cX5_draw 48 = .ok (.invokevirtual 74, 3) := by decide +kernel
theorem dX5_draw_51 : decode cX5_draw 51 = .ok (.invokevirtual 66, 3) := by decide +kernel
theorem dX5_draw_54 : decode cX5_draw 54 = .ok (.ireturn, 1) := by decide +kernel
theorem dX5_hit_0 : decode cX5_hit 0 = .ok (.iload_n 1, 1) := by decide +kernel
theorem dX5_hit_1 : decode cX5_hit 1 = .ok (.invokestatic 63, 3) := by decide +kernel
theorem dX5_hit_4 : decode cX5_hit 4 = .ok (.ifCond .ne 11, 3) := by decide +kernel
theorem dX5_hit_7 : decode cX5_hit 7 = .ok (.aload_n 0, 1) := by decide +kernel
theorem dX5_hit_8 : decode cX5_hit 8 = .ok (.sipush (-202), 3) := by decide +kernel
theorem dX5_hit_11 : decode cX5_hit 11 = .ok (.invokevirtual 66, 3) := by decide +kernel
theorem dX5_hit_14 : decode cX5_hit 14 = .ok (.ireturn, 1) := by decide +kernel
theorem dX5_hit_15 : decode cX5_hit 15 = .ok (.iload_n 2, 1) := by decide +kernel
theorem dX5_hit_16 : decode cX5_hit 16 = .ok (.invokestatic 55, 3) := by decide +kernel
theorem dX5_hit_19 : decode cX5_hit 19 = .ok (.ifCond .eq 28, 3) := by decide +kernel
theorem dX5_hit_22 : decode cX5_hit 22 = .ok (.iload_n 3, 1) := by decide +kernel
theorem dX5_hit_23 : decode cX5_hit 23 = .ok (.invokestatic 55, 3) := by decide +kernel
theorem dX5_hit_26 : decode cX5_hit 26 = .ok (.ifCond .eq 21, 3) := by decide +kernel
theorem dX5_hit_29 : decode cX5_hit 29 = .ok (.aload_n 0, 1) := by decide +kernel
theorem dX5_hit_30 : decode cX5_hit 30 = .ok (.getfield 11, 3) := by decide +kernel
theorem dX5_hit_33 : decode cX5_hit 33 = .ok (.iload_n 1, 1) := by decide +kernel
theorem dX5_hit_34 : decode cX5_hit 34 = .ok (.aaload, 1) := by decide +kernel
theorem dX5_hit_35 : decode cX5_hit 35 = .ok (.iload_n 2, 1) := by decide +kernel
theorem dX5_hit_36 : decode cX5_hit 36 = .ok (.iload_n 3, 1) := by decide +kernel
theorem dX5_hit_37 : decode cX5_hit 37 = .ok (.invokevirtual 100, 3) := by decide +kernel
theorem dX5_hit_40 : decode cX5_hit 40 = .ok (.ifCond .eq 7, 3) := by decide +kernel
theorem dX5_hit_43 : decode cX5_hit 43 = .ok (.iconst 1, 1) := by decide +kernel
theorem dX5_hit_44 : decode cX5_hit 44 = .ok (.goto 4, 3) := by decide +kernel
theorem dX5_hit_47 : decode cX5_hit 47 = .ok (.iconst 0, 1) := by decide +kernel
theorem dX5_hit_48 : decode cX5_hit 48 = .ok (.ireturn, 1) := by decide +kernel
theorem dX5_of_0 : decode cX5_of 0 = .ok (.iload_n 1, 1) := by decide +kernel
theorem dX5_of_1 : decode cX5_of 1 = .ok (.invokestatic 63, 3) := by decide +kernel
theorem dX5_of_4 : decode cX5_of 4 = .ok (.ifCond .eq 13, 3) := by decide +kernel
theorem dX5_of_7 : decode cX5_of 7 = .ok (.iload_n 2, 1) := by decide +kernel
theorem dX5_of_8 : decode cX5_of 8 = .ok (.iconst 0, 1) := by decide +kernel
theorem dX5_of_9 : decode cX5_of 9 = .ok (.bipush 8, 2) := by decide +kernel
theorem dX5_of_11 : decode cX5_of 11 = .ok (.invokestatic 59, 3) := by decide +kernel
theorem dX5_of_14 : decode cX5_of 14 = .ok (.ifCond .ne 11, 3) := by decide +kernel
theorem dX5_of_17 : decode cX5_of 17 = .ok (.aload_n 0, 1) := by decide +kernel
theorem dX5_of_18 : decode cX5_of 18 = .ok (.sipush (-202), 3) := by decide +kernel
theorem dX5_of_21 : decode cX5_of 21 = .ok (.invokevirtual 66, 3) := by decide +kernel
theorem dX5_of_24 : decode cX5_of 24 = .ok (.ireturn, 1) := by decide +kernel
theorem dX5_of_25 : decode cX5_of 25 = .ok (.iload_n 2, 1) := by decide +kernel
theorem dX5_of_26 : decode cX5_of 26 = .ok (.lookupswitch 46 #[(0, 26), (4, 36)], 26) := by decide +kernel
theorem dX5_of_52 : decode cX5_of 52 = .ok (.aload_n 0, 1) := by decide +kernel
theorem dX5_of_53 : decode cX5_of 53 = .ok (.getfield 11, 3) := by decide +kernel
theorem dX5_of_56 : decode cX5_of 56 = .ok (.iload_n 1, 1) := by decide +kernel
theorem dX5_of_57 : decode cX5_of 57 = .ok (.aaload, 1) := by decide +kernel
theorem dX5_of_58 : decode cX5_of 58 = .ok (.invokevirtual 131, 3) := by decide +kernel
theorem dX5_of_61 : decode cX5_of 61 = .ok (.ireturn, 1) := by decide +kernel
theorem dX5_of_62 : decode cX5_of 62 = .ok (.aload_n 0, 1) := by decide +kernel
theorem dX5_of_63 : decode cX5_of 63 = .ok (.getfield 11, 3) := by decide +kernel
theorem dX5_of_66 : decode cX5_of 66 = .ok (.iload_n 1, 1) := by decide +kernel
theorem dX5_of_67 : decode cX5_of 67 = .ok (.aaload, 1) := by decide +kernel
theorem dX5_of_68 : decode cX5_of 68 = .ok (.invokevirtual 134, 3) := by decide +kernel
theorem dX5_of_71 : decode cX5_of 71 = .ok (.ireturn, 1) := by decide +kernel
theorem dX5_of_72 : decode cX5_of 72 = .ok (.aload_n 0, 1) := by decide +kernel
theorem dX5_of_73 : decode cX5_of 73 = .ok (.getfield 26, 3) := by decide +kernel
theorem dX5_of_76 : decode cX5_of 76 = .ok (.aload_n 0, 1) := by decide +kernel
theorem dX5_of_77 : decode cX5_of 77 = .ok (.getfield 11, 3) := by decide +kernel
theorem dX5_of_80 : decode cX5_of 80 = .ok (.iload_n 1, 1) := by decide +kernel
theorem dX5_of_81 : decode cX5_of 81 = .ok (.aaload, 1) := by decide +kernel
theorem dX5_of_82 : decode cX5_of 82 = .ok (.invokevirtual 104, 3) := by decide +kernel
theorem dX5_of_85 : decode cX5_of 85 = .ok (.pop, 1) := by decide +kernel
theorem dX5_of_86 : decode cX5_of 86 = .ok (.aload_n 0, 1) := by decide +kernel
theorem dX5_of_87 : decode cX5_of 87 = .ok (.getfield 26, 3) := by decide +kernel
theorem dX5_of_90 : decode cX5_of 90 = .ok (.iload_n 2, 1) := by decide +kernel
theorem dX5_of_91 : decode cX5_of 91 = .ok (.invokevirtual 137, 3) := by decide +kernel
theorem dX5_of_94 : decode cX5_of 94 = .ok (.ireturn, 1) := by decide +kernel
theorem dX5_span_0 : decode cX5_span 0 = .ok (.iload_n 1, 1) := by decide +kernel
theorem dX5_span_1 : decode cX5_span 1 = .ok (.invokestatic 63, 3) := by decide +kernel
theorem dX5_span_4 : decode cX5_span 4 = .ok (.ifCond .eq 16, 3) := by decide +kernel
theorem dX5_span_7 : decode cX5_span 7 = .ok (.iload_n 2, 1) := by decide +kernel
theorem dX5_span_8 : decode cX5_span 8 = .ok (.ifCond .lt 12, 3) := by decide +kernel
theorem dX5_span_11 : decode cX5_span 11 = .ok (.iload_n 3, 1) := by decide +kernel
theorem dX5_span_12 : decode cX5_span 12 = .ok (.iconst 0, 1) := by decide +kernel
theorem dX5_span_13 : decode cX5_span 13 = .ok (.iconst 3, 1) := by decide +kernel
theorem dX5_span_14 : decode cX5_span 14 = .ok (.invokestatic 59, 3) := by decide +kernel
theorem dX5_span_17 : decode cX5_span 17 = .ok (.ifCond .ne 11, 3) := by decide +kernel
theorem dX5_span_20 : decode cX5_span 20 = .ok (.aload_n 0, 1) := by decide +kernel
theorem dX5_span_21 : decode cX5_span 21 = .ok (.sipush (-202), 3) := by decide +kernel
theorem dX5_span_24 : decode cX5_span 24 = .ok (.invokevirtual 66, 3) := by decide +kernel
theorem dX5_span_27 : decode cX5_span 27 = .ok (.ireturn, 1) := by decide +kernel
theorem dX5_span_28 : decode cX5_span 28 = .ok (.aload_n 0, 1) := by decide +kernel
theorem dX5_span_29 : decode cX5_span 29 = .ok (.getfield 26, 3) := by decide +kernel
theorem dX5_span_32 : decode cX5_span 32 = .ok (.aload_n 0, 1) := by decide +kernel
theorem dX5_span_33 : decode cX5_span 33 = .ok (.getfield 11, 3) := by decide +kernel
theorem dX5_span_36 : decode cX5_span 36 = .ok (.iload_n 1, 1) := by decide +kernel
theorem dX5_span_37 : decode cX5_span 37 = .ok (.aaload, 1) := by decide +kernel
theorem dX5_span_38 : decode cX5_span 38 = .ok (.invokevirtual 104, 3) := by decide +kernel
theorem dX5_span_41 : decode cX5_span 41 = .ok (.pop, 1) := by decide +kernel
theorem dX5_span_42 : decode cX5_span 42 = .ok (.iload_n 2, 1) := by decide +kernel
theorem dX5_span_43 : decode cX5_span 43 = .ok (.aload_n 0, 1) := by decide +kernel
theorem dX5_span_44 : decode cX5_span 44 = .ok (.getfield 26, 3) := by decide +kernel
theorem dX5_span_47 : decode cX5_span 47 = .ok (.getfield 140, 3) := by decide +kernel
theorem dX5_span_50 : decode cX5_span 50 = .ok (.if_icmp .ge 15, 3) := by decide +kernel
theorem dX5_span_53 : decode cX5_span 53 = .ok (.aload_n 0, 1) := by decide +kernel
theorem dX5_span_54 : decode cX5_span 54 = .ok (.getfield 26, 3) := by decide +kernel
theorem dX5_span_57 : decode cX5_span 57 = .ok (.iload_n 2, 1) := by decide +kernel
theorem dX5_span_58 : decode cX5_span 58 = .ok (.iload_n 3, 1) := by decide +kernel
theorem dX5_span_59 : decode cX5_span 59 = .ok (.invokevirtual 143, 3) := by decide +kernel
theorem dX5_span_62 : decode cX5_span 62 = .ok (.goto 6, 3) := by decide +kernel
theorem dX5_span_65 : decode cX5_span 65 = .ok (.sipush (-201), 3) := by decide +kernel
theorem dX5_span_68 : decode cX5_span 68 = .ok (.ireturn, 1) := by decide +kernel
theorem dX5_two_0 : decode cX5_two 0 = .ok (.iload_n 1, 1) := by decide +kernel
theorem dX5_two_1 : decode cX5_two 1 = .ok (.invokestatic 63, 3) := by decide +kernel
theorem dX5_two_4 : decode cX5_two 4 = .ok (.ifCond .eq 19, 3) := by decide +kernel
theorem dX5_two_7 : decode cX5_two 7 = .ok (.iload_n 2, 1) := by decide +kernel
theorem dX5_two_8 : decode cX5_two 8 = .ok (.invokestatic 63, 3) := by decide +kernel
theorem dX5_two_11 : decode cX5_two 11 = .ok (.ifCond .eq 12, 3) := by decide +kernel
theorem dX5_two_14 : decode cX5_two 14 = .ok (.iload_n 3, 1) := by decide +kernel
theorem dX5_two_15 : decode cX5_two 15 = .ok (.iconst 0, 1) := by decide +kernel
theorem dX5_two_16 : decode cX5_two 16 = .ok (.iconst 3, 1) := by decide +kernel
theorem dX5_two_17 : decode cX5_two 17 = .ok (.invokestatic 59, 3) := by decide +kernel
theorem dX5_two_20 : decode cX5_two 20 = .ok (.ifCond .ne 11, 3) := by decide +kernel
theorem dX5_two_23 : decode cX5_two 23 = .ok (.aload_n 0, 1) := by decide +kernel
theorem dX5_two_24 : decode cX5_two 24 = .ok (.sipush (-202), 3) := by decide +kernel
theorem dX5_two_27 : decode cX5_two 27 = .ok (.invokevirtual 66, 3) := by decide +kernel
theorem dX5_two_30 : decode cX5_two 30 = .ok (.ireturn, 1) := by decide +kernel
theorem dX5_two_31 : decode cX5_two 31 = .ok (.iload_n 3, 1) := by decide +kernel
theorem dX5_two_32 : decode cX5_two 32 = .ok (.tableswitch 114 0 2 #[28, 74, 94], 28) := by decide +kernel
theorem dX5_two_60 : decode cX5_two 60 = .ok (.aload_n 0, 1) := by decide +kernel
theorem dX5_two_61 : decode cX5_two 61 = .ok (.getfield 11, 3) := by decide +kernel
theorem dX5_two_64 : decode cX5_two 64 = .ok (.iload_n 1, 1) := by decide +kernel
theorem dX5_two_65 : decode cX5_two 65 = .ok (.aaload, 1) := by decide +kernel
theorem dX5_two_66 : decode cX5_two 66 = .ok (.aload_n 0, 1) := by decide +kernel
theorem dX5_two_67 : decode cX5_two 67 = .ok (.getfield 11, 3) := by decide +kernel
theorem dX5_two_70 : decode cX5_two 70 = .ok (.iload_n 2, 1) := by decide +kernel
theorem dX5_two_71 : decode cX5_two 71 = .ok (.aaload, 1) := by decide +kernel
theorem dX5_two_72 : decode cX5_two 72 = .ok (.invokevirtual 147, 3) := by decide +kernel
theorem dX5_two_75 : decode cX5_two 75 = .ok (.ifCond .eq 25, 3) := by decide +kernel
theorem dX5_two_78 : decode cX5_two 78 = .ok (.aload_n 0, 1) := by decide +kernel
theorem dX5_two_79 : decode cX5_two 79 = .ok (.getfield 11, 3) := by decide +kernel
theorem dX5_two_82 : decode cX5_two 82 = .ok (.iload_n 2, 1) := by decide +kernel
theorem dX5_two_83 : decode cX5_two 83 = .ok (.aaload, 1) := by decide +kernel
theorem dX5_two_84 : decode cX5_two 84 = .ok (.aload_n 0, 1) := by decide +kernel
theorem dX5_two_85 : decode cX5_two 85 = .ok (.getfield 11, 3) := by decide +kernel
theorem dX5_two_88 : decode cX5_two 88 = .ok (.iload_n 1, 1) := by decide +kernel
theorem dX5_two_89 : decode cX5_two 89 = .ok (.aaload, 1) := by decide +kernel
theorem dX5_two_90 : decode cX5_two 90 = .ok (.invokevirtual 147, 3) := by decide +kernel
theorem dX5_two_93 : decode cX5_two 93 = .ok (.ifCond .eq 7, 3) := by decide +kernel
theorem dX5_two_96 : decode cX5_two 96 = .ok (.iconst 1, 1) := by decide +kernel
theorem dX5_two_97 : decode cX5_two 97 = .ok (.goto 4, 3) := by decide +kernel
theorem dX5_two_100 : decode cX5_two 100 = .ok (.iconst 0, 1) := by decide +kernel
theorem dX5_two_101 : decode cX5_two 101 = .ok (.istore 4, 2) := by decide +kernel
theorem dX5_two_103 : decode cX5_two 103 = .ok (.goto 60, 3) := by decide +kernel
theorem dX5_two_106 : decode cX5_two 106 = .ok (.aload_n 0, 1) := by decide +kernel
theorem dX5_two_107 : decode cX5_two 107 = .ok (.getfield 11, 3) := by decide +kernel
theorem dX5_two_110 : decode cX5_two 110 = .ok (.iload_n 1, 1) := by decide +kernel
theorem dX5_two_111 : decode cX5_two 111 = .ok (.aaload, 1) := by decide +kernel
theorem dX5_two_112 : decode cX5_two 112 = .ok (.aload_n 0, 1) := by decide +kernel
theorem dX5_two_113 : decode cX5_two 113 = .ok (.getfield 11, 3) := by decide +kernel
theorem dX5_two_116 : decode cX5_two 116 = .ok (.iload_n 2, 1) := by decide +kernel
theorem dX5_two_117 : decode cX5_two 117 = .ok (.aaload, 1) := by decide +kernel
theorem dX5_two_118 : decode cX5_two 118 = .ok (.invokevirtual 147, 3) := by decide +kernel
theorem dX5_two_121 : decode cX5_two 121 = .ok (.istore 4, 2) := by decide +kernel
theorem dX5_two_123 : decode cX5_two 123 = .ok (.goto 40, 3) := by decide +kernel
theorem dX5_two_126 : decode cX5_two 126 = .ok (.aload_n 0, 1) := by decide +kernel
theorem dX5_two_127 : decode cX5_two 127 = .ok (.getfield 11, 3) := by decide +kernel
theorem dX5_two_130 : decode cX5_two 130 = .ok (.iload_n 1, 1) := by decide +kernel
theorem dX5_two_131 : decode cX5_two 131 = .ok (.aaload, 1) := by decide +kernel
theorem dX5_two_132 : decode cX5_two 132 = .ok (.aload_n 0, 1) := by decide +kernel
theorem dX5_two_133 : decode cX5_two 133 = .ok (.getfield 11, 3) := by decide +kernel
theorem dX5_two_136 : decode cX5_two 136 = .ok (.iload_n 2, 1) := by decide +kernel
theorem dX5_two_137 : decode cX5_two 137 = .ok (.aaload, 1) := by decide +kernel
theorem dX5_two_138 : decode cX5_two 138 = .ok (.invokevirtual 150, 3) := by decide +kernel
theorem dX5_two_141 : decode cX5_two 141 = .ok (.istore 4, 2) := by decide +kernel
theorem dX5_two_143 : decode cX5_two 143 = .ok (.goto 20, 3) := by decide +kernel
theorem dX5_two_146 : decode cX5_two 146 = .ok (.aload_n 0, 1) := by decide +kernel
theorem dX5_two_147 : decode cX5_two 147 = .ok (.getfield 11, 3) := by decide +kernel
theorem dX5_two_150 : decode cX5_two 150 = .ok (.iload_n 1, 1) := by decide +kernel
theorem dX5_two_151 : decode cX5_two 151 = .ok (.aaload, 1) := by decide +kernel
theorem dX5_two_152 : decode cX5_two 152 = .ok (.aload_n 0, 1) := by decide +kernel
theorem dX5_two_153 : decode cX5_two 153 = .ok (.getfield 11, 3) := by decide +kernel
theorem dX5_two_156 : decode cX5_two 156 = .ok (.iload_n 2, 1) := by decide +kernel
theorem dX5_two_157 : decode cX5_two 157 = .ok (.aaload, 1) := by decide +kernel
theorem dX5_two_158 : decode cX5_two 158 = .ok (.invokevirtual 153, 3) := by decide +kernel
theorem dX5_two_161 : decode cX5_two 161 = .ok (.istore 4, 2) := by decide +kernel
theorem dX5_two_163 : decode cX5_two 163 = .ok (.iload 4, 2) := by decide +kernel
theorem dX5_two_165 : decode cX5_two 165 = .ok (.ifCond .eq 7, 3) := by decide +kernel
theorem dX5_two_168 : decode cX5_two 168 = .ok (.iconst 1, 1) := by decide +kernel
theorem dX5_two_169 : decode cX5_two 169 = .ok (.goto 4, 3) := by decide +kernel
theorem dX5_two_172 : decode cX5_two 172 = .ok (.iconst 0, 1) := by decide +kernel
theorem dX5_two_173 : decode cX5_two 173 = .ok (.ireturn, 1) := by decide +kernel
theorem dX5_common_0 : decode cX5_common 0 = .ok (.iload_n 1, 1) := by decide +kernel
theorem dX5_common_1 : decode cX5_common 1 = .ok (.invokestatic 63, 3) := by decide +kernel
theorem dX5_common_4 : decode cX5_common 4 = .ok (.ifCond .eq 10, 3) := by decide +kernel
theorem dX5_common_7 : decode cX5_common 7 = .ok (.iload_n 2, 1) := by decide +kernel
theorem dX5_common_8 : decode cX5_common 8 = .ok (.invokestatic 63, 3) := by decide +kernel
theorem dX5_common_11 : decode cX5_common 11 = .ok (.ifCond .ne 11, 3) := by decide +kernel
theorem dX5_common_14 : decode cX5_common 14 = .ok (.aload_n 0, 1) := by decide +kernel
theorem dX5_common_15 : decode cX5_common 15 = .ok (.sipush (-202), 3) := by decide +kernel
theorem dX5_common_18 : decode cX5_common 18 = .ok (.invokevirtual 66, 3) := by decide +kernel
theorem dX5_common_21 : decode cX5_common 21 = .ok (.ireturn, 1) := by decide +kernel
theorem dX5_common_22 : decode cX5_common 22 = .ok (.aload_n 0, 1) := by decide +kernel
theorem dX5_common_23 : decode cX5_common 23 = .ok (.getfield 19, 3) := by decide +kernel
theorem dX5_common_26 : decode cX5_common 26 = .ok (.iconst 1, 1) := by decide +kernel
theorem dX5_common_27 : decode cX5_common 27 = .ok (.aload_n 0, 1) := by decide +kernel
theorem dX5_common_28 : decode cX5_common 28 = .ok (.getfield 11, 3) := by decide +kernel
theorem dX5_common_31 : decode cX5_common 31 = .ok (.iload_n 1, 1) := by decide +kernel
theorem dX5_common_32 : decode cX5_common 32 = .ok (.aaload, 1) := by decide +kernel
theorem dX5_common_33 : decode cX5_common 33 = .ok (.aload_n 0, 1) := by decide +kernel
theorem dX5_common_34 : decode cX5_common 34 = .ok (.getfield 11, 3) := by decide +kernel
theorem dX5_common_37 : decode cX5_common 37 = .ok (.iload_n 2, 1) := by decide +kernel
theorem dX5_common_38 : decode cX5_common 38 = .ok (.aaload, 1) := by decide +kernel
theorem dX5_common_39 : decode cX5_common 39 = .ok (.invokevirtual 78, 3) := by decide +kernel
theorem dX5_common_42 : decode cX5_common 42 = .ok (.aload_n 0, 1) := by decide +kernel
theorem dX5_common_43 : decode cX5_common 43 = .ok (.getfield 19, 3) := by decide +kernel
theorem dX5_common_46 : decode cX5_common 46 = .ok (.invokevirtual 131, 3) := by decide +kernel
theorem dX5_common_49 : decode cX5_common 49 = .ok (.ireturn, 1) := by decide +kernel
theorem dX5_across_0 : decode cX5_across 0 = .ok (.iload_n 1, 1) := by decide +kernel
theorem dX5_across_1 : decode cX5_across 1 = .ok (.invokestatic 63, 3) := by decide +kernel
theorem dX5_across_4 : decode cX5_across 4 = .ok (.ifCond .eq 19, 3) := by decide +kernel
theorem dX5_across_7 : decode cX5_across 7 = .ok (.iload_n 2, 1) := by decide +kernel
theorem dX5_across_8 : decode cX5_across 8 = .ok (.iconst 0, 1) := by decide +kernel
theorem dX5_across_9 : decode cX5_across 9 = .ok (.iconst 1, 1) := by decide +kernel
theorem dX5_across_10 : decode cX5_across 10 = .ok (.invokestatic 59, 3) := by decide +kernel
theorem dX5_across_13 : decode cX5_across 13 = .ok (.ifCond .eq 10, 3) := by decide +kernel
theorem dX5_across_16 : decode cX5_across 16 = .ok (.iload_n 3, 1) := by decide +kernel
theorem dX5_across_17 : decode cX5_across 17 = .ok (.invokestatic 55, 3) := by decide +kernel
theorem dX5_across_20 : decode cX5_across 20 = .ok (.ifCond .ne 11, 3) := by decide +kernel
theorem dX5_across_23 : decode cX5_across 23 = .ok (.aload_n 0, 1) := by decide +kernel
theorem dX5_across_24 : decode cX5_across 24 = .ok (.sipush (-202), 3) := by decide +kernel
theorem dX5_across_27 : decode cX5_across 27 = .ok (.invokevirtual 66, 3) := by decide +kernel
theorem dX5_across_30 : decode cX5_across 30 = .ok (.ireturn, 1) := by decide +kernel
theorem dX5_across_31 : decode cX5_across 31 = .ok (.iload_n 2, 1) := by decide +kernel
theorem dX5_across_32 : decode cX5_across 32 = .ok (.ifCond .ne 16, 3) := by decide +kernel
theorem dX5_across_35 : decode cX5_across 35 = .ok (.aload_n 0, 1) := by decide +kernel
theorem dX5_across_36 : decode cX5_across 36 = .ok (.getfield 11, 3) := by decide +kernel
theorem dX5_across_39 : decode cX5_across 39 = .ok (.iload_n 1, 1) := by decide +kernel
theorem dX5_across_40 : decode cX5_across 40 = .ok (.aaload, 1) := by decide +kernel
theorem dX5_across_41 : decode cX5_across 41 = .ok (.iload_n 3, 1) := by decide +kernel
theorem dX5_across_42 : decode cX5_across 42 = .ok (.invokevirtual 156, 3) := by decide +kernel
theorem dX5_across_45 : decode cX5_across 45 = .ok (.goto 13, 3) := by decide +kernel
theorem dX5_across_48 : decode cX5_across 48 = .ok (.aload_n 0, 1) := by decide +kernel
theorem dX5_across_49 : decode cX5_across 49 = .ok (.getfield 11, 3) := by decide +kernel
theorem dX5_across_52 : decode cX5_across 52 = .ok (.iload_n 1, 1) := by decide +kernel
theorem dX5_across_53 : decode cX5_across 53 = .ok (.aaload, 1) := by decide +kernel
theorem dX5_across_54 : decode cX5_across 54 = .ok (.iload_n 3, 1) := by decide +kernel
theorem dX5_across_55 : decode cX5_across 55 = .ok (.invokevirtual 159, 3) := by decide +kernel
theorem dX5_across_58 : decode cX5_across 58 = .ok (.ireturn, 1) := by decide +kernel
theorem dX5_apart_0 : decode cX5_apart 0 = .ok (.iload_n 1, 1) := by decide +kernel
theorem dX5_apart_1 : decode cX5_apart 1 = .ok (.invokestatic 63, 3) := by decide +kernel
theorem dX5_apart_4 : decode cX5_apart 4 = .ok (.ifCond .eq 10, 3) := by decide +kernel
theorem dX5_apart_7 : decode cX5_apart 7 = .ok (.iload_n 2, 1) := by decide +kernel
theorem dX5_apart_8 : decode cX5_apart 8 = .ok (.invokestatic 63, 3) := by decide +kernel
theorem dX5_apart_11 : decode cX5_apart 11 = .ok (.ifCond .ne 11, 3) := by decide +kernel
theorem dX5_apart_14 : decode cX5_apart 14 = .ok (.aload_n 0, 1) := by decide +kernel
theorem dX5_apart_15 : decode cX5_apart 15 = .ok (.sipush (-202), 3) := by decide +kernel
theorem dX5_apart_18 : decode cX5_apart 18 = .ok (.invokevirtual 66, 3) := by decide +kernel
theorem dX5_apart_21 : decode cX5_apart 21 = .ok (.ireturn, 1) := by decide +kernel
theorem dX5_apart_22 : decode cX5_apart 22 = .ok (.aload_n 0, 1) := by decide +kernel
theorem dX5_apart_23 : decode cX5_apart 23 = .ok (.getfield 19, 3) := by decide +kernel
theorem dX5_apart_26 : decode cX5_apart 26 = .ok (.aload_n 0, 1) := by decide +kernel
theorem dX5_apart_27 : decode cX5_apart 27 = .ok (.getfield 11, 3) := by decide +kernel
theorem dX5_apart_30 : decode cX5_apart 30 = .ok (.iload_n 1, 1) := by decide +kernel
theorem dX5_apart_31 : decode cX5_apart 31 = .ok (.aaload, 1) := by decide +kernel
theorem dX5_apart_32 : decode cX5_apart 32 = .ok (.invokevirtual 93, 3) := by decide +kernel
theorem dX5_apart_35 : decode cX5_apart 35 = .ok (.iconst 0, 1) := by decide +kernel
theorem dX5_apart_36 : decode cX5_apart 36 = .ok (.istore_n 3, 1) := by decide +kernel
theorem dX5_apart_37 : decode cX5_apart 37 = .ok (.iload_n 3, 1) := by decide +kernel
theorem dX5_apart_38 : decode cX5_apart 38 = .ok (.bipush 9, 2) := by decide +kernel
theorem dX5_apart_40 : decode cX5_apart 40 = .ok (.if_icmp .gt 35, 3) := by decide +kernel
theorem dX5_apart_43 : decode cX5_apart 43 = .ok (.aload_n 0, 1) := by decide +kernel
theorem dX5_apart_44 : decode cX5_apart 44 = .ok (.getfield 19, 3) := by decide +kernel
theorem dX5_apart_47 : decode cX5_apart 47 = .ok (.aload_n 0, 1) := by decide +kernel
theorem dX5_apart_48 : decode cX5_apart 48 = .ok (.getfield 11, 3) := by decide +kernel
theorem dX5_apart_51 : decode cX5_apart 51 = .ok (.iload_n 2, 1) := by decide +kernel
theorem dX5_apart_52 : decode cX5_apart 52 = .ok (.aaload, 1) := by decide +kernel
theorem dX5_apart_53 : decode cX5_apart 53 = .ok (.invokevirtual 150, 3) := by decide +kernel
theorem dX5_apart_56 : decode cX5_apart 56 = .ok (.ifCond .eq 5, 3) := by decide +kernel
theorem dX5_apart_59 : decode cX5_apart 59 = .ok (.iload_n 3, 1) := by decide +kernel
theorem dX5_apart_60 : decode cX5_apart 60 = .ok (.ireturn, 1) := by decide +kernel
theorem dX5_apart_61 : decode cX5_apart 61 = .ok (.aload_n 0, 1) := by decide +kernel
theorem dX5_apart_62 : decode cX5_apart 62 = .ok (.getfield 19, 3) := by decide +kernel
theorem dX5_apart_65 : decode cX5_apart 65 = .ok (.iconst 0, 1) := by decide +kernel
theorem dX5_apart_66 : decode cX5_apart 66 = .ok (.invokevirtual 162, 3) := by decide +kernel
theorem dX5_apart_69 : decode cX5_apart 69 = .ok (.iinc 3 1, 3) := by decide +kernel
theorem dX5_apart_72 : decode cX5_apart 72 = .ok (.goto (-35), 3) := by decide +kernel
theorem dX5_apart_75 : decode cX5_apart 75 = .ok (.sipush (-201), 3) := by decide +kernel
theorem dX5_apart_78 : decode cX5_apart 78 = .ok (.ireturn, 1) := by decide +kernel
theorem dX5_type_0 : decode cX5_type 0 = .ok (.iload_n 1, 1) := by decide +kernel
theorem dX5_type_1 : decode cX5_type 1 = .ok (.iconst 0, 1) := by decide +kernel
theorem dX5_type_2 : decode cX5_type 2 = .ok (.bipush 127, 2) := by decide +kernel
theorem dX5_type_4 : decode cX5_type 4 = .ok (.invokestatic 59, 3) := by decide +kernel
theorem dX5_type_7 : decode cX5_type 7 = .ok (.ifCond .ne 11, 3) := by decide +kernel
theorem dX5_type_10 : decode cX5_type 10 = .ok (.aload_n 0, 1) := by decide +kernel
theorem dX5_type_11 : decode cX5_type 11 = .ok (.sipush (-202), 3) := by decide +kernel
theorem dX5_type_14 : decode cX5_type 14 = .ok (.invokevirtual 66, 3) := by decide +kernel
theorem dX5_type_17 : decode cX5_type 17 = .ok (.ireturn, 1) := by decide +kernel
theorem dX5_type_18 : decode cX5_type 18 = .ok (.aload_n 0, 1) := by decide +kernel
theorem dX5_type_19 : decode cX5_type 19 = .ok (.aload_n 0, 1) := by decide +kernel
theorem dX5_type_20 : decode cX5_type 20 = .ok (.getfield 40, 3) := by decide +kernel
theorem dX5_type_23 : decode cX5_type 23 = .ok (.iload_n 1, 1) := by decide +kernel
theorem dX5_type_24 : decode cX5_type 24 = .ok (.invokevirtual 166, 3) := by decide +kernel
theorem dX5_type_27 : decode cX5_type 27 = .ok (.ifCond .eq 13, 3) := by decide +kernel
theorem dX5_type_30 : decode cX5_type 30 = .ok (.aload_n 0, 1) := by decide +kernel
theorem dX5_type_31 : decode cX5_type 31 = .ok (.getfield 40, 3) := by decide +kernel
theorem dX5_type_34 : decode cX5_type 34 = .ok (.getfield 168, 3) := by decide +kernel
theorem dX5_type_37 : decode cX5_type 37 = .ok (.goto 6, 3) := by decide +kernel
theorem dX5_type_40 : decode cX5_type 40 = .ok (.sipush (-204), 3) := by decide +kernel
theorem dX5_type_43 : decode cX5_type 43 = .ok (.invokevirtual 66, 3) := by decide +kernel
theorem dX5_type_46 : decode cX5_type 46 = .ok (.ireturn, 1) := by decide +kernel
theorem dX5_clear_0 : decode cX5_clear 0 = .ok (.aload_n 0, 1) := by decide +kernel
theorem dX5_clear_1 : decode cX5_clear 1 = .ok (.getfield 40, 3) := by decide +kernel
theorem dX5_clear_4 : decode cX5_clear 4 = .ok (.getfield 168, 3) := by decide +kernel
theorem dX5_clear_7 : decode cX5_clear 7 = .ok (.istore_n 1, 1) := by decide +kernel
theorem dX5_clear_8 : decode cX5_clear 8 = .ok (.aload_n 0, 1) := by decide +kernel
theorem dX5_clear_9 : decode cX5_clear 9 = .ok (.getfield 40, 3) := by decide +kernel
theorem dX5_clear_12 : decode cX5_clear 12 = .ok (.iconst 0, 1) := by decide +kernel
theorem dX5_clear_13 : decode cX5_clear 13 = .ok (.putfield 168, 3) := by decide +kernel
theorem dX5_clear_16 : decode cX5_clear 16 = .ok (.iload_n 1, 1) := by decide +kernel
theorem dX5_clear_17 : decode cX5_clear 17 = .ok (.ireturn, 1) := by decide +kernel
theorem dX5_does_0 : decode cX5_does 0 = .ok (.aload_n 0, 1) := by decide +kernel
theorem dX5_does_1 : decode cX5_does 1 = .ok (.getfield 40, 3) := by decide +kernel
theorem dX5_does_4 : decode cX5_does 4 = .ok (.invokevirtual 171, 3) := by decide +kernel
theorem dX5_does_7 : decode cX5_does 7 = .ok (.istore_n 1, 1) := by decide +kernel
theorem dX5_does_8 : decode cX5_does 8 = .ok (.iload_n 1, 1) := by decide +kernel
theorem dX5_does_9 : decode cX5_does 9 = .ok (.ifCond .lt 9, 3) := by decide +kernel
theorem dX5_does_12 : decode cX5_does 12 = .ok (.sipush (-300), 3) := by decide +kernel
theorem dX5_does_15 : decode cX5_does 15 = .ok (.iload_n 1, 1) := by decide +kernel
theorem dX5_does_16 : decode cX5_does 16 = .ok (.isub, 1) := by decide +kernel
theorem dX5_does_17 : decode cX5_does 17 = .ok (.ireturn, 1) := by decide +kernel
theorem dX5_does_18 : decode cX5_does 18 = .ok (.iconst 0, 1) := by decide +kernel
theorem dX5_does_19 : decode cX5_does 19 = .ok (.istore_n 2, 1) := by decide +kernel
theorem dX5_does_20 : decode cX5_does 20 = .ok (.iload_n 2, 1) := by decide +kernel
theorem dX5_does_21 : decode cX5_does 21 = .ok (.iconst 5, 1) := by decide +kernel
theorem dX5_does_22 : decode cX5_does 22 = .ok (.if_icmp .ge 24, 3) := by decide +kernel
theorem dX5_does_25 : decode cX5_does 25 = .ok (.aload_n 0, 1) := by decide +kernel
theorem dX5_does_26 : decode cX5_does 26 = .ok (.getfield 15, 3) := by decide +kernel
theorem dX5_does_29 : decode cX5_does 29 = .ok (.iload_n 2, 1) := by decide +kernel
theorem dX5_does_30 : decode cX5_does 30 = .ok (.aaload, 1) := by decide +kernel
theorem dX5_does_31 : decode cX5_does 31 = .ok (.aload_n 0, 1) := by decide +kernel
theorem dX5_does_32 : decode cX5_does 32 = .ok (.getfield 11, 3) := by decide +kernel
theorem dX5_does_35 : decode cX5_does 35 = .ok (.iload_n 2, 1) := by decide +kernel
theorem dX5_does_36 : decode cX5_does 36 = .ok (.aaload, 1) := by decide +kernel
theorem dX5_does_37 : decode cX5_does 37 = .ok (.invokevirtual 93, 3) := by decide +kernel
theorem dX5_does_40 : decode cX5_does 40 = .ok (.iinc 2 1, 3) := by decide +kernel
theorem dX5_does_43 : decode cX5_does 43 = .ok (.goto (-23), 3) := by decide +kernel
theorem dX5_does_46 : decode cX5_does 46 = .ok (.iconst 0, 1) := by decide +kernel
theorem dX5_does_47 : decode cX5_does 47 = .ok (.istore_n 2, 1) := by decide +kernel
theorem dX5_does_48 : decode cX5_does 48 = .ok (.iload_n 2, 1) := by decide +kernel
theorem dX5_does_49 : decode cX5_does 49 = .ok (.aload_n 0, 1) := by decide +kernel
theorem dX5_does_50 : decode cX5_does 50 = .ok (.getfield 40, 3) := by decide +kernel
theorem dX5_does_53 : decode cX5_does 53 = .ok (.getfield 174, 3) := by decide +kernel
theorem dX5_does_56 : decode cX5_does 56 = .ok (.if_icmp .ge 25, 3) := by decide +kernel
theorem dX5_does_59 : decode cX5_does 59 = .ok (.aload_n 0, 1) := by decide +kernel
theorem dX5_does_60 : decode cX5_does 60 = .ok (.iload_n 2, 1) := by decide +kernel
theorem dX5_does_61 : decode cX5_does 61 = .ok (.invokevirtual 175, 3) := by decide +kernel
theorem dX5_does_64 : decode cX5_does 64 = .ok (.istore_n 3, 1) := by decide +kernel
theorem dX5_does_65 : decode cX5_does 65 = .ok (.iload_n 3, 1) := by decide +kernel
theorem dX5_does_66 : decode cX5_does 66 = .ok (.ifCond .ge 9, 3) := by decide +kernel
theorem dX5_does_69 : decode cX5_does 69 = .ok (.aload_n 0, 1) := by decide +kernel
theorem dX5_does_70 : decode cX5_does 70 = .ok (.iload_n 3, 1) := by decide +kernel
theorem dX5_does_71 : decode cX5_does 71 = .ok (.invokevirtual 66, 3) := by decide +kernel
theorem dX5_does_74 : decode cX5_does 74 = .ok (.ireturn, 1) := by decide +kernel
theorem dX5_does_75 : decode cX5_does 75 = .ok (.iinc 2 1, 3) := by decide +kernel
theorem dX5_does_78 : decode cX5_does 78 = .ok (.goto (-30), 3) := by decide +kernel
theorem dX5_does_81 : decode cX5_does 81 = .ok (.aload_n 0, 1) := by decide +kernel
theorem dX5_does_82 : decode cX5_does 82 = .ok (.getfield 11, 3) := by decide +kernel
theorem dX5_does_85 : decode cX5_does 85 = .ok (.astore_n 2, 1) := by decide +kernel
theorem dX5_does_86 : decode cX5_does 86 = .ok (.aload_n 0, 1) := by decide +kernel
theorem dX5_does_87 : decode cX5_does 87 = .ok (.aload_n 0, 1) := by decide +kernel
theorem dX5_does_88 : decode cX5_does 88 = .ok (.getfield 15, 3) := by decide +kernel
theorem dX5_does_91 : decode cX5_does 91 = .ok (.putfield 11, 3) := by decide +kernel
theorem dX5_does_94 : decode cX5_does 94 = .ok (.aload_n 0, 1) := by decide +kernel
theorem dX5_does_95 : decode cX5_does 95 = .ok (.aload_n 2, 1) := by decide +kernel
theorem dX5_does_96 : decode cX5_does 96 = .ok (.putfield 15, 3) := by decide +kernel
theorem dX5_does_99 : decode cX5_does 99 = .ok (.aload_n 0, 1) := by decide +kernel
theorem dX5_does_100 : decode cX5_does 100 = .ok (.getfield 40, 3) := by decide +kernel
theorem dX5_does_103 : decode cX5_does 103 = .ok (.getfield 174, 3) := by decide +kernel
theorem dX5_does_106 : decode cX5_does 106 = .ok (.ireturn, 1) := by decide +kernel
theorem dX5_writing_0 : decode cX5_writing 0 = .ok (.iload_n 1, 1) := by decide +kernel
theorem dX5_writing_1 : decode cX5_writing 1 = .ok (.invokestatic 63, 3) := by decide +kernel
theorem dX5_writing_4 : decode cX5_writing 4 = .ok (.ifCond .eq 8, 3) := by decide +kernel
theorem dX5_writing_7 : decode cX5_writing 7 = .ok (.iload_n 2, 1) := by decide +kernel
theorem dX5_writing_8 : decode cX5_writing 8 = .ok (.iconst (-1), 1) := by decide +kernel
theorem dX5_writing_9 : decode cX5_writing 9 = .ok (.if_icmp .ge 11, 3) := by decide +kernel
theorem dX5_writing_12 : decode cX5_writing 12 = .ok (.aload_n 0, 1) := by decide +kernel
theorem dX5_writing_13 : decode cX5_writing 13 = .ok (.sipush (-202), 3) := by decide +kernel
theorem dX5_writing_16 : decode cX5_writing 16 = .ok (.invokevirtual 66, 3) := by decide +kernel
theorem dX5_writing_19 : decode cX5_writing 19 = .ok (.ireturn, 1) := by decide +kernel
theorem dX5_writing_20 : decode cX5_writing 20 = .ok (.aload_n 0, 1) := by decide +kernel
theorem dX5_writing_21 : decode cX5_writing 21 = .ok (.getfield 47, 3) := by decide +kernel
theorem dX5_writing_24 : decode cX5_writing 24 = .ok (.iload_n 2, 1) := by decide +kernel
theorem dX5_writing_25 : decode cX5_writing 25 = .ok (.invokevirtual 178, 3) := by decide +kernel
theorem dX5_writing_28 : decode cX5_writing 28 = .ok (.aload_n 0, 1) := by decide +kernel
theorem dX5_writing_29 : decode cX5_writing 29 = .ok (.iload_n 1, 1) := by decide +kernel
theorem dX5_writing_30 : decode cX5_writing 30 = .ok (.invokevirtual 182, 3) := by decide +kernel
theorem dX5_writing_33 : decode cX5_writing 33 = .ok (.iload_n 2, 1) := by decide +kernel
theorem dX5_writing_34 : decode cX5_writing 34 = .ok (.iconst (-1), 1) := by decide +kernel
theorem dX5_writing_35 : decode cX5_writing 35 = .ok (.if_icmp .ne 13, 3) := by decide +kernel
theorem dX5_writing_38 : decode cX5_writing 38 = .ok (.aload_n 0, 1) := by decide +kernel
theorem dX5_writing_39 : decode cX5_writing 39 = .ok (.getfield 47, 3) := by decide +kernel
theorem dX5_writing_42 : decode cX5_writing 42 = .ok (.getfield 185, 3) := by decide +kernel
theorem dX5_writing_45 : decode cX5_writing 45 = .ok (.goto 10, 3) := by decide +kernel
theorem dX5_writing_48 : decode cX5_writing 48 = .ok (.aload_n 0, 1) := by decide +kernel
theorem dX5_writing_49 : decode cX5_writing 49 = .ok (.getfield 47, 3) := by decide +kernel
theorem dX5_writing_52 : decode cX5_writing 52 = .ok (.getfield 186, 3) := by decide +kernel
theorem dX5_writing_55 : decode cX5_writing 55 = .ok (.ireturn, 1) := by decide +kernel
theorem dX5_mark_0 : decode cX5_mark 0 = .ok (.iload_n 1, 1) := by decide +kernel
theorem dX5_mark_1 : decode cX5_mark 1 = .ok (.invokestatic 63, 3) := by decide +kernel
theorem dX5_mark_4 : decode cX5_mark 4 = .ok (.ifCond .ne 11, 3) := by decide +kernel
theorem dX5_mark_7 : decode cX5_mark 7 = .ok (.aload_n 0, 1) := by decide +kernel
theorem dX5_mark_8 : decode cX5_mark 8 = .ok (.sipush (-202), 3) := by decide +kernel
theorem dX5_mark_11 : decode cX5_mark 11 = .ok (.invokevirtual 66, 3) := by decide +kernel
theorem dX5_mark_14 : decode cX5_mark 14 = .ok (.ireturn, 1) := by decide +kernel
theorem dX5_mark_15 : decode cX5_mark 15 = .ok (.aload_n 0, 1) := by decide +kernel
theorem dX5_mark_16 : decode cX5_mark 16 = .ok (.getfield 47, 3) := by decide +kernel
theorem dX5_mark_19 : decode cX5_mark 19 = .ok (.iconst (-1), 1) := by decide +kernel
theorem dX5_mark_20 : decode cX5_mark 20 = .ok (.invokevirtual 178, 3) := by decide +kernel
theorem dX5_mark_23 : decode cX5_mark 23 = .ok (.aload_n 0, 1) := by decide +kernel
theorem dX5_mark_24 : decode cX5_mark 24 = .ok (.iload_n 1, 1) := by decide +kernel
theorem dX5_mark_25 : decode cX5_mark 25 = .ok (.invokevirtual 182, 3) := by decide +kernel
theorem dX5_mark_28 : decode cX5_mark 28 = .ok (.aload_n 0, 1) := by decide +kernel
theorem dX5_mark_29 : decode cX5_mark 29 = .ok (.getfield 47, 3) := by decide +kernel
theorem dX5_mark_32 : decode cX5_mark 32 = .ok (.getfield 189, 3) := by decide +kernel
theorem dX5_mark_35 : decode cX5_mark 35 = .ok (.ireturn, 1) := by decide +kernel
theorem dX5_told_0 : decode cX5_told 0 = .ok (.iload_n 1, 1) := by decide +kernel
theorem dX5_told_1 : decode cX5_told 1 = .ok (.tableswitch 67 0 5 #[39, 39, 39, 46, 54, 62], 39) := by decide +kernel
theorem dX5_told_40 : decode cX5_told 40 = .ok (.aload_n 0, 1) := by decide +kernel
theorem dX5_told_41 : decode cX5_told 41 = .ok (.getfield 51, 3) := by decide +kernel
theorem dX5_told_44 : decode cX5_told 44 = .ok (.iload_n 1, 1) := by decide +kernel
theorem dX5_told_45 : decode cX5_told 45 = .ok (.iaload, 1) := by decide +kernel
theorem dX5_told_46 : decode cX5_told 46 = .ok (.ireturn, 1) := by decide +kernel
theorem dX5_told_47 : decode cX5_told 47 = .ok (.aload_n 0, 1) := by decide +kernel
theorem dX5_told_48 : decode cX5_told 48 = .ok (.getfield 40, 3) := by decide +kernel
theorem dX5_told_51 : decode cX5_told 51 = .ok (.getfield 168, 3) := by decide +kernel
theorem dX5_told_54 : decode cX5_told 54 = .ok (.ireturn, 1) := by decide +kernel
theorem dX5_told_55 : decode cX5_told 55 = .ok (.aload_n 0, 1) := by decide +kernel
theorem dX5_told_56 : decode cX5_told 56 = .ok (.getfield 33, 3) := by decide +kernel
theorem dX5_told_59 : decode cX5_told 59 = .ok (.getfield 119, 3) := by decide +kernel
theorem dX5_told_62 : decode cX5_told 62 = .ok (.ireturn, 1) := by decide +kernel
theorem dX5_told_63 : decode cX5_told 63 = .ok (.aload_n 0, 1) := by decide +kernel
theorem dX5_told_64 : decode cX5_told 64 = .ok (.invokevirtual 192, 3) := by decide +kernel
theorem dX5_told_67 : decode cX5_told 67 = .ok (.ireturn, 1) := by decide +kernel
theorem dX5_told_68 : decode cX5_told 68 = .ok (.aload_n 0, 1) := by decide +kernel
theorem dX5_told_69 : decode cX5_told 69 = .ok (.sipush (-202), 3) := by decide +kernel
theorem dX5_told_72 : decode cX5_told 72 = .ok (.invokevirtual 66, 3) := by decide +kernel
theorem dX5_told_75 : decode cX5_told 75 = .ok (.ireturn, 1) := by decide +kernel
theorem dX5_digest_0 : decode cX5_digest 0 = .ok (.ldc2_w 195, 3) := by decide +kernel
theorem dX5_digest_3 : decode cX5_digest 3 = .ok (.lstore_n 1, 1) := by decide +kernel
theorem dX5_digest_4 : decode cX5_digest 4 = .ok (.iconst 0, 1) := by decide +kernel
theorem dX5_digest_5 : decode cX5_digest 5 = .ok (.istore_n 3, 1) := by decide +kernel
theorem dX5_digest_6 : decode cX5_digest 6 = .ok (.iload_n 3, 1) := by decide +kernel
theorem dX5_digest_7 : decode cX5_digest 7 = .ok (.iconst 5, 1) := by decide +kernel
theorem dX5_digest_8 : decode cX5_digest 8 = .ok (.if_icmp .gt 22, 3) := by decide +kernel
theorem dX5_digest_11 : decode cX5_digest 11 = .ok (.ldc2_w 197, 3) := by decide +kernel
theorem dX5_digest_14 : decode cX5_digest 14 = .ok (.lload_n 1, 1) := by decide +kernel
theorem dX5_digest_15 : decode cX5_digest 15 = .ok (.lmul, 1) := by decide +kernel
theorem dX5_digest_16 : decode cX5_digest 16 = .ok (.aload_n 0, 1) := by decide +kernel
theorem dX5_digest_17 : decode cX5_digest 17 = .ok (.iload_n 3, 1) := by decide +kernel
theorem dX5_digest_18 : decode cX5_digest 18 = .ok (.invokevirtual 199, 3) := by decide +kernel
theorem dX5_digest_21 : decode cX5_digest 21 = .ok (.i2l, 1) := by decide +kernel
theorem dX5_digest_22 : decode cX5_digest 22 = .ok (.ladd, 1) := by decide +kernel
theorem dX5_digest_23 : decode cX5_digest 23 = .ok (.lstore_n 1, 1) := by decide +kernel
theorem dX5_digest_24 : decode cX5_digest 24 = .ok (.iinc 3 1, 3) := by decide +kernel
theorem dX5_digest_27 : decode cX5_digest 27 = .ok (.goto (-21), 3) := by decide +kernel
theorem dX5_digest_30 : decode cX5_digest 30 = .ok (.iconst 0, 1) := by decide +kernel
theorem dX5_digest_31 : decode cX5_digest 31 = .ok (.istore_n 3, 1) := by decide +kernel
theorem dX5_digest_32 : decode cX5_digest 32 = .ok (.iload_n 3, 1) := by decide +kernel
theorem dX5_digest_33 : decode cX5_digest 33 = .ok (.iconst 5, 1) := by decide +kernel
theorem dX5_digest_34 : decode cX5_digest 34 = .ok (.if_icmp .ge 64, 3) := by decide +kernel
theorem dX5_digest_37 : decode cX5_digest 37 = .ok (.ldc2_w 197, 3) := by decide +kernel
theorem dX5_digest_40 : decode cX5_digest 40 = .ok (.lload_n 1, 1) := by decide +kernel
theorem dX5_digest_41 : decode cX5_digest 41 = .ok (.lmul, 1) := by decide +kernel
theorem dX5_digest_42 : decode cX5_digest 42 = .ok (.aload_n 0, 1) := by decide +kernel
theorem dX5_digest_43 : decode cX5_digest 43 = .ok (.iload_n 3, 1) := by decide +kernel
theorem dX5_digest_44 : decode cX5_digest 44 = .ok (.iconst 0, 1) := by decide +kernel
theorem dX5_digest_45 : decode cX5_digest 45 = .ok (.invokevirtual 202, 3) := by decide +kernel
theorem dX5_digest_48 : decode cX5_digest 48 = .ok (.i2l, 1) := by decide +kernel
theorem dX5_digest_49 : decode cX5_digest 49 = .ok (.ladd, 1) := by decide +kernel
theorem dX5_digest_50 : decode cX5_digest 50 = .ok (.lstore_n 1, 1) := by decide +kernel
theorem dX5_digest_51 : decode cX5_digest 51 = .ok (.ldc2_w 197, 3) := by decide +kernel
theorem dX5_digest_54 : decode cX5_digest 54 = .ok (.lload_n 1, 1) := by decide +kernel
theorem dX5_digest_55 : decode cX5_digest 55 = .ok (.lmul, 1) := by decide +kernel
theorem dX5_digest_56 : decode cX5_digest 56 = .ok (.aload_n 0, 1) := by decide +kernel
theorem dX5_digest_57 : decode cX5_digest 57 = .ok (.iload_n 3, 1) := by decide +kernel
theorem dX5_digest_58 : decode cX5_digest 58 = .ok (.iconst 1, 1) := by decide +kernel
theorem dX5_digest_59 : decode cX5_digest 59 = .ok (.invokevirtual 202, 3) := by decide +kernel
theorem dX5_digest_62 : decode cX5_digest 62 = .ok (.i2l, 1) := by decide +kernel
theorem dX5_digest_63 : decode cX5_digest 63 = .ok (.ladd, 1) := by decide +kernel
theorem dX5_digest_64 : decode cX5_digest 64 = .ok (.lstore_n 1, 1) := by decide +kernel
theorem dX5_digest_65 : decode cX5_digest 65 = .ok (.ldc2_w 197, 3) := by decide +kernel
theorem dX5_digest_68 : decode cX5_digest 68 = .ok (.lload_n 1, 1) := by decide +kernel
theorem dX5_digest_69 : decode cX5_digest 69 = .ok (.lmul, 1) := by decide +kernel
theorem dX5_digest_70 : decode cX5_digest 70 = .ok (.aload_n 0, 1) := by decide +kernel
theorem dX5_digest_71 : decode cX5_digest 71 = .ok (.iload_n 3, 1) := by decide +kernel
theorem dX5_digest_72 : decode cX5_digest 72 = .ok (.iconst 2, 1) := by decide +kernel
theorem dX5_digest_73 : decode cX5_digest 73 = .ok (.invokevirtual 202, 3) := by decide +kernel
theorem dX5_digest_76 : decode cX5_digest 76 = .ok (.i2l, 1) := by decide +kernel
theorem dX5_digest_77 : decode cX5_digest 77 = .ok (.ladd, 1) := by decide +kernel
theorem dX5_digest_78 : decode cX5_digest 78 = .ok (.lstore_n 1, 1) := by decide +kernel
theorem dX5_digest_79 : decode cX5_digest 79 = .ok (.ldc2_w 197, 3) := by decide +kernel
theorem dX5_digest_82 : decode cX5_digest 82 = .ok (.lload_n 1, 1) := by decide +kernel
theorem dX5_digest_83 : decode cX5_digest 83 = .ok (.lmul, 1) := by decide +kernel
theorem dX5_digest_84 : decode cX5_digest 84 = .ok (.aload_n 0, 1) := by decide +kernel
theorem dX5_digest_85 : decode cX5_digest 85 = .ok (.iload_n 3, 1) := by decide +kernel
theorem dX5_digest_86 : decode cX5_digest 86 = .ok (.invokevirtual 205, 3) := by decide +kernel
theorem dX5_digest_89 : decode cX5_digest 89 = .ok (.i2l, 1) := by decide +kernel
theorem dX5_digest_90 : decode cX5_digest 90 = .ok (.ladd, 1) := by decide +kernel
theorem dX5_digest_91 : decode cX5_digest 91 = .ok (.lstore_n 1, 1) := by decide +kernel
theorem dX5_digest_92 : decode cX5_digest 92 = .ok (.iinc 3 1, 3) := by decide +kernel
theorem dX5_digest_95 : decode cX5_digest 95 = .ok (.goto (-63), 3) := by decide +kernel
theorem dX5_digest_98 : decode cX5_digest 98 = .ok (.lload_n 1, 1) := by decide +kernel
theorem dX5_digest_99 : decode cX5_digest 99 = .ok (.lreturn, 1) := by decide +kernel
theorem dX5_within_0 : decode cX5_within 0 = .ok (.iload_n 0, 1) := by decide +kernel
theorem dX5_within_1 : decode cX5_within 1 = .ok (.iload_n 1, 1) := by decide +kernel
theorem dX5_within_2 : decode cX5_within 2 = .ok (.if_icmp .lt 12, 3) := by decide +kernel
theorem dX5_within_5 : decode cX5_within 5 = .ok (.iload_n 0, 1) := by decide +kernel
theorem dX5_within_6 : decode cX5_within 6 = .ok (.iload_n 2, 1) := by decide +kernel
theorem dX5_within_7 : decode cX5_within 7 = .ok (.if_icmp .gt 7, 3) := by decide +kernel
theorem dX5_within_10 : decode cX5_within 10 = .ok (.iconst 1, 1) := by decide +kernel
theorem dX5_within_11 : decode cX5_within 11 = .ok (.goto 4, 3) := by decide +kernel
theorem dX5_within_14 : decode cX5_within 14 = .ok (.iconst 0, 1) := by decide +kernel
theorem dX5_within_15 : decode cX5_within 15 = .ok (.ireturn, 1) := by decide +kernel
theorem dX5_isPlace_0 : decode cX5_isPlace 0 = .ok (.iload_n 0, 1) := by decide +kernel
theorem dX5_isPlace_1 : decode cX5_isPlace 1 = .ok (.bipush (-60), 2) := by decide +kernel
theorem dX5_isPlace_3 : decode cX5_isPlace 3 = .ok (.bipush 59, 2) := by decide +kernel
theorem dX5_isPlace_5 : decode cX5_isPlace 5 = .ok (.invokestatic 59, 3) := by decide +kernel
theorem dX5_isPlace_8 : decode cX5_isPlace 8 = .ok (.ireturn, 1) := by decide +kernel
theorem dX5_isArea_0 : decode cX5_isArea 0 = .ok (.iload_n 0, 1) := by decide +kernel
theorem dX5_isArea_1 : decode cX5_isArea 1 = .ok (.iconst 0, 1) := by decide +kernel
theorem dX5_isArea_2 : decode cX5_isArea 2 = .ok (.iconst 4, 1) := by decide +kernel
theorem dX5_isArea_3 : decode cX5_isArea 3 = .ok (.invokestatic 59, 3) := by decide +kernel
theorem dX5_isArea_6 : decode cX5_isArea 6 = .ok (.ireturn, 1) := by decide +kernel
theorem dX5_answer_0 : decode cX5_answer 0 = .ok (.iload_n 1, 1) := by decide +kernel
theorem dX5_answer_1 : decode cX5_answer 1 = .ok (.sipush (-204), 3) := by decide +kernel
theorem dX5_answer_4 : decode cX5_answer 4 = .ok (.sipush (-202), 3) := by decide +kernel
theorem dX5_answer_7 : decode cX5_answer 7 = .ok (.invokestatic 59, 3) := by decide +kernel
theorem dX5_answer_10 : decode cX5_answer 10 = .ok (.ifCond .eq 17, 3) := by decide +kernel
theorem dX5_answer_13 : decode cX5_answer 13 = .ok (.aload_n 0, 1) := by decide +kernel
theorem dX5_answer_14 : decode cX5_answer 14 = .ok (.getfield 51, 3) := by decide +kernel
theorem dX5_answer_17 : decode cX5_answer 17 = .ok (.sipush (-202), 3) := by decide +kernel
theorem dX5_answer_20 : decode cX5_answer 20 = .ok (.iload_n 1, 1) := by decide +kernel
theorem dX5_answer_21 : decode cX5_answer 21 = .ok (.isub, 1) := by decide +kernel
theorem dX5_answer_22 : decode cX5_answer 22 = .ok (.dup2, 1) := by decide +kernel
theorem dX5_answer_23 : decode cX5_answer 23 = .ok (.iaload, 1) := by decide +kernel
theorem dX5_answer_24 : decode cX5_answer 24 = .ok (.iconst 1, 1) := by decide +kernel
theorem dX5_answer_25 : decode cX5_answer 25 = .ok (.iadd, 1) := by decide +kernel
theorem dX5_answer_26 : decode cX5_answer 26 = .ok (.iastore, 1) := by decide +kernel
theorem dX5_answer_27 : decode cX5_answer 27 = .ok (.iload_n 1, 1) := by decide +kernel
theorem dX5_answer_28 : decode cX5_answer 28 = .ok (.ireturn, 1) := by decide +kernel
theorem dX5_keep_0 : decode cX5_keep 0 = .ok (.aload_n 0, 1) := by decide +kernel
theorem dX5_keep_1 : decode cX5_keep 1 = .ok (.getfield 26, 3) := by decide +kernel
theorem dX5_keep_4 : decode cX5_keep 4 = .ok (.aload_n 0, 1) := by decide +kernel
theorem dX5_keep_5 : decode cX5_keep 5 = .ok (.getfield 19, 3) := by decide +kernel
theorem dX5_keep_8 : decode cX5_keep 8 = .ok (.invokevirtual 104, 3) := by decide +kernel
theorem dX5_keep_11 : decode cX5_keep 11 = .ok (.ifCond .ne 7, 3) := by decide +kernel
theorem dX5_keep_14 : decode cX5_keep 14 = .ok (.sipush (-204), 3) := by decide +kernel
theorem dX5_keep_17 : decode cX5_keep 17 = .ok (.ireturn, 1) := by decide +kernel
theorem dX5_keep_18 : decode cX5_keep 18 = .ok (.aload_n 1, 1) := by decide +kernel
theorem dX5_keep_19 : decode cX5_keep 19 = .ok (.iload_n 2, 1) := by decide +kernel
theorem dX5_keep_20 : decode cX5_keep 20 = .ok (.aaload, 1) := by decide +kernel
theorem dX5_keep_21 : decode cX5_keep 21 = .ok (.astore_n 3, 1) := by decide +kernel
theorem dX5_keep_22 : decode cX5_keep 22 = .ok (.aload_n 1, 1) := by decide +kernel
theorem dX5_keep_23 : decode cX5_keep 23 = .ok (.iload_n 2, 1) := by decide +kernel
theorem dX5_keep_24 : decode cX5_keep 24 = .ok (.aload_n 0, 1) := by decide +kernel
theorem dX5_keep_25 : decode cX5_keep 25 = .ok (.getfield 19, 3) := by decide +kernel
theorem dX5_keep_28 : decode cX5_keep 28 = .ok (.aastore, 1) := by decide +kernel
theorem dX5_keep_29 : decode cX5_keep 29 = .ok (.aload_n 0, 1) := by decide +kernel
theorem dX5_keep_30 : decode cX5_keep 30 = .ok (.aload_n 3, 1) := by decide +kernel
theorem dX5_keep_31 : decode cX5_keep 31 = .ok (.putfield 19, 3) := by decide +kernel
theorem dX5_keep_34 : decode cX5_keep 34 = .ok (.aload_n 1, 1) := by decide +kernel
theorem dX5_keep_35 : decode cX5_keep 35 = .ok (.iload_n 2, 1) := by decide +kernel
theorem dX5_keep_36 : decode cX5_keep 36 = .ok (.aaload, 1) := by decide +kernel
theorem dX5_keep_37 : decode cX5_keep 37 = .ok (.invokevirtual 131, 3) := by decide +kernel
theorem dX5_keep_40 : decode cX5_keep 40 = .ok (.ireturn, 1) := by decide +kernel
theorem dX5_layBox_0 : decode cX5_layBox 0 = .ok (.iload_n 1, 1) := by decide +kernel
theorem dX5_layBox_1 : decode cX5_layBox 1 = .ok (.iload_n 3, 1) := by decide +kernel
theorem dX5_layBox_2 : decode cX5_layBox 2 = .ok (.iadd, 1) := by decide +kernel
theorem dX5_layBox_3 : decode cX5_layBox 3 = .ok (.bipush 60, 2) := by decide +kernel
theorem dX5_layBox_5 : decode cX5_layBox 5 = .ok (.if_icmp .gt 12, 3) := by decide +kernel
theorem dX5_layBox_8 : decode cX5_layBox 8 = .ok (.iload_n 2, 1) := by decide +kernel
theorem dX5_layBox_9 : decode cX5_layBox 9 = .ok (.iload 4, 2) := by decide +kernel
theorem dX5_layBox_11 : decode cX5_layBox 11 = .ok (.iadd, 1) := by decide +kernel
theorem dX5_layBox_12 : decode cX5_layBox 12 = .ok (.bipush 60, 2) := by decide +kernel
theorem dX5_layBox_14 : decode cX5_layBox 14 = .ok (.if_icmp .le 5, 3) := by decide +kernel
theorem dX5_layBox_17 : decode cX5_layBox 17 = .ok (.iconst 0, 1) := by decide +kernel
theorem dX5_layBox_18 : decode cX5_layBox 18 = .ok (.ireturn, 1) := by decide +kernel
theorem dX5_layBox_19 : decode cX5_layBox 19 = .ok (.aload_n 0, 1) := by decide +kernel
theorem dX5_layBox_20 : decode cX5_layBox 20 = .ok (.getfield 19, 3) := by decide +kernel
theorem dX5_layBox_23 : decode cX5_layBox 23 = .ok (.invokevirtual 208, 3) := by decide +kernel
theorem dX5_layBox_26 : decode cX5_layBox 26 = .ok (.aload_n 0, 1) := by decide +kernel
theorem dX5_layBox_27 : decode cX5_layBox 27 = .ok (.getfield 19, 3) := by decide +kernel
theorem dX5_layBox_30 : decode cX5_layBox 30 = .ok (.iload_n 1, 1) := by decide +kernel
theorem dX5_layBox_31 : decode cX5_layBox 31 = .ok (.iload_n 2, 1) := by decide +kernel
theorem dX5_layBox_32 : decode cX5_layBox 32 = .ok (.iload_n 1, 1) := by decide +kernel
theorem dX5_layBox_33 : decode cX5_layBox 33 = .ok (.iload_n 3, 1) := by decide +kernel
theorem dX5_layBox_34 : decode cX5_layBox 34 = .ok (.iadd, 1) := by decide +kernel
theorem dX5_layBox_35 : decode cX5_layBox 35 = .ok (.iload_n 2, 1) := by decide +kernel
theorem dX5_layBox_36 : decode cX5_layBox 36 = .ok (.iload 4, 2) := by decide +kernel
theorem dX5_layBox_38 : decode cX5_layBox 38 = .ok (.iadd, 1) := by decide +kernel
theorem dX5_layBox_39 : decode cX5_layBox 39 = .ok (.invokevirtual 211, 3) := by decide +kernel
theorem dX5_layBox_42 : decode cX5_layBox 42 = .ok (.iconst 1, 1) := by decide +kernel
theorem dX5_layBox_43 : decode cX5_layBox 43 = .ok (.ireturn, 1) := by decide +kernel
theorem dX5_layMoved_0 : decode cX5_layMoved 0 = .ok (.aload_n 0, 1) := by decide +kernel
theorem dX5_layMoved_1 : decode cX5_layMoved 1 = .ok (.getfield 26, 3) := by decide +kernel
theorem dX5_layMoved_4 : decode cX5_layMoved 4 = .ok (.aload_n 1, 1) := by decide +kernel
theorem dX5_layMoved_5 : decode cX5_layMoved 5 = .ok (.invokevirtual 104, 3) := by decide +kernel
theorem dX5_layMoved_8 : decode cX5_layMoved 8 = .ok (.pop, 1) := by decide +kernel
theorem dX5_layMoved_9 : decode cX5_layMoved 9 = .ok (.aload_n 0, 1) := by decide +kernel
theorem dX5_layMoved_10 : decode cX5_layMoved 10 = .ok (.getfield 26, 3) := by decide +kernel
theorem dX5_layMoved_13 : decode cX5_layMoved 13 = .ok (.iload_n 2, 1) := by decide +kernel
theorem dX5_layMoved_14 : decode cX5_layMoved 14 = .ok (.iload_n 3, 1) := by decide +kernel
theorem dX5_layMoved_15 : decode cX5_layMoved 15 = .ok (.invokevirtual 215, 3) := by decide +kernel
theorem dX5_layMoved_18 : decode cX5_layMoved 18 = .ok (.ifCond .ne 5, 3) := by decide +kernel
theorem dX5_layMoved_21 : decode cX5_layMoved 21 = .ok (.iconst 0, 1) := by decide +kernel
theorem dX5_layMoved_22 : decode cX5_layMoved 22 = .ok (.ireturn, 1) := by decide +kernel
theorem dX5_layMoved_23 : decode cX5_layMoved 23 = .ok (.aload_n 0, 1) := by decide +kernel
theorem dX5_layMoved_24 : decode cX5_layMoved 24 = .ok (.getfield 26, 3) := by decide +kernel
theorem dX5_layMoved_27 : decode cX5_layMoved 27 = .ok (.aload_n 0, 1) := by decide +kernel
theorem dX5_layMoved_28 : decode cX5_layMoved 28 = .ok (.getfield 19, 3) := by decide +kernel
theorem dX5_layMoved_31 : decode cX5_layMoved 31 = .ok (.iload_n 2, 1) := by decide +kernel
theorem dX5_layMoved_32 : decode cX5_layMoved 32 = .ok (.iload_n 3, 1) := by decide +kernel
theorem dX5_layMoved_33 : decode cX5_layMoved 33 = .ok (.invokevirtual 218, 3) := by decide +kernel
theorem dX5_layMoved_36 : decode cX5_layMoved 36 = .ok (.iconst 1, 1) := by decide +kernel
theorem dX5_layMoved_37 : decode cX5_layMoved 37 = .ok (.ireturn, 1) := by decide +kernel
theorem dX5_layGrown_0 : decode cX5_layGrown 0 = .ok (.aload_n 0, 1) := by decide +kernel
theorem dX5_layGrown_1 : decode cX5_layGrown 1 = .ok (.getfield 19, 3) := by decide +kernel
theorem dX5_layGrown_4 : decode cX5_layGrown 4 = .ok (.aload_n 1, 1) := by decide +kernel
theorem dX5_layGrown_5 : decode cX5_layGrown 5 = .ok (.invokevirtual 93, 3) := by decide +kernel
theorem dX5_layGrown_8 : decode cX5_layGrown 8 = .ok (.iload_n 2, 1) := by decide +kernel
theorem dX5_layGrown_9 : decode cX5_layGrown 9 = .ok (.ifCond .ge 10, 3) := by decide +kernel
theorem dX5_layGrown_12 : decode cX5_layGrown 12 = .ok (.aload_n 0, 1) := by decide +kernel
theorem dX5_layGrown_13 : decode cX5_layGrown 13 = .ok (.getfield 19, 3) := by decide +kernel
theorem dX5_layGrown_16 : decode cX5_layGrown 16 = .ok (.invokevirtual 97, 3) := by decide +kernel
theorem dX5_layGrown_19 : decode cX5_layGrown 19 = .ok (.iload_n 2, 1) := by decide +kernel
theorem dX5_layGrown_20 : decode cX5_layGrown 20 = .ok (.invokestatic 220, 3) := by decide +kernel
theorem dX5_layGrown_23 : decode cX5_layGrown 23 = .ok (.istore_n 3, 1) := by decide +kernel
theorem dX5_layGrown_24 : decode cX5_layGrown 24 = .ok (.iload_n 3, 1) := by decide +kernel
theorem dX5_layGrown_25 : decode cX5_layGrown 25 = .ok (.ifCond .le 25, 3) := by decide +kernel
theorem dX5_layGrown_28 : decode cX5_layGrown 28 = .ok (.aload_n 0, 1) := by decide +kernel
theorem dX5_layGrown_29 : decode cX5_layGrown 29 = .ok (.getfield 19, 3) := by decide +kernel
theorem dX5_layGrown_32 : decode cX5_layGrown 32 = .ok (.iload_n 2, 1) := by decide +kernel
theorem dX5_layGrown_33 : decode cX5_layGrown 33 = .ok (.ifCond .ge 7, 3) := by decide +kernel
theorem dX5_layGrown_36 : decode cX5_layGrown 36 = .ok (.iconst 1, 1) := by decide +kernel
theorem dX5_layGrown_37 : decode cX5_layGrown 37 = .ok (.goto 4, 3) := by decide +kernel
theorem dX5_layGrown_40 : decode cX5_layGrown 40 = .ok (.iconst 0, 1) := by decide +kernel
theorem dX5_layGrown_41 : decode cX5_layGrown 41 = .ok (.invokevirtual 162, 3) := by decide +kernel
theorem dX5_layGrown_44 : decode cX5_layGrown 44 = .ok (.iinc 3 (-1), 3) := by decide +kernel
theorem dX5_layGrown_47 : decode cX5_layGrown 47 = .ok (.goto (-23), 3) := by decide +kernel
theorem dX5_layGrown_50 : decode cX5_layGrown 50 = .ok (.iload_n 2, 1) := by decide +kernel
theorem dX5_layGrown_51 : decode cX5_layGrown 51 = .ok (.ifCond .ge 10, 3) := by decide +kernel
theorem dX5_layGrown_54 : decode cX5_layGrown 54 = .ok (.aload_n 0, 1) := by decide +kernel
theorem dX5_layGrown_55 : decode cX5_layGrown 55 = .ok (.getfield 19, 3) := by decide +kernel
theorem dX5_layGrown_58 : decode cX5_layGrown 58 = .ok (.invokevirtual 97, 3) := by decide +kernel
theorem dX5_layGrown_61 : decode cX5_layGrown 61 = .ok (.return_, 1) := by decide +kernel
theorem dX5_layTurned_0 : decode cX5_layTurned 0 = .ok (.aload_n 0, 1) := by decide +kernel
theorem dX5_layTurned_1 : decode cX5_layTurned 1 = .ok (.getfield 26, 3) := by decide +kernel
theorem dX5_layTurned_4 : decode cX5_layTurned 4 = .ok (.aload_n 1, 1) := by decide +kernel
theorem dX5_layTurned_5 : decode cX5_layTurned 5 = .ok (.invokevirtual 104, 3) := by decide +kernel
theorem dX5_layTurned_8 : decode cX5_layTurned 8 = .ok (.pop, 1) := by decide +kernel
theorem dX5_layTurned_9 : decode cX5_layTurned 9 = .ok (.aload_n 0, 1) := by decide +kernel
theorem dX5_layTurned_10 : decode cX5_layTurned 10 = .ok (.getfield 26, 3) := by decide +kernel
theorem dX5_layTurned_13 : decode cX5_layTurned 13 = .ok (.aload_n 0, 1) := by decide +kernel
theorem dX5_layTurned_14 : decode cX5_layTurned 14 = .ok (.getfield 19, 3) := by decide +kernel
theorem dX5_layTurned_17 : decode cX5_layTurned 17 = .ok (.iload_n 2, 1) := by decide +kernel
theorem dX5_layTurned_18 : decode cX5_layTurned 18 = .ok (.invokevirtual 225, 3) := by decide +kernel
theorem dX5_layTurned_21 : decode cX5_layTurned 21 = .ok (.return_, 1) := by decide +kernel
theorem dX5_layDrawn_0 : decode cX5_layDrawn 0 = .ok (.aload_n 0, 1) := by decide +kernel
theorem dX5_layDrawn_1 : decode cX5_layDrawn 1 = .ok (.getfield 19, 3) := by decide +kernel
theorem dX5_layDrawn_4 : decode cX5_layDrawn 4 = .ok (.invokevirtual 208, 3) := by decide +kernel
theorem dX5_layDrawn_7 : decode cX5_layDrawn 7 = .ok (.iload_n 1, 1) := by decide +kernel
theorem dX5_layDrawn_8 : decode cX5_layDrawn 8 = .ok (.i2l, 1) := by decide +kernel
theorem dX5_layDrawn_9 : decode cX5_layDrawn 9 = .ok (.lstore_n 3, 1) := by decide +kernel
theorem dX5_layDrawn_10 : decode cX5_layDrawn 10 = .ok (.iconst 0, 1) := by decide +kernel
theorem dX5_layDrawn_11 : decode cX5_layDrawn 11 = .ok (.istore 5, 2) := by decide +kernel
theorem dX5_layDrawn_13 : decode cX5_layDrawn 13 = .ok (.iload 5, 2) := by decide +kernel
theorem dX5_layDrawn_15 : decode cX5_layDrawn 15 = .ok (.iload_n 2, 1) := by decide +kernel
theorem dX5_layDrawn_16 : decode cX5_layDrawn 16 = .ok (.if_icmp .ge 102, 3) := by decide +kernel
theorem dX5_layDrawn_19 : decode cX5_layDrawn 19 = .ok (.lload_n 3, 1) := by decide +kernel
theorem dX5_layDrawn_20 : decode cX5_layDrawn 20 = .ok (.ldc2_w 226, 3) := by decide +kernel
theorem dX5_layDrawn_23 : decode cX5_layDrawn 23 = .ok (.lmul, 1) := by decide +kernel
theorem dX5_layDrawn_24 : decode cX5_layDrawn 24 = .ok (.ldc2_w 228, 3) := by decide +kernel
theorem dX5_layDrawn_27 : decode cX5_layDrawn 27 = .ok (.ladd, 1) := by decide +kernel
theorem dX5_layDrawn_28 : decode cX5_layDrawn 28 = .ok (.ldc2_w 230, 3) := by decide +kernel
theorem dX5_layDrawn_31 : decode cX5_layDrawn 31 = .ok (.lrem, 1) := by decide +kernel
theorem dX5_layDrawn_32 : decode cX5_layDrawn 32 = .ok (.lstore_n 3, 1) := by decide +kernel
theorem dX5_layDrawn_33 : decode cX5_layDrawn 33 = .ok (.lload_n 3, 1) := by decide +kernel
theorem dX5_layDrawn_34 : decode cX5_layDrawn 34 = .ok (.ldc2_w 232, 3) := by decide +kernel
theorem dX5_layDrawn_37 : decode cX5_layDrawn 37 = .ok (.ldiv, 1) := by decide +kernel
theorem dX5_layDrawn_38 : decode cX5_layDrawn 38 = .ok (.ldc2_w 234, 3) := by decide +kernel
theorem dX5_layDrawn_41 : decode cX5_layDrawn 41 = .ok (.lrem, 1) := by decide +kernel
theorem dX5_layDrawn_42 : decode cX5_layDrawn 42 = .ok (.l2i, 1) := by decide +kernel
theorem dX5_layDrawn_43 : decode cX5_layDrawn 43 = .ok (.bipush 25, 2) := by decide +kernel
theorem dX5_layDrawn_45 : decode cX5_layDrawn 45 = .ok (.isub, 1) := by decide +kernel
theorem dX5_layDrawn_46 : decode cX5_layDrawn 46 = .ok (.istore 6, 2) := by decide +kernel
theorem dX5_layDrawn_48 : decode cX5_layDrawn 48 = .ok (.lload_n 3, 1) := by decide +kernel
theorem dX5_layDrawn_49 : decode cX5_layDrawn 49 = .ok (.ldc2_w 236, 3) := by decide +kernel
theorem dX5_layDrawn_52 : decode cX5_layDrawn 52 = .ok (.ldiv, 1) := by decide +kernel
theorem dX5_layDrawn_53 : decode cX5_layDrawn 53 = .ok (.ldc2_w 234, 3) := by decide +kernel
theorem dX5_layDrawn_56 : decode cX5_layDrawn 56 = .ok (.lrem, 1) := by decide +kernel
theorem dX5_layDrawn_57 : decode cX5_layDrawn 57 = .ok (.l2i, 1) := by decide +kernel
theorem dX5_layDrawn_58 : decode cX5_layDrawn 58 = .ok (.bipush 25, 2) := by decide +kernel
theorem dX5_layDrawn_60 : decode cX5_layDrawn 60 = .ok (.isub, 1) := by decide +kernel
theorem dX5_layDrawn_61 : decode cX5_layDrawn 61 = .ok (.istore 7, 2) := by decide +kernel
theorem dX5_layDrawn_63 : decode cX5_layDrawn 63 = .ok (.lload_n 3, 1) := by decide +kernel
theorem dX5_layDrawn_64 : decode cX5_layDrawn 64 = .ok (.ldc2_w 238, 3) := by decide +kernel
theorem dX5_layDrawn_67 : decode cX5_layDrawn 67 = .ok (.ldiv, 1) := by decide +kernel
theorem dX5_layDrawn_68 : decode cX5_layDrawn 68 = .ok (.ldc2_w 240, 3) := by decide +kernel
theorem dX5_layDrawn_71 : decode cX5_layDrawn 71 = .ok (.lrem, 1) := by decide +kernel
theorem dX5_layDrawn_72 : decode cX5_layDrawn 72 = .ok (.l2i, 1) := by decide +kernel
theorem dX5_layDrawn_73 : decode cX5_layDrawn 73 = .ok (.iconst 1, 1) := by decide +kernel
theorem dX5_layDrawn_74 : decode cX5_layDrawn 74 = .ok (.iadd, 1) := by decide +kernel
theorem dX5_layDrawn_75 : decode cX5_layDrawn 75 = .ok (.istore 8, 2) := by decide +kernel
theorem dX5_layDrawn_77 : decode cX5_layDrawn 77 = .ok (.lload_n 3, 1) := by decide +kernel
theorem dX5_layDrawn_78 : decode cX5_layDrawn 78 = .ok (.ldc2_w 242, 3) := by decide +kernel
theorem dX5_layDrawn_81 : decode cX5_layDrawn 81 = .ok (.ldiv, 1) := by decide +kernel
theorem dX5_layDrawn_82 : decode cX5_layDrawn 82 = .ok (.ldc2_w 240, 3) := by decide +kernel
theorem dX5_layDrawn_85 : decode cX5_layDrawn 85 = .ok (.lrem, 1) := by decide +kernel
theorem dX5_layDrawn_86 : decode cX5_layDrawn 86 = .ok (.l2i, 1) := by decide +kernel
theorem dX5_layDrawn_87 : decode cX5_layDrawn 87 = .ok (.iconst 1, 1) := by decide +kernel
theorem dX5_layDrawn_88 : decode cX5_layDrawn 88 = .ok (.iadd, 1) := by decide +kernel
theorem dX5_layDrawn_89 : decode cX5_layDrawn 89 = .ok (.istore 9, 2) := by decide +kernel
theorem dX5_layDrawn_91 : decode cX5_layDrawn 91 = .ok (.aload_n 0, 1) := by decide +kernel
theorem dX5_layDrawn_92 : decode cX5_layDrawn 92 = .ok (.getfield 19, 3) := by decide +kernel
theorem dX5_layDrawn_95 : decode cX5_layDrawn 95 = .ok (.iload 6, 2) := by decide +kernel
theorem dX5_layDrawn_97 : decode cX5_layDrawn 97 = .ok (.iload 7, 2) := by decide +kernel
theorem dX5_layDrawn_99 : decode cX5_layDrawn 99 = .ok (.iload 6, 2) := by decide +kernel
theorem dX5_layDrawn_101 : decode cX5_layDrawn 101 = .ok (.iload 8, 2) := by decide +kernel
theorem dX5_layDrawn_103 : decode cX5_layDrawn 103 = .ok (.iadd, 1) := by decide +kernel
theorem dX5_layDrawn_104 : decode cX5_layDrawn 104 = .ok (.iload 7, 2) := by decide +kernel
theorem dX5_layDrawn_106 : decode cX5_layDrawn 106 = .ok (.iload 9, 2) := by decide +kernel
theorem dX5_layDrawn_108 : decode cX5_layDrawn 108 = .ok (.iadd, 1) := by decide +kernel
theorem dX5_layDrawn_109 : decode cX5_layDrawn 109 = .ok (.invokevirtual 211, 3) := by decide +kernel
theorem dX5_layDrawn_112 : decode cX5_layDrawn 112 = .ok (.iinc 5 1, 3) := by decide +kernel
theorem dX5_layDrawn_115 : decode cX5_layDrawn 115 = .ok (.goto (-102), 3) := by decide +kernel
theorem dX5_layDrawn_118 : decode cX5_layDrawn 118 = .ok (.return_, 1) := by decide +kernel
theorem dX5_perform_0 : decode cX5_perform 0 = .ok (.aload_n 0, 1) := by decide +kernel
theorem dX5_perform_1 : decode cX5_perform 1 = .ok (.getfield 40, 3) := by decide +kernel
theorem dX5_perform_4 : decode cX5_perform 4 = .ok (.iload_n 1, 1) := by decide +kernel
theorem dX5_perform_5 : decode cX5_perform 5 = .ok (.invokevirtual 244, 3) := by decide +kernel
theorem dX5_perform_8 : decode cX5_perform 8 = .ok (.istore_n 2, 1) := by decide +kernel
theorem dX5_perform_9 : decode cX5_perform 9 = .ok (.aload_n 0, 1) := by decide +kernel
theorem dX5_perform_10 : decode cX5_perform 10 = .ok (.getfield 40, 3) := by decide +kernel
theorem dX5_perform_13 : decode cX5_perform 13 = .ok (.iload_n 1, 1) := by decide +kernel
theorem dX5_perform_14 : decode cX5_perform 14 = .ok (.iconst 0, 1) := by decide +kernel
theorem dX5_perform_15 : decode cX5_perform 15 = .ok (.invokevirtual 247, 3) := by decide +kernel
theorem dX5_perform_18 : decode cX5_perform 18 = .ok (.istore_n 3, 1) := by decide +kernel
theorem dX5_perform_19 : decode cX5_perform 19 = .ok (.aload_n 0, 1) := by decide +kernel
theorem dX5_perform_20 : decode cX5_perform 20 = .ok (.getfield 40, 3) := by decide +kernel
theorem dX5_perform_23 : decode cX5_perform 23 = .ok (.iload_n 1, 1) := by decide +kernel
theorem dX5_perform_24 : decode cX5_perform 24 = .ok (.invokevirtual 250, 3) := by decide +kernel
theorem dX5_perform_27 : decode cX5_perform 27 = .ok (.istore 4, 2) := by decide +kernel
theorem dX5_perform_29 : decode cX5_perform 29 = .ok (.aload_n 0, 1) := by decide +kernel
theorem dX5_perform_30 : decode cX5_perform 30 = .ok (.getfield 15, 3) := by decide +kernel
theorem dX5_perform_33 : decode cX5_perform 33 = .ok (.iload_n 2, 1) := by decide +kernel
theorem dX5_perform_34 : decode cX5_perform 34 = .ok (.aaload, 1) := by decide +kernel
theorem dX5_perform_35 : decode cX5_perform 35 = .ok (.astore 5, 2) := by decide +kernel
theorem dX5_perform_37 : decode cX5_perform 37 = .ok (.iconst 1, 1) := by decide +kernel
theorem dX5_perform_38 : decode cX5_perform 38 = .ok (.istore 6, 2) := by decide +kernel
theorem dX5_perform_40 : decode cX5_perform 40 = .ok (.iload 4, 2) := by decide +kernel
theorem dX5_perform_42 : decode cX5_perform 42 = .ok (.tableswitch 195 0 10 #[58, 74, 111, 121, 121, 121, 121, 143, 164, 174, 185], 58) := by decide +kernel
theorem dX5_perform_100 : decode cX5_perform 100 = .ok (.aload_n 0, 1) := by decide +kernel
theorem dX5_perform_101 : decode cX5_perform 101 = .ok (.getfield 19, 3) := by decide +kernel
theorem dX5_perform_104 : decode cX5_perform 104 = .ok (.aload_n 0, 1) := by decide +kernel
theorem dX5_perform_105 : decode cX5_perform 105 = .ok (.getfield 15, 3) := by decide +kernel
theorem dX5_perform_108 : decode cX5_perform 108 = .ok (.iload_n 3, 1) := by decide +kernel
theorem dX5_perform_109 : decode cX5_perform 109 = .ok (.aaload, 1) := by decide +kernel
theorem dX5_perform_110 : decode cX5_perform 110 = .ok (.invokevirtual 93, 3) := by decide +kernel
theorem dX5_perform_113 : decode cX5_perform 113 = .ok (.goto 131, 3) := by decide +kernel
theorem dX5_perform_116 : decode cX5_perform 116 = .ok (.aload_n 0, 1) := by decide +kernel
theorem dX5_perform_117 : decode cX5_perform 117 = .ok (.iload_n 3, 1) := by decide +kernel
theorem dX5_perform_118 : decode cX5_perform 118 = .ok (.aload_n 0, 1) := by decide +kernel
theorem dX5_perform_119 : decode cX5_perform 119 = .ok (.getfield 40, 3) := by decide +kernel
theorem dX5_perform_122 : decode cX5_perform 122 = .ok (.iload_n 1, 1) := by decide +kernel
theorem dX5_perform_123 : decode cX5_perform 123 = .ok (.iconst 1, 1) := by decide +kernel
theorem dX5_perform_124 : decode cX5_perform 124 = .ok (.invokevirtual 247, 3) := by decide +kernel
theorem dX5_perform_127 : decode cX5_perform 127 = .ok (.aload_n 0, 1) := by decide +kernel
theorem dX5_perform_128 : decode cX5_perform 128 = .ok (.getfield 40, 3) := by decide +kernel
theorem dX5_perform_131 : decode cX5_perform 131 = .ok (.iload_n 1, 1) := by decide +kernel
theorem dX5_perform_132 : decode cX5_perform 132 = .ok (.iconst 2, 1) := by decide +kernel
theorem dX5_perform_133 : decode cX5_perform 133 = .ok (.invokevirtual 247, 3) := by decide +kernel
theorem dX5_perform_136 : decode cX5_perform 136 = .ok (.aload_n 0, 1) := by decide +kernel
theorem dX5_perform_137 : decode cX5_perform 137 = .ok (.getfield 40, 3) := by decide +kernel
theorem dX5_perform_140 : decode cX5_perform 140 = .ok (.iload_n 1, 1) := by decide +kernel
theorem dX5_perform_141 : decode cX5_perform 141 = .ok (.iconst 3, 1) := by decide +kernel
theorem dX5_perform_142 : decode cX5_perform 142 = .ok (.invokevirtual 247, 3) := by decide +kernel
theorem dX5_perform_145 : decode cX5_perform 145 = .ok (.invokevirtual 70, 3) := by decide +kernel
theorem dX5_perform_148 : decode cX5_perform 148 = .ok (.istore 6, 2) := by decide +kernel
theorem dX5_perform_150 : decode cX5_perform 150 = .ok (.goto 94, 3) := by decide +kernel
theorem dX5_perform_153 : decode cX5_perform 153 = .ok (.aload_n 0, 1) := by decide +kernel
theorem dX5_perform_154 : decode cX5_perform 154 = .ok (.getfield 19, 3) := by decide +kernel
theorem dX5_perform_157 : decode cX5_perform 157 = .ok (.invokevirtual 208, 3) := by decide +kernel
theorem dX5_perform_160 : decode cX5_perform 160 = .ok (.goto 84, 3) := by decide +kernel
theorem dX5_perform_163 : decode cX5_perform 163 = .ok (.aload_n 0, 1) := by decide +kernel
theorem dX5_perform_164 : decode cX5_perform 164 = .ok (.getfield 19, 3) := by decide +kernel
theorem dX5_perform_167 : decode cX5_perform 167 = .ok (.iload 4, 2) := by decide +kernel
theorem dX5_perform_169 : decode cX5_perform 169 = .ok (.iconst 3, 1) := by decide +kernel
theorem dX5_perform_170 : decode cX5_perform 170 = .ok (.isub, 1) := by decide +kernel
theorem dX5_perform_171 : decode cX5_perform 171 = .ok (.aload 5, 2) := by decide +kernel
theorem dX5_perform_173 : decode cX5_perform 173 = .ok (.aload_n 0, 1) := by decide +kernel
theorem dX5_perform_174 : decode cX5_perform 174 = .ok (.getfield 15, 3) := by decide +kernel
theorem dX5_perform_177 : decode cX5_perform 177 = .ok (.iload_n 3, 1) := by decide +kernel
theorem dX5_perform_178 : decode cX5_perform 178 = .ok (.aaload, 1) := by decide +kernel
theorem dX5_perform_179 : decode cX5_perform 179 = .ok (.invokevirtual 78, 3) := by decide +kernel
theorem dX5_perform_182 : decode cX5_perform 182 = .ok (.goto 62, 3) := by decide +kernel
theorem dX5_perform_185 : decode cX5_perform 185 = .ok (.aload_n 0, 1) := by decide +kernel
theorem dX5_perform_186 : decode cX5_perform 186 = .ok (.aload 5, 2) := by decide +kernel
theorem dX5_perform_188 : decode cX5_perform 188 = .ok (.iload_n 3, 1) := by decide +kernel
theorem dX5_perform_189 : decode cX5_perform 189 = .ok (.aload_n 0, 1) := by decide +kernel
theorem dX5_perform_190 : decode cX5_perform 190 = .ok (.getfield 40, 3) := by decide +kernel
theorem dX5_perform_193 : decode cX5_perform 193 = .ok (.iload_n 1, 1) := by decide +kernel
theorem dX5_perform_194 : decode cX5_perform 194 = .ok (.iconst 1, 1) := by decide +kernel
theorem dX5_perform_195 : decode cX5_perform 195 = .ok (.invokevirtual 247, 3) := by decide +kernel
theorem dX5_perform_198 : decode cX5_perform 198 = .ok (.invokevirtual 82, 3) := by decide +kernel
theorem dX5_perform_201 : decode cX5_perform 201 = .ok (.istore 6, 2) := by decide +kernel
theorem dX5_perform_203 : decode cX5_perform 203 = .ok (.goto 41, 3) := by decide +kernel
theorem dX5_perform_206 : decode cX5_perform 206 = .ok (.aload_n 0, 1) := by decide +kernel
theorem dX5_perform_207 : decode cX5_perform 207 = .ok (.aload 5, 2) := by decide +kernel
theorem dX5_perform_209 : decode cX5_perform 209 = .ok (.iload_n 3, 1) := by decide +kernel
theorem dX5_perform_210 : decode cX5_perform 210 = .ok (.invokevirtual 86, 3) := by decide +kernel
theorem dX5_perform_213 : decode cX5_perform 213 = .ok (.goto 31, 3) := by decide +kernel
theorem dX5_perform_216 : decode cX5_perform 216 = .ok (.aload_n 0, 1) := by decide +kernel
theorem dX5_perform_217 : decode cX5_perform 217 = .ok (.aload 5, 2) := by decide +kernel
theorem dX5_perform_219 : decode cX5_perform 219 = .ok (.iload_n 3, 1) := by decide +kernel
theorem dX5_perform_220 : decode cX5_perform 220 = .ok (.ineg, 1) := by decide +kernel
theorem dX5_perform_221 : decode cX5_perform 221 = .ok (.invokevirtual 86, 3) := by decide +kernel
theorem dX5_perform_224 : decode cX5_perform 224 = .ok (.goto 20, 3) := by decide +kernel
theorem dX5_perform_227 : decode cX5_perform 227 = .ok (.aload_n 0, 1) := by decide +kernel
theorem dX5_perform_228 : decode cX5_perform 228 = .ok (.aload 5, 2) := by decide +kernel
theorem dX5_perform_230 : decode cX5_perform 230 = .ok (.iconst 0, 1) := by decide +kernel
theorem dX5_perform_231 : decode cX5_perform 231 = .ok (.invokevirtual 90, 3) := by decide +kernel
theorem dX5_perform_234 : decode cX5_perform 234 = .ok (.goto 10, 3) := by decide +kernel
theorem dX5_perform_237 : decode cX5_perform 237 = .ok (.aload_n 0, 1) := by decide +kernel
theorem dX5_perform_238 : decode cX5_perform 238 = .ok (.aload 5, 2) := by decide +kernel
theorem dX5_perform_240 : decode cX5_perform 240 = .ok (.iconst 2, 1) := by decide +kernel
theorem dX5_perform_241 : decode cX5_perform 241 = .ok (.invokevirtual 90, 3) := by decide +kernel
theorem dX5_perform_244 : decode cX5_perform 244 = .ok (.iload 6, 2) := by decide +kernel
theorem dX5_perform_246 : decode cX5_perform 246 = .ok (.ifCond .eq 15, 3) := by decide +kernel
theorem dX5_perform_249 : decode cX5_perform 249 = .ok (.aload_n 0, 1) := by decide +kernel
theorem dX5_perform_250 : decode cX5_perform 250 = .ok (.aload_n 0, 1) := by decide +kernel
theorem dX5_perform_251 : decode cX5_perform 251 = .ok (.getfield 15, 3) := by decide +kernel
theorem dX5_perform_254 : decode cX5_perform 254 = .ok (.iload_n 2, 1) := by decide +kernel
theorem dX5_perform_255 : decode cX5_perform 255 = .ok (.invokevirtual 74, 3) := by decide +kernel
theorem dX5_perform_258 : decode cX5_perform 258 = .ok (.goto 6, 3) := by decide +kernel
theorem dX5_perform_261 : decode cX5_perform 261 = .ok (.sipush (-203), 3) := by decide +kernel
theorem dX5_perform_264 : decode cX5_perform 264 = .ok (.ireturn, 1) := by decide +kernel
theorem dX5_writeOut_0 : decode cX5_writeOut 0 = .ok (.aload_n 0, 1) := by decide +kernel
theorem dX5_writeOut_1 : decode cX5_writeOut 1 = .ok (.getfield 26, 3) := by decide +kernel
theorem dX5_writeOut_4 : decode cX5_writeOut 4 = .ok (.aload_n 0, 1) := by decide +kernel
theorem dX5_writeOut_5 : decode cX5_writeOut 5 = .ok (.getfield 11, 3) := by decide +kernel
theorem dX5_writeOut_8 : decode cX5_writeOut 8 = .ok (.iload_n 1, 1) := by decide +kernel
theorem dX5_writeOut_9 : decode cX5_writeOut 9 = .ok (.aaload, 1) := by decide +kernel
theorem dX5_writeOut_10 : decode cX5_writeOut 10 = .ok (.invokevirtual 104, 3) := by decide +kernel
theorem dX5_writeOut_13 : decode cX5_writeOut 13 = .ok (.pop, 1) := by decide +kernel
theorem dX5_writeOut_14 : decode cX5_writeOut 14 = .ok (.aload_n 0, 1) := by decide +kernel
theorem dX5_writeOut_15 : decode cX5_writeOut 15 = .ok (.getfield 26, 3) := by decide +kernel
theorem dX5_writeOut_18 : decode cX5_writeOut 18 = .ok (.aload_n 0, 1) := by decide +kernel
theorem dX5_writeOut_19 : decode cX5_writeOut 19 = .ok (.getfield 47, 3) := by decide +kernel
theorem dX5_writeOut_22 : decode cX5_writeOut 22 = .ok (.invokevirtual 253, 3) := by decide +kernel
theorem dX5_writeOut_25 : decode cX5_writeOut 25 = .ok (.return_, 1) := by decide +kernel
theorem dX5_cellsOfAll_0 : decode cX5_cellsOfAll 0 = .ok (.iconst 0, 1) := by decide +kernel
theorem dX5_cellsOfAll_1 : decode cX5_cellsOfAll 1 = .ok (.istore_n 1, 1) := by decide +kernel
theorem dX5_cellsOfAll_2 : decode cX5_cellsOfAll 2 = .ok (.iconst 0, 1) := by decide +kernel
theorem dX5_cellsOfAll_3 : decode cX5_cellsOfAll 3 = .ok (.istore_n 2, 1) := by decide +kernel
theorem dX5_cellsOfAll_4 : decode cX5_cellsOfAll 4 = .ok (.iload_n 2, 1) := by decide +kernel
theorem dX5_cellsOfAll_5 : decode cX5_cellsOfAll 5 = .ok (.iconst 5, 1) := by decide +kernel
theorem dX5_cellsOfAll_6 : decode cX5_cellsOfAll 6 = .ok (.if_icmp .ge 21, 3) := by decide +kernel
theorem dX5_cellsOfAll_9 : decode cX5_cellsOfAll 9 = .ok (.iload_n 1, 1) := by decide +kernel
theorem dX5_cellsOfAll_10 : decode cX5_cellsOfAll 10 = .ok (.aload_n 0, 1) := by decide +kernel
theorem dX5_cellsOfAll_11 : decode cX5_cellsOfAll 11 = .ok (.getfield 11, 3) := by decide +kernel
theorem dX5_cellsOfAll_14 : decode cX5_cellsOfAll 14 = .ok (.iload_n 2, 1) := by decide +kernel
theorem dX5_cellsOfAll_15 : decode cX5_cellsOfAll 15 = .ok (.aaload, 1) := by decide +kernel
theorem dX5_cellsOfAll_16 : decode cX5_cellsOfAll 16 = .ok (.invokevirtual 131, 3) := by decide +kernel
theorem dX5_cellsOfAll_19 : decode cX5_cellsOfAll 19 = .ok (.iadd, 1) := by decide +kernel
theorem dX5_cellsOfAll_20 : decode cX5_cellsOfAll 20 = .ok (.istore_n 1, 1) := by decide +kernel
theorem dX5_cellsOfAll_21 : decode cX5_cellsOfAll 21 = .ok (.iinc 2 1, 3) := by decide +kernel
theorem dX5_cellsOfAll_24 : decode cX5_cellsOfAll 24 = .ok (.goto (-20), 3) := by decide +kernel
theorem dX5_cellsOfAll_27 : decode cX5_cellsOfAll 27 = .ok (.iload_n 1, 1) := by decide +kernel
theorem dX5_cellsOfAll_28 : decode cX5_cellsOfAll 28 = .ok (.ireturn, 1) := by decide +kernel
theorem dJ13_bitCount_95d88_0 : decode cJ13_bitCount_95d88 0 = .ok (.lload_n 0, 1) := by decide +kernel
theorem dJ13_bitCount_95d88_1 : decode cJ13_bitCount_95d88 1 = .ok (.lload_n 0, 1) := by decide +kernel
theorem dJ13_bitCount_95d88_2 : decode cJ13_bitCount_95d88 2 = .ok (.iconst 1, 1) := by decide +kernel
theorem dJ13_bitCount_95d88_3 : decode cJ13_bitCount_95d88 3 = .ok (.lushr, 1) := by decide +kernel
theorem dJ13_bitCount_95d88_4 : decode cJ13_bitCount_95d88 4 = .ok (.ldc2_w 314, 3) := by decide +kernel
theorem dJ13_bitCount_95d88_7 : decode cJ13_bitCount_95d88 7 = .ok (.land, 1) := by decide +kernel
theorem dJ13_bitCount_95d88_8 : decode cJ13_bitCount_95d88 8 = .ok (.lsub, 1) := by decide +kernel
theorem dJ13_bitCount_95d88_9 : decode cJ13_bitCount_95d88 9 = .ok (.lstore_n 0, 1) := by decide +kernel
theorem dJ13_bitCount_95d88_10 : decode cJ13_bitCount_95d88 10 = .ok (.lload_n 0, 1) := by decide +kernel
theorem dJ13_bitCount_95d88_11 : decode cJ13_bitCount_95d88 11 = .ok (.ldc2_w 316, 3) := by decide +kernel
theorem dJ13_bitCount_95d88_14 : decode cJ13_bitCount_95d88 14 = .ok (.land, 1) := by decide +kernel
theorem dJ13_bitCount_95d88_15 : decode cJ13_bitCount_95d88 15 = .ok (.lload_n 0, 1) := by decide +kernel
theorem dJ13_bitCount_95d88_16 : decode cJ13_bitCount_95d88 16 = .ok (.iconst 2, 1) := by decide +kernel
theorem dJ13_bitCount_95d88_17 : decode cJ13_bitCount_95d88 17 = .ok (.lushr, 1) := by decide +kernel
theorem dJ13_bitCount_95d88_18 : decode cJ13_bitCount_95d88 18 = .ok (.ldc2_w 316, 3) := by decide +kernel
theorem dJ13_bitCount_95d88_21 : decode cJ13_bitCount_95d88 21 = .ok (.land, 1) := by decide +kernel
theorem dJ13_bitCount_95d88_22 : decode cJ13_bitCount_95d88 22 = .ok (.ladd, 1) := by decide +kernel
theorem dJ13_bitCount_95d88_23 : decode cJ13_bitCount_95d88 23 = .ok (.lstore_n 0, 1) := by decide +kernel
theorem dJ13_bitCount_95d88_24 : decode cJ13_bitCount_95d88 24 = .ok (.lload_n 0, 1) := by decide +kernel
theorem dJ13_bitCount_95d88_25 : decode cJ13_bitCount_95d88 25 = .ok (.lload_n 0, 1) := by decide +kernel
theorem dJ13_bitCount_95d88_26 : decode cJ13_bitCount_95d88 26 = .ok (.iconst 4, 1) := by decide +kernel
theorem dJ13_bitCount_95d88_27 : decode cJ13_bitCount_95d88 27 = .ok (.lushr, 1) := by decide +kernel
theorem dJ13_bitCount_95d88_28 : decode cJ13_bitCount_95d88 28 = .ok (.ladd, 1) := by decide +kernel
theorem dJ13_bitCount_95d88_29 : decode cJ13_bitCount_95d88 29 = .ok (.ldc2_w 318, 3) := by decide +kernel
theorem dJ13_bitCount_95d88_32 : decode cJ13_bitCount_95d88 32 = .ok (.land, 1) := by decide +kernel
theorem dJ13_bitCount_95d88_33 : decode cJ13_bitCount_95d88 33 = .ok (.lstore_n 0, 1) := by decide +kernel
theorem dJ13_bitCount_95d88_34 : decode cJ13_bitCount_95d88 34 = .ok (.lload_n 0, 1) := by decide +kernel
theorem dJ13_bitCount_95d88_35 : decode cJ13_bitCount_95d88 35 = .ok (.lload_n 0, 1) := by decide +kernel
theorem dJ13_bitCount_95d88_36 : decode cJ13_bitCount_95d88 36 = .ok (.bipush 8, 2) := by decide +kernel
theorem dJ13_bitCount_95d88_38 : decode cJ13_bitCount_95d88 38 = .ok (.lushr, 1) := by decide +kernel
theorem dJ13_bitCount_95d88_39 : decode cJ13_bitCount_95d88 39 = .ok (.ladd, 1) := by decide +kernel
theorem dJ13_bitCount_95d88_40 : decode cJ13_bitCount_95d88 40 = .ok (.lstore_n 0, 1) := by decide +kernel
theorem dJ13_bitCount_95d88_41 : decode cJ13_bitCount_95d88 41 = .ok (.lload_n 0, 1) := by decide +kernel
theorem dJ13_bitCount_95d88_42 : decode cJ13_bitCount_95d88 42 = .ok (.lload_n 0, 1) := by decide +kernel
theorem dJ13_bitCount_95d88_43 : decode cJ13_bitCount_95d88 43 = .ok (.bipush 16, 2) := by decide +kernel
theorem dJ13_bitCount_95d88_45 : decode cJ13_bitCount_95d88 45 = .ok (.lushr, 1) := by decide +kernel
theorem dJ13_bitCount_95d88_46 : decode cJ13_bitCount_95d88 46 = .ok (.ladd, 1) := by decide +kernel
theorem dJ13_bitCount_95d88_47 : decode cJ13_bitCount_95d88 47 = .ok (.lstore_n 0, 1) := by decide +kernel
theorem dJ13_bitCount_95d88_48 : decode cJ13_bitCount_95d88 48 = .ok (.lload_n 0, 1) := by decide +kernel
theorem dJ13_bitCount_95d88_49 : decode cJ13_bitCount_95d88 49 = .ok (.lload_n 0, 1) := by decide +kernel
theorem dJ13_bitCount_95d88_50 : decode cJ13_bitCount_95d88 50 = .ok (.bipush 32, 2) := by decide +kernel
theorem dJ13_bitCount_95d88_52 : decode cJ13_bitCount_95d88 52 = .ok (.lushr, 1) := by decide +kernel
theorem dJ13_bitCount_95d88_53 : decode cJ13_bitCount_95d88 53 = .ok (.ladd, 1) := by decide +kernel
theorem dJ13_bitCount_95d88_54 : decode cJ13_bitCount_95d88 54 = .ok (.lstore_n 0, 1) := by decide +kernel
theorem dJ13_bitCount_95d88_55 : decode cJ13_bitCount_95d88 55 = .ok (.lload_n 0, 1) := by decide +kernel
theorem dJ13_bitCount_95d88_56 : decode cJ13_bitCount_95d88 56 = .ok (.l2i, 1) := by decide +kernel
theorem dJ13_bitCount_95d88_57 : decode cJ13_bitCount_95d88 57 = .ok (.bipush 127, 2) := by decide +kernel
theorem dJ13_bitCount_95d88_59 : decode cJ13_bitCount_95d88 59 = .ok (.iand, 1) := by decide +kernel
theorem dJ13_bitCount_95d88_60 : decode cJ13_bitCount_95d88 60 = .ok (.ireturn, 1) := by decide +kernel
theorem dJ9_floorDiv_7cf53_0 : decode cJ9_floorDiv_7cf53 0 = .ok (.iload_n 0, 1) := by decide +kernel
theorem dJ9_floorDiv_7cf53_1 : decode cJ9_floorDiv_7cf53 1 = .ok (.iload_n 1, 1) := by decide +kernel
theorem dJ9_floorDiv_7cf53_2 : decode cJ9_floorDiv_7cf53 2 = .ok (.idiv, 1) := by decide +kernel
theorem dJ9_floorDiv_7cf53_3 : decode cJ9_floorDiv_7cf53 3 = .ok (.istore_n 2, 1) := by decide +kernel
theorem dJ9_floorDiv_7cf53_4 : decode cJ9_floorDiv_7cf53 4 = .ok (.iload_n 0, 1) := by decide +kernel
theorem dJ9_floorDiv_7cf53_5 : decode cJ9_floorDiv_7cf53 5 = .ok (.iload_n 1, 1) := by decide +kernel
theorem dJ9_floorDiv_7cf53_6 : decode cJ9_floorDiv_7cf53 6 = .ok (.ixor, 1) := by decide +kernel
theorem dJ9_floorDiv_7cf53_7 : decode cJ9_floorDiv_7cf53 7 = .ok (.ifCond .ge 14, 3) := by decide +kernel
theorem dJ9_floorDiv_7cf53_10 : decode cJ9_floorDiv_7cf53 10 = .ok (.iload_n 2, 1) := by decide +kernel
theorem dJ9_floorDiv_7cf53_11 : decode cJ9_floorDiv_7cf53 11 = .ok (.iload_n 1, 1) := by decide +kernel
theorem dJ9_floorDiv_7cf53_12 : decode cJ9_floorDiv_7cf53 12 = .ok (.imul, 1) := by decide +kernel
theorem dJ9_floorDiv_7cf53_13 : decode cJ9_floorDiv_7cf53 13 = .ok (.iload_n 0, 1) := by decide +kernel
theorem dJ9_floorDiv_7cf53_14 : decode cJ9_floorDiv_7cf53 14 = .ok (.if_icmp .eq 7, 3) := by decide +kernel
theorem dJ9_floorDiv_7cf53_17 : decode cJ9_floorDiv_7cf53 17 = .ok (.iload_n 2, 1) := by decide +kernel
theorem dJ9_floorDiv_7cf53_18 : decode cJ9_floorDiv_7cf53 18 = .ok (.iconst 1, 1) := by decide +kernel
theorem dJ9_floorDiv_7cf53_19 : decode cJ9_floorDiv_7cf53 19 = .ok (.isub, 1) := by decide +kernel
theorem dJ9_floorDiv_7cf53_20 : decode cJ9_floorDiv_7cf53 20 = .ok (.ireturn, 1) := by decide +kernel
theorem dJ9_floorDiv_7cf53_21 : decode cJ9_floorDiv_7cf53 21 = .ok (.iload_n 2, 1) := by decide +kernel
theorem dJ9_floorDiv_7cf53_22 : decode cJ9_floorDiv_7cf53 22 = .ok (.ireturn, 1) := by decide +kernel
theorem dJ9_abs_0f7a4_0 : decode cJ9_abs_0f7a4 0 = .ok (.iload_n 0, 1) := by decide +kernel
theorem dJ9_abs_0f7a4_1 : decode cJ9_abs_0f7a4 1 = .ok (.ifCond .ge 8, 3) := by decide +kernel
theorem dJ9_abs_0f7a4_4 : decode cJ9_abs_0f7a4 4 = .ok (.iload_n 0, 1) := by decide +kernel
theorem dJ9_abs_0f7a4_5 : decode cJ9_abs_0f7a4 5 = .ok (.ineg, 1) := by decide +kernel
theorem dJ9_abs_0f7a4_6 : decode cJ9_abs_0f7a4 6 = .ok (.goto 4, 3) := by decide +kernel
theorem dJ9_abs_0f7a4_9 : decode cJ9_abs_0f7a4 9 = .ok (.iload_n 0, 1) := by decide +kernel
theorem dJ9_abs_0f7a4_10 : decode cJ9_abs_0f7a4 10 = .ok (.ireturn, 1) := by decide +kernel
theorem dJ9_max_7cf53_0 : decode cJ9_max_7cf53 0 = .ok (.iload_n 0, 1) := by decide +kernel
theorem dJ9_max_7cf53_1 : decode cJ9_max_7cf53 1 = .ok (.iload_n 1, 1) := by decide +kernel
theorem dJ9_max_7cf53_2 : decode cJ9_max_7cf53 2 = .ok (.if_icmp .lt 7, 3) := by decide +kernel
theorem dJ9_max_7cf53_5 : decode cJ9_max_7cf53 5 = .ok (.iload_n 0, 1) := by decide +kernel
theorem dJ9_max_7cf53_6 : decode cJ9_max_7cf53 6 = .ok (.goto 4, 3) := by decide +kernel
theorem dJ9_max_7cf53_9 : decode cJ9_max_7cf53 9 = .ok (.iload_n 1, 1) := by decide +kernel
theorem dJ9_max_7cf53_10 : decode cJ9_max_7cf53 10 = .ok (.ireturn, 1) := by decide +kernel
theorem dJ9_min_7cf53_0 : decode cJ9_min_7cf53 0 = .ok (.iload_n 0, 1) := by decide +kernel
theorem dJ9_min_7cf53_1 : decode cJ9_min_7cf53 1 = .ok (.iload_n 1, 1) := by decide +kernel
theorem dJ9_min_7cf53_2 : decode cJ9_min_7cf53 2 = .ok (.if_icmp .gt 7, 3) := by decide +kernel
theorem dJ9_min_7cf53_5 : decode cJ9_min_7cf53 5 = .ok (.iload_n 0, 1) := by decide +kernel
theorem dJ9_min_7cf53_6 : decode cJ9_min_7cf53 6 = .ok (.goto 4, 3) := by decide +kernel
theorem dJ9_min_7cf53_9 : decode cJ9_min_7cf53 9 = .ok (.iload_n 1, 1) := by decide +kernel
theorem dJ9_min_7cf53_10 : decode cJ9_min_7cf53 10 = .ok (.ireturn, 1) := by decide +kernel
theorem dJ0_charAt_5068e_0 : decode cJ0_charAt_5068e 0 = .ok (.aload_n 0, 1) := by decide +kernel
theorem dJ0_charAt_5068e_1 : decode cJ0_charAt_5068e 1 = .ok (.invokevirtual 492, 3) := by decide +kernel
theorem dJ0_charAt_5068e_4 : decode cJ0_charAt_5068e 4 = .ok (.ifCond .eq 12, 3) := by decide +kernel
theorem dJ0_charAt_5068e_7 : decode cJ0_charAt_5068e 7 = .ok (.aload_n 0, 1) := by decide +kernel
theorem dJ0_charAt_5068e_8 : decode cJ0_charAt_5068e 8 = .ok (.getfield 9, 3) := by decide +kernel
theorem dJ0_charAt_5068e_11 : decode cJ0_charAt_5068e 11 = .ok (.iload_n 1, 1) := by decide +kernel
theorem dJ0_charAt_5068e_12 : decode cJ0_charAt_5068e 12 = .ok (.invokestatic 495, 3) := by decide +kernel
theorem dJ0_charAt_5068e_15 : decode cJ0_charAt_5068e 15 = .ok (.ireturn, 1) := by decide +kernel
theorem dJ0_charAt_5068e_16 : decode cJ0_charAt_5068e 16 = .ok (.aload_n 0, 1) := by decide +kernel
theorem dJ0_charAt_5068e_17 : decode cJ0_charAt_5068e 17 = .ok (.getfield 9, 3) := by decide +kernel
theorem dJ0_charAt_5068e_20 : decode cJ0_charAt_5068e 20 = .ok (.iload_n 1, 1) := by decide +kernel
theorem dJ0_charAt_5068e_21 : decode cJ0_charAt_5068e 21 = .ok (.invokestatic 498, 3) := by decide +kernel
theorem dJ0_charAt_5068e_24 : decode cJ0_charAt_5068e 24 = .ok (.ireturn, 1) := by decide +kernel
theorem dJ0_isLatin1_aae02_0 : decode cJ0_isLatin1_aae02 0 = .ok (.getstatic 38, 3) := by decide +kernel
theorem dJ0_isLatin1_aae02_3 : decode cJ0_isLatin1_aae02 3 = .ok (.ifCond .eq 14, 3) := by decide +kernel
theorem dJ0_isLatin1_aae02_6 : decode cJ0_isLatin1_aae02 6 = .ok (.aload_n 0, 1) := by decide +kernel
theorem dJ0_isLatin1_aae02_7 : decode cJ0_isLatin1_aae02 7 = .ok (.getfield 15, 3) := by decide +kernel
theorem dJ0_isLatin1_aae02_10 : decode cJ0_isLatin1_aae02 10 = .ok (.ifCond .ne 7, 3) := by decide +kernel
theorem dJ0_isLatin1_aae02_13 : decode cJ0_isLatin1_aae02 13 = .ok (.iconst 1, 1) := by decide +kernel
theorem dJ0_isLatin1_aae02_14 : decode cJ0_isLatin1_aae02 14 = .ok (.goto 4, 3) := by decide +kernel
theorem dJ0_isLatin1_aae02_17 : decode cJ0_isLatin1_aae02 17 = .ok (.iconst 0, 1) := by decide +kernel
theorem dJ0_isLatin1_aae02_18 : decode cJ0_isLatin1_aae02 18 = .ok (.ireturn, 1) := by decide +kernel
theorem dJ0_checkIndex_df160_0 : decode cJ0_checkIndex_df160 0 = .ok (.iload_n 0, 1) := by decide +kernel
theorem dJ0_checkIndex_df160_1 : decode cJ0_checkIndex_df160 1 = .ok (.iload_n 1, 1) := by decide +kernel
theorem dJ0_checkIndex_df160_2 : decode cJ0_checkIndex_df160 2 = .ok (.getstatic 1053, 3) := by decide +kernel
theorem dJ0_checkIndex_df160_5 : decode cJ0_checkIndex_df160 5 = .ok (.invokestatic 1059, 3) := by decide +kernel
theorem dJ0_checkIndex_df160_8 : decode cJ0_checkIndex_df160 8 = .ok (.pop, 1) := by decide +kernel
theorem dJ0_checkIndex_df160_9 : decode cJ0_checkIndex_df160 9 = .ok (.return_, 1) := by decide +kernel
theorem dJ1_charAt_3b067_0 : decode cJ1_charAt_3b067 0 = .ok (.iload_n 1, 1) := by decide +kernel
theorem dJ1_charAt_3b067_1 : decode cJ1_charAt_3b067 1 = .ok (.aload_n 0, 1) := by decide +kernel
theorem dJ1_charAt_3b067_2 : decode cJ1_charAt_3b067 2 = .ok (.arraylength, 1) := by decide +kernel
theorem dJ1_charAt_3b067_3 : decode cJ1_charAt_3b067 3 = .ok (.invokestatic 9, 3) := by decide +kernel
theorem dJ1_charAt_3b067_6 : decode cJ1_charAt_3b067 6 = .ok (.aload_n 0, 1) := by decide +kernel
theorem dJ1_charAt_3b067_7 : decode cJ1_charAt_3b067 7 = .ok (.iload_n 1, 1) := by decide +kernel
theorem dJ1_charAt_3b067_8 : decode cJ1_charAt_3b067 8 = .ok (.baload, 1) := by decide +kernel
theorem dJ1_charAt_3b067_9 : decode cJ1_charAt_3b067 9 = .ok (.sipush 255, 3) := by decide +kernel
theorem dJ1_charAt_3b067_12 : decode cJ1_charAt_3b067 12 = .ok (.iand, 1) := by decide +kernel
theorem dJ1_charAt_3b067_13 : decode cJ1_charAt_3b067 13 = .ok (.i2c, 1) := by decide +kernel
theorem dJ1_charAt_3b067_14 : decode cJ1_charAt_3b067 14 = .ok (.ireturn, 1) := by decide +kernel
theorem dJ2_getChar_3b067_0 : decode cJ2_getChar_3b067 0 = .ok (.getstatic 44, 3) := by decide +kernel
theorem dJ2_getChar_3b067_3 : decode cJ2_getChar_3b067 3 = .ok (.ifCond .ne 25, 3) := by decide +kernel
theorem dJ2_getChar_3b067_6 : decode cJ2_getChar_3b067 6 = .ok (.iload_n 1, 1) := by decide +kernel
theorem dJ2_getChar_3b067_7 : decode cJ2_getChar_3b067 7 = .ok (.ifCond .lt 11, 3) := by decide +kernel
theorem dJ2_getChar_3b067_10 : decode cJ2_getChar_3b067 10 = .ok (.iload_n 1, 1) := by decide +kernel
theorem dJ2_getChar_3b067_11 : decode cJ2_getChar_3b067 11 = .ok (.aload_n 0, 1) := by decide +kernel
theorem dJ2_getChar_3b067_12 : decode cJ2_getChar_3b067 12 = .ok (.invokestatic 48, 3) := by decide +kernel
theorem dJ2_getChar_3b067_15 : decode cJ2_getChar_3b067 15 = .ok (.if_icmp .lt 13, 3) := by decide +kernel
theorem dJ2_getChar_3b067_18 : decode cJ2_getChar_3b067 18 = .ok (.new 52, 3) := by decide +kernel
theorem dJ2_getChar_3b067_21 : decode cJ2_getChar_3b067 21 = .ok (.dup, 1) := by decide +kernel
theorem dJ2_getChar_3b067_22 : decode cJ2_getChar_3b067 22 = .ok (.ldc 54, 2) := by decide +kernel
theorem dJ2_getChar_3b067_24 : decode cJ2_getChar_3b067 24 = .ok (.invokespecial 56, 3) := by decide +kernel
theorem dJ2_getChar_3b067_27 : decode cJ2_getChar_3b067 27 = .ok (.athrow, 1) := by decide +kernel
theorem dJ2_getChar_3b067_28 : decode cJ2_getChar_3b067 28 = .ok (.iload_n 1, 1) := by decide +kernel
theorem dJ2_getChar_3b067_29 : decode cJ2_getChar_3b067 29 = .ok (.iconst 1, 1) := by decide +kernel
theorem dJ2_getChar_3b067_30 : decode cJ2_getChar_3b067 30 = .ok (.ishl, 1) := by decide +kernel
theorem dJ2_getChar_3b067_31 : decode cJ2_getChar_3b067 31 = .ok (.istore_n 1, 1) := by decide +kernel
theorem dJ2_getChar_3b067_32 : decode cJ2_getChar_3b067 32 = .ok (.aload_n 0, 1) := by decide +kernel
theorem dJ2_getChar_3b067_33 : decode cJ2_getChar_3b067 33 = .ok (.iload_n 1, 1) := by decide +kernel
theorem dJ2_getChar_3b067_34 : decode cJ2_getChar_3b067 34 = .ok (.iinc 1 1, 3) := by decide +kernel
theorem dJ2_getChar_3b067_37 : decode cJ2_getChar_3b067 37 = .ok (.baload, 1) := by decide +kernel
theorem dJ2_getChar_3b067_38 : decode cJ2_getChar_3b067 38 = .ok (.sipush 255, 3) := by decide +kernel
theorem dJ2_getChar_3b067_41 : decode cJ2_getChar_3b067 41 = .ok (.iand, 1) := by decide +kernel
theorem dJ2_getChar_3b067_42 : decode cJ2_getChar_3b067 42 = .ok (.getstatic 59, 3) := by decide +kernel
theorem dJ2_getChar_3b067_45 : decode cJ2_getChar_3b067 45 = .ok (.ishl, 1) := by decide +kernel
theorem dJ2_getChar_3b067_46 : decode cJ2_getChar_3b067 46 = .ok (.aload_n 0, 1) := by decide +kernel
theorem dJ2_getChar_3b067_47 : decode cJ2_getChar_3b067 47 = .ok (.iload_n 1, 1) := by decide +kernel
theorem dJ2_getChar_3b067_48 : decode cJ2_getChar_3b067 48 = .ok (.baload, 1) := by decide +kernel
theorem dJ2_getChar_3b067_49 : decode cJ2_getChar_3b067 49 = .ok (.sipush 255, 3) := by decide +kernel
theorem dJ2_getChar_3b067_52 : decode cJ2_getChar_3b067 52 = .ok (.iand, 1) := by decide +kernel
theorem dJ2_getChar_3b067_53 : decode cJ2_getChar_3b067 53 = .ok (.getstatic 63, 3) := by decide +kernel
theorem dJ2_getChar_3b067_56 : decode cJ2_getChar_3b067 56 = .ok (.ishl, 1) := by decide +kernel
theorem dJ2_getChar_3b067_57 : decode cJ2_getChar_3b067 57 = .ok (.ior, 1) := by decide +kernel
theorem dJ2_getChar_3b067_58 : decode cJ2_getChar_3b067 58 = .ok (.i2c, 1) := by decide +kernel
theorem dJ2_getChar_3b067_59 : decode cJ2_getChar_3b067 59 = .ok (.ireturn, 1) := by decide +kernel
theorem dJ2_length_9d52b_0 : decode cJ2_length_9d52b 0 = .ok (.aload_n 0, 1) := by decide +kernel
theorem dJ2_length_9d52b_1 : decode cJ2_length_9d52b 1 = .ok (.arraylength, 1) := by decide +kernel
theorem dJ2_length_9d52b_2 : decode cJ2_length_9d52b 2 = .ok (.iconst 1, 1) := by decide +kernel
theorem dJ2_length_9d52b_3 : decode cJ2_length_9d52b 3 = .ok (.ishr, 1) := by decide +kernel
theorem dJ2_length_9d52b_4 : decode cJ2_length_9d52b 4 = .ok (.ireturn, 1) := by decide +kernel
theorem dJ2_charAt_3b067_0 : decode cJ2_charAt_3b067 0 = .ok (.iload_n 1, 1) := by decide +kernel
theorem dJ2_charAt_3b067_1 : decode cJ2_charAt_3b067 1 = .ok (.aload_n 0, 1) := by decide +kernel
theorem dJ2_charAt_3b067_2 : decode cJ2_charAt_3b067 2 = .ok (.invokestatic 67, 3) := by decide +kernel
theorem dJ2_charAt_3b067_5 : decode cJ2_charAt_3b067 5 = .ok (.aload_n 0, 1) := by decide +kernel
theorem dJ2_charAt_3b067_6 : decode cJ2_charAt_3b067 6 = .ok (.iload_n 1, 1) := by decide +kernel
theorem dJ2_charAt_3b067_7 : decode cJ2_charAt_3b067 7 = .ok (.invokestatic 71, 3) := by decide +kernel
theorem dJ2_charAt_3b067_10 : decode cJ2_charAt_3b067 10 = .ok (.ireturn, 1) := by decide +kernel
theorem dJ2_checkIndex_2214a_0 : decode cJ2_checkIndex_2214a 0 = .ok (.iload_n 0, 1) := by decide +kernel
theorem dJ2_checkIndex_2214a_1 : decode cJ2_checkIndex_2214a 1 = .ok (.aload_n 1, 1) := by decide +kernel
theorem dJ2_checkIndex_2214a_2 : decode cJ2_checkIndex_2214a 2 = .ok (.invokestatic 48, 3) := by decide +kernel
theorem dJ2_checkIndex_2214a_5 : decode cJ2_checkIndex_2214a 5 = .ok (.invokestatic 414, 3) := by decide +kernel
theorem dJ2_checkIndex_2214a_8 : decode cJ2_checkIndex_2214a 8 = .ok (.return_, 1) := by decide +kernel
theorem dJ7_fill_d0a16_0 : decode cJ7_fill_d0a16 0 = .ok (.iconst 0, 1) := by decide +kernel
theorem dJ7_fill_d0a16_1 : decode cJ7_fill_d0a16 1 = .ok (.istore_n 3, 1) := by decide +kernel
theorem dJ7_fill_d0a16_2 : decode cJ7_fill_d0a16 2 = .ok (.aload_n 0, 1) := by decide +kernel
theorem dJ7_fill_d0a16_3 : decode cJ7_fill_d0a16 3 = .ok (.arraylength, 1) := by decide +kernel
theorem dJ7_fill_d0a16_4 : decode cJ7_fill_d0a16 4 = .ok (.istore 4, 2) := by decide +kernel
theorem dJ7_fill_d0a16_6 : decode cJ7_fill_d0a16 6 = .ok (.iload_n 3, 1) := by decide +kernel
theorem dJ7_fill_d0a16_7 : decode cJ7_fill_d0a16 7 = .ok (.iload 4, 2) := by decide +kernel
theorem dJ7_fill_d0a16_9 : decode cJ7_fill_d0a16 9 = .ok (.if_icmp .ge 13, 3) := by decide +kernel
theorem dJ7_fill_d0a16_12 : decode cJ7_fill_d0a16 12 = .ok (.aload_n 0, 1) := by decide +kernel
theorem dJ7_fill_d0a16_13 : decode cJ7_fill_d0a16 13 = .ok (.iload_n 3, 1) := by decide +kernel
theorem dJ7_fill_d0a16_14 : decode cJ7_fill_d0a16 14 = .ok (.lload_n 1, 1) := by decide +kernel
theorem dJ7_fill_d0a16_15 : decode cJ7_fill_d0a16 15 = .ok (.lastore, 1) := by decide +kernel
theorem dJ7_fill_d0a16_16 : decode cJ7_fill_d0a16 16 = .ok (.iinc 3 1, 3) := by decide +kernel
theorem dJ7_fill_d0a16_19 : decode cJ7_fill_d0a16 19 = .ok (.goto (-13), 3) := by decide +kernel
theorem dJ7_fill_d0a16_22 : decode cJ7_fill_d0a16 22 = .ok (.return_, 1) := by decide +kernel
theorem dJ3_checkIndex_8e157_0 : decode cJ3_checkIndex_8e157 0 = .ok (.iload_n 0, 1) := by decide +kernel
theorem dJ3_checkIndex_8e157_1 : decode cJ3_checkIndex_8e157 1 = .ok (.ifCond .lt 8, 3) := by decide +kernel
theorem dJ3_checkIndex_8e157_4 : decode cJ3_checkIndex_8e157 4 = .ok (.iload_n 0, 1) := by decide +kernel
theorem dJ3_checkIndex_8e157_5 : decode cJ3_checkIndex_8e157 5 = .ok (.iload_n 1, 1) := by decide +kernel
theorem dJ3_checkIndex_8e157_6 : decode cJ3_checkIndex_8e157 6 = .ok (.if_icmp .lt 10, 3) := by decide +kernel
theorem dJ3_checkIndex_8e157_9 : decode cJ3_checkIndex_8e157 9 = .ok (.aload_n 2, 1) := by decide +kernel
theorem dJ3_checkIndex_8e157_10 : decode cJ3_checkIndex_8e157 10 = .ok (.iload_n 0, 1) := by decide +kernel
theorem dJ3_checkIndex_8e157_11 : decode cJ3_checkIndex_8e157 11 = .ok (.iload_n 1, 1) := by decide +kernel
theorem dJ3_checkIndex_8e157_12 : decode cJ3_checkIndex_8e157 12 = .ok (.invokestatic 95, 3) := by decide +kernel
theorem dJ3_checkIndex_8e157_15 : decode cJ3_checkIndex_8e157 15 = .ok (.athrow, 1) := by decide +kernel
theorem dJ3_checkIndex_8e157_16 : decode cJ3_checkIndex_8e157 16 = .ok (.iload_n 0, 1) := by decide +kernel
theorem dJ3_checkIndex_8e157_17 : decode cJ3_checkIndex_8e157 17 = .ok (.ireturn, 1) := by decide +kernel
