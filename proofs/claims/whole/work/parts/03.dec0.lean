theorem dX0_init_0 : decode cX0_init 0 = .ok (.aload_n 0, 1) := by decide +kernel
theorem dX0_init_1 : decode cX0_init 1 = .ok (.invokespecial 3, 3) := by decide +kernel
theorem dX0_init_4 : decode cX0_init 4 = .ok (.aload_n 0, 1) := by decide +kernel
theorem dX0_init_5 : decode cX0_init 5 = .ok (.bipush 120, 2) := by decide +kernel
theorem dX0_init_7 : decode cX0_init 7 = .ok (.newarray .long, 2) := by decide +kernel
theorem dX0_init_9 : decode cX0_init 9 = .ok (.putfield 9, 3) := by decide +kernel
theorem dX0_init_12 : decode cX0_init 12 = .ok (.aload_n 0, 1) := by decide +kernel
theorem dX0_init_13 : decode cX0_init 13 = .ok (.bipush 120, 2) := by decide +kernel
theorem dX0_init_15 : decode cX0_init 15 = .ok (.newarray .long, 2) := by decide +kernel
theorem dX0_init_17 : decode cX0_init 17 = .ok (.putfield 15, 3) := by decide +kernel
theorem dX0_init_20 : decode cX0_init 20 = .ok (.return_, 1) := by decide +kernel
theorem dX0_empty_0 : decode cX0_empty 0 = .ok (.aload_n 0, 1) := by decide +kernel
theorem dX0_empty_1 : decode cX0_empty 1 = .ok (.getfield 9, 3) := by decide +kernel
theorem dX0_empty_4 : decode cX0_empty 4 = .ok (.lconst 0, 1) := by decide +kernel
theorem dX0_empty_5 : decode cX0_empty 5 = .ok (.invokestatic 18, 3) := by decide +kernel
theorem dX0_empty_8 : decode cX0_empty 8 = .ok (.aload_n 0, 1) := by decide +kernel
theorem dX0_empty_9 : decode cX0_empty 9 = .ok (.getfield 15, 3) := by decide +kernel
theorem dX0_empty_12 : decode cX0_empty 12 = .ok (.lconst 0, 1) := by decide +kernel
theorem dX0_empty_13 : decode cX0_empty 13 = .ok (.invokestatic 18, 3) := by decide +kernel
theorem dX0_empty_16 : decode cX0_empty 16 = .ok (.return_, 1) := by decide +kernel
theorem dX0_copy_0 : decode cX0_copy 0 = .ok (.aload_n 1, 1) := by decide +kernel
theorem dX0_copy_1 : decode cX0_copy 1 = .ok (.getfield 9, 3) := by decide +kernel
theorem dX0_copy_4 : decode cX0_copy 4 = .ok (.iconst 0, 1) := by decide +kernel
theorem dX0_copy_5 : decode cX0_copy 5 = .ok (.aload_n 0, 1) := by decide +kernel
theorem dX0_copy_6 : decode cX0_copy 6 = .ok (.getfield 9, 3) := by decide +kernel
theorem dX0_copy_9 : decode cX0_copy 9 = .ok (.iconst 0, 1) := by decide +kernel
theorem dX0_copy_10 : decode cX0_copy 10 = .ok (.bipush 120, 2) := by decide +kernel
theorem dX0_copy_12 : decode cX0_copy 12 = .ok (.invokestatic 24, 3) := by decide +kernel
theorem dX0_copy_15 : decode cX0_copy 15 = .ok (.aload_n 1, 1) := by decide +kernel
theorem dX0_copy_16 : decode cX0_copy 16 = .ok (.getfield 15, 3) := by decide +kernel
theorem dX0_copy_19 : decode cX0_copy 19 = .ok (.iconst 0, 1) := by decide +kernel
theorem dX0_copy_20 : decode cX0_copy 20 = .ok (.aload_n 0, 1) := by decide +kernel
theorem dX0_copy_21 : decode cX0_copy 21 = .ok (.getfield 15, 3) := by decide +kernel
theorem dX0_copy_24 : decode cX0_copy 24 = .ok (.iconst 0, 1) := by decide +kernel
theorem dX0_copy_25 : decode cX0_copy 25 = .ok (.bipush 120, 2) := by decide +kernel
theorem dX0_copy_27 : decode cX0_copy 27 = .ok (.invokestatic 24, 3) := by decide +kernel
theorem dX0_copy_30 : decode cX0_copy 30 = .ok (.return_, 1) := by decide +kernel
theorem dX0_fill_0 : decode cX0_fill 0 = .ok (.iload_n 1, 1) := by decide +kernel
theorem dX0_fill_1 : decode cX0_fill 1 = .ok (.bipush 60, 2) := by decide +kernel
theorem dX0_fill_3 : decode cX0_fill 3 = .ok (.iadd, 1) := by decide +kernel
theorem dX0_fill_4 : decode cX0_fill 4 = .ok (.iload_n 3, 1) := by decide +kernel
theorem dX0_fill_5 : decode cX0_fill 5 = .ok (.bipush 60, 2) := by decide +kernel
theorem dX0_fill_7 : decode cX0_fill 7 = .ok (.iadd, 1) := by decide +kernel
theorem dX0_fill_8 : decode cX0_fill 8 = .ok (.invokestatic 30, 3) := by decide +kernel
theorem dX0_fill_11 : decode cX0_fill 11 = .ok (.lstore 5, 2) := by decide +kernel
theorem dX0_fill_13 : decode cX0_fill 13 = .ok (.iload_n 1, 1) := by decide +kernel
theorem dX0_fill_14 : decode cX0_fill 14 = .ok (.iload_n 3, 1) := by decide +kernel
theorem dX0_fill_15 : decode cX0_fill 15 = .ok (.invokestatic 30, 3) := by decide +kernel
theorem dX0_fill_18 : decode cX0_fill 18 = .ok (.lstore 7, 2) := by decide +kernel
theorem dX0_fill_20 : decode cX0_fill 20 = .ok (.iload 4, 2) := by decide +kernel
theorem dX0_fill_22 : decode cX0_fill 22 = .ok (.bipush 60, 2) := by decide +kernel
theorem dX0_fill_24 : decode cX0_fill 24 = .ok (.invokestatic 34, 3) := by decide +kernel
theorem dX0_fill_27 : decode cX0_fill 27 = .ok (.bipush 60, 2) := by decide +kernel
theorem dX0_fill_29 : decode cX0_fill 29 = .ok (.iadd, 1) := by decide +kernel
theorem dX0_fill_30 : decode cX0_fill 30 = .ok (.istore 9, 2) := by decide +kernel
theorem dX0_fill_32 : decode cX0_fill 32 = .ok (.iload_n 2, 1) := by decide +kernel
theorem dX0_fill_33 : decode cX0_fill 33 = .ok (.bipush (-60), 2) := by decide +kernel
theorem dX0_fill_35 : decode cX0_fill 35 = .ok (.invokestatic 40, 3) := by decide +kernel
theorem dX0_fill_38 : decode cX0_fill 38 = .ok (.bipush 60, 2) := by decide +kernel
theorem dX0_fill_40 : decode cX0_fill 40 = .ok (.iadd, 1) := by decide +kernel
theorem dX0_fill_41 : decode cX0_fill 41 = .ok (.istore 10, 2) := by decide +kernel
theorem dX0_fill_43 : decode cX0_fill 43 = .ok (.iload 10, 2) := by decide +kernel
theorem dX0_fill_45 : decode cX0_fill 45 = .ok (.iload 9, 2) := by decide +kernel
theorem dX0_fill_47 : decode cX0_fill 47 = .ok (.if_icmp .ge 33, 3) := by decide +kernel
theorem dX0_fill_50 : decode cX0_fill 50 = .ok (.aload_n 0, 1) := by decide +kernel
theorem dX0_fill_51 : decode cX0_fill 51 = .ok (.getfield 9, 3) := by decide +kernel
theorem dX0_fill_54 : decode cX0_fill 54 = .ok (.iload 10, 2) := by decide +kernel
theorem dX0_fill_56 : decode cX0_fill 56 = .ok (.dup2, 1) := by decide +kernel
theorem dX0_fill_57 : decode cX0_fill 57 = .ok (.laload, 1) := by decide +kernel
theorem dX0_fill_58 : decode cX0_fill 58 = .ok (.lload 5, 2) := by decide +kernel
theorem dX0_fill_60 : decode cX0_fill 60 = .ok (.lor, 1) := by decide +kernel
theorem dX0_fill_61 : decode cX0_fill 61 = .ok (.lastore, 1) := by decide +kernel
theorem dX0_fill_62 : decode cX0_fill 62 = .ok (.aload_n 0, 1) := by decide +kernel
theorem dX0_fill_63 : decode cX0_fill 63 = .ok (.getfield 15, 3) := by decide +kernel
theorem dX0_fill_66 : decode cX0_fill 66 = .ok (.iload 10, 2) := by decide +kernel
theorem dX0_fill_68 : decode cX0_fill 68 = .ok (.dup2, 1) := by decide +kernel
theorem dX0_fill_69 : decode cX0_fill 69 = .ok (.laload, 1) := by decide +kernel
theorem dX0_fill_70 : decode cX0_fill 70 = .ok (.lload 7, 2) := by decide +kernel
theorem dX0_fill_72 : decode cX0_fill 72 = .ok (.lor, 1) := by decide +kernel
theorem dX0_fill_73 : decode cX0_fill 73 = .ok (.lastore, 1) := by decide +kernel
theorem dX0_fill_74 : decode cX0_fill 74 = .ok (.iinc 10 1, 3) := by decide +kernel
theorem dX0_fill_77 : decode cX0_fill 77 = .ok (.goto (-34), 3) := by decide +kernel
theorem dX0_fill_80 : decode cX0_fill 80 = .ok (.return_, 1) := by decide +kernel
theorem dX0_turnOverLeft_0 : decode cX0_turnOverLeft 0 = .ok (.iload_n 1, 1) := by decide +kernel
theorem dX0_turnOverLeft_1 : decode cX0_turnOverLeft 1 = .ok (.bipush 60, 2) := by decide +kernel
theorem dX0_turnOverLeft_3 : decode cX0_turnOverLeft 3 = .ok (.iadd, 1) := by decide +kernel
theorem dX0_turnOverLeft_4 : decode cX0_turnOverLeft 4 = .ok (.istore_n 3, 1) := by decide +kernel
theorem dX0_turnOverLeft_5 : decode cX0_turnOverLeft 5 = .ok (.iload_n 3, 1) := by decide +kernel
theorem dX0_turnOverLeft_6 : decode cX0_turnOverLeft 6 = .ok (.ifCond .lt 40, 3) := by decide +kernel
theorem dX0_turnOverLeft_9 : decode cX0_turnOverLeft 9 = .ok (.iload_n 3, 1) := by decide +kernel
theorem dX0_turnOverLeft_10 : decode cX0_turnOverLeft 10 = .ok (.bipush 120, 2) := by decide +kernel
theorem dX0_turnOverLeft_12 : decode cX0_turnOverLeft 12 = .ok (.if_icmp .ge 34, 3) := by decide +kernel
theorem dX0_turnOverLeft_15 : decode cX0_turnOverLeft 15 = .ok (.aload_n 0, 1) := by decide +kernel
theorem dX0_turnOverLeft_16 : decode cX0_turnOverLeft 16 = .ok (.getfield 9, 3) := by decide +kernel
theorem dX0_turnOverLeft_19 : decode cX0_turnOverLeft 19 = .ok (.iload_n 3, 1) := by decide +kernel
theorem dX0_turnOverLeft_20 : decode cX0_turnOverLeft 20 = .ok (.dup2, 1) := by decide +kernel
theorem dX0_turnOverLeft_21 : decode cX0_turnOverLeft 21 = .ok (.laload, 1) := by decide +kernel
theorem dX0_turnOverLeft_22 : decode cX0_turnOverLeft 22 = .ok (.iconst 0, 1) := by decide +kernel
theorem dX0_turnOverLeft_23 : decode cX0_turnOverLeft 23 = .ok (.iload_n 2, 1) := by decide +kernel
theorem dX0_turnOverLeft_24 : decode cX0_turnOverLeft 24 = .ok (.bipush 60, 2) := by decide +kernel
theorem dX0_turnOverLeft_26 : decode cX0_turnOverLeft 26 = .ok (.iadd, 1) := by decide +kernel
theorem dX0_turnOverLeft_27 : decode cX0_turnOverLeft 27 = .ok (.invokestatic 30, 3) := by decide +kernel
theorem dX0_turnOverLeft_30 : decode cX0_turnOverLeft 30 = .ok (.lxor, 1) := by decide +kernel
theorem dX0_turnOverLeft_31 : decode cX0_turnOverLeft 31 = .ok (.lastore, 1) := by decide +kernel
theorem dX0_turnOverLeft_32 : decode cX0_turnOverLeft 32 = .ok (.aload_n 0, 1) := by decide +kernel
theorem dX0_turnOverLeft_33 : decode cX0_turnOverLeft 33 = .ok (.getfield 15, 3) := by decide +kernel
theorem dX0_turnOverLeft_36 : decode cX0_turnOverLeft 36 = .ok (.iload_n 3, 1) := by decide +kernel
theorem dX0_turnOverLeft_37 : decode cX0_turnOverLeft 37 = .ok (.dup2, 1) := by decide +kernel
theorem dX0_turnOverLeft_38 : decode cX0_turnOverLeft 38 = .ok (.laload, 1) := by decide +kernel
theorem dX0_turnOverLeft_39 : decode cX0_turnOverLeft 39 = .ok (.iconst 0, 1) := by decide +kernel
theorem dX0_turnOverLeft_40 : decode cX0_turnOverLeft 40 = .ok (.iload_n 2, 1) := by decide +kernel
theorem dX0_turnOverLeft_41 : decode cX0_turnOverLeft 41 = .ok (.invokestatic 30, 3) := by decide +kernel
theorem dX0_turnOverLeft_44 : decode cX0_turnOverLeft 44 = .ok (.lxor, 1) := by decide +kernel
theorem dX0_turnOverLeft_45 : decode cX0_turnOverLeft 45 = .ok (.lastore, 1) := by decide +kernel
theorem dX0_turnOverLeft_46 : decode cX0_turnOverLeft 46 = .ok (.return_, 1) := by decide +kernel
theorem dX0_bits_0 : decode cX0_bits 0 = .ok (.iload_n 0, 1) := by decide +kernel
theorem dX0_bits_1 : decode cX0_bits 1 = .ok (.iconst 0, 1) := by decide +kernel
theorem dX0_bits_2 : decode cX0_bits 2 = .ok (.invokestatic 40, 3) := by decide +kernel
theorem dX0_bits_5 : decode cX0_bits 5 = .ok (.istore_n 2, 1) := by decide +kernel
theorem dX0_bits_6 : decode cX0_bits 6 = .ok (.iload_n 1, 1) := by decide +kernel
theorem dX0_bits_7 : decode cX0_bits 7 = .ok (.bipush 60, 2) := by decide +kernel
theorem dX0_bits_9 : decode cX0_bits 9 = .ok (.invokestatic 34, 3) := by decide +kernel
theorem dX0_bits_12 : decode cX0_bits 12 = .ok (.iload_n 2, 1) := by decide +kernel
theorem dX0_bits_13 : decode cX0_bits 13 = .ok (.isub, 1) := by decide +kernel
theorem dX0_bits_14 : decode cX0_bits 14 = .ok (.istore_n 3, 1) := by decide +kernel
theorem dX0_bits_15 : decode cX0_bits 15 = .ok (.iload_n 3, 1) := by decide +kernel
theorem dX0_bits_16 : decode cX0_bits 16 = .ok (.ifCond .gt 7, 3) := by decide +kernel
theorem dX0_bits_19 : decode cX0_bits 19 = .ok (.lconst 0, 1) := by decide +kernel
theorem dX0_bits_20 : decode cX0_bits 20 = .ok (.goto 13, 3) := by decide +kernel
theorem dX0_bits_23 : decode cX0_bits 23 = .ok (.ldc2_w 43, 3) := by decide +kernel
theorem dX0_bits_26 : decode cX0_bits 26 = .ok (.bipush 60, 2) := by decide +kernel
theorem dX0_bits_28 : decode cX0_bits 28 = .ok (.iload_n 3, 1) := by decide +kernel
theorem dX0_bits_29 : decode cX0_bits 29 = .ok (.isub, 1) := by decide +kernel
theorem dX0_bits_30 : decode cX0_bits 30 = .ok (.lushr, 1) := by decide +kernel
theorem dX0_bits_31 : decode cX0_bits 31 = .ok (.iload_n 2, 1) := by decide +kernel
theorem dX0_bits_32 : decode cX0_bits 32 = .ok (.lshl, 1) := by decide +kernel
theorem dX0_bits_33 : decode cX0_bits 33 = .ok (.lreturn, 1) := by decide +kernel
theorem dX0_combine_0 : decode cX0_combine 0 = .ok (.iconst 0, 1) := by decide +kernel
theorem dX0_combine_1 : decode cX0_combine 1 = .ok (.istore 4, 2) := by decide +kernel
theorem dX0_combine_3 : decode cX0_combine 3 = .ok (.iload 4, 2) := by decide +kernel
theorem dX0_combine_5 : decode cX0_combine 5 = .ok (.bipush 120, 2) := by decide +kernel
theorem dX0_combine_7 : decode cX0_combine 7 = .ok (.if_icmp .ge 59, 3) := by decide +kernel
theorem dX0_combine_10 : decode cX0_combine 10 = .ok (.aload_n 0, 1) := by decide +kernel
theorem dX0_combine_11 : decode cX0_combine 11 = .ok (.getfield 9, 3) := by decide +kernel
theorem dX0_combine_14 : decode cX0_combine 14 = .ok (.iload 4, 2) := by decide +kernel
theorem dX0_combine_16 : decode cX0_combine 16 = .ok (.iload_n 1, 1) := by decide +kernel
theorem dX0_combine_17 : decode cX0_combine 17 = .ok (.aload_n 2, 1) := by decide +kernel
theorem dX0_combine_18 : decode cX0_combine 18 = .ok (.getfield 9, 3) := by decide +kernel
theorem dX0_combine_21 : decode cX0_combine 21 = .ok (.iload 4, 2) := by decide +kernel
theorem dX0_combine_23 : decode cX0_combine 23 = .ok (.laload, 1) := by decide +kernel
theorem dX0_combine_24 : decode cX0_combine 24 = .ok (.aload_n 3, 1) := by decide +kernel
theorem dX0_combine_25 : decode cX0_combine 25 = .ok (.getfield 9, 3) := by decide +kernel
theorem dX0_combine_28 : decode cX0_combine 28 = .ok (.iload 4, 2) := by decide +kernel
theorem dX0_combine_30 : decode cX0_combine 30 = .ok (.laload, 1) := by decide +kernel
theorem dX0_combine_31 : decode cX0_combine 31 = .ok (.invokestatic 45, 3) := by decide +kernel
theorem dX0_combine_34 : decode cX0_combine 34 = .ok (.lastore, 1) := by decide +kernel
theorem dX0_combine_35 : decode cX0_combine 35 = .ok (.aload_n 0, 1) := by decide +kernel
theorem dX0_combine_36 : decode cX0_combine 36 = .ok (.getfield 15, 3) := by decide +kernel
theorem dX0_combine_39 : decode cX0_combine 39 = .ok (.iload 4, 2) := by decide +kernel
theorem dX0_combine_41 : decode cX0_combine 41 = .ok (.iload_n 1, 1) := by decide +kernel
theorem dX0_combine_42 : decode cX0_combine 42 = .ok (.aload_n 2, 1) := by decide +kernel
theorem dX0_combine_43 : decode cX0_combine 43 = .ok (.getfield 15, 3) := by decide +kernel
theorem dX0_combine_46 : decode cX0_combine 46 = .ok (.iload 4, 2) := by decide +kernel
theorem dX0_combine_48 : decode cX0_combine 48 = .ok (.laload, 1) := by decide +kernel
theorem dX0_combine_49 : decode cX0_combine 49 = .ok (.aload_n 3, 1) := by decide +kernel
theorem dX0_combine_50 : decode cX0_combine 50 = .ok (.getfield 15, 3) := by decide +kernel
theorem dX0_combine_53 : decode cX0_combine 53 = .ok (.iload 4, 2) := by decide +kernel
theorem dX0_combine_55 : decode cX0_combine 55 = .ok (.laload, 1) := by decide +kernel
theorem dX0_combine_56 : decode cX0_combine 56 = .ok (.invokestatic 45, 3) := by decide +kernel
theorem dX0_combine_59 : decode cX0_combine 59 = .ok (.lastore, 1) := by decide +kernel
theorem dX0_combine_60 : decode cX0_combine 60 = .ok (.iinc 4 1, 3) := by decide +kernel
theorem dX0_combine_63 : decode cX0_combine 63 = .ok (.goto (-60), 3) := by decide +kernel
theorem dX0_combine_66 : decode cX0_combine 66 = .ok (.return_, 1) := by decide +kernel
theorem dX0_combined_0 : decode cX0_combined 0 = .ok (.iload_n 0, 1) := by decide +kernel
theorem dX0_combined_1 : decode cX0_combined 1 = .ok (.tableswitch 43 0 2 #[27, 31, 35], 27) := by decide +kernel
theorem dX0_combined_28 : decode cX0_combined 28 = .ok (.lload_n 1, 1) := by decide +kernel
theorem dX0_combined_29 : decode cX0_combined 29 = .ok (.lload_n 3, 1) := by decide +kernel
theorem dX0_combined_30 : decode cX0_combined 30 = .ok (.lor, 1) := by decide +kernel
theorem dX0_combined_31 : decode cX0_combined 31 = .ok (.lreturn, 1) := by decide +kernel
theorem dX0_combined_32 : decode cX0_combined 32 = .ok (.lload_n 1, 1) := by decide +kernel
theorem dX0_combined_33 : decode cX0_combined 33 = .ok (.lload_n 3, 1) := by decide +kernel
theorem dX0_combined_34 : decode cX0_combined 34 = .ok (.land, 1) := by decide +kernel
theorem dX0_combined_35 : decode cX0_combined 35 = .ok (.lreturn, 1) := by decide +kernel
theorem dX0_combined_36 : decode cX0_combined 36 = .ok (.lload_n 1, 1) := by decide +kernel
theorem dX0_combined_37 : decode cX0_combined 37 = .ok (.lload_n 3, 1) := by decide +kernel
theorem dX0_combined_38 : decode cX0_combined 38 = .ok (.ldc2_w 49, 3) := by decide +kernel
theorem dX0_combined_41 : decode cX0_combined 41 = .ok (.lxor, 1) := by decide +kernel
theorem dX0_combined_42 : decode cX0_combined 42 = .ok (.land, 1) := by decide +kernel
theorem dX0_combined_43 : decode cX0_combined 43 = .ok (.lreturn, 1) := by decide +kernel
theorem dX0_combined_44 : decode cX0_combined 44 = .ok (.lload_n 1, 1) := by decide +kernel
theorem dX0_combined_45 : decode cX0_combined 45 = .ok (.lload_n 3, 1) := by decide +kernel
theorem dX0_combined_46 : decode cX0_combined 46 = .ok (.lxor, 1) := by decide +kernel
theorem dX0_combined_47 : decode cX0_combined 47 = .ok (.lreturn, 1) := by decide +kernel
theorem dX0_invert_0 : decode cX0_invert 0 = .ok (.iconst 0, 1) := by decide +kernel
theorem dX0_invert_1 : decode cX0_invert 1 = .ok (.istore_n 1, 1) := by decide +kernel
theorem dX0_invert_2 : decode cX0_invert 2 = .ok (.iload_n 1, 1) := by decide +kernel
theorem dX0_invert_3 : decode cX0_invert 3 = .ok (.bipush 120, 2) := by decide +kernel
theorem dX0_invert_5 : decode cX0_invert 5 = .ok (.if_icmp .ge 49, 3) := by decide +kernel
theorem dX0_invert_8 : decode cX0_invert 8 = .ok (.aload_n 0, 1) := by decide +kernel
theorem dX0_invert_9 : decode cX0_invert 9 = .ok (.getfield 9, 3) := by decide +kernel
theorem dX0_invert_12 : decode cX0_invert 12 = .ok (.iload_n 1, 1) := by decide +kernel
theorem dX0_invert_13 : decode cX0_invert 13 = .ok (.aload_n 0, 1) := by decide +kernel
theorem dX0_invert_14 : decode cX0_invert 14 = .ok (.getfield 9, 3) := by decide +kernel
theorem dX0_invert_17 : decode cX0_invert 17 = .ok (.iload_n 1, 1) := by decide +kernel
theorem dX0_invert_18 : decode cX0_invert 18 = .ok (.laload, 1) := by decide +kernel
theorem dX0_invert_19 : decode cX0_invert 19 = .ok (.ldc2_w 49, 3) := by decide +kernel
theorem dX0_invert_22 : decode cX0_invert 22 = .ok (.lxor, 1) := by decide +kernel
theorem dX0_invert_23 : decode cX0_invert 23 = .ok (.ldc2_w 43, 3) := by decide +kernel
theorem dX0_invert_26 : decode cX0_invert 26 = .ok (.land, 1) := by decide +kernel
theorem dX0_invert_27 : decode cX0_invert 27 = .ok (.lastore, 1) := by decide +kernel
theorem dX0_invert_28 : decode cX0_invert 28 = .ok (.aload_n 0, 1) := by decide +kernel
theorem dX0_invert_29 : decode cX0_invert 29 = .ok (.getfield 15, 3) := by decide +kernel
theorem dX0_invert_32 : decode cX0_invert 32 = .ok (.iload_n 1, 1) := by decide +kernel
theorem dX0_invert_33 : decode cX0_invert 33 = .ok (.aload_n 0, 1) := by decide +kernel
theorem dX0_invert_34 : decode cX0_invert 34 = .ok (.getfield 15, 3) := by decide +kernel
theorem dX0_invert_37 : decode cX0_invert 37 = .ok (.iload_n 1, 1) := by decide +kernel
theorem dX0_invert_38 : decode cX0_invert 38 = .ok (.laload, 1) := by decide +kernel
theorem dX0_invert_39 : decode cX0_invert 39 = .ok (.ldc2_w 49, 3) := by decide +kernel
theorem dX0_invert_42 : decode cX0_invert 42 = .ok (.lxor, 1) := by decide +kernel
theorem dX0_invert_43 : decode cX0_invert 43 = .ok (.ldc2_w 43, 3) := by decide +kernel
theorem dX0_invert_46 : decode cX0_invert 46 = .ok (.land, 1) := by decide +kernel
theorem dX0_invert_47 : decode cX0_invert 47 = .ok (.lastore, 1) := by decide +kernel
theorem dX0_invert_48 : decode cX0_invert 48 = .ok (.iinc 1 1, 3) := by decide +kernel
theorem dX0_invert_51 : decode cX0_invert 51 = .ok (.goto (-49), 3) := by decide +kernel
theorem dX0_invert_54 : decode cX0_invert 54 = .ok (.return_, 1) := by decide +kernel
theorem dX0_spread_0 : decode cX0_spread 0 = .ok (.iload_n 1, 1) := by decide +kernel
theorem dX0_spread_1 : decode cX0_spread 1 = .ok (.ifCond .eq 9, 3) := by decide +kernel
theorem dX0_spread_4 : decode cX0_spread 4 = .ok (.ldc2_w 43, 3) := by decide +kernel
theorem dX0_spread_7 : decode cX0_spread 7 = .ok (.goto 4, 3) := by decide +kernel
theorem dX0_spread_10 : decode cX0_spread 10 = .ok (.lconst 0, 1) := by decide +kernel
theorem dX0_spread_11 : decode cX0_spread 11 = .ok (.lstore_n 2, 1) := by decide +kernel
theorem dX0_spread_12 : decode cX0_spread 12 = .ok (.aload_n 0, 1) := by decide +kernel
theorem dX0_spread_13 : decode cX0_spread 13 = .ok (.lload_n 2, 1) := by decide +kernel
theorem dX0_spread_14 : decode cX0_spread 14 = .ok (.invokevirtual 51, 3) := by decide +kernel
theorem dX0_spread_17 : decode cX0_spread 17 = .ok (.aload_n 0, 1) := by decide +kernel
theorem dX0_spread_18 : decode cX0_spread 18 = .ok (.getfield 9, 3) := by decide +kernel
theorem dX0_spread_21 : decode cX0_spread 21 = .ok (.lload_n 2, 1) := by decide +kernel
theorem dX0_spread_22 : decode cX0_spread 22 = .ok (.invokestatic 55, 3) := by decide +kernel
theorem dX0_spread_25 : decode cX0_spread 25 = .ok (.aload_n 0, 1) := by decide +kernel
theorem dX0_spread_26 : decode cX0_spread 26 = .ok (.getfield 15, 3) := by decide +kernel
theorem dX0_spread_29 : decode cX0_spread 29 = .ok (.lload_n 2, 1) := by decide +kernel
theorem dX0_spread_30 : decode cX0_spread 30 = .ok (.invokestatic 55, 3) := by decide +kernel
theorem dX0_spread_33 : decode cX0_spread 33 = .ok (.return_, 1) := by decide +kernel
theorem dX0_spreadSideways_0 : decode cX0_spreadSideways 0 = .ok (.lload_n 1, 1) := by decide +kernel
theorem dX0_spreadSideways_1 : decode cX0_spreadSideways 1 = .ok (.lconst 1, 1) := by decide +kernel
theorem dX0_spreadSideways_2 : decode cX0_spreadSideways 2 = .ok (.land, 1) := by decide +kernel
theorem dX0_spreadSideways_3 : decode cX0_spreadSideways 3 = .ok (.lstore_n 3, 1) := by decide +kernel
theorem dX0_spreadSideways_4 : decode cX0_spreadSideways 4 = .ok (.lload_n 3, 1) := by decide +kernel
theorem dX0_spreadSideways_5 : decode cX0_spreadSideways 5 = .ok (.bipush 59, 2) := by decide +kernel
theorem dX0_spreadSideways_7 : decode cX0_spreadSideways 7 = .ok (.lshl, 1) := by decide +kernel
theorem dX0_spreadSideways_8 : decode cX0_spreadSideways 8 = .ok (.lstore 5, 2) := by decide +kernel
theorem dX0_spreadSideways_10 : decode cX0_spreadSideways 10 = .ok (.iconst 0, 1) := by decide +kernel
theorem dX0_spreadSideways_11 : decode cX0_spreadSideways 11 = .ok (.istore 7, 2) := by decide +kernel
theorem dX0_spreadSideways_13 : decode cX0_spreadSideways 13 = .ok (.iload 7, 2) := by decide +kernel
theorem dX0_spreadSideways_15 : decode cX0_spreadSideways 15 = .ok (.bipush 120, 2) := by decide +kernel
theorem dX0_spreadSideways_17 : decode cX0_spreadSideways 17 = .ok (.if_icmp .ge 90, 3) := by decide +kernel
theorem dX0_spreadSideways_20 : decode cX0_spreadSideways 20 = .ok (.aload_n 0, 1) := by decide +kernel
theorem dX0_spreadSideways_21 : decode cX0_spreadSideways 21 = .ok (.getfield 9, 3) := by decide +kernel
theorem dX0_spreadSideways_24 : decode cX0_spreadSideways 24 = .ok (.iload 7, 2) := by decide +kernel
theorem dX0_spreadSideways_26 : decode cX0_spreadSideways 26 = .ok (.laload, 1) := by decide +kernel
theorem dX0_spreadSideways_27 : decode cX0_spreadSideways 27 = .ok (.lstore 8, 2) := by decide +kernel
theorem dX0_spreadSideways_29 : decode cX0_spreadSideways 29 = .ok (.aload_n 0, 1) := by decide +kernel
theorem dX0_spreadSideways_30 : decode cX0_spreadSideways 30 = .ok (.getfield 15, 3) := by decide +kernel
theorem dX0_spreadSideways_33 : decode cX0_spreadSideways 33 = .ok (.iload 7, 2) := by decide +kernel
theorem dX0_spreadSideways_35 : decode cX0_spreadSideways 35 = .ok (.laload, 1) := by decide +kernel
theorem dX0_spreadSideways_36 : decode cX0_spreadSideways 36 = .ok (.lstore 10, 2) := by decide +kernel
theorem dX0_spreadSideways_38 : decode cX0_spreadSideways 38 = .ok (.aload_n 0, 1) := by decide +kernel
theorem dX0_spreadSideways_39 : decode cX0_spreadSideways 39 = .ok (.getfield 9, 3) := by decide +kernel
theorem dX0_spreadSideways_42 : decode cX0_spreadSideways 42 = .ok (.iload 7, 2) := by decide +kernel
theorem dX0_spreadSideways_44 : decode cX0_spreadSideways 44 = .ok (.lload 8, 2) := by decide +kernel
theorem dX0_spreadSideways_46 : decode cX0_spreadSideways 46 = .ok (.lload 8, 2) := by decide +kernel
theorem dX0_spreadSideways_48 : decode cX0_spreadSideways 48 = .ok (.iconst 1, 1) := by decide +kernel
theorem dX0_spreadSideways_49 : decode cX0_spreadSideways 49 = .ok (.lshl, 1) := by decide +kernel
theorem dX0_spreadSideways_50 : decode cX0_spreadSideways 50 = .ok (.lor, 1) := by decide +kernel
theorem dX0_spreadSideways_51 : decode cX0_spreadSideways 51 = .ok (.lload_n 3, 1) := by decide +kernel
theorem dX0_spreadSideways_52 : decode cX0_spreadSideways 52 = .ok (.lor, 1) := by decide +kernel
theorem dX0_spreadSideways_53 : decode cX0_spreadSideways 53 = .ok (.lload 8, 2) := by decide +kernel
theorem dX0_spreadSideways_55 : decode cX0_spreadSideways 55 = .ok (.iconst 1, 1) := by decide +kernel
theorem dX0_spreadSideways_56 : decode cX0_spreadSideways 56 = .ok (.lushr, 1) := by decide +kernel
theorem dX0_spreadSideways_57 : decode cX0_spreadSideways 57 = .ok (.lor, 1) := by decide +kernel
theorem dX0_spreadSideways_58 : decode cX0_spreadSideways 58 = .ok (.lload 10, 2) := by decide +kernel
theorem dX0_spreadSideways_60 : decode cX0_spreadSideways 60 = .ok (.bipush 59, 2) := by decide +kernel
theorem dX0_spreadSideways_62 : decode cX0_spreadSideways 62 = .ok (.lshl, 1) := by decide +kernel
theorem dX0_spreadSideways_63 : decode cX0_spreadSideways 63 = .ok (.lor, 1) := by decide +kernel
theorem dX0_spreadSideways_64 : decode cX0_spreadSideways 64 = .ok (.ldc2_w 43, 3) := by decide +kernel
theorem dX0_spreadSideways_67 : decode cX0_spreadSideways 67 = .ok (.land, 1) := by decide +kernel
theorem dX0_spreadSideways_68 : decode cX0_spreadSideways 68 = .ok (.lastore, 1) := by decide +kernel
theorem dX0_spreadSideways_69 : decode cX0_spreadSideways 69 = .ok (.aload_n 0, 1) := by decide +kernel
theorem dX0_spreadSideways_70 : decode cX0_spreadSideways 70 = .ok (.getfield 15, 3) := by decide +kernel
theorem dX0_spreadSideways_73 : decode cX0_spreadSideways 73 = .ok (.iload 7, 2) := by decide +kernel
theorem dX0_spreadSideways_75 : decode cX0_spreadSideways 75 = .ok (.lload 10, 2) := by decide +kernel
theorem dX0_spreadSideways_77 : decode cX0_spreadSideways 77 = .ok (.lload 10, 2) := by decide +kernel
theorem dX0_spreadSideways_79 : decode cX0_spreadSideways 79 = .ok (.iconst 1, 1) := by decide +kernel
theorem dX0_spreadSideways_80 : decode cX0_spreadSideways 80 = .ok (.lshl, 1) := by decide +kernel
theorem dX0_spreadSideways_81 : decode cX0_spreadSideways 81 = .ok (.lor, 1) := by decide +kernel
theorem dX0_spreadSideways_82 : decode cX0_spreadSideways 82 = .ok (.lload 8, 2) := by decide +kernel
theorem dX0_spreadSideways_84 : decode cX0_spreadSideways 84 = .ok (.bipush 59, 2) := by decide +kernel
theorem dX0_spreadSideways_86 : decode cX0_spreadSideways 86 = .ok (.lushr, 1) := by decide +kernel
theorem dX0_spreadSideways_87 : decode cX0_spreadSideways 87 = .ok (.lor, 1) := by decide +kernel
theorem dX0_spreadSideways_88 : decode cX0_spreadSideways 88 = .ok (.lload 10, 2) := by decide +kernel
theorem dX0_spreadSideways_90 : decode cX0_spreadSideways 90 = .ok (.iconst 1, 1) := by decide +kernel
theorem dX0_spreadSideways_91 : decode cX0_spreadSideways 91 = .ok (.lushr, 1) := by decide +kernel
theorem dX0_spreadSideways_92 : decode cX0_spreadSideways 92 = .ok (.lor, 1) := by decide +kernel
theorem dX0_spreadSideways_93 : decode cX0_spreadSideways 93 = .ok (.lload 5, 2) := by decide +kernel
theorem dX0_spreadSideways_95 : decode cX0_spreadSideways 95 = .ok (.lor, 1) := by decide +kernel
theorem dX0_spreadSideways_96 : decode cX0_spreadSideways 96 = .ok (.ldc2_w 43, 3) := by decide +kernel
theorem dX0_spreadSideways_99 : decode cX0_spreadSideways 99 = .ok (.land, 1) := by decide +kernel
theorem dX0_spreadSideways_100 : decode cX0_spreadSideways 100 = .ok (.lastore, 1) := by decide +kernel
theorem dX0_spreadSideways_101 : decode cX0_spreadSideways 101 = .ok (.iinc 7 1, 3) := by decide +kernel
theorem dX0_spreadSideways_104 : decode cX0_spreadSideways 104 = .ok (.goto (-91), 3) := by decide +kernel
theorem dX0_spreadSideways_107 : decode cX0_spreadSideways 107 = .ok (.return_, 1) := by decide +kernel
theorem dX0_spreadUpAndDown_0 : decode cX0_spreadUpAndDown 0 = .ok (.lload_n 1, 1) := by decide +kernel
theorem dX0_spreadUpAndDown_1 : decode cX0_spreadUpAndDown 1 = .ok (.lstore_n 3, 1) := by decide +kernel
theorem dX0_spreadUpAndDown_2 : decode cX0_spreadUpAndDown 2 = .ok (.iconst 0, 1) := by decide +kernel
theorem dX0_spreadUpAndDown_3 : decode cX0_spreadUpAndDown 3 = .ok (.istore 5, 2) := by decide +kernel
theorem dX0_spreadUpAndDown_5 : decode cX0_spreadUpAndDown 5 = .ok (.iload 5, 2) := by decide +kernel
theorem dX0_spreadUpAndDown_7 : decode cX0_spreadUpAndDown 7 = .ok (.bipush 120, 2) := by decide +kernel
theorem dX0_spreadUpAndDown_9 : decode cX0_spreadUpAndDown 9 = .ok (.if_icmp .ge 50, 3) := by decide +kernel
theorem dX0_spreadUpAndDown_12 : decode cX0_spreadUpAndDown 12 = .ok (.aload_n 0, 1) := by decide +kernel
theorem dX0_spreadUpAndDown_13 : decode cX0_spreadUpAndDown 13 = .ok (.iload 5, 2) := by decide +kernel
theorem dX0_spreadUpAndDown_15 : decode cX0_spreadUpAndDown 15 = .ok (.laload, 1) := by decide +kernel
theorem dX0_spreadUpAndDown_16 : decode cX0_spreadUpAndDown 16 = .ok (.lstore 6, 2) := by decide +kernel
theorem dX0_spreadUpAndDown_18 : decode cX0_spreadUpAndDown 18 = .ok (.iload 5, 2) := by decide +kernel
theorem dX0_spreadUpAndDown_20 : decode cX0_spreadUpAndDown 20 = .ok (.iconst 1, 1) := by decide +kernel
theorem dX0_spreadUpAndDown_21 : decode cX0_spreadUpAndDown 21 = .ok (.iadd, 1) := by decide +kernel
theorem dX0_spreadUpAndDown_22 : decode cX0_spreadUpAndDown 22 = .ok (.bipush 120, 2) := by decide +kernel
theorem dX0_spreadUpAndDown_24 : decode cX0_spreadUpAndDown 24 = .ok (.if_icmp .ge 12, 3) := by decide +kernel
theorem dX0_spreadUpAndDown_27 : decode cX0_spreadUpAndDown 27 = .ok (.aload_n 0, 1) := by decide +kernel
theorem dX0_spreadUpAndDown_28 : decode cX0_spreadUpAndDown 28 = .ok (.iload 5, 2) := by decide +kernel
theorem dX0_spreadUpAndDown_30 : decode cX0_spreadUpAndDown 30 = .ok (.iconst 1, 1) := by decide +kernel
theorem dX0_spreadUpAndDown_31 : decode cX0_spreadUpAndDown 31 = .ok (.iadd, 1) := by decide +kernel
theorem dX0_spreadUpAndDown_32 : decode cX0_spreadUpAndDown 32 = .ok (.laload, 1) := by decide +kernel
theorem dX0_spreadUpAndDown_33 : decode cX0_spreadUpAndDown 33 = .ok (.goto 4, 3) := by decide +kernel
theorem dX0_spreadUpAndDown_36 : decode cX0_spreadUpAndDown 36 = .ok (.lload_n 1, 1) := by decide +kernel
theorem dX0_spreadUpAndDown_37 : decode cX0_spreadUpAndDown 37 = .ok (.lstore 8, 2) := by decide +kernel
theorem dX0_spreadUpAndDown_39 : decode cX0_spreadUpAndDown 39 = .ok (.aload_n 0, 1) := by decide +kernel
theorem dX0_spreadUpAndDown_40 : decode cX0_spreadUpAndDown 40 = .ok (.iload 5, 2) := by decide +kernel
theorem dX0_spreadUpAndDown_42 : decode cX0_spreadUpAndDown 42 = .ok (.lload_n 3, 1) := by decide +kernel
theorem dX0_spreadUpAndDown_43 : decode cX0_spreadUpAndDown 43 = .ok (.lload 6, 2) := by decide +kernel
theorem dX0_spreadUpAndDown_45 : decode cX0_spreadUpAndDown 45 = .ok (.lor, 1) := by decide +kernel
theorem dX0_spreadUpAndDown_46 : decode cX0_spreadUpAndDown 46 = .ok (.lload 8, 2) := by decide +kernel
theorem dX0_spreadUpAndDown_48 : decode cX0_spreadUpAndDown 48 = .ok (.lor, 1) := by decide +kernel
theorem dX0_spreadUpAndDown_49 : decode cX0_spreadUpAndDown 49 = .ok (.lastore, 1) := by decide +kernel
theorem dX0_spreadUpAndDown_50 : decode cX0_spreadUpAndDown 50 = .ok (.lload 6, 2) := by decide +kernel
theorem dX0_spreadUpAndDown_52 : decode cX0_spreadUpAndDown 52 = .ok (.lstore_n 3, 1) := by decide +kernel
theorem dX0_spreadUpAndDown_53 : decode cX0_spreadUpAndDown 53 = .ok (.iinc 5 1, 3) := by decide +kernel
theorem dX0_spreadUpAndDown_56 : decode cX0_spreadUpAndDown 56 = .ok (.goto (-51), 3) := by decide +kernel
theorem dX0_spreadUpAndDown_59 : decode cX0_spreadUpAndDown 59 = .ok (.return_, 1) := by decide +kernel
theorem dX0_holds_0 : decode cX0_holds 0 = .ok (.iload_n 2, 1) := by decide +kernel
theorem dX0_holds_1 : decode cX0_holds 1 = .ok (.bipush 60, 2) := by decide +kernel
theorem dX0_holds_3 : decode cX0_holds 3 = .ok (.iadd, 1) := by decide +kernel
theorem dX0_holds_4 : decode cX0_holds 4 = .ok (.istore_n 3, 1) := by decide +kernel
theorem dX0_holds_5 : decode cX0_holds 5 = .ok (.iload_n 1, 1) := by decide +kernel
theorem dX0_holds_6 : decode cX0_holds 6 = .ok (.ifCond .ge 12, 3) := by decide +kernel
theorem dX0_holds_9 : decode cX0_holds 9 = .ok (.aload_n 0, 1) := by decide +kernel
theorem dX0_holds_10 : decode cX0_holds 10 = .ok (.getfield 9, 3) := by decide +kernel
theorem dX0_holds_13 : decode cX0_holds 13 = .ok (.iload_n 3, 1) := by decide +kernel
theorem dX0_holds_14 : decode cX0_holds 14 = .ok (.laload, 1) := by decide +kernel
theorem dX0_holds_15 : decode cX0_holds 15 = .ok (.goto 9, 3) := by decide +kernel
theorem dX0_holds_18 : decode cX0_holds 18 = .ok (.aload_n 0, 1) := by decide +kernel
theorem dX0_holds_19 : decode cX0_holds 19 = .ok (.getfield 15, 3) := by decide +kernel
theorem dX0_holds_22 : decode cX0_holds 22 = .ok (.iload_n 3, 1) := by decide +kernel
theorem dX0_holds_23 : decode cX0_holds 23 = .ok (.laload, 1) := by decide +kernel
theorem dX0_holds_24 : decode cX0_holds 24 = .ok (.lstore 4, 2) := by decide +kernel
theorem dX0_holds_26 : decode cX0_holds 26 = .ok (.iload_n 1, 1) := by decide +kernel
theorem dX0_holds_27 : decode cX0_holds 27 = .ok (.ifCond .ge 10, 3) := by decide +kernel
theorem dX0_holds_30 : decode cX0_holds 30 = .ok (.iload_n 1, 1) := by decide +kernel
theorem dX0_holds_31 : decode cX0_holds 31 = .ok (.bipush 60, 2) := by decide +kernel
theorem dX0_holds_33 : decode cX0_holds 33 = .ok (.iadd, 1) := by decide +kernel
theorem dX0_holds_34 : decode cX0_holds 34 = .ok (.goto 4, 3) := by decide +kernel
theorem dX0_holds_37 : decode cX0_holds 37 = .ok (.iload_n 1, 1) := by decide +kernel
theorem dX0_holds_38 : decode cX0_holds 38 = .ok (.istore 6, 2) := by decide +kernel
theorem dX0_holds_40 : decode cX0_holds 40 = .ok (.lload 4, 2) := by decide +kernel
theorem dX0_holds_42 : decode cX0_holds 42 = .ok (.iload 6, 2) := by decide +kernel
theorem dX0_holds_44 : decode cX0_holds 44 = .ok (.lushr, 1) := by decide +kernel
theorem dX0_holds_45 : decode cX0_holds 45 = .ok (.lconst 1, 1) := by decide +kernel
theorem dX0_holds_46 : decode cX0_holds 46 = .ok (.land, 1) := by decide +kernel
theorem dX0_holds_47 : decode cX0_holds 47 = .ok (.lconst 0, 1) := by decide +kernel
theorem dX0_holds_48 : decode cX0_holds 48 = .ok (.lcmp, 1) := by decide +kernel
theorem dX0_holds_49 : decode cX0_holds 49 = .ok (.ifCond .eq 7, 3) := by decide +kernel
theorem dX0_holds_52 : decode cX0_holds 52 = .ok (.iconst 1, 1) := by decide +kernel
theorem dX0_holds_53 : decode cX0_holds 53 = .ok (.goto 4, 3) := by decide +kernel
theorem dX0_holds_56 : decode cX0_holds 56 = .ok (.iconst 0, 1) := by decide +kernel
theorem dX0_holds_57 : decode cX0_holds 57 = .ok (.ireturn, 1) := by decide +kernel
theorem dX0_cells_0 : decode cX0_cells 0 = .ok (.iconst 0, 1) := by decide +kernel
theorem dX0_cells_1 : decode cX0_cells 1 = .ok (.istore_n 1, 1) := by decide +kernel
theorem dX0_cells_2 : decode cX0_cells 2 = .ok (.iconst 0, 1) := by decide +kernel
theorem dX0_cells_3 : decode cX0_cells 3 = .ok (.istore_n 2, 1) := by decide +kernel
theorem dX0_cells_4 : decode cX0_cells 4 = .ok (.iload_n 2, 1) := by decide +kernel
theorem dX0_cells_5 : decode cX0_cells 5 = .ok (.bipush 120, 2) := by decide +kernel
theorem dX0_cells_7 : decode cX0_cells 7 = .ok (.if_icmp .ge 31, 3) := by decide +kernel
theorem dX0_cells_10 : decode cX0_cells 10 = .ok (.iload_n 1, 1) := by decide +kernel
theorem dX0_cells_11 : decode cX0_cells 11 = .ok (.aload_n 0, 1) := by decide +kernel
theorem dX0_cells_12 : decode cX0_cells 12 = .ok (.getfield 9, 3) := by decide +kernel
theorem dX0_cells_15 : decode cX0_cells 15 = .ok (.iload_n 2, 1) := by decide +kernel
theorem dX0_cells_16 : decode cX0_cells 16 = .ok (.laload, 1) := by decide +kernel
theorem dX0_cells_17 : decode cX0_cells 17 = .ok (.invokestatic 58, 3) := by decide +kernel
theorem dX0_cells_20 : decode cX0_cells 20 = .ok (.aload_n 0, 1) := by decide +kernel
theorem dX0_cells_21 : decode cX0_cells 21 = .ok (.getfield 15, 3) := by decide +kernel
theorem dX0_cells_24 : decode cX0_cells 24 = .ok (.iload_n 2, 1) := by decide +kernel
theorem dX0_cells_25 : decode cX0_cells 25 = .ok (.laload, 1) := by decide +kernel
theorem dX0_cells_26 : decode cX0_cells 26 = .ok (.invokestatic 58, 3) := by decide +kernel
theorem dX0_cells_29 : decode cX0_cells 29 = .ok (.iadd, 1) := by decide +kernel
theorem dX0_cells_30 : decode cX0_cells 30 = .ok (.iadd, 1) := by decide +kernel
theorem dX0_cells_31 : decode cX0_cells 31 = .ok (.istore_n 1, 1) := by decide +kernel
theorem dX0_cells_32 : decode cX0_cells 32 = .ok (.iinc 2 1, 3) := by decide +kernel
theorem dX0_cells_35 : decode cX0_cells 35 = .ok (.goto (-31), 3) := by decide +kernel
theorem dX0_cells_38 : decode cX0_cells 38 = .ok (.iload_n 1, 1) := by decide +kernel
theorem dX0_cells_39 : decode cX0_cells 39 = .ok (.ireturn, 1) := by decide +kernel
theorem dX0_cellsInRow_0 : decode cX0_cellsInRow 0 = .ok (.aload_n 0, 1) := by decide +kernel
theorem dX0_cellsInRow_1 : decode cX0_cellsInRow 1 = .ok (.getfield 9, 3) := by decide +kernel
theorem dX0_cellsInRow_4 : decode cX0_cellsInRow 4 = .ok (.iload_n 1, 1) := by decide +kernel
theorem dX0_cellsInRow_5 : decode cX0_cellsInRow 5 = .ok (.bipush 60, 2) := by decide +kernel
theorem dX0_cellsInRow_7 : decode cX0_cellsInRow 7 = .ok (.iadd, 1) := by decide +kernel
theorem dX0_cellsInRow_8 : decode cX0_cellsInRow 8 = .ok (.laload, 1) := by decide +kernel
theorem dX0_cellsInRow_9 : decode cX0_cellsInRow 9 = .ok (.invokestatic 58, 3) := by decide +kernel
theorem dX0_cellsInRow_12 : decode cX0_cellsInRow 12 = .ok (.aload_n 0, 1) := by decide +kernel
theorem dX0_cellsInRow_13 : decode cX0_cellsInRow 13 = .ok (.getfield 15, 3) := by decide +kernel
theorem dX0_cellsInRow_16 : decode cX0_cellsInRow 16 = .ok (.iload_n 1, 1) := by decide +kernel
theorem dX0_cellsInRow_17 : decode cX0_cellsInRow 17 = .ok (.bipush 60, 2) := by decide +kernel
theorem dX0_cellsInRow_19 : decode cX0_cellsInRow 19 = .ok (.iadd, 1) := by decide +kernel
theorem dX0_cellsInRow_20 : decode cX0_cellsInRow 20 = .ok (.laload, 1) := by decide +kernel
theorem dX0_cellsInRow_21 : decode cX0_cellsInRow 21 = .ok (.invokestatic 58, 3) := by decide +kernel
theorem dX0_cellsInRow_24 : decode cX0_cellsInRow 24 = .ok (.iadd, 1) := by decide +kernel
theorem dX0_cellsInRow_25 : decode cX0_cellsInRow 25 = .ok (.ireturn, 1) := by decide +kernel
theorem dX0_cellsInColumn_0 : decode cX0_cellsInColumn 0 = .ok (.iconst 0, 1) := by decide +kernel
theorem dX0_cellsInColumn_1 : decode cX0_cellsInColumn 1 = .ok (.istore_n 2, 1) := by decide +kernel
theorem dX0_cellsInColumn_2 : decode cX0_cellsInColumn 2 = .ok (.bipush (-60), 2) := by decide +kernel
theorem dX0_cellsInColumn_4 : decode cX0_cellsInColumn 4 = .ok (.istore_n 3, 1) := by decide +kernel
theorem dX0_cellsInColumn_5 : decode cX0_cellsInColumn 5 = .ok (.iload_n 3, 1) := by decide +kernel
theorem dX0_cellsInColumn_6 : decode cX0_cellsInColumn 6 = .ok (.bipush 60, 2) := by decide +kernel
theorem dX0_cellsInColumn_8 : decode cX0_cellsInColumn 8 = .ok (.if_icmp .ge 26, 3) := by decide +kernel
theorem dX0_cellsInColumn_11 : decode cX0_cellsInColumn 11 = .ok (.iload_n 2, 1) := by decide +kernel
theorem dX0_cellsInColumn_12 : decode cX0_cellsInColumn 12 = .ok (.aload_n 0, 1) := by decide +kernel
theorem dX0_cellsInColumn_13 : decode cX0_cellsInColumn 13 = .ok (.iload_n 1, 1) := by decide +kernel
theorem dX0_cellsInColumn_14 : decode cX0_cellsInColumn 14 = .ok (.iload_n 3, 1) := by decide +kernel
theorem dX0_cellsInColumn_15 : decode cX0_cellsInColumn 15 = .ok (.invokevirtual 64, 3) := by decide +kernel
theorem dX0_cellsInColumn_18 : decode cX0_cellsInColumn 18 = .ok (.ifCond .eq 7, 3) := by decide +kernel
theorem dX0_cellsInColumn_21 : decode cX0_cellsInColumn 21 = .ok (.iconst 1, 1) := by decide +kernel
theorem dX0_cellsInColumn_22 : decode cX0_cellsInColumn 22 = .ok (.goto 4, 3) := by decide +kernel
theorem dX0_cellsInColumn_25 : decode cX0_cellsInColumn 25 = .ok (.iconst 0, 1) := by decide +kernel
theorem dX0_cellsInColumn_26 : decode cX0_cellsInColumn 26 = .ok (.iadd, 1) := by decide +kernel
theorem dX0_cellsInColumn_27 : decode cX0_cellsInColumn 27 = .ok (.istore_n 2, 1) := by decide +kernel
theorem dX0_cellsInColumn_28 : decode cX0_cellsInColumn 28 = .ok (.iinc 3 1, 3) := by decide +kernel
theorem dX0_cellsInColumn_31 : decode cX0_cellsInColumn 31 = .ok (.goto (-26), 3) := by decide +kernel
theorem dX0_cellsInColumn_34 : decode cX0_cellsInColumn 34 = .ok (.iload_n 2, 1) := by decide +kernel
theorem dX0_cellsInColumn_35 : decode cX0_cellsInColumn 35 = .ok (.ireturn, 1) := by decide +kernel
theorem dX0_isIn_0 : decode cX0_isIn 0 = .ok (.iconst 0, 1) := by decide +kernel
theorem dX0_isIn_1 : decode cX0_isIn 1 = .ok (.istore_n 2, 1) := by decide +kernel
theorem dX0_isIn_2 : decode cX0_isIn 2 = .ok (.iload_n 2, 1) := by decide +kernel
theorem dX0_isIn_3 : decode cX0_isIn 3 = .ok (.bipush 120, 2) := by decide +kernel
theorem dX0_isIn_5 : decode cX0_isIn 5 = .ok (.if_icmp .ge 51, 3) := by decide +kernel
theorem dX0_isIn_8 : decode cX0_isIn 8 = .ok (.aload_n 0, 1) := by decide +kernel
theorem dX0_isIn_9 : decode cX0_isIn 9 = .ok (.getfield 9, 3) := by decide +kernel
theorem dX0_isIn_12 : decode cX0_isIn 12 = .ok (.iload_n 2, 1) := by decide +kernel
theorem dX0_isIn_13 : decode cX0_isIn 13 = .ok (.laload, 1) := by decide +kernel
theorem dX0_isIn_14 : decode cX0_isIn 14 = .ok (.aload_n 1, 1) := by decide +kernel
theorem dX0_isIn_15 : decode cX0_isIn 15 = .ok (.getfield 9, 3) := by decide +kernel
theorem dX0_isIn_18 : decode cX0_isIn 18 = .ok (.iload_n 2, 1) := by decide +kernel
theorem dX0_isIn_19 : decode cX0_isIn 19 = .ok (.laload, 1) := by decide +kernel
theorem dX0_isIn_20 : decode cX0_isIn 20 = .ok (.ldc2_w 49, 3) := by decide +kernel
theorem dX0_isIn_23 : decode cX0_isIn 23 = .ok (.lxor, 1) := by decide +kernel
theorem dX0_isIn_24 : decode cX0_isIn 24 = .ok (.land, 1) := by decide +kernel
theorem dX0_isIn_25 : decode cX0_isIn 25 = .ok (.aload_n 0, 1) := by decide +kernel
theorem dX0_isIn_26 : decode cX0_isIn 26 = .ok (.getfield 15, 3) := by decide +kernel
theorem dX0_isIn_29 : decode cX0_isIn 29 = .ok (.iload_n 2, 1) := by decide +kernel
theorem dX0_isIn_30 : decode cX0_isIn 30 = .ok (.laload, 1) := by decide +kernel
theorem dX0_isIn_31 : decode cX0_isIn 31 = .ok (.aload_n 1, 1) := by decide +kernel
theorem dX0_isIn_32 : decode cX0_isIn 32 = .ok (.getfield 15, 3) := by decide +kernel
theorem dX0_isIn_35 : decode cX0_isIn 35 = .ok (.iload_n 2, 1) := by decide +kernel
theorem dX0_isIn_36 : decode cX0_isIn 36 = .ok (.laload, 1) := by decide +kernel
theorem dX0_isIn_37 : decode cX0_isIn 37 = .ok (.ldc2_w 49, 3) := by decide +kernel
theorem dX0_isIn_40 : decode cX0_isIn 40 = .ok (.lxor, 1) := by decide +kernel
theorem dX0_isIn_41 : decode cX0_isIn 41 = .ok (.land, 1) := by decide +kernel
theorem dX0_isIn_42 : decode cX0_isIn 42 = .ok (.lor, 1) := by decide +kernel
theorem dX0_isIn_43 : decode cX0_isIn 43 = .ok (.lconst 0, 1) := by decide +kernel
theorem dX0_isIn_44 : decode cX0_isIn 44 = .ok (.lcmp, 1) := by decide +kernel
theorem dX0_isIn_45 : decode cX0_isIn 45 = .ok (.ifCond .eq 5, 3) := by decide +kernel
theorem dX0_isIn_48 : decode cX0_isIn 48 = .ok (.iconst 0, 1) := by decide +kernel
theorem dX0_isIn_49 : decode cX0_isIn 49 = .ok (.ireturn, 1) := by decide +kernel
theorem dX0_isIn_50 : decode cX0_isIn 50 = .ok (.iinc 2 1, 3) := by decide +kernel
theorem dX0_isIn_53 : decode cX0_isIn 53 = .ok (.goto (-51), 3) := by decide +kernel
theorem dX0_isIn_56 : decode cX0_isIn 56 = .ok (.iconst 1, 1) := by decide +kernel
theorem dX0_isIn_57 : decode cX0_isIn 57 = .ok (.ireturn, 1) := by decide +kernel
theorem dX0_meets_0 : decode cX0_meets 0 = .ok (.iconst 0, 1) := by decide +kernel
theorem dX0_meets_1 : decode cX0_meets 1 = .ok (.istore_n 2, 1) := by decide +kernel
theorem dX0_meets_2 : decode cX0_meets 2 = .ok (.iload_n 2, 1) := by decide +kernel
theorem dX0_meets_3 : decode cX0_meets 3 = .ok (.bipush 120, 2) := by decide +kernel
theorem dX0_meets_5 : decode cX0_meets 5 = .ok (.if_icmp .ge 43, 3) := by decide +kernel
theorem dX0_meets_8 : decode cX0_meets 8 = .ok (.aload_n 0, 1) := by decide +kernel
theorem dX0_meets_9 : decode cX0_meets 9 = .ok (.getfield 9, 3) := by decide +kernel
theorem dX0_meets_12 : decode cX0_meets 12 = .ok (.iload_n 2, 1) := by decide +kernel
theorem dX0_meets_13 : decode cX0_meets 13 = .ok (.laload, 1) := by decide +kernel
theorem dX0_meets_14 : decode cX0_meets 14 = .ok (.aload_n 1, 1) := by decide +kernel
theorem dX0_meets_15 : decode cX0_meets 15 = .ok (.getfield 9, 3) := by decide +kernel
theorem dX0_meets_18 : decode cX0_meets 18 = .ok (.iload_n 2, 1) := by decide +kernel
theorem dX0_meets_19 : decode cX0_meets 19 = .ok (.laload, 1) := by decide +kernel
theorem dX0_meets_20 : decode cX0_meets 20 = .ok (.land, 1) := by decide +kernel
theorem dX0_meets_21 : decode cX0_meets 21 = .ok (.aload_n 0, 1) := by decide +kernel
theorem dX0_meets_22 : decode cX0_meets 22 = .ok (.getfield 15, 3) := by decide +kernel
theorem dX0_meets_25 : decode cX0_meets 25 = .ok (.iload_n 2, 1) := by decide +kernel
theorem dX0_meets_26 : decode cX0_meets 26 = .ok (.laload, 1) := by decide +kernel
theorem dX0_meets_27 : decode cX0_meets 27 = .ok (.aload_n 1, 1) := by decide +kernel
theorem dX0_meets_28 : decode cX0_meets 28 = .ok (.getfield 15, 3) := by decide +kernel
theorem dX0_meets_31 : decode cX0_meets 31 = .ok (.iload_n 2, 1) := by decide +kernel
theorem dX0_meets_32 : decode cX0_meets 32 = .ok (.laload, 1) := by decide +kernel
theorem dX0_meets_33 : decode cX0_meets 33 = .ok (.land, 1) := by decide +kernel
theorem dX0_meets_34 : decode cX0_meets 34 = .ok (.lor, 1) := by decide +kernel
theorem dX0_meets_35 : decode cX0_meets 35 = .ok (.lconst 0, 1) := by decide +kernel
theorem dX0_meets_36 : decode cX0_meets 36 = .ok (.lcmp, 1) := by decide +kernel
theorem dX0_meets_37 : decode cX0_meets 37 = .ok (.ifCond .eq 5, 3) := by decide +kernel
theorem dX0_meets_40 : decode cX0_meets 40 = .ok (.iconst 1, 1) := by decide +kernel
theorem dX0_meets_41 : decode cX0_meets 41 = .ok (.ireturn, 1) := by decide +kernel
theorem dX0_meets_42 : decode cX0_meets 42 = .ok (.iinc 2 1, 3) := by decide +kernel
theorem dX0_meets_45 : decode cX0_meets 45 = .ok (.goto (-43), 3) := by decide +kernel
theorem dX0_meets_48 : decode cX0_meets 48 = .ok (.iconst 0, 1) := by decide +kernel
theorem dX0_meets_49 : decode cX0_meets 49 = .ok (.ireturn, 1) := by decide +kernel
theorem dX0_touches_0 : decode cX0_touches 0 = .ok (.iconst 0, 1) := by decide +kernel
theorem dX0_touches_1 : decode cX0_touches 1 = .ok (.istore_n 2, 1) := by decide +kernel
theorem dX0_touches_2 : decode cX0_touches 2 = .ok (.iload_n 2, 1) := by decide +kernel
theorem dX0_touches_3 : decode cX0_touches 3 = .ok (.bipush 120, 2) := by decide +kernel
theorem dX0_touches_5 : decode cX0_touches 5 = .ok (.if_icmp .ge 150, 3) := by decide +kernel
theorem dX0_touches_8 : decode cX0_touches 8 = .ok (.aload_n 0, 1) := by decide +kernel
theorem dX0_touches_9 : decode cX0_touches 9 = .ok (.getfield 9, 3) := by decide +kernel
theorem dX0_touches_12 : decode cX0_touches 12 = .ok (.iload_n 2, 1) := by decide +kernel
theorem dX0_touches_13 : decode cX0_touches 13 = .ok (.laload, 1) := by decide +kernel
theorem dX0_touches_14 : decode cX0_touches 14 = .ok (.lstore_n 3, 1) := by decide +kernel
theorem dX0_touches_15 : decode cX0_touches 15 = .ok (.aload_n 0, 1) := by decide +kernel
theorem dX0_touches_16 : decode cX0_touches 16 = .ok (.getfield 15, 3) := by decide +kernel
theorem dX0_touches_19 : decode cX0_touches 19 = .ok (.iload_n 2, 1) := by decide +kernel
theorem dX0_touches_20 : decode cX0_touches 20 = .ok (.laload, 1) := by decide +kernel
theorem dX0_touches_21 : decode cX0_touches 21 = .ok (.lstore 5, 2) := by decide +kernel
theorem dX0_touches_23 : decode cX0_touches 23 = .ok (.lload_n 3, 1) := by decide +kernel
theorem dX0_touches_24 : decode cX0_touches 24 = .ok (.lload_n 3, 1) := by decide +kernel
theorem dX0_touches_25 : decode cX0_touches 25 = .ok (.iconst 1, 1) := by decide +kernel
theorem dX0_touches_26 : decode cX0_touches 26 = .ok (.lshl, 1) := by decide +kernel
theorem dX0_touches_27 : decode cX0_touches 27 = .ok (.lor, 1) := by decide +kernel
theorem dX0_touches_28 : decode cX0_touches 28 = .ok (.lload_n 3, 1) := by decide +kernel
theorem dX0_touches_29 : decode cX0_touches 29 = .ok (.iconst 1, 1) := by decide +kernel
theorem dX0_touches_30 : decode cX0_touches 30 = .ok (.lushr, 1) := by decide +kernel
theorem dX0_touches_31 : decode cX0_touches 31 = .ok (.lor, 1) := by decide +kernel
theorem dX0_touches_32 : decode cX0_touches 32 = .ok (.lload 5, 2) := by decide +kernel
theorem dX0_touches_34 : decode cX0_touches 34 = .ok (.bipush 59, 2) := by decide +kernel
theorem dX0_touches_36 : decode cX0_touches 36 = .ok (.lshl, 1) := by decide +kernel
theorem dX0_touches_37 : decode cX0_touches 37 = .ok (.lor, 1) := by decide +kernel
theorem dX0_touches_38 : decode cX0_touches 38 = .ok (.lstore 7, 2) := by decide +kernel
theorem dX0_touches_40 : decode cX0_touches 40 = .ok (.lload 5, 2) := by decide +kernel
theorem dX0_touches_42 : decode cX0_touches 42 = .ok (.lload 5, 2) := by decide +kernel
theorem dX0_touches_44 : decode cX0_touches 44 = .ok (.iconst 1, 1) := by decide +kernel
theorem dX0_touches_45 : decode cX0_touches 45 = .ok (.lshl, 1) := by decide +kernel
theorem dX0_touches_46 : decode cX0_touches 46 = .ok (.lor, 1) := by decide +kernel
theorem dX0_touches_47 : decode cX0_touches 47 = .ok (.lload 5, 2) := by decide +kernel
theorem dX0_touches_49 : decode cX0_touches 49 = .ok (.iconst 1, 1) := by decide +kernel
theorem dX0_touches_50 : decode cX0_touches 50 = .ok (.lushr, 1) := by decide +kernel
theorem dX0_touches_51 : decode cX0_touches 51 = .ok (.lor, 1) := by decide +kernel
theorem dX0_touches_52 : decode cX0_touches 52 = .ok (.lload_n 3, 1) := by decide +kernel
theorem dX0_touches_53 : decode cX0_touches 53 = .ok (.bipush 59, 2) := by decide +kernel
theorem dX0_touches_55 : decode cX0_touches 55 = .ok (.lushr, 1) := by decide +kernel
theorem dX0_touches_56 : decode cX0_touches 56 = .ok (.lor, 1) := by decide +kernel
theorem dX0_touches_57 : decode cX0_touches 57 = .ok (.lstore 9, 2) := by decide +kernel
theorem dX0_touches_59 : decode cX0_touches 59 = .ok (.iload_n 2, 1) := by decide +kernel
theorem dX0_touches_60 : decode cX0_touches 60 = .ok (.ifCond .le 29, 3) := by decide +kernel
theorem dX0_touches_63 : decode cX0_touches 63 = .ok (.lload 7, 2) := by decide +kernel
theorem dX0_touches_65 : decode cX0_touches 65 = .ok (.aload_n 0, 1) := by decide +kernel
theorem dX0_touches_66 : decode cX0_touches 66 = .ok (.getfield 9, 3) := by decide +kernel
theorem dX0_touches_69 : decode cX0_touches 69 = .ok (.iload_n 2, 1) := by decide +kernel
theorem dX0_touches_70 : decode cX0_touches 70 = .ok (.iconst 1, 1) := by decide +kernel
theorem dX0_touches_71 : decode cX0_touches 71 = .ok (.isub, 1) := by decide +kernel
theorem dX0_touches_72 : decode cX0_touches 72 = .ok (.laload, 1) := by decide +kernel
theorem dX0_touches_73 : decode cX0_touches 73 = .ok (.lor, 1) := by decide +kernel
theorem dX0_touches_74 : decode cX0_touches 74 = .ok (.lstore 7, 2) := by decide +kernel
theorem dX0_touches_76 : decode cX0_touches 76 = .ok (.lload 9, 2) := by decide +kernel
theorem dX0_touches_78 : decode cX0_touches 78 = .ok (.aload_n 0, 1) := by decide +kernel
theorem dX0_touches_79 : decode cX0_touches 79 = .ok (.getfield 15, 3) := by decide +kernel
theorem dX0_touches_82 : decode cX0_touches 82 = .ok (.iload_n 2, 1) := by decide +kernel
theorem dX0_touches_83 : decode cX0_touches 83 = .ok (.iconst 1, 1) := by decide +kernel
theorem dX0_touches_84 : decode cX0_touches 84 = .ok (.isub, 1) := by decide +kernel
theorem dX0_touches_85 : decode cX0_touches 85 = .ok (.laload, 1) := by decide +kernel
theorem dX0_touches_86 : decode cX0_touches 86 = .ok (.lor, 1) := by decide +kernel
theorem dX0_touches_87 : decode cX0_touches 87 = .ok (.lstore 9, 2) := by decide +kernel
theorem dX0_touches_89 : decode cX0_touches 89 = .ok (.iload_n 2, 1) := by decide +kernel
theorem dX0_touches_90 : decode cX0_touches 90 = .ok (.iconst 1, 1) := by decide +kernel
theorem dX0_touches_91 : decode cX0_touches 91 = .ok (.iadd, 1) := by decide +kernel
theorem dX0_touches_92 : decode cX0_touches 92 = .ok (.bipush 120, 2) := by decide +kernel
theorem dX0_touches_94 : decode cX0_touches 94 = .ok (.if_icmp .ge 29, 3) := by decide +kernel
theorem dX0_touches_97 : decode cX0_touches 97 = .ok (.lload 7, 2) := by decide +kernel
theorem dX0_touches_99 : decode cX0_touches 99 = .ok (.aload_n 0, 1) := by decide +kernel
theorem dX0_touches_100 : decode cX0_touches 100 = .ok (.getfield 9, 3) := by decide +kernel
theorem dX0_touches_103 : decode cX0_touches 103 = .ok (.iload_n 2, 1) := by decide +kernel
theorem dX0_touches_104 : decode cX0_touches 104 = .ok (.iconst 1, 1) := by decide +kernel
theorem dX0_touches_105 : decode cX0_touches 105 = .ok (.iadd, 1) := by decide +kernel
theorem dX0_touches_106 : decode cX0_touches 106 = .ok (.laload, 1) := by decide +kernel
theorem dX0_touches_107 : decode cX0_touches 107 = .ok (.lor, 1) := by decide +kernel
theorem dX0_touches_108 : decode cX0_touches 108 = .ok (.lstore 7, 2) := by decide +kernel
theorem dX0_touches_110 : decode cX0_touches 110 = .ok (.lload 9, 2) := by decide +kernel
theorem dX0_touches_112 : decode cX0_touches 112 = .ok (.aload_n 0, 1) := by decide +kernel
theorem dX0_touches_113 : decode cX0_touches 113 = .ok (.getfield 15, 3) := by decide +kernel
theorem dX0_touches_116 : decode cX0_touches 116 = .ok (.iload_n 2, 1) := by decide +kernel
theorem dX0_touches_117 : decode cX0_touches 117 = .ok (.iconst 1, 1) := by decide +kernel
theorem dX0_touches_118 : decode cX0_touches 118 = .ok (.iadd, 1) := by decide +kernel
theorem dX0_touches_119 : decode cX0_touches 119 = .ok (.laload, 1) := by decide +kernel
theorem dX0_touches_120 : decode cX0_touches 120 = .ok (.lor, 1) := by decide +kernel
theorem dX0_touches_121 : decode cX0_touches 121 = .ok (.lstore 9, 2) := by decide +kernel
theorem dX0_touches_123 : decode cX0_touches 123 = .ok (.lload 7, 2) := by decide +kernel
theorem dX0_touches_125 : decode cX0_touches 125 = .ok (.aload_n 1, 1) := by decide +kernel
theorem dX0_touches_126 : decode cX0_touches 126 = .ok (.getfield 9, 3) := by decide +kernel
theorem dX0_touches_129 : decode cX0_touches 129 = .ok (.iload_n 2, 1) := by decide +kernel
theorem dX0_touches_130 : decode cX0_touches 130 = .ok (.laload, 1) := by decide +kernel
theorem dX0_touches_131 : decode cX0_touches 131 = .ok (.land, 1) := by decide +kernel
theorem dX0_touches_132 : decode cX0_touches 132 = .ok (.lload 9, 2) := by decide +kernel
theorem dX0_touches_134 : decode cX0_touches 134 = .ok (.aload_n 1, 1) := by decide +kernel
theorem dX0_touches_135 : decode cX0_touches 135 = .ok (.getfield 15, 3) := by decide +kernel
theorem dX0_touches_138 : decode cX0_touches 138 = .ok (.iload_n 2, 1) := by decide +kernel
theorem dX0_touches_139 : decode cX0_touches 139 = .ok (.laload, 1) := by decide +kernel
theorem dX0_touches_140 : decode cX0_touches 140 = .ok (.land, 1) := by decide +kernel
theorem dX0_touches_141 : decode cX0_touches 141 = .ok (.lor, 1) := by decide +kernel
theorem dX0_touches_142 : decode cX0_touches 142 = .ok (.lconst 0, 1) := by decide +kernel
theorem dX0_touches_143 : decode cX0_touches 143 = .ok (.lcmp, 1) := by decide +kernel
theorem dX0_touches_144 : decode cX0_touches 144 = .ok (.ifCond .eq 5, 3) := by decide +kernel
theorem dX0_touches_147 : decode cX0_touches 147 = .ok (.iconst 1, 1) := by decide +kernel
theorem dX0_touches_148 : decode cX0_touches 148 = .ok (.ireturn, 1) := by decide +kernel
theorem dX0_touches_149 : decode cX0_touches 149 = .ok (.iinc 2 1, 3) := by decide +kernel
theorem dX0_touches_152 : decode cX0_touches 152 = .ok (.goto (-150), 3) := by decide +kernel
theorem dX0_touches_155 : decode cX0_touches 155 = .ok (.iconst 0, 1) := by decide +kernel
theorem dX0_touches_156 : decode cX0_touches 156 = .ok (.ireturn, 1) := by decide +kernel
theorem dX0_sidesRound_0 : decode cX0_sidesRound 0 = .ok (.iconst 0, 1) := by decide +kernel
theorem dX0_sidesRound_1 : decode cX0_sidesRound 1 = .ok (.istore_n 1, 1) := by decide +kernel
theorem dX0_sidesRound_2 : decode cX0_sidesRound 2 = .ok (.lconst 0, 1) := by decide +kernel
theorem dX0_sidesRound_3 : decode cX0_sidesRound 3 = .ok (.lstore_n 2, 1) := by decide +kernel
theorem dX0_sidesRound_4 : decode cX0_sidesRound 4 = .ok (.lconst 0, 1) := by decide +kernel
theorem dX0_sidesRound_5 : decode cX0_sidesRound 5 = .ok (.lstore 4, 2) := by decide +kernel
theorem dX0_sidesRound_7 : decode cX0_sidesRound 7 = .ok (.iconst 0, 1) := by decide +kernel
theorem dX0_sidesRound_8 : decode cX0_sidesRound 8 = .ok (.istore 6, 2) := by decide +kernel
theorem dX0_sidesRound_10 : decode cX0_sidesRound 10 = .ok (.iload 6, 2) := by decide +kernel
theorem dX0_sidesRound_12 : decode cX0_sidesRound 12 = .ok (.bipush 120, 2) := by decide +kernel
theorem dX0_sidesRound_14 : decode cX0_sidesRound 14 = .ok (.if_icmp .ge 75, 3) := by decide +kernel
theorem dX0_sidesRound_17 : decode cX0_sidesRound 17 = .ok (.aload_n 0, 1) := by decide +kernel
theorem dX0_sidesRound_18 : decode cX0_sidesRound 18 = .ok (.getfield 9, 3) := by decide +kernel
theorem dX0_sidesRound_21 : decode cX0_sidesRound 21 = .ok (.iload 6, 2) := by decide +kernel
theorem dX0_sidesRound_23 : decode cX0_sidesRound 23 = .ok (.laload, 1) := by decide +kernel
theorem dX0_sidesRound_24 : decode cX0_sidesRound 24 = .ok (.lstore 7, 2) := by decide +kernel
theorem dX0_sidesRound_26 : decode cX0_sidesRound 26 = .ok (.aload_n 0, 1) := by decide +kernel
theorem dX0_sidesRound_27 : decode cX0_sidesRound 27 = .ok (.getfield 15, 3) := by decide +kernel
theorem dX0_sidesRound_30 : decode cX0_sidesRound 30 = .ok (.iload 6, 2) := by decide +kernel
theorem dX0_sidesRound_32 : decode cX0_sidesRound 32 = .ok (.laload, 1) := by decide +kernel
theorem dX0_sidesRound_33 : decode cX0_sidesRound 33 = .ok (.lstore 9, 2) := by decide +kernel
theorem dX0_sidesRound_35 : decode cX0_sidesRound 35 = .ok (.iload_n 1, 1) := by decide +kernel
theorem dX0_sidesRound_36 : decode cX0_sidesRound 36 = .ok (.lload 7, 2) := by decide +kernel
theorem dX0_sidesRound_38 : decode cX0_sidesRound 38 = .ok (.lload_n 2, 1) := by decide +kernel
theorem dX0_sidesRound_39 : decode cX0_sidesRound 39 = .ok (.lxor, 1) := by decide +kernel
theorem dX0_sidesRound_40 : decode cX0_sidesRound 40 = .ok (.invokestatic 58, 3) := by decide +kernel
theorem dX0_sidesRound_43 : decode cX0_sidesRound 43 = .ok (.lload 9, 2) := by decide +kernel
theorem dX0_sidesRound_45 : decode cX0_sidesRound 45 = .ok (.lload 4, 2) := by decide +kernel
theorem dX0_sidesRound_47 : decode cX0_sidesRound 47 = .ok (.lxor, 1) := by decide +kernel
theorem dX0_sidesRound_48 : decode cX0_sidesRound 48 = .ok (.invokestatic 58, 3) := by decide +kernel
theorem dX0_sidesRound_51 : decode cX0_sidesRound 51 = .ok (.iadd, 1) := by decide +kernel
theorem dX0_sidesRound_52 : decode cX0_sidesRound 52 = .ok (.iadd, 1) := by decide +kernel
theorem dX0_sidesRound_53 : decode cX0_sidesRound 53 = .ok (.istore_n 1, 1) := by decide +kernel
theorem dX0_sidesRound_54 : decode cX0_sidesRound 54 = .ok (.iload_n 1, 1) := by decide +kernel
theorem dX0_sidesRound_55 : decode cX0_sidesRound 55 = .ok (.lload 7, 2) := by decide +kernel
theorem dX0_sidesRound_57 : decode cX0_sidesRound 57 = .ok (.invokestatic 68, 3) := by decide +kernel
theorem dX0_sidesRound_60 : decode cX0_sidesRound 60 = .ok (.invokestatic 58, 3) := by decide +kernel
theorem dX0_sidesRound_63 : decode cX0_sidesRound 63 = .ok (.lload 7, 2) := by decide +kernel
theorem dX0_sidesRound_65 : decode cX0_sidesRound 65 = .ok (.lload 9, 2) := by decide +kernel
theorem dX0_sidesRound_67 : decode cX0_sidesRound 67 = .ok (.invokestatic 72, 3) := by decide +kernel
theorem dX0_sidesRound_70 : decode cX0_sidesRound 70 = .ok (.invokestatic 58, 3) := by decide +kernel
theorem dX0_sidesRound_73 : decode cX0_sidesRound 73 = .ok (.iadd, 1) := by decide +kernel
theorem dX0_sidesRound_74 : decode cX0_sidesRound 74 = .ok (.iadd, 1) := by decide +kernel
theorem dX0_sidesRound_75 : decode cX0_sidesRound 75 = .ok (.istore_n 1, 1) := by decide +kernel
theorem dX0_sidesRound_76 : decode cX0_sidesRound 76 = .ok (.lload 7, 2) := by decide +kernel
theorem dX0_sidesRound_78 : decode cX0_sidesRound 78 = .ok (.lstore_n 2, 1) := by decide +kernel
theorem dX0_sidesRound_79 : decode cX0_sidesRound 79 = .ok (.lload 9, 2) := by decide +kernel
theorem dX0_sidesRound_81 : decode cX0_sidesRound 81 = .ok (.lstore 4, 2) := by decide +kernel
theorem dX0_sidesRound_83 : decode cX0_sidesRound 83 = .ok (.iinc 6 1, 3) := by decide +kernel
theorem dX0_sidesRound_86 : decode cX0_sidesRound 86 = .ok (.goto (-76), 3) := by decide +kernel
theorem dX0_sidesRound_89 : decode cX0_sidesRound 89 = .ok (.iload_n 1, 1) := by decide +kernel
theorem dX0_sidesRound_90 : decode cX0_sidesRound 90 = .ok (.lload_n 2, 1) := by decide +kernel
theorem dX0_sidesRound_91 : decode cX0_sidesRound 91 = .ok (.invokestatic 58, 3) := by decide +kernel
theorem dX0_sidesRound_94 : decode cX0_sidesRound 94 = .ok (.iadd, 1) := by decide +kernel
theorem dX0_sidesRound_95 : decode cX0_sidesRound 95 = .ok (.lload 4, 2) := by decide +kernel
theorem dX0_sidesRound_97 : decode cX0_sidesRound 97 = .ok (.invokestatic 58, 3) := by decide +kernel
theorem dX0_sidesRound_100 : decode cX0_sidesRound 100 = .ok (.iadd, 1) := by decide +kernel
theorem dX0_sidesRound_101 : decode cX0_sidesRound 101 = .ok (.ireturn, 1) := by decide +kernel
theorem dX0_westSides_0 : decode cX0_westSides 0 = .ok (.lload_n 0, 1) := by decide +kernel
theorem dX0_westSides_1 : decode cX0_westSides 1 = .ok (.lload_n 0, 1) := by decide +kernel
theorem dX0_westSides_2 : decode cX0_westSides 2 = .ok (.iconst 1, 1) := by decide +kernel
theorem dX0_westSides_3 : decode cX0_westSides 3 = .ok (.lshl, 1) := by decide +kernel
theorem dX0_westSides_4 : decode cX0_westSides 4 = .ok (.lxor, 1) := by decide +kernel
theorem dX0_westSides_5 : decode cX0_westSides 5 = .ok (.ldc2_w 43, 3) := by decide +kernel
theorem dX0_westSides_8 : decode cX0_westSides 8 = .ok (.land, 1) := by decide +kernel
theorem dX0_westSides_9 : decode cX0_westSides 9 = .ok (.lreturn, 1) := by decide +kernel
theorem dX0_eastSides_0 : decode cX0_eastSides 0 = .ok (.lload_n 2, 1) := by decide +kernel
theorem dX0_eastSides_1 : decode cX0_eastSides 1 = .ok (.lload_n 2, 1) := by decide +kernel
theorem dX0_eastSides_2 : decode cX0_eastSides 2 = .ok (.iconst 1, 1) := by decide +kernel
theorem dX0_eastSides_3 : decode cX0_eastSides 3 = .ok (.lshl, 1) := by decide +kernel
theorem dX0_eastSides_4 : decode cX0_eastSides 4 = .ok (.lload_n 0, 1) := by decide +kernel
theorem dX0_eastSides_5 : decode cX0_eastSides 5 = .ok (.bipush 59, 2) := by decide +kernel
theorem dX0_eastSides_7 : decode cX0_eastSides 7 = .ok (.lushr, 1) := by decide +kernel
theorem dX0_eastSides_8 : decode cX0_eastSides 8 = .ok (.lor, 1) := by decide +kernel
theorem dX0_eastSides_9 : decode cX0_eastSides 9 = .ok (.lxor, 1) := by decide +kernel
theorem dX0_eastSides_10 : decode cX0_eastSides 10 = .ok (.lreturn, 1) := by decide +kernel
theorem dX1_init_0 : decode cX1_init 0 = .ok (.aload_n 0, 1) := by decide +kernel
theorem dX1_init_1 : decode cX1_init 1 = .ok (.invokespecial 3, 3) := by decide +kernel
theorem dX1_init_4 : decode cX1_init 4 = .ok (.aload_n 0, 1) := by decide +kernel
theorem dX1_init_5 : decode cX1_init 5 = .ok (.bipush 60, 2) := by decide +kernel
theorem dX1_init_7 : decode cX1_init 7 = .ok (.newarray .int, 2) := by decide +kernel
theorem dX1_init_9 : decode cX1_init 9 = .ok (.putfield 9, 3) := by decide +kernel
theorem dX1_init_12 : decode cX1_init 12 = .ok (.aload_n 0, 1) := by decide +kernel
theorem dX1_init_13 : decode cX1_init 13 = .ok (.bipush 60, 2) := by decide +kernel
theorem dX1_init_15 : decode cX1_init 15 = .ok (.newarray .int, 2) := by decide +kernel
theorem dX1_init_17 : decode cX1_init 17 = .ok (.putfield 15, 3) := by decide +kernel
theorem dX1_init_20 : decode cX1_init 20 = .ok (.aload_n 0, 1) := by decide +kernel
theorem dX1_init_21 : decode cX1_init 21 = .ok (.bipush 60, 2) := by decide +kernel
theorem dX1_init_23 : decode cX1_init 23 = .ok (.newarray .int, 2) := by decide +kernel
theorem dX1_init_25 : decode cX1_init 25 = .ok (.putfield 18, 3) := by decide +kernel
theorem dX1_init_28 : decode cX1_init 28 = .ok (.aload_n 0, 1) := by decide +kernel
theorem dX1_init_29 : decode cX1_init 29 = .ok (.sipush 300, 3) := by decide +kernel
theorem dX1_init_32 : decode cX1_init 32 = .ok (.newarray .int, 2) := by decide +kernel
theorem dX1_init_34 : decode cX1_init 34 = .ok (.putfield 21, 3) := by decide +kernel
theorem dX1_init_37 : decode cX1_init 37 = .ok (.aload_n 0, 1) := by decide +kernel
theorem dX1_init_38 : decode cX1_init 38 = .ok (.sipush 600, 3) := by decide +kernel
theorem dX1_init_41 : decode cX1_init 41 = .ok (.newarray .int, 2) := by decide +kernel
theorem dX1_init_43 : decode cX1_init 43 = .ok (.putfield 24, 3) := by decide +kernel
theorem dX1_init_46 : decode cX1_init 46 = .ok (.aload_n 0, 1) := by decide +kernel
theorem dX1_init_47 : decode cX1_init 47 = .ok (.sipush 300, 3) := by decide +kernel
theorem dX1_init_50 : decode cX1_init 50 = .ok (.newarray .int, 2) := by decide +kernel
theorem dX1_init_52 : decode cX1_init 52 = .ok (.putfield 27, 3) := by decide +kernel
theorem dX1_init_55 : decode cX1_init 55 = .ok (.return_, 1) := by decide +kernel
theorem dX1_read_0 : decode cX1_read 0 = .ok (.aload_n 0, 1) := by decide +kernel
theorem dX1_read_1 : decode cX1_read 1 = .ok (.iconst 0, 1) := by decide +kernel
theorem dX1_read_2 : decode cX1_read 2 = .ok (.putfield 30, 3) := by decide +kernel
theorem dX1_read_5 : decode cX1_read 5 = .ok (.aload_n 0, 1) := by decide +kernel
theorem dX1_read_6 : decode cX1_read 6 = .ok (.iconst 0, 1) := by decide +kernel
theorem dX1_read_7 : decode cX1_read 7 = .ok (.putfield 34, 3) := by decide +kernel
theorem dX1_read_10 : decode cX1_read 10 = .ok (.lconst 0, 1) := by decide +kernel
theorem dX1_read_11 : decode cX1_read 11 = .ok (.lstore_n 2, 1) := by decide +kernel
theorem dX1_read_12 : decode cX1_read 12 = .ok (.lconst 0, 1) := by decide +kernel
theorem dX1_read_13 : decode cX1_read 13 = .ok (.lstore 4, 2) := by decide +kernel
theorem dX1_read_15 : decode cX1_read 15 = .ok (.iconst 0, 1) := by decide +kernel
theorem dX1_read_16 : decode cX1_read 16 = .ok (.istore 6, 2) := by decide +kernel
theorem dX1_read_18 : decode cX1_read 18 = .ok (.iload 6, 2) := by decide +kernel
theorem dX1_read_20 : decode cX1_read 20 = .ok (.bipush 120, 2) := by decide +kernel
theorem dX1_read_22 : decode cX1_read 22 = .ok (.if_icmp .ge 102, 3) := by decide +kernel
theorem dX1_read_25 : decode cX1_read 25 = .ok (.aload_n 1, 1) := by decide +kernel
theorem dX1_read_26 : decode cX1_read 26 = .ok (.getfield 37, 3) := by decide +kernel
theorem dX1_read_29 : decode cX1_read 29 = .ok (.iload 6, 2) := by decide +kernel
theorem dX1_read_31 : decode cX1_read 31 = .ok (.laload, 1) := by decide +kernel
theorem dX1_read_32 : decode cX1_read 32 = .ok (.lstore 7, 2) := by decide +kernel
theorem dX1_read_34 : decode cX1_read 34 = .ok (.aload_n 1, 1) := by decide +kernel
theorem dX1_read_35 : decode cX1_read 35 = .ok (.getfield 43, 3) := by decide +kernel
theorem dX1_read_38 : decode cX1_read 38 = .ok (.iload 6, 2) := by decide +kernel
theorem dX1_read_40 : decode cX1_read 40 = .ok (.laload, 1) := by decide +kernel
theorem dX1_read_41 : decode cX1_read 41 = .ok (.lstore 9, 2) := by decide +kernel
theorem dX1_read_43 : decode cX1_read 43 = .ok (.lload 7, 2) := by decide +kernel
theorem dX1_read_45 : decode cX1_read 45 = .ok (.lload 9, 2) := by decide +kernel
theorem dX1_read_47 : decode cX1_read 47 = .ok (.lor, 1) := by decide +kernel
theorem dX1_read_48 : decode cX1_read 48 = .ok (.lconst 0, 1) := by decide +kernel
theorem dX1_read_49 : decode cX1_read 49 = .ok (.lcmp, 1) := by decide +kernel
theorem dX1_read_50 : decode cX1_read 50 = .ok (.ifCond .eq 61, 3) := by decide +kernel
theorem dX1_read_53 : decode cX1_read 53 = .ok (.aload_n 0, 1) := by decide +kernel
theorem dX1_read_54 : decode cX1_read 54 = .ok (.getfield 30, 3) := by decide +kernel
theorem dX1_read_57 : decode cX1_read 57 = .ok (.ifCond .le 36, 3) := by decide +kernel
theorem dX1_read_60 : decode cX1_read 60 = .ok (.lload 7, 2) := by decide +kernel
theorem dX1_read_62 : decode cX1_read 62 = .ok (.lload_n 2, 1) := by decide +kernel
theorem dX1_read_63 : decode cX1_read 63 = .ok (.lcmp, 1) := by decide +kernel
theorem dX1_read_64 : decode cX1_read 64 = .ok (.ifCond .ne 29, 3) := by decide +kernel
theorem dX1_read_67 : decode cX1_read 67 = .ok (.lload 9, 2) := by decide +kernel
theorem dX1_read_69 : decode cX1_read 69 = .ok (.lload 4, 2) := by decide +kernel
theorem dX1_read_71 : decode cX1_read 71 = .ok (.lcmp, 1) := by decide +kernel
theorem dX1_read_72 : decode cX1_read 72 = .ok (.ifCond .ne 21, 3) := by decide +kernel
theorem dX1_read_75 : decode cX1_read 75 = .ok (.aload_n 0, 1) := by decide +kernel
theorem dX1_read_76 : decode cX1_read 76 = .ok (.getfield 15, 3) := by decide +kernel
theorem dX1_read_79 : decode cX1_read 79 = .ok (.aload_n 0, 1) := by decide +kernel
theorem dX1_read_80 : decode cX1_read 80 = .ok (.getfield 30, 3) := by decide +kernel
theorem dX1_read_83 : decode cX1_read 83 = .ok (.iconst 1, 1) := by decide +kernel
theorem dX1_read_84 : decode cX1_read 84 = .ok (.isub, 1) := by decide +kernel
theorem dX1_read_85 : decode cX1_read 85 = .ok (.dup2, 1) := by decide +kernel
theorem dX1_read_86 : decode cX1_read 86 = .ok (.iaload, 1) := by decide +kernel
theorem dX1_read_87 : decode cX1_read 87 = .ok (.iconst 1, 1) := by decide +kernel
theorem dX1_read_88 : decode cX1_read 88 = .ok (.iadd, 1) := by decide +kernel
theorem dX1_read_89 : decode cX1_read 89 = .ok (.iastore, 1) := by decide +kernel
theorem dX1_read_90 : decode cX1_read 90 = .ok (.goto 21, 3) := by decide +kernel
theorem dX1_read_93 : decode cX1_read 93 = .ok (.aload_n 0, 1) := by decide +kernel
theorem dX1_read_94 : decode cX1_read 94 = .ok (.iload 6, 2) := by decide +kernel
theorem dX1_read_96 : decode cX1_read 96 = .ok (.bipush 60, 2) := by decide +kernel
theorem dX1_read_98 : decode cX1_read 98 = .ok (.isub, 1) := by decide +kernel
theorem dX1_read_99 : decode cX1_read 99 = .ok (.lload 7, 2) := by decide +kernel
theorem dX1_read_101 : decode cX1_read 101 = .ok (.lload 9, 2) := by decide +kernel
theorem dX1_read_103 : decode cX1_read 103 = .ok (.invokevirtual 46, 3) := by decide +kernel
theorem dX1_read_106 : decode cX1_read 106 = .ok (.ifCond .ne 5, 3) := by decide +kernel
theorem dX1_read_109 : decode cX1_read 109 = .ok (.iconst 0, 1) := by decide +kernel
theorem dX1_read_110 : decode cX1_read 110 = .ok (.ireturn, 1) := by decide +kernel
theorem dX1_read_111 : decode cX1_read 111 = .ok (.lload 7, 2) := by decide +kernel
theorem dX1_read_113 : decode cX1_read 113 = .ok (.lstore_n 2, 1) := by decide +kernel
theorem dX1_read_114 : decode cX1_read 114 = .ok (.lload 9, 2) := by decide +kernel
theorem dX1_read_116 : decode cX1_read 116 = .ok (.lstore 4, 2) := by decide +kernel
theorem dX1_read_118 : decode cX1_read 118 = .ok (.iinc 6 1, 3) := by decide +kernel
theorem dX1_read_121 : decode cX1_read 121 = .ok (.goto (-103), 3) := by decide +kernel
theorem dX1_read_124 : decode cX1_read 124 = .ok (.iconst 1, 1) := by decide +kernel
theorem dX1_read_125 : decode cX1_read 125 = .ok (.ireturn, 1) := by decide +kernel
theorem dX1_addBand_0 : decode cX1_addBand 0 = .ok (.lload_n 2, 1) := by decide +kernel
theorem dX1_addBand_1 : decode cX1_addBand 1 = .ok (.invokestatic 50, 3) := by decide +kernel
theorem dX1_addBand_4 : decode cX1_addBand 4 = .ok (.lstore 6, 2) := by decide +kernel
theorem dX1_addBand_6 : decode cX1_addBand 6 = .ok (.lload_n 2, 1) := by decide +kernel
theorem dX1_addBand_7 : decode cX1_addBand 7 = .ok (.lload 4, 2) := by decide +kernel
theorem dX1_addBand_9 : decode cX1_addBand 9 = .ok (.invokestatic 54, 3) := by decide +kernel
theorem dX1_addBand_12 : decode cX1_addBand 12 = .ok (.lstore 8, 2) := by decide +kernel
theorem dX1_addBand_14 : decode cX1_addBand 14 = .ok (.lload 6, 2) := by decide +kernel
theorem dX1_addBand_16 : decode cX1_addBand 16 = .ok (.invokestatic 58, 3) := by decide +kernel
theorem dX1_addBand_19 : decode cX1_addBand 19 = .ok (.lload 8, 2) := by decide +kernel
theorem dX1_addBand_21 : decode cX1_addBand 21 = .ok (.invokestatic 58, 3) := by decide +kernel
theorem dX1_addBand_24 : decode cX1_addBand 24 = .ok (.iadd, 1) := by decide +kernel
theorem dX1_addBand_25 : decode cX1_addBand 25 = .ok (.iconst 2, 1) := by decide +kernel
theorem dX1_addBand_26 : decode cX1_addBand 26 = .ok (.idiv, 1) := by decide +kernel
theorem dX1_addBand_27 : decode cX1_addBand 27 = .ok (.istore 10, 2) := by decide +kernel
theorem dX1_addBand_29 : decode cX1_addBand 29 = .ok (.aload_n 0, 1) := by decide +kernel
theorem dX1_addBand_30 : decode cX1_addBand 30 = .ok (.getfield 30, 3) := by decide +kernel
theorem dX1_addBand_33 : decode cX1_addBand 33 = .ok (.bipush 60, 2) := by decide +kernel
theorem dX1_addBand_35 : decode cX1_addBand 35 = .ok (.if_icmp .ge 16, 3) := by decide +kernel
theorem dX1_addBand_38 : decode cX1_addBand 38 = .ok (.aload_n 0, 1) := by decide +kernel
theorem dX1_addBand_39 : decode cX1_addBand 39 = .ok (.getfield 34, 3) := by decide +kernel
theorem dX1_addBand_42 : decode cX1_addBand 42 = .ok (.iload 10, 2) := by decide +kernel
theorem dX1_addBand_44 : decode cX1_addBand 44 = .ok (.iadd, 1) := by decide +kernel
theorem dX1_addBand_45 : decode cX1_addBand 45 = .ok (.sipush 300, 3) := by decide +kernel
theorem dX1_addBand_48 : decode cX1_addBand 48 = .ok (.if_icmp .le 5, 3) := by decide +kernel
theorem dX1_addBand_51 : decode cX1_addBand 51 = .ok (.iconst 0, 1) := by decide +kernel
theorem dX1_addBand_52 : decode cX1_addBand 52 = .ok (.ireturn, 1) := by decide +kernel
theorem dX1_addBand_53 : decode cX1_addBand 53 = .ok (.aload_n 0, 1) := by decide +kernel
theorem dX1_addBand_54 : decode cX1_addBand 54 = .ok (.lload 6, 2) := by decide +kernel
theorem dX1_addBand_56 : decode cX1_addBand 56 = .ok (.bipush (-60), 2) := by decide +kernel
theorem dX1_addBand_58 : decode cX1_addBand 58 = .ok (.iconst 2, 1) := by decide +kernel
theorem dX1_addBand_59 : decode cX1_addBand 59 = .ok (.aload_n 0, 1) := by decide +kernel
theorem dX1_addBand_60 : decode cX1_addBand 60 = .ok (.getfield 34, 3) := by decide +kernel
theorem dX1_addBand_63 : decode cX1_addBand 63 = .ok (.imul, 1) := by decide +kernel
theorem dX1_addBand_64 : decode cX1_addBand 64 = .ok (.invokevirtual 64, 3) := by decide +kernel
theorem dX1_addBand_67 : decode cX1_addBand 67 = .ok (.istore 11, 2) := by decide +kernel
theorem dX1_addBand_69 : decode cX1_addBand 69 = .ok (.aload_n 0, 1) := by decide +kernel
theorem dX1_addBand_70 : decode cX1_addBand 70 = .ok (.lload 8, 2) := by decide +kernel
theorem dX1_addBand_72 : decode cX1_addBand 72 = .ok (.iconst 0, 1) := by decide +kernel
theorem dX1_addBand_73 : decode cX1_addBand 73 = .ok (.iload 11, 2) := by decide +kernel
theorem dX1_addBand_75 : decode cX1_addBand 75 = .ok (.invokevirtual 64, 3) := by decide +kernel
theorem dX1_addBand_78 : decode cX1_addBand 78 = .ok (.pop, 1) := by decide +kernel
theorem dX1_addBand_79 : decode cX1_addBand 79 = .ok (.aload_n 0, 1) := by decide +kernel
theorem dX1_addBand_80 : decode cX1_addBand 80 = .ok (.getfield 9, 3) := by decide +kernel
theorem dX1_addBand_83 : decode cX1_addBand 83 = .ok (.aload_n 0, 1) := by decide +kernel
theorem dX1_addBand_84 : decode cX1_addBand 84 = .ok (.getfield 30, 3) := by decide +kernel
theorem dX1_addBand_87 : decode cX1_addBand 87 = .ok (.iload_n 1, 1) := by decide +kernel
theorem dX1_addBand_88 : decode cX1_addBand 88 = .ok (.iastore, 1) := by decide +kernel
theorem dX1_addBand_89 : decode cX1_addBand 89 = .ok (.aload_n 0, 1) := by decide +kernel
theorem dX1_addBand_90 : decode cX1_addBand 90 = .ok (.getfield 15, 3) := by decide +kernel
theorem dX1_addBand_93 : decode cX1_addBand 93 = .ok (.aload_n 0, 1) := by decide +kernel
theorem dX1_addBand_94 : decode cX1_addBand 94 = .ok (.getfield 30, 3) := by decide +kernel
theorem dX1_addBand_97 : decode cX1_addBand 97 = .ok (.iload_n 1, 1) := by decide +kernel
theorem dX1_addBand_98 : decode cX1_addBand 98 = .ok (.iconst 1, 1) := by decide +kernel
theorem dX1_addBand_99 : decode cX1_addBand 99 = .ok (.iadd, 1) := by decide +kernel
theorem dX1_addBand_100 : decode cX1_addBand 100 = .ok (.iastore, 1) := by decide +kernel
theorem dX1_addBand_101 : decode cX1_addBand 101 = .ok (.aload_n 0, 1) := by decide +kernel
theorem dX1_addBand_102 : decode cX1_addBand 102 = .ok (.getfield 18, 3) := by decide +kernel
theorem dX1_addBand_105 : decode cX1_addBand 105 = .ok (.aload_n 0, 1) := by decide +kernel
theorem dX1_addBand_106 : decode cX1_addBand 106 = .ok (.getfield 30, 3) := by decide +kernel
theorem dX1_addBand_109 : decode cX1_addBand 109 = .ok (.aload_n 0, 1) := by decide +kernel
theorem dX1_addBand_110 : decode cX1_addBand 110 = .ok (.getfield 34, 3) := by decide +kernel
theorem dX1_addBand_113 : decode cX1_addBand 113 = .ok (.iastore, 1) := by decide +kernel
theorem dX1_addBand_114 : decode cX1_addBand 114 = .ok (.aload_n 0, 1) := by decide +kernel
theorem dX1_addBand_115 : decode cX1_addBand 115 = .ok (.getfield 34, 3) := by decide +kernel
theorem dX1_addBand_118 : decode cX1_addBand 118 = .ok (.istore 12, 2) := by decide +kernel
theorem dX1_addBand_120 : decode cX1_addBand 120 = .ok (.iload 12, 2) := by decide +kernel
theorem dX1_addBand_122 : decode cX1_addBand 122 = .ok (.aload_n 0, 1) := by decide +kernel
theorem dX1_addBand_123 : decode cX1_addBand 123 = .ok (.getfield 34, 3) := by decide +kernel
theorem dX1_addBand_126 : decode cX1_addBand 126 = .ok (.iload 10, 2) := by decide +kernel
theorem dX1_addBand_128 : decode cX1_addBand 128 = .ok (.iadd, 1) := by decide +kernel
theorem dX1_addBand_129 : decode cX1_addBand 129 = .ok (.if_icmp .ge 20, 3) := by decide +kernel
theorem dX1_addBand_132 : decode cX1_addBand 132 = .ok (.aload_n 0, 1) := by decide +kernel
theorem dX1_addBand_133 : decode cX1_addBand 133 = .ok (.getfield 21, 3) := by decide +kernel
theorem dX1_addBand_136 : decode cX1_addBand 136 = .ok (.iload 12, 2) := by decide +kernel
theorem dX1_addBand_138 : decode cX1_addBand 138 = .ok (.aload_n 0, 1) := by decide +kernel
theorem dX1_addBand_139 : decode cX1_addBand 139 = .ok (.getfield 30, 3) := by decide +kernel
theorem dX1_addBand_142 : decode cX1_addBand 142 = .ok (.iastore, 1) := by decide +kernel
theorem dX1_addBand_143 : decode cX1_addBand 143 = .ok (.iinc 12 1, 3) := by decide +kernel
theorem dX1_addBand_146 : decode cX1_addBand 146 = .ok (.goto (-26), 3) := by decide +kernel
theorem dX1_addBand_149 : decode cX1_addBand 149 = .ok (.aload_n 0, 1) := by decide +kernel
theorem dX1_addBand_150 : decode cX1_addBand 150 = .ok (.dup, 1) := by decide +kernel
theorem dX1_addBand_151 : decode cX1_addBand 151 = .ok (.getfield 30, 3) := by decide +kernel
theorem dX1_addBand_154 : decode cX1_addBand 154 = .ok (.iconst 1, 1) := by decide +kernel
theorem dX1_addBand_155 : decode cX1_addBand 155 = .ok (.iadd, 1) := by decide +kernel
theorem dX1_addBand_156 : decode cX1_addBand 156 = .ok (.putfield 30, 3) := by decide +kernel
theorem dX1_addBand_159 : decode cX1_addBand 159 = .ok (.aload_n 0, 1) := by decide +kernel
theorem dX1_addBand_160 : decode cX1_addBand 160 = .ok (.dup, 1) := by decide +kernel
theorem dX1_addBand_161 : decode cX1_addBand 161 = .ok (.getfield 34, 3) := by decide +kernel
theorem dX1_addBand_164 : decode cX1_addBand 164 = .ok (.iload 10, 2) := by decide +kernel
theorem dX1_addBand_166 : decode cX1_addBand 166 = .ok (.iadd, 1) := by decide +kernel
theorem dX1_addBand_167 : decode cX1_addBand 167 = .ok (.putfield 34, 3) := by decide +kernel
theorem dX1_addBand_170 : decode cX1_addBand 170 = .ok (.iconst 1, 1) := by decide +kernel
theorem dX1_addBand_171 : decode cX1_addBand 171 = .ok (.ireturn, 1) := by decide +kernel
theorem dX1_addSides_0 : decode cX1_addSides 0 = .ok (.iload 4, 2) := by decide +kernel
theorem dX1_addSides_2 : decode cX1_addSides 2 = .ok (.lload_n 1, 1) := by decide +kernel
theorem dX1_addSides_3 : decode cX1_addSides 3 = .ok (.invokestatic 58, 3) := by decide +kernel
theorem dX1_addSides_6 : decode cX1_addSides 6 = .ok (.iadd, 1) := by decide +kernel
theorem dX1_addSides_7 : decode cX1_addSides 7 = .ok (.aload_n 0, 1) := by decide +kernel
theorem dX1_addSides_8 : decode cX1_addSides 8 = .ok (.getfield 24, 3) := by decide +kernel
theorem dX1_addSides_11 : decode cX1_addSides 11 = .ok (.arraylength, 1) := by decide +kernel
theorem dX1_addSides_12 : decode cX1_addSides 12 = .ok (.invokestatic 68, 3) := by decide +kernel
theorem dX1_addSides_15 : decode cX1_addSides 15 = .ok (.istore 5, 2) := by decide +kernel
theorem dX1_addSides_17 : decode cX1_addSides 17 = .ok (.lload_n 1, 1) := by decide +kernel
theorem dX1_addSides_18 : decode cX1_addSides 18 = .ok (.lstore 6, 2) := by decide +kernel
theorem dX1_addSides_20 : decode cX1_addSides 20 = .ok (.iload 4, 2) := by decide +kernel
theorem dX1_addSides_22 : decode cX1_addSides 22 = .ok (.istore 8, 2) := by decide +kernel
theorem dX1_addSides_24 : decode cX1_addSides 24 = .ok (.iload 8, 2) := by decide +kernel
theorem dX1_addSides_26 : decode cX1_addSides 26 = .ok (.iload 5, 2) := by decide +kernel
theorem dX1_addSides_28 : decode cX1_addSides 28 = .ok (.if_icmp .ge 40, 3) := by decide +kernel
theorem dX1_addSides_31 : decode cX1_addSides 31 = .ok (.lload 6, 2) := by decide +kernel
theorem dX1_addSides_33 : decode cX1_addSides 33 = .ok (.lload 6, 2) := by decide +kernel
theorem dX1_addSides_35 : decode cX1_addSides 35 = .ok (.lneg, 1) := by decide +kernel
theorem dX1_addSides_36 : decode cX1_addSides 36 = .ok (.land, 1) := by decide +kernel
theorem dX1_addSides_37 : decode cX1_addSides 37 = .ok (.lstore 9, 2) := by decide +kernel
theorem dX1_addSides_39 : decode cX1_addSides 39 = .ok (.aload_n 0, 1) := by decide +kernel
theorem dX1_addSides_40 : decode cX1_addSides 40 = .ok (.getfield 24, 3) := by decide +kernel
theorem dX1_addSides_43 : decode cX1_addSides 43 = .ok (.iload 8, 2) := by decide +kernel
theorem dX1_addSides_45 : decode cX1_addSides 45 = .ok (.iload_n 3, 1) := by decide +kernel
theorem dX1_addSides_46 : decode cX1_addSides 46 = .ok (.lload 9, 2) := by decide +kernel
theorem dX1_addSides_48 : decode cX1_addSides 48 = .ok (.lconst 1, 1) := by decide +kernel
theorem dX1_addSides_49 : decode cX1_addSides 49 = .ok (.lsub, 1) := by decide +kernel
theorem dX1_addSides_50 : decode cX1_addSides 50 = .ok (.invokestatic 58, 3) := by decide +kernel
theorem dX1_addSides_53 : decode cX1_addSides 53 = .ok (.iadd, 1) := by decide +kernel
theorem dX1_addSides_54 : decode cX1_addSides 54 = .ok (.iastore, 1) := by decide +kernel
theorem dX1_addSides_55 : decode cX1_addSides 55 = .ok (.lload 6, 2) := by decide +kernel
theorem dX1_addSides_57 : decode cX1_addSides 57 = .ok (.lload 9, 2) := by decide +kernel
theorem dX1_addSides_59 : decode cX1_addSides 59 = .ok (.lxor, 1) := by decide +kernel
theorem dX1_addSides_60 : decode cX1_addSides 60 = .ok (.lstore 6, 2) := by decide +kernel
theorem dX1_addSides_62 : decode cX1_addSides 62 = .ok (.iinc 8 1, 3) := by decide +kernel
theorem dX1_addSides_65 : decode cX1_addSides 65 = .ok (.goto (-41), 3) := by decide +kernel
theorem dX1_addSides_68 : decode cX1_addSides 68 = .ok (.iload 5, 2) := by decide +kernel
theorem dX1_addSides_70 : decode cX1_addSides 70 = .ok (.ireturn, 1) := by decide +kernel
theorem dX1_spanSide_0 : decode cX1_spanSide 0 = .ok (.iload_n 2, 1) := by decide +kernel
theorem dX1_spanSide_1 : decode cX1_spanSide 1 = .ok (.tableswitch 59 0 2 #[27, 36, 47], 27) := by decide +kernel
theorem dX1_spanSide_28 : decode cX1_spanSide 28 = .ok (.aload_n 0, 1) := by decide +kernel
theorem dX1_spanSide_29 : decode cX1_spanSide 29 = .ok (.getfield 24, 3) := by decide +kernel
theorem dX1_spanSide_32 : decode cX1_spanSide 32 = .ok (.iconst 2, 1) := by decide +kernel
theorem dX1_spanSide_33 : decode cX1_spanSide 33 = .ok (.iload_n 1, 1) := by decide +kernel
theorem dX1_spanSide_34 : decode cX1_spanSide 34 = .ok (.imul, 1) := by decide +kernel
theorem dX1_spanSide_35 : decode cX1_spanSide 35 = .ok (.iaload, 1) := by decide +kernel
theorem dX1_spanSide_36 : decode cX1_spanSide 36 = .ok (.ireturn, 1) := by decide +kernel
theorem dX1_spanSide_37 : decode cX1_spanSide 37 = .ok (.aload_n 0, 1) := by decide +kernel
theorem dX1_spanSide_38 : decode cX1_spanSide 38 = .ok (.getfield 24, 3) := by decide +kernel
theorem dX1_spanSide_41 : decode cX1_spanSide 41 = .ok (.iconst 2, 1) := by decide +kernel
theorem dX1_spanSide_42 : decode cX1_spanSide 42 = .ok (.iload_n 1, 1) := by decide +kernel
theorem dX1_spanSide_43 : decode cX1_spanSide 43 = .ok (.imul, 1) := by decide +kernel
theorem dX1_spanSide_44 : decode cX1_spanSide 44 = .ok (.iconst 1, 1) := by decide +kernel
theorem dX1_spanSide_45 : decode cX1_spanSide 45 = .ok (.iadd, 1) := by decide +kernel
theorem dX1_spanSide_46 : decode cX1_spanSide 46 = .ok (.iaload, 1) := by decide +kernel
theorem dX1_spanSide_47 : decode cX1_spanSide 47 = .ok (.ireturn, 1) := by decide +kernel
theorem dX1_spanSide_48 : decode cX1_spanSide 48 = .ok (.aload_n 0, 1) := by decide +kernel
theorem dX1_spanSide_49 : decode cX1_spanSide 49 = .ok (.getfield 9, 3) := by decide +kernel
theorem dX1_spanSide_52 : decode cX1_spanSide 52 = .ok (.aload_n 0, 1) := by decide +kernel
theorem dX1_spanSide_53 : decode cX1_spanSide 53 = .ok (.getfield 21, 3) := by decide +kernel
theorem dX1_spanSide_56 : decode cX1_spanSide 56 = .ok (.iload_n 1, 1) := by decide +kernel
theorem dX1_spanSide_57 : decode cX1_spanSide 57 = .ok (.iaload, 1) := by decide +kernel
theorem dX1_spanSide_58 : decode cX1_spanSide 58 = .ok (.iaload, 1) := by decide +kernel
theorem dX1_spanSide_59 : decode cX1_spanSide 59 = .ok (.ireturn, 1) := by decide +kernel
theorem dX1_spanSide_60 : decode cX1_spanSide 60 = .ok (.aload_n 0, 1) := by decide +kernel
theorem dX1_spanSide_61 : decode cX1_spanSide 61 = .ok (.getfield 15, 3) := by decide +kernel
theorem dX1_spanSide_64 : decode cX1_spanSide 64 = .ok (.aload_n 0, 1) := by decide +kernel
theorem dX1_spanSide_65 : decode cX1_spanSide 65 = .ok (.getfield 21, 3) := by decide +kernel
theorem dX1_spanSide_68 : decode cX1_spanSide 68 = .ok (.iload_n 1, 1) := by decide +kernel
theorem dX1_spanSide_69 : decode cX1_spanSide 69 = .ok (.iaload, 1) := by decide +kernel
theorem dX1_spanSide_70 : decode cX1_spanSide 70 = .ok (.iaload, 1) := by decide +kernel
theorem dX1_spanSide_71 : decode cX1_spanSide 71 = .ok (.ireturn, 1) := by decide +kernel
theorem dX1_measure_0 : decode cX1_measure 0 = .ok (.iload_n 1, 1) := by decide +kernel
theorem dX1_measure_1 : decode cX1_measure 1 = .ok (.tableswitch 42 1 3 #[27, 32, 37], 27) := by decide +kernel
theorem dX1_measure_28 : decode cX1_measure 28 = .ok (.aload_n 0, 1) := by decide +kernel
theorem dX1_measure_29 : decode cX1_measure 29 = .ok (.getfield 30, 3) := by decide +kernel
theorem dX1_measure_32 : decode cX1_measure 32 = .ok (.ireturn, 1) := by decide +kernel
theorem dX1_measure_33 : decode cX1_measure 33 = .ok (.aload_n 0, 1) := by decide +kernel
theorem dX1_measure_34 : decode cX1_measure 34 = .ok (.getfield 34, 3) := by decide +kernel
theorem dX1_measure_37 : decode cX1_measure 37 = .ok (.ireturn, 1) := by decide +kernel
theorem dX1_measure_38 : decode cX1_measure 38 = .ok (.aload_n 0, 1) := by decide +kernel
theorem dX1_measure_39 : decode cX1_measure 39 = .ok (.invokevirtual 74, 3) := by decide +kernel
theorem dX1_measure_42 : decode cX1_measure 42 = .ok (.ireturn, 1) := by decide +kernel
theorem dX1_measure_43 : decode cX1_measure 43 = .ok (.aload_n 0, 1) := by decide +kernel
theorem dX1_measure_44 : decode cX1_measure 44 = .ok (.getfield 34, 3) := by decide +kernel
theorem dX1_measure_47 : decode cX1_measure 47 = .ok (.ifCond .ne 9, 3) := by decide +kernel
theorem dX1_measure_50 : decode cX1_measure 50 = .ok (.sipush (-201), 3) := by decide +kernel
theorem dX1_measure_53 : decode cX1_measure 53 = .ok (.goto 8, 3) := by decide +kernel
theorem dX1_measure_56 : decode cX1_measure 56 = .ok (.aload_n 0, 1) := by decide +kernel
theorem dX1_measure_57 : decode cX1_measure 57 = .ok (.iload_n 1, 1) := by decide +kernel
theorem dX1_measure_58 : decode cX1_measure 58 = .ok (.invokevirtual 78, 3) := by decide +kernel
theorem dX1_measure_61 : decode cX1_measure 61 = .ok (.ireturn, 1) := by decide +kernel
theorem dX1_border_0 : decode cX1_border 0 = .ok (.aload_n 0, 1) := by decide +kernel
theorem dX1_border_1 : decode cX1_border 1 = .ok (.iconst 0, 1) := by decide +kernel
theorem dX1_border_2 : decode cX1_border 2 = .ok (.iload_n 1, 1) := by decide +kernel
theorem dX1_border_3 : decode cX1_border 3 = .ok (.iconst 5, 1) := by decide +kernel
theorem dX1_border_4 : decode cX1_border 4 = .ok (.isub, 1) := by decide +kernel
theorem dX1_border_5 : decode cX1_border 5 = .ok (.invokevirtual 82, 3) := by decide +kernel
theorem dX1_border_8 : decode cX1_border 8 = .ok (.istore_n 2, 1) := by decide +kernel
theorem dX1_border_9 : decode cX1_border 9 = .ok (.iconst 1, 1) := by decide +kernel
theorem dX1_border_10 : decode cX1_border 10 = .ok (.istore_n 3, 1) := by decide +kernel
theorem dX1_border_11 : decode cX1_border 11 = .ok (.iload_n 3, 1) := by decide +kernel
theorem dX1_border_12 : decode cX1_border 12 = .ok (.aload_n 0, 1) := by decide +kernel
theorem dX1_border_13 : decode cX1_border 13 = .ok (.getfield 34, 3) := by decide +kernel
theorem dX1_border_16 : decode cX1_border 16 = .ok (.if_icmp .ge 46, 3) := by decide +kernel
theorem dX1_border_19 : decode cX1_border 19 = .ok (.aload_n 0, 1) := by decide +kernel
theorem dX1_border_20 : decode cX1_border 20 = .ok (.iload_n 3, 1) := by decide +kernel
theorem dX1_border_21 : decode cX1_border 21 = .ok (.iload_n 1, 1) := by decide +kernel
theorem dX1_border_22 : decode cX1_border 22 = .ok (.iconst 5, 1) := by decide +kernel
theorem dX1_border_23 : decode cX1_border 23 = .ok (.isub, 1) := by decide +kernel
theorem dX1_border_24 : decode cX1_border 24 = .ok (.invokevirtual 82, 3) := by decide +kernel
theorem dX1_border_27 : decode cX1_border 27 = .ok (.istore 4, 2) := by decide +kernel
theorem dX1_border_29 : decode cX1_border 29 = .ok (.iload_n 1, 1) := by decide +kernel
theorem dX1_border_30 : decode cX1_border 30 = .ok (.iconst 5, 1) := by decide +kernel
theorem dX1_border_31 : decode cX1_border 31 = .ok (.if_icmp .eq 9, 3) := by decide +kernel
theorem dX1_border_34 : decode cX1_border 34 = .ok (.iload_n 1, 1) := by decide +kernel
theorem dX1_border_35 : decode cX1_border 35 = .ok (.bipush 7, 2) := by decide +kernel
theorem dX1_border_37 : decode cX1_border 37 = .ok (.if_icmp .ne 12, 3) := by decide +kernel
theorem dX1_border_40 : decode cX1_border 40 = .ok (.iload_n 2, 1) := by decide +kernel
theorem dX1_border_41 : decode cX1_border 41 = .ok (.iload 4, 2) := by decide +kernel
theorem dX1_border_43 : decode cX1_border 43 = .ok (.invokestatic 68, 3) := by decide +kernel
theorem dX1_border_46 : decode cX1_border 46 = .ok (.goto 9, 3) := by decide +kernel
theorem dX1_border_49 : decode cX1_border 49 = .ok (.iload_n 2, 1) := by decide +kernel
theorem dX1_border_50 : decode cX1_border 50 = .ok (.iload 4, 2) := by decide +kernel
theorem dX1_border_52 : decode cX1_border 52 = .ok (.invokestatic 85, 3) := by decide +kernel
theorem dX1_border_55 : decode cX1_border 55 = .ok (.istore_n 2, 1) := by decide +kernel
theorem dX1_border_56 : decode cX1_border 56 = .ok (.iinc 3 1, 3) := by decide +kernel
theorem dX1_border_59 : decode cX1_border 59 = .ok (.goto (-48), 3) := by decide +kernel
theorem dX1_border_62 : decode cX1_border 62 = .ok (.iload_n 2, 1) := by decide +kernel
theorem dX1_border_63 : decode cX1_border 63 = .ok (.ireturn, 1) := by decide +kernel
theorem dX1_staysInside_0 : decode cX1_staysInside 0 = .ok (.aload_n 0, 1) := by decide +kernel
theorem dX1_staysInside_1 : decode cX1_staysInside 1 = .ok (.getfield 34, 3) := by decide +kernel
theorem dX1_staysInside_4 : decode cX1_staysInside 4 = .ok (.ifCond .eq 54, 3) := by decide +kernel
theorem dX1_staysInside_7 : decode cX1_staysInside 7 = .ok (.aload_n 0, 1) := by decide +kernel
theorem dX1_staysInside_8 : decode cX1_staysInside 8 = .ok (.iconst 5, 1) := by decide +kernel
theorem dX1_staysInside_9 : decode cX1_staysInside 9 = .ok (.invokevirtual 78, 3) := by decide +kernel
theorem dX1_staysInside_12 : decode cX1_staysInside 12 = .ok (.iload_n 1, 1) := by decide +kernel
theorem dX1_staysInside_13 : decode cX1_staysInside 13 = .ok (.iadd, 1) := by decide +kernel
theorem dX1_staysInside_14 : decode cX1_staysInside 14 = .ok (.bipush (-60), 2) := by decide +kernel
theorem dX1_staysInside_16 : decode cX1_staysInside 16 = .ok (.if_icmp .lt 46, 3) := by decide +kernel
theorem dX1_staysInside_19 : decode cX1_staysInside 19 = .ok (.aload_n 0, 1) := by decide +kernel
theorem dX1_staysInside_20 : decode cX1_staysInside 20 = .ok (.bipush 6, 2) := by decide +kernel
theorem dX1_staysInside_22 : decode cX1_staysInside 22 = .ok (.invokevirtual 78, 3) := by decide +kernel
theorem dX1_staysInside_25 : decode cX1_staysInside 25 = .ok (.iload_n 1, 1) := by decide +kernel
theorem dX1_staysInside_26 : decode cX1_staysInside 26 = .ok (.iadd, 1) := by decide +kernel
theorem dX1_staysInside_27 : decode cX1_staysInside 27 = .ok (.bipush 60, 2) := by decide +kernel
theorem dX1_staysInside_29 : decode cX1_staysInside 29 = .ok (.if_icmp .gt 33, 3) := by decide +kernel
theorem dX1_staysInside_32 : decode cX1_staysInside 32 = .ok (.aload_n 0, 1) := by decide +kernel
theorem dX1_staysInside_33 : decode cX1_staysInside 33 = .ok (.bipush 7, 2) := by decide +kernel
theorem dX1_staysInside_35 : decode cX1_staysInside 35 = .ok (.invokevirtual 78, 3) := by decide +kernel
theorem dX1_staysInside_38 : decode cX1_staysInside 38 = .ok (.iload_n 2, 1) := by decide +kernel
theorem dX1_staysInside_39 : decode cX1_staysInside 39 = .ok (.iadd, 1) := by decide +kernel
theorem dX1_staysInside_40 : decode cX1_staysInside 40 = .ok (.bipush (-60), 2) := by decide +kernel
theorem dX1_staysInside_42 : decode cX1_staysInside 42 = .ok (.if_icmp .lt 20, 3) := by decide +kernel
theorem dX1_staysInside_45 : decode cX1_staysInside 45 = .ok (.aload_n 0, 1) := by decide +kernel
theorem dX1_staysInside_46 : decode cX1_staysInside 46 = .ok (.bipush 8, 2) := by decide +kernel
theorem dX1_staysInside_48 : decode cX1_staysInside 48 = .ok (.invokevirtual 78, 3) := by decide +kernel
theorem dX1_staysInside_51 : decode cX1_staysInside 51 = .ok (.iload_n 2, 1) := by decide +kernel
theorem dX1_staysInside_52 : decode cX1_staysInside 52 = .ok (.iadd, 1) := by decide +kernel
theorem dX1_staysInside_53 : decode cX1_staysInside 53 = .ok (.bipush 60, 2) := by decide +kernel
theorem dX1_staysInside_55 : decode cX1_staysInside 55 = .ok (.if_icmp .gt 7, 3) := by decide +kernel
theorem dX1_staysInside_58 : decode cX1_staysInside 58 = .ok (.iconst 1, 1) := by decide +kernel
theorem dX1_staysInside_59 : decode cX1_staysInside 59 = .ok (.goto 4, 3) := by decide +kernel
theorem dX1_staysInside_62 : decode cX1_staysInside 62 = .ok (.iconst 0, 1) := by decide +kernel
theorem dX1_staysInside_63 : decode cX1_staysInside 63 = .ok (.ireturn, 1) := by decide +kernel
theorem dX1_layMoved_0 : decode cX1_layMoved 0 = .ok (.aload_n 1, 1) := by decide +kernel
theorem dX1_layMoved_1 : decode cX1_layMoved 1 = .ok (.invokevirtual 88, 3) := by decide +kernel
theorem dX1_layMoved_4 : decode cX1_layMoved 4 = .ok (.iconst 0, 1) := by decide +kernel
theorem dX1_layMoved_5 : decode cX1_layMoved 5 = .ok (.istore 4, 2) := by decide +kernel
theorem dX1_layMoved_7 : decode cX1_layMoved 7 = .ok (.iload 4, 2) := by decide +kernel
theorem dX1_layMoved_9 : decode cX1_layMoved 9 = .ok (.aload_n 0, 1) := by decide +kernel
theorem dX1_layMoved_10 : decode cX1_layMoved 10 = .ok (.getfield 34, 3) := by decide +kernel
theorem dX1_layMoved_13 : decode cX1_layMoved 13 = .ok (.if_icmp .ge 49, 3) := by decide +kernel
theorem dX1_layMoved_16 : decode cX1_layMoved 16 = .ok (.aload_n 1, 1) := by decide +kernel
theorem dX1_layMoved_17 : decode cX1_layMoved 17 = .ok (.aload_n 0, 1) := by decide +kernel
theorem dX1_layMoved_18 : decode cX1_layMoved 18 = .ok (.iload 4, 2) := by decide +kernel
theorem dX1_layMoved_20 : decode cX1_layMoved 20 = .ok (.iconst 0, 1) := by decide +kernel
theorem dX1_layMoved_21 : decode cX1_layMoved 21 = .ok (.invokevirtual 82, 3) := by decide +kernel
theorem dX1_layMoved_24 : decode cX1_layMoved 24 = .ok (.iload_n 2, 1) := by decide +kernel
theorem dX1_layMoved_25 : decode cX1_layMoved 25 = .ok (.iadd, 1) := by decide +kernel
theorem dX1_layMoved_26 : decode cX1_layMoved 26 = .ok (.aload_n 0, 1) := by decide +kernel
theorem dX1_layMoved_27 : decode cX1_layMoved 27 = .ok (.iload 4, 2) := by decide +kernel
theorem dX1_layMoved_29 : decode cX1_layMoved 29 = .ok (.iconst 2, 1) := by decide +kernel
theorem dX1_layMoved_30 : decode cX1_layMoved 30 = .ok (.invokevirtual 82, 3) := by decide +kernel
theorem dX1_layMoved_33 : decode cX1_layMoved 33 = .ok (.iload_n 3, 1) := by decide +kernel
theorem dX1_layMoved_34 : decode cX1_layMoved 34 = .ok (.iadd, 1) := by decide +kernel
theorem dX1_layMoved_35 : decode cX1_layMoved 35 = .ok (.aload_n 0, 1) := by decide +kernel
theorem dX1_layMoved_36 : decode cX1_layMoved 36 = .ok (.iload 4, 2) := by decide +kernel
theorem dX1_layMoved_38 : decode cX1_layMoved 38 = .ok (.iconst 1, 1) := by decide +kernel
theorem dX1_layMoved_39 : decode cX1_layMoved 39 = .ok (.invokevirtual 82, 3) := by decide +kernel
theorem dX1_layMoved_42 : decode cX1_layMoved 42 = .ok (.iload_n 2, 1) := by decide +kernel
theorem dX1_layMoved_43 : decode cX1_layMoved 43 = .ok (.iadd, 1) := by decide +kernel
theorem dX1_layMoved_44 : decode cX1_layMoved 44 = .ok (.aload_n 0, 1) := by decide +kernel
theorem dX1_layMoved_45 : decode cX1_layMoved 45 = .ok (.iload 4, 2) := by decide +kernel
theorem dX1_layMoved_47 : decode cX1_layMoved 47 = .ok (.iconst 3, 1) := by decide +kernel
theorem dX1_layMoved_48 : decode cX1_layMoved 48 = .ok (.invokevirtual 82, 3) := by decide +kernel
theorem dX1_layMoved_51 : decode cX1_layMoved 51 = .ok (.iload_n 3, 1) := by decide +kernel
theorem dX1_layMoved_52 : decode cX1_layMoved 52 = .ok (.iadd, 1) := by decide +kernel
theorem dX1_layMoved_53 : decode cX1_layMoved 53 = .ok (.invokevirtual 91, 3) := by decide +kernel
theorem dX1_layMoved_56 : decode cX1_layMoved 56 = .ok (.iinc 4 1, 3) := by decide +kernel
theorem dX1_layMoved_59 : decode cX1_layMoved 59 = .ok (.goto (-52), 3) := by decide +kernel
theorem dX1_layMoved_62 : decode cX1_layMoved 62 = .ok (.return_, 1) := by decide +kernel
theorem dX1_layTurned_0 : decode cX1_layTurned 0 = .ok (.aload_n 1, 1) := by decide +kernel
theorem dX1_layTurned_1 : decode cX1_layTurned 1 = .ok (.invokevirtual 88, 3) := by decide +kernel
theorem dX1_layTurned_4 : decode cX1_layTurned 4 = .ok (.iconst 0, 1) := by decide +kernel
theorem dX1_layTurned_5 : decode cX1_layTurned 5 = .ok (.istore_n 3, 1) := by decide +kernel
theorem dX1_layTurned_6 : decode cX1_layTurned 6 = .ok (.iload_n 3, 1) := by decide +kernel
theorem dX1_layTurned_7 : decode cX1_layTurned 7 = .ok (.aload_n 0, 1) := by decide +kernel
theorem dX1_layTurned_8 : decode cX1_layTurned 8 = .ok (.getfield 34, 3) := by decide +kernel
theorem dX1_layTurned_11 : decode cX1_layTurned 11 = .ok (.if_icmp .ge 113, 3) := by decide +kernel
theorem dX1_layTurned_14 : decode cX1_layTurned 14 = .ok (.aload_n 0, 1) := by decide +kernel
theorem dX1_layTurned_15 : decode cX1_layTurned 15 = .ok (.iload_n 3, 1) := by decide +kernel
theorem dX1_layTurned_16 : decode cX1_layTurned 16 = .ok (.iconst 0, 1) := by decide +kernel
theorem dX1_layTurned_17 : decode cX1_layTurned 17 = .ok (.invokevirtual 82, 3) := by decide +kernel
theorem dX1_layTurned_20 : decode cX1_layTurned 20 = .ok (.istore 4, 2) := by decide +kernel
theorem dX1_layTurned_22 : decode cX1_layTurned 22 = .ok (.aload_n 0, 1) := by decide +kernel
theorem dX1_layTurned_23 : decode cX1_layTurned 23 = .ok (.iload_n 3, 1) := by decide +kernel
theorem dX1_layTurned_24 : decode cX1_layTurned 24 = .ok (.iconst 1, 1) := by decide +kernel
theorem dX1_layTurned_25 : decode cX1_layTurned 25 = .ok (.invokevirtual 82, 3) := by decide +kernel
theorem dX1_layTurned_28 : decode cX1_layTurned 28 = .ok (.istore 5, 2) := by decide +kernel
theorem dX1_layTurned_30 : decode cX1_layTurned 30 = .ok (.aload_n 0, 1) := by decide +kernel
theorem dX1_layTurned_31 : decode cX1_layTurned 31 = .ok (.iload_n 3, 1) := by decide +kernel
theorem dX1_layTurned_32 : decode cX1_layTurned 32 = .ok (.iconst 2, 1) := by decide +kernel
theorem dX1_layTurned_33 : decode cX1_layTurned 33 = .ok (.invokevirtual 82, 3) := by decide +kernel
theorem dX1_layTurned_36 : decode cX1_layTurned 36 = .ok (.istore 6, 2) := by decide +kernel
theorem dX1_layTurned_38 : decode cX1_layTurned 38 = .ok (.aload_n 0, 1) := by decide +kernel
theorem dX1_layTurned_39 : decode cX1_layTurned 39 = .ok (.iload_n 3, 1) := by decide +kernel
theorem dX1_layTurned_40 : decode cX1_layTurned 40 = .ok (.iconst 3, 1) := by decide +kernel
theorem dX1_layTurned_41 : decode cX1_layTurned 41 = .ok (.invokevirtual 82, 3) := by decide +kernel
theorem dX1_layTurned_44 : decode cX1_layTurned 44 = .ok (.istore 7, 2) := by decide +kernel
theorem dX1_layTurned_46 : decode cX1_layTurned 46 = .ok (.iload_n 2, 1) := by decide +kernel
theorem dX1_layTurned_47 : decode cX1_layTurned 47 = .ok (.lookupswitch 59 #[(0, 25), (1, 42)], 25) := by decide +kernel
theorem dX1_layTurned_72 : decode cX1_layTurned 72 = .ok (.aload_n 1, 1) := by decide +kernel
theorem dX1_layTurned_73 : decode cX1_layTurned 73 = .ok (.iload 5, 2) := by decide +kernel
theorem dX1_layTurned_75 : decode cX1_layTurned 75 = .ok (.ineg, 1) := by decide +kernel
theorem dX1_layTurned_76 : decode cX1_layTurned 76 = .ok (.iload 6, 2) := by decide +kernel
theorem dX1_layTurned_78 : decode cX1_layTurned 78 = .ok (.iload 4, 2) := by decide +kernel
theorem dX1_layTurned_80 : decode cX1_layTurned 80 = .ok (.ineg, 1) := by decide +kernel
theorem dX1_layTurned_81 : decode cX1_layTurned 81 = .ok (.iload 7, 2) := by decide +kernel
theorem dX1_layTurned_83 : decode cX1_layTurned 83 = .ok (.invokevirtual 91, 3) := by decide +kernel
theorem dX1_layTurned_86 : decode cX1_layTurned 86 = .ok (.goto 32, 3) := by decide +kernel
theorem dX1_layTurned_89 : decode cX1_layTurned 89 = .ok (.aload_n 1, 1) := by decide +kernel
theorem dX1_layTurned_90 : decode cX1_layTurned 90 = .ok (.iload 4, 2) := by decide +kernel
theorem dX1_layTurned_92 : decode cX1_layTurned 92 = .ok (.iload 7, 2) := by decide +kernel
theorem dX1_layTurned_94 : decode cX1_layTurned 94 = .ok (.ineg, 1) := by decide +kernel
theorem dX1_layTurned_95 : decode cX1_layTurned 95 = .ok (.iload 5, 2) := by decide +kernel
theorem dX1_layTurned_97 : decode cX1_layTurned 97 = .ok (.iload 6, 2) := by decide +kernel
theorem dX1_layTurned_99 : decode cX1_layTurned 99 = .ok (.ineg, 1) := by decide +kernel
theorem dX1_layTurned_100 : decode cX1_layTurned 100 = .ok (.invokevirtual 91, 3) := by decide +kernel
theorem dX1_layTurned_103 : decode cX1_layTurned 103 = .ok (.goto 15, 3) := by decide +kernel
theorem dX1_layTurned_106 : decode cX1_layTurned 106 = .ok (.aload_n 1, 1) := by decide +kernel
theorem dX1_layTurned_107 : decode cX1_layTurned 107 = .ok (.iload 6, 2) := by decide +kernel
theorem dX1_layTurned_109 : decode cX1_layTurned 109 = .ok (.iload 4, 2) := by decide +kernel
theorem dX1_layTurned_111 : decode cX1_layTurned 111 = .ok (.iload 7, 2) := by decide +kernel
theorem dX1_layTurned_113 : decode cX1_layTurned 113 = .ok (.iload 5, 2) := by decide +kernel
theorem dX1_layTurned_115 : decode cX1_layTurned 115 = .ok (.invokevirtual 91, 3) := by decide +kernel
theorem dX1_layTurned_118 : decode cX1_layTurned 118 = .ok (.iinc 3 1, 3) := by decide +kernel
theorem dX1_layTurned_121 : decode cX1_layTurned 121 = .ok (.goto (-115), 3) := by decide +kernel
theorem dX1_layTurned_124 : decode cX1_layTurned 124 = .ok (.return_, 1) := by decide +kernel
theorem dX1_joinParts_0 : decode cX1_joinParts 0 = .ok (.aload_n 0, 1) := by decide +kernel
theorem dX1_joinParts_1 : decode cX1_joinParts 1 = .ok (.getfield 34, 3) := by decide +kernel
theorem dX1_joinParts_4 : decode cX1_joinParts 4 = .ok (.istore_n 1, 1) := by decide +kernel
theorem dX1_joinParts_5 : decode cX1_joinParts 5 = .ok (.iconst 0, 1) := by decide +kernel
theorem dX1_joinParts_6 : decode cX1_joinParts 6 = .ok (.istore_n 2, 1) := by decide +kernel
theorem dX1_joinParts_7 : decode cX1_joinParts 7 = .ok (.iload_n 2, 1) := by decide +kernel
theorem dX1_joinParts_8 : decode cX1_joinParts 8 = .ok (.aload_n 0, 1) := by decide +kernel
theorem dX1_joinParts_9 : decode cX1_joinParts 9 = .ok (.getfield 34, 3) := by decide +kernel
theorem dX1_joinParts_12 : decode cX1_joinParts 12 = .ok (.if_icmp .ge 24, 3) := by decide +kernel
theorem dX1_joinParts_15 : decode cX1_joinParts 15 = .ok (.aload_n 0, 1) := by decide +kernel
theorem dX1_joinParts_16 : decode cX1_joinParts 16 = .ok (.getfield 27, 3) := by decide +kernel
theorem dX1_joinParts_19 : decode cX1_joinParts 19 = .ok (.iload_n 2, 1) := by decide +kernel
theorem dX1_joinParts_20 : decode cX1_joinParts 20 = .ok (.iload_n 2, 1) := by decide +kernel
theorem dX1_joinParts_21 : decode cX1_joinParts 21 = .ok (.iastore, 1) := by decide +kernel
theorem dX1_joinParts_22 : decode cX1_joinParts 22 = .ok (.iload_n 1, 1) := by decide +kernel
theorem dX1_joinParts_23 : decode cX1_joinParts 23 = .ok (.aload_n 0, 1) := by decide +kernel
theorem dX1_joinParts_24 : decode cX1_joinParts 24 = .ok (.iload_n 2, 1) := by decide +kernel
theorem dX1_joinParts_25 : decode cX1_joinParts 25 = .ok (.invokevirtual 95, 3) := by decide +kernel
theorem dX1_joinParts_28 : decode cX1_joinParts 28 = .ok (.isub, 1) := by decide +kernel
theorem dX1_joinParts_29 : decode cX1_joinParts 29 = .ok (.istore_n 1, 1) := by decide +kernel
theorem dX1_joinParts_30 : decode cX1_joinParts 30 = .ok (.iinc 2 1, 3) := by decide +kernel
theorem dX1_joinParts_33 : decode cX1_joinParts 33 = .ok (.goto (-26), 3) := by decide +kernel
theorem dX1_joinParts_36 : decode cX1_joinParts 36 = .ok (.iload_n 1, 1) := by decide +kernel
theorem dX1_joinParts_37 : decode cX1_joinParts 37 = .ok (.ireturn, 1) := by decide +kernel
theorem dX1_joinAbove_0 : decode cX1_joinAbove 0 = .ok (.aload_n 0, 1) := by decide +kernel
theorem dX1_joinAbove_1 : decode cX1_joinAbove 1 = .ok (.getfield 21, 3) := by decide +kernel
theorem dX1_joinAbove_4 : decode cX1_joinAbove 4 = .ok (.iload_n 1, 1) := by decide +kernel
theorem dX1_joinAbove_5 : decode cX1_joinAbove 5 = .ok (.iaload, 1) := by decide +kernel
theorem dX1_joinAbove_6 : decode cX1_joinAbove 6 = .ok (.istore_n 2, 1) := by decide +kernel
theorem dX1_joinAbove_7 : decode cX1_joinAbove 7 = .ok (.iload_n 2, 1) := by decide +kernel
theorem dX1_joinAbove_8 : decode cX1_joinAbove 8 = .ok (.ifCond .eq 20, 3) := by decide +kernel
theorem dX1_joinAbove_11 : decode cX1_joinAbove 11 = .ok (.aload_n 0, 1) := by decide +kernel
theorem dX1_joinAbove_12 : decode cX1_joinAbove 12 = .ok (.getfield 15, 3) := by decide +kernel
theorem dX1_joinAbove_15 : decode cX1_joinAbove 15 = .ok (.iload_n 2, 1) := by decide +kernel
theorem dX1_joinAbove_16 : decode cX1_joinAbove 16 = .ok (.iconst 1, 1) := by decide +kernel
theorem dX1_joinAbove_17 : decode cX1_joinAbove 17 = .ok (.isub, 1) := by decide +kernel
theorem dX1_joinAbove_18 : decode cX1_joinAbove 18 = .ok (.iaload, 1) := by decide +kernel
theorem dX1_joinAbove_19 : decode cX1_joinAbove 19 = .ok (.aload_n 0, 1) := by decide +kernel
theorem dX1_joinAbove_20 : decode cX1_joinAbove 20 = .ok (.getfield 9, 3) := by decide +kernel
theorem dX1_joinAbove_23 : decode cX1_joinAbove 23 = .ok (.iload_n 2, 1) := by decide +kernel
theorem dX1_joinAbove_24 : decode cX1_joinAbove 24 = .ok (.iaload, 1) := by decide +kernel
theorem dX1_joinAbove_25 : decode cX1_joinAbove 25 = .ok (.if_icmp .eq 5, 3) := by decide +kernel
theorem dX1_joinAbove_28 : decode cX1_joinAbove 28 = .ok (.iconst 0, 1) := by decide +kernel
theorem dX1_joinAbove_29 : decode cX1_joinAbove 29 = .ok (.ireturn, 1) := by decide +kernel
theorem dX1_joinAbove_30 : decode cX1_joinAbove 30 = .ok (.iconst 0, 1) := by decide +kernel
theorem dX1_joinAbove_31 : decode cX1_joinAbove 31 = .ok (.istore_n 3, 1) := by decide +kernel
theorem dX1_joinAbove_32 : decode cX1_joinAbove 32 = .ok (.aload_n 0, 1) := by decide +kernel
theorem dX1_joinAbove_33 : decode cX1_joinAbove 33 = .ok (.getfield 18, 3) := by decide +kernel
theorem dX1_joinAbove_36 : decode cX1_joinAbove 36 = .ok (.iload_n 2, 1) := by decide +kernel
theorem dX1_joinAbove_37 : decode cX1_joinAbove 37 = .ok (.iconst 1, 1) := by decide +kernel
theorem dX1_joinAbove_38 : decode cX1_joinAbove 38 = .ok (.isub, 1) := by decide +kernel
theorem dX1_joinAbove_39 : decode cX1_joinAbove 39 = .ok (.iaload, 1) := by decide +kernel
theorem dX1_joinAbove_40 : decode cX1_joinAbove 40 = .ok (.istore 4, 2) := by decide +kernel
theorem dX1_joinAbove_42 : decode cX1_joinAbove 42 = .ok (.iload 4, 2) := by decide +kernel
theorem dX1_joinAbove_44 : decode cX1_joinAbove 44 = .ok (.aload_n 0, 1) := by decide +kernel
theorem dX1_joinAbove_45 : decode cX1_joinAbove 45 = .ok (.getfield 18, 3) := by decide +kernel
theorem dX1_joinAbove_48 : decode cX1_joinAbove 48 = .ok (.iload_n 2, 1) := by decide +kernel
theorem dX1_joinAbove_49 : decode cX1_joinAbove 49 = .ok (.iaload, 1) := by decide +kernel
theorem dX1_joinAbove_50 : decode cX1_joinAbove 50 = .ok (.if_icmp .ge 66, 3) := by decide +kernel
theorem dX1_joinAbove_53 : decode cX1_joinAbove 53 = .ok (.aload_n 0, 1) := by decide +kernel
theorem dX1_joinAbove_54 : decode cX1_joinAbove 54 = .ok (.getfield 24, 3) := by decide +kernel
theorem dX1_joinAbove_57 : decode cX1_joinAbove 57 = .ok (.iconst 2, 1) := by decide +kernel
theorem dX1_joinAbove_58 : decode cX1_joinAbove 58 = .ok (.iload 4, 2) := by decide +kernel
theorem dX1_joinAbove_60 : decode cX1_joinAbove 60 = .ok (.imul, 1) := by decide +kernel
theorem dX1_joinAbove_61 : decode cX1_joinAbove 61 = .ok (.iaload, 1) := by decide +kernel
theorem dX1_joinAbove_62 : decode cX1_joinAbove 62 = .ok (.aload_n 0, 1) := by decide +kernel
theorem dX1_joinAbove_63 : decode cX1_joinAbove 63 = .ok (.getfield 24, 3) := by decide +kernel
theorem dX1_joinAbove_66 : decode cX1_joinAbove 66 = .ok (.iconst 2, 1) := by decide +kernel
theorem dX1_joinAbove_67 : decode cX1_joinAbove 67 = .ok (.iload_n 1, 1) := by decide +kernel
theorem dX1_joinAbove_68 : decode cX1_joinAbove 68 = .ok (.imul, 1) := by decide +kernel
theorem dX1_joinAbove_69 : decode cX1_joinAbove 69 = .ok (.iconst 1, 1) := by decide +kernel
theorem dX1_joinAbove_70 : decode cX1_joinAbove 70 = .ok (.iadd, 1) := by decide +kernel
theorem dX1_joinAbove_71 : decode cX1_joinAbove 71 = .ok (.iaload, 1) := by decide +kernel
theorem dX1_joinAbove_72 : decode cX1_joinAbove 72 = .ok (.if_icmp .ge 38, 3) := by decide +kernel
theorem dX1_joinAbove_75 : decode cX1_joinAbove 75 = .ok (.aload_n 0, 1) := by decide +kernel
theorem dX1_joinAbove_76 : decode cX1_joinAbove 76 = .ok (.getfield 24, 3) := by decide +kernel
theorem dX1_joinAbove_79 : decode cX1_joinAbove 79 = .ok (.iconst 2, 1) := by decide +kernel
theorem dX1_joinAbove_80 : decode cX1_joinAbove 80 = .ok (.iload_n 1, 1) := by decide +kernel
theorem dX1_joinAbove_81 : decode cX1_joinAbove 81 = .ok (.imul, 1) := by decide +kernel
theorem dX1_joinAbove_82 : decode cX1_joinAbove 82 = .ok (.iaload, 1) := by decide +kernel
theorem dX1_joinAbove_83 : decode cX1_joinAbove 83 = .ok (.aload_n 0, 1) := by decide +kernel
theorem dX1_joinAbove_84 : decode cX1_joinAbove 84 = .ok (.getfield 24, 3) := by decide +kernel
theorem dX1_joinAbove_87 : decode cX1_joinAbove 87 = .ok (.iconst 2, 1) := by decide +kernel
theorem dX1_joinAbove_88 : decode cX1_joinAbove 88 = .ok (.iload 4, 2) := by decide +kernel
theorem dX1_joinAbove_90 : decode cX1_joinAbove 90 = .ok (.imul, 1) := by decide +kernel
theorem dX1_joinAbove_91 : decode cX1_joinAbove 91 = .ok (.iconst 1, 1) := by decide +kernel
theorem dX1_joinAbove_92 : decode cX1_joinAbove 92 = .ok (.iadd, 1) := by decide +kernel
theorem dX1_joinAbove_93 : decode cX1_joinAbove 93 = .ok (.iaload, 1) := by decide +kernel
theorem dX1_joinAbove_94 : decode cX1_joinAbove 94 = .ok (.if_icmp .ge 16, 3) := by decide +kernel
theorem dX1_joinAbove_97 : decode cX1_joinAbove 97 = .ok (.aload_n 0, 1) := by decide +kernel
theorem dX1_joinAbove_98 : decode cX1_joinAbove 98 = .ok (.iload 4, 2) := by decide +kernel
theorem dX1_joinAbove_100 : decode cX1_joinAbove 100 = .ok (.iload_n 1, 1) := by decide +kernel
theorem dX1_joinAbove_101 : decode cX1_joinAbove 101 = .ok (.invokevirtual 98, 3) := by decide +kernel
theorem dX1_joinAbove_104 : decode cX1_joinAbove 104 = .ok (.ifCond .eq 6, 3) := by decide +kernel
theorem dX1_joinAbove_107 : decode cX1_joinAbove 107 = .ok (.iinc 3 1, 3) := by decide +kernel
theorem dX1_joinAbove_110 : decode cX1_joinAbove 110 = .ok (.iinc 4 1, 3) := by decide +kernel
theorem dX1_joinAbove_113 : decode cX1_joinAbove 113 = .ok (.goto (-71), 3) := by decide +kernel
theorem dX1_joinAbove_116 : decode cX1_joinAbove 116 = .ok (.iload_n 3, 1) := by decide +kernel
theorem dX1_joinAbove_117 : decode cX1_joinAbove 117 = .ok (.ireturn, 1) := by decide +kernel
theorem dX1_join_0 : decode cX1_join 0 = .ok (.aload_n 0, 1) := by decide +kernel
theorem dX1_join_1 : decode cX1_join 1 = .ok (.iload_n 1, 1) := by decide +kernel
theorem dX1_join_2 : decode cX1_join 2 = .ok (.invokevirtual 102, 3) := by decide +kernel
theorem dX1_join_5 : decode cX1_join 5 = .ok (.istore_n 3, 1) := by decide +kernel
theorem dX1_join_6 : decode cX1_join 6 = .ok (.aload_n 0, 1) := by decide +kernel
theorem dX1_join_7 : decode cX1_join 7 = .ok (.iload_n 2, 1) := by decide +kernel
theorem dX1_join_8 : decode cX1_join 8 = .ok (.invokevirtual 102, 3) := by decide +kernel
theorem dX1_join_11 : decode cX1_join 11 = .ok (.istore 4, 2) := by decide +kernel
theorem dX1_join_13 : decode cX1_join 13 = .ok (.aload_n 0, 1) := by decide +kernel
theorem dX1_join_14 : decode cX1_join 14 = .ok (.getfield 27, 3) := by decide +kernel
theorem dX1_join_17 : decode cX1_join 17 = .ok (.iload 4, 2) := by decide +kernel
theorem dX1_join_19 : decode cX1_join 19 = .ok (.iload_n 3, 1) := by decide +kernel
theorem dX1_join_20 : decode cX1_join 20 = .ok (.iastore, 1) := by decide +kernel
theorem dX1_join_21 : decode cX1_join 21 = .ok (.iload_n 3, 1) := by decide +kernel
theorem dX1_join_22 : decode cX1_join 22 = .ok (.iload 4, 2) := by decide +kernel
theorem dX1_join_24 : decode cX1_join 24 = .ok (.if_icmp .eq 7, 3) := by decide +kernel
theorem dX1_join_27 : decode cX1_join 27 = .ok (.iconst 1, 1) := by decide +kernel
theorem dX1_join_28 : decode cX1_join 28 = .ok (.goto 4, 3) := by decide +kernel
theorem dX1_join_31 : decode cX1_join 31 = .ok (.iconst 0, 1) := by decide +kernel
theorem dX1_join_32 : decode cX1_join 32 = .ok (.ireturn, 1) := by decide +kernel
theorem dX1_leader_0 : decode cX1_leader 0 = .ok (.iload_n 1, 1) := by decide +kernel
theorem dX1_leader_1 : decode cX1_leader 1 = .ok (.istore_n 2, 1) := by decide +kernel
theorem dX1_leader_2 : decode cX1_leader 2 = .ok (.iconst 0, 1) := by decide +kernel
theorem dX1_leader_3 : decode cX1_leader 3 = .ok (.istore_n 3, 1) := by decide +kernel
theorem dX1_leader_4 : decode cX1_leader 4 = .ok (.iload_n 3, 1) := by decide +kernel
theorem dX1_leader_5 : decode cX1_leader 5 = .ok (.aload_n 0, 1) := by decide +kernel
theorem dX1_leader_6 : decode cX1_leader 6 = .ok (.getfield 34, 3) := by decide +kernel
theorem dX1_leader_9 : decode cX1_leader 9 = .ok (.if_icmp .ge 26, 3) := by decide +kernel
theorem dX1_leader_12 : decode cX1_leader 12 = .ok (.aload_n 0, 1) := by decide +kernel
theorem dX1_leader_13 : decode cX1_leader 13 = .ok (.getfield 27, 3) := by decide +kernel
theorem dX1_leader_16 : decode cX1_leader 16 = .ok (.iload_n 2, 1) := by decide +kernel
theorem dX1_leader_17 : decode cX1_leader 17 = .ok (.iaload, 1) := by decide +kernel
theorem dX1_leader_18 : decode cX1_leader 18 = .ok (.iload_n 2, 1) := by decide +kernel
theorem dX1_leader_19 : decode cX1_leader 19 = .ok (.if_icmp .eq 16, 3) := by decide +kernel
theorem dX1_leader_22 : decode cX1_leader 22 = .ok (.aload_n 0, 1) := by decide +kernel
theorem dX1_leader_23 : decode cX1_leader 23 = .ok (.getfield 27, 3) := by decide +kernel
theorem dX1_leader_26 : decode cX1_leader 26 = .ok (.iload_n 2, 1) := by decide +kernel
theorem dX1_leader_27 : decode cX1_leader 27 = .ok (.iaload, 1) := by decide +kernel
theorem dX1_leader_28 : decode cX1_leader 28 = .ok (.istore_n 2, 1) := by decide +kernel
theorem dX1_leader_29 : decode cX1_leader 29 = .ok (.iinc 3 1, 3) := by decide +kernel
theorem dX1_leader_32 : decode cX1_leader 32 = .ok (.goto (-28), 3) := by decide +kernel
theorem dX1_leader_35 : decode cX1_leader 35 = .ok (.iload_n 2, 1) := by decide +kernel
theorem dX1_leader_36 : decode cX1_leader 36 = .ok (.ireturn, 1) := by decide +kernel
theorem dX1_layPart_0 : decode cX1_layPart 0 = .ok (.aload_n 0, 1) := by decide +kernel
theorem dX1_layPart_1 : decode cX1_layPart 1 = .ok (.iload_n 2, 1) := by decide +kernel
theorem dX1_layPart_2 : decode cX1_layPart 2 = .ok (.iload_n 3, 1) := by decide +kernel
theorem dX1_layPart_3 : decode cX1_layPart 3 = .ok (.invokevirtual 105, 3) := by decide +kernel
theorem dX1_layPart_6 : decode cX1_layPart 6 = .ok (.istore 4, 2) := by decide +kernel
theorem dX1_layPart_8 : decode cX1_layPart 8 = .ok (.aload_n 1, 1) := by decide +kernel
theorem dX1_layPart_9 : decode cX1_layPart 9 = .ok (.invokevirtual 88, 3) := by decide +kernel
theorem dX1_layPart_12 : decode cX1_layPart 12 = .ok (.iconst 0, 1) := by decide +kernel
theorem dX1_layPart_13 : decode cX1_layPart 13 = .ok (.istore 5, 2) := by decide +kernel
theorem dX1_layPart_15 : decode cX1_layPart 15 = .ok (.iload 5, 2) := by decide +kernel
theorem dX1_layPart_17 : decode cX1_layPart 17 = .ok (.aload_n 0, 1) := by decide +kernel
theorem dX1_layPart_18 : decode cX1_layPart 18 = .ok (.getfield 34, 3) := by decide +kernel
theorem dX1_layPart_21 : decode cX1_layPart 21 = .ok (.if_icmp .ge 52, 3) := by decide +kernel
theorem dX1_layPart_24 : decode cX1_layPart 24 = .ok (.aload_n 0, 1) := by decide +kernel
theorem dX1_layPart_25 : decode cX1_layPart 25 = .ok (.iload 5, 2) := by decide +kernel
theorem dX1_layPart_27 : decode cX1_layPart 27 = .ok (.invokevirtual 102, 3) := by decide +kernel
theorem dX1_layPart_30 : decode cX1_layPart 30 = .ok (.iload 4, 2) := by decide +kernel
theorem dX1_layPart_32 : decode cX1_layPart 32 = .ok (.if_icmp .ne 35, 3) := by decide +kernel
theorem dX1_layPart_35 : decode cX1_layPart 35 = .ok (.aload_n 1, 1) := by decide +kernel
theorem dX1_layPart_36 : decode cX1_layPart 36 = .ok (.aload_n 0, 1) := by decide +kernel
theorem dX1_layPart_37 : decode cX1_layPart 37 = .ok (.iload 5, 2) := by decide +kernel
theorem dX1_layPart_39 : decode cX1_layPart 39 = .ok (.iconst 0, 1) := by decide +kernel
theorem dX1_layPart_40 : decode cX1_layPart 40 = .ok (.invokevirtual 82, 3) := by decide +kernel
theorem dX1_layPart_43 : decode cX1_layPart 43 = .ok (.aload_n 0, 1) := by decide +kernel
theorem dX1_layPart_44 : decode cX1_layPart 44 = .ok (.iload 5, 2) := by decide +kernel
theorem dX1_layPart_46 : decode cX1_layPart 46 = .ok (.iconst 2, 1) := by decide +kernel
theorem dX1_layPart_47 : decode cX1_layPart 47 = .ok (.invokevirtual 82, 3) := by decide +kernel
theorem dX1_layPart_50 : decode cX1_layPart 50 = .ok (.aload_n 0, 1) := by decide +kernel
theorem dX1_layPart_51 : decode cX1_layPart 51 = .ok (.iload 5, 2) := by decide +kernel
theorem dX1_layPart_53 : decode cX1_layPart 53 = .ok (.iconst 1, 1) := by decide +kernel
theorem dX1_layPart_54 : decode cX1_layPart 54 = .ok (.invokevirtual 82, 3) := by decide +kernel
theorem dX1_layPart_57 : decode cX1_layPart 57 = .ok (.aload_n 0, 1) := by decide +kernel
theorem dX1_layPart_58 : decode cX1_layPart 58 = .ok (.iload 5, 2) := by decide +kernel
theorem dX1_layPart_60 : decode cX1_layPart 60 = .ok (.iconst 3, 1) := by decide +kernel
theorem dX1_layPart_61 : decode cX1_layPart 61 = .ok (.invokevirtual 82, 3) := by decide +kernel
theorem dX1_layPart_64 : decode cX1_layPart 64 = .ok (.invokevirtual 91, 3) := by decide +kernel
theorem dX1_layPart_67 : decode cX1_layPart 67 = .ok (.iinc 5 1, 3) := by decide +kernel
theorem dX1_layPart_70 : decode cX1_layPart 70 = .ok (.goto (-55), 3) := by decide +kernel
theorem dX1_layPart_73 : decode cX1_layPart 73 = .ok (.return_, 1) := by decide +kernel
theorem dX1_leaderAt_0 : decode cX1_leaderAt 0 = .ok (.iconst 0, 1) := by decide +kernel
theorem dX1_leaderAt_1 : decode cX1_leaderAt 1 = .ok (.istore_n 3, 1) := by decide +kernel
theorem dX1_leaderAt_2 : decode cX1_leaderAt 2 = .ok (.iload_n 3, 1) := by decide +kernel
theorem dX1_leaderAt_3 : decode cX1_leaderAt 3 = .ok (.aload_n 0, 1) := by decide +kernel
theorem dX1_leaderAt_4 : decode cX1_leaderAt 4 = .ok (.getfield 34, 3) := by decide +kernel
theorem dX1_leaderAt_7 : decode cX1_leaderAt 7 = .ok (.if_icmp .ge 57, 3) := by decide +kernel
theorem dX1_leaderAt_10 : decode cX1_leaderAt 10 = .ok (.iload_n 1, 1) := by decide +kernel
theorem dX1_leaderAt_11 : decode cX1_leaderAt 11 = .ok (.aload_n 0, 1) := by decide +kernel
theorem dX1_leaderAt_12 : decode cX1_leaderAt 12 = .ok (.iload_n 3, 1) := by decide +kernel
theorem dX1_leaderAt_13 : decode cX1_leaderAt 13 = .ok (.iconst 0, 1) := by decide +kernel
theorem dX1_leaderAt_14 : decode cX1_leaderAt 14 = .ok (.invokevirtual 82, 3) := by decide +kernel
theorem dX1_leaderAt_17 : decode cX1_leaderAt 17 = .ok (.aload_n 0, 1) := by decide +kernel
theorem dX1_leaderAt_18 : decode cX1_leaderAt 18 = .ok (.iload_n 3, 1) := by decide +kernel
theorem dX1_leaderAt_19 : decode cX1_leaderAt 19 = .ok (.iconst 1, 1) := by decide +kernel
theorem dX1_leaderAt_20 : decode cX1_leaderAt 20 = .ok (.invokevirtual 82, 3) := by decide +kernel
theorem dX1_leaderAt_23 : decode cX1_leaderAt 23 = .ok (.iconst 1, 1) := by decide +kernel
theorem dX1_leaderAt_24 : decode cX1_leaderAt 24 = .ok (.isub, 1) := by decide +kernel
theorem dX1_leaderAt_25 : decode cX1_leaderAt 25 = .ok (.invokestatic 108, 3) := by decide +kernel
theorem dX1_leaderAt_28 : decode cX1_leaderAt 28 = .ok (.ifCond .eq 30, 3) := by decide +kernel
theorem dX1_leaderAt_31 : decode cX1_leaderAt 31 = .ok (.iload_n 2, 1) := by decide +kernel
theorem dX1_leaderAt_32 : decode cX1_leaderAt 32 = .ok (.aload_n 0, 1) := by decide +kernel
theorem dX1_leaderAt_33 : decode cX1_leaderAt 33 = .ok (.iload_n 3, 1) := by decide +kernel
theorem dX1_leaderAt_34 : decode cX1_leaderAt 34 = .ok (.iconst 2, 1) := by decide +kernel
theorem dX1_leaderAt_35 : decode cX1_leaderAt 35 = .ok (.invokevirtual 82, 3) := by decide +kernel
theorem dX1_leaderAt_38 : decode cX1_leaderAt 38 = .ok (.aload_n 0, 1) := by decide +kernel
theorem dX1_leaderAt_39 : decode cX1_leaderAt 39 = .ok (.iload_n 3, 1) := by decide +kernel
theorem dX1_leaderAt_40 : decode cX1_leaderAt 40 = .ok (.iconst 3, 1) := by decide +kernel
theorem dX1_leaderAt_41 : decode cX1_leaderAt 41 = .ok (.invokevirtual 82, 3) := by decide +kernel
theorem dX1_leaderAt_44 : decode cX1_leaderAt 44 = .ok (.iconst 1, 1) := by decide +kernel
theorem dX1_leaderAt_45 : decode cX1_leaderAt 45 = .ok (.isub, 1) := by decide +kernel
theorem dX1_leaderAt_46 : decode cX1_leaderAt 46 = .ok (.invokestatic 108, 3) := by decide +kernel
theorem dX1_leaderAt_49 : decode cX1_leaderAt 49 = .ok (.ifCond .eq 9, 3) := by decide +kernel
theorem dX1_leaderAt_52 : decode cX1_leaderAt 52 = .ok (.aload_n 0, 1) := by decide +kernel
theorem dX1_leaderAt_53 : decode cX1_leaderAt 53 = .ok (.iload_n 3, 1) := by decide +kernel
theorem dX1_leaderAt_54 : decode cX1_leaderAt 54 = .ok (.invokevirtual 102, 3) := by decide +kernel
theorem dX1_leaderAt_57 : decode cX1_leaderAt 57 = .ok (.ireturn, 1) := by decide +kernel
theorem dX1_leaderAt_58 : decode cX1_leaderAt 58 = .ok (.iinc 3 1, 3) := by decide +kernel
theorem dX1_leaderAt_61 : decode cX1_leaderAt 61 = .ok (.goto (-59), 3) := by decide +kernel
theorem dX1_leaderAt_64 : decode cX1_leaderAt 64 = .ok (.iconst (-1), 1) := by decide +kernel
theorem dX1_leaderAt_65 : decode cX1_leaderAt 65 = .ok (.ireturn, 1) := by decide +kernel
theorem dX1_write_0 : decode cX1_write 0 = .ok (.iconst 0, 1) := by decide +kernel
theorem dX1_write_1 : decode cX1_write 1 = .ok (.istore_n 2, 1) := by decide +kernel
theorem dX1_write_2 : decode cX1_write 2 = .ok (.iload_n 2, 1) := by decide +kernel
theorem dX1_write_3 : decode cX1_write 3 = .ok (.aload_n 0, 1) := by decide +kernel
theorem dX1_write_4 : decode cX1_write 4 = .ok (.getfield 34, 3) := by decide +kernel
theorem dX1_write_7 : decode cX1_write 7 = .ok (.if_icmp .ge 107, 3) := by decide +kernel
theorem dX1_write_10 : decode cX1_write 10 = .ok (.aload_n 0, 1) := by decide +kernel
theorem dX1_write_11 : decode cX1_write 11 = .ok (.getfield 21, 3) := by decide +kernel
theorem dX1_write_14 : decode cX1_write 14 = .ok (.iload_n 2, 1) := by decide +kernel
theorem dX1_write_15 : decode cX1_write 15 = .ok (.iaload, 1) := by decide +kernel
theorem dX1_write_16 : decode cX1_write 16 = .ok (.istore_n 3, 1) := by decide +kernel
theorem dX1_write_17 : decode cX1_write 17 = .ok (.iload_n 2, 1) := by decide +kernel
theorem dX1_write_18 : decode cX1_write 18 = .ok (.aload_n 0, 1) := by decide +kernel
theorem dX1_write_19 : decode cX1_write 19 = .ok (.getfield 18, 3) := by decide +kernel
theorem dX1_write_22 : decode cX1_write 22 = .ok (.iload_n 3, 1) := by decide +kernel
theorem dX1_write_23 : decode cX1_write 23 = .ok (.iaload, 1) := by decide +kernel
theorem dX1_write_24 : decode cX1_write 24 = .ok (.if_icmp .ne 21, 3) := by decide +kernel
theorem dX1_write_27 : decode cX1_write 27 = .ok (.aload_n 1, 1) := by decide +kernel
theorem dX1_write_28 : decode cX1_write 28 = .ok (.aload_n 0, 1) := by decide +kernel
theorem dX1_write_29 : decode cX1_write 29 = .ok (.getfield 9, 3) := by decide +kernel
theorem dX1_write_32 : decode cX1_write 32 = .ok (.iload_n 3, 1) := by decide +kernel
theorem dX1_write_33 : decode cX1_write 33 = .ok (.iaload, 1) := by decide +kernel
theorem dX1_write_34 : decode cX1_write 34 = .ok (.aload_n 0, 1) := by decide +kernel
theorem dX1_write_35 : decode cX1_write 35 = .ok (.getfield 15, 3) := by decide +kernel
theorem dX1_write_38 : decode cX1_write 38 = .ok (.iload_n 3, 1) := by decide +kernel
theorem dX1_write_39 : decode cX1_write 39 = .ok (.iaload, 1) := by decide +kernel
theorem dX1_write_40 : decode cX1_write 40 = .ok (.bipush 58, 2) := by decide +kernel
theorem dX1_write_42 : decode cX1_write 42 = .ok (.invokevirtual 112, 3) := by decide +kernel
theorem dX1_write_45 : decode cX1_write 45 = .ok (.iload_n 2, 1) := by decide +kernel
theorem dX1_write_46 : decode cX1_write 46 = .ok (.iconst 1, 1) := by decide +kernel
theorem dX1_write_47 : decode cX1_write 47 = .ok (.iadd, 1) := by decide +kernel
theorem dX1_write_48 : decode cX1_write 48 = .ok (.aload_n 0, 1) := by decide +kernel
theorem dX1_write_49 : decode cX1_write 49 = .ok (.getfield 34, 3) := by decide +kernel
theorem dX1_write_52 : decode cX1_write 52 = .ok (.if_icmp .eq 15, 3) := by decide +kernel
theorem dX1_write_55 : decode cX1_write 55 = .ok (.aload_n 0, 1) := by decide +kernel
theorem dX1_write_56 : decode cX1_write 56 = .ok (.getfield 21, 3) := by decide +kernel
theorem dX1_write_59 : decode cX1_write 59 = .ok (.iload_n 2, 1) := by decide +kernel
theorem dX1_write_60 : decode cX1_write 60 = .ok (.iconst 1, 1) := by decide +kernel
theorem dX1_write_61 : decode cX1_write 61 = .ok (.iadd, 1) := by decide +kernel
theorem dX1_write_62 : decode cX1_write 62 = .ok (.iaload, 1) := by decide +kernel
theorem dX1_write_63 : decode cX1_write 63 = .ok (.iload_n 3, 1) := by decide +kernel
theorem dX1_write_64 : decode cX1_write 64 = .ok (.if_icmp .eq 7, 3) := by decide +kernel
theorem dX1_write_67 : decode cX1_write 67 = .ok (.iconst 1, 1) := by decide +kernel
theorem dX1_write_68 : decode cX1_write 68 = .ok (.goto 4, 3) := by decide +kernel
theorem dX1_write_71 : decode cX1_write 71 = .ok (.iconst 0, 1) := by decide +kernel
theorem dX1_write_72 : decode cX1_write 72 = .ok (.istore 4, 2) := by decide +kernel
theorem dX1_write_74 : decode cX1_write 74 = .ok (.aload_n 1, 1) := by decide +kernel
theorem dX1_write_75 : decode cX1_write 75 = .ok (.aload_n 0, 1) := by decide +kernel
theorem dX1_write_76 : decode cX1_write 76 = .ok (.getfield 24, 3) := by decide +kernel
theorem dX1_write_79 : decode cX1_write 79 = .ok (.iconst 2, 1) := by decide +kernel
theorem dX1_write_80 : decode cX1_write 80 = .ok (.iload_n 2, 1) := by decide +kernel
theorem dX1_write_81 : decode cX1_write 81 = .ok (.imul, 1) := by decide +kernel
theorem dX1_write_82 : decode cX1_write 82 = .ok (.iaload, 1) := by decide +kernel
theorem dX1_write_83 : decode cX1_write 83 = .ok (.aload_n 0, 1) := by decide +kernel
theorem dX1_write_84 : decode cX1_write 84 = .ok (.getfield 24, 3) := by decide +kernel
theorem dX1_write_87 : decode cX1_write 87 = .ok (.iconst 2, 1) := by decide +kernel
theorem dX1_write_88 : decode cX1_write 88 = .ok (.iload_n 2, 1) := by decide +kernel
theorem dX1_write_89 : decode cX1_write 89 = .ok (.imul, 1) := by decide +kernel
theorem dX1_write_90 : decode cX1_write 90 = .ok (.iconst 1, 1) := by decide +kernel
theorem dX1_write_91 : decode cX1_write 91 = .ok (.iadd, 1) := by decide +kernel
theorem dX1_write_92 : decode cX1_write 92 = .ok (.iaload, 1) := by decide +kernel
theorem dX1_write_93 : decode cX1_write 93 = .ok (.iload 4, 2) := by decide +kernel
theorem dX1_write_95 : decode cX1_write 95 = .ok (.ifCond .eq 8, 3) := by decide +kernel
theorem dX1_write_98 : decode cX1_write 98 = .ok (.bipush 59, 2) := by decide +kernel
theorem dX1_write_100 : decode cX1_write 100 = .ok (.goto 5, 3) := by decide +kernel
theorem dX1_write_103 : decode cX1_write 103 = .ok (.bipush 44, 2) := by decide +kernel
theorem dX1_write_105 : decode cX1_write 105 = .ok (.invokevirtual 112, 3) := by decide +kernel
theorem dX1_write_108 : decode cX1_write 108 = .ok (.iinc 2 1, 3) := by decide +kernel
theorem dX1_write_111 : decode cX1_write 111 = .ok (.goto (-109), 3) := by decide +kernel
theorem dX1_write_114 : decode cX1_write 114 = .ok (.return_, 1) := by decide +kernel
theorem dX2_init_0 : decode cX2_init 0 = .ok (.aload_n 0, 1) := by decide +kernel
theorem dX2_init_1 : decode cX2_init 1 = .ok (.invokespecial 3, 3) := by decide +kernel
theorem dX2_init_4 : decode cX2_init 4 = .ok (.aload_n 0, 1) := by decide +kernel
theorem dX2_init_5 : decode cX2_init 5 = .ok (.bipush 10, 2) := by decide +kernel
theorem dX2_init_7 : decode cX2_init 7 = .ok (.newarray .int, 2) := by decide +kernel
theorem dX2_init_9 : decode cX2_init 9 = .ok (.putfield 9, 3) := by decide +kernel
theorem dX2_init_12 : decode cX2_init 12 = .ok (.aload_n 0, 1) := by decide +kernel
theorem dX2_init_13 : decode cX2_init 13 = .ok (.bipush 10, 2) := by decide +kernel
theorem dX2_init_15 : decode cX2_init 15 = .ok (.newarray .int, 2) := by decide +kernel
theorem dX2_init_17 : decode cX2_init 17 = .ok (.putfield 15, 3) := by decide +kernel
theorem dX2_init_20 : decode cX2_init 20 = .ok (.return_, 1) := by decide +kernel
theorem dX2_add_0 : decode cX2_add 0 = .ok (.aload_n 0, 1) := by decide +kernel
theorem dX2_add_1 : decode cX2_add 1 = .ok (.getfield 18, 3) := by decide +kernel
theorem dX2_add_4 : decode cX2_add 4 = .ok (.bipush 10, 2) := by decide +kernel
theorem dX2_add_6 : decode cX2_add 6 = .ok (.if_icmp .lt 5, 3) := by decide +kernel
theorem dX2_add_9 : decode cX2_add 9 = .ok (.iconst 0, 1) := by decide +kernel
theorem dX2_add_10 : decode cX2_add 10 = .ok (.ireturn, 1) := by decide +kernel
theorem dX2_add_11 : decode cX2_add 11 = .ok (.aload_n 0, 1) := by decide +kernel
theorem dX2_add_12 : decode cX2_add 12 = .ok (.getfield 9, 3) := by decide +kernel
theorem dX2_add_15 : decode cX2_add 15 = .ok (.aload_n 0, 1) := by decide +kernel
theorem dX2_add_16 : decode cX2_add 16 = .ok (.getfield 18, 3) := by decide +kernel
theorem dX2_add_19 : decode cX2_add 19 = .ok (.iload_n 1, 1) := by decide +kernel
theorem dX2_add_20 : decode cX2_add 20 = .ok (.iastore, 1) := by decide +kernel
theorem dX2_add_21 : decode cX2_add 21 = .ok (.aload_n 0, 1) := by decide +kernel
theorem dX2_add_22 : decode cX2_add 22 = .ok (.getfield 15, 3) := by decide +kernel
theorem dX2_add_25 : decode cX2_add 25 = .ok (.aload_n 0, 1) := by decide +kernel
theorem dX2_add_26 : decode cX2_add 26 = .ok (.getfield 18, 3) := by decide +kernel
theorem dX2_add_29 : decode cX2_add 29 = .ok (.iload_n 2, 1) := by decide +kernel
theorem dX2_add_30 : decode cX2_add 30 = .ok (.iastore, 1) := by decide +kernel
theorem dX2_add_31 : decode cX2_add 31 = .ok (.aload_n 0, 1) := by decide +kernel
theorem dX2_add_32 : decode cX2_add 32 = .ok (.dup, 1) := by decide +kernel
theorem dX2_add_33 : decode cX2_add 33 = .ok (.getfield 18, 3) := by decide +kernel
theorem dX2_add_36 : decode cX2_add 36 = .ok (.iconst 1, 1) := by decide +kernel
theorem dX2_add_37 : decode cX2_add 37 = .ok (.iadd, 1) := by decide +kernel
theorem dX2_add_38 : decode cX2_add 38 = .ok (.putfield 18, 3) := by decide +kernel
theorem dX2_add_41 : decode cX2_add 41 = .ok (.iconst 1, 1) := by decide +kernel
theorem dX2_add_42 : decode cX2_add 42 = .ok (.ireturn, 1) := by decide +kernel
theorem dX2_lay_0 : decode cX2_lay 0 = .ok (.aload_n 1, 1) := by decide +kernel
theorem dX2_lay_1 : decode cX2_lay 1 = .ok (.invokevirtual 22, 3) := by decide +kernel
theorem dX2_lay_4 : decode cX2_lay 4 = .ok (.iconst 0, 1) := by decide +kernel
theorem dX2_lay_5 : decode cX2_lay 5 = .ok (.istore_n 2, 1) := by decide +kernel
theorem dX2_lay_6 : decode cX2_lay 6 = .ok (.iload_n 2, 1) := by decide +kernel
theorem dX2_lay_7 : decode cX2_lay 7 = .ok (.aload_n 0, 1) := by decide +kernel
theorem dX2_lay_8 : decode cX2_lay 8 = .ok (.getfield 18, 3) := by decide +kernel
theorem dX2_lay_11 : decode cX2_lay 11 = .ok (.if_icmp .ge 74, 3) := by decide +kernel
theorem dX2_lay_14 : decode cX2_lay 14 = .ok (.iload_n 2, 1) := by decide +kernel
theorem dX2_lay_15 : decode cX2_lay 15 = .ok (.iconst 1, 1) := by decide +kernel
theorem dX2_lay_16 : decode cX2_lay 16 = .ok (.iadd, 1) := by decide +kernel
theorem dX2_lay_17 : decode cX2_lay 17 = .ok (.aload_n 0, 1) := by decide +kernel
theorem dX2_lay_18 : decode cX2_lay 18 = .ok (.getfield 18, 3) := by decide +kernel
theorem dX2_lay_21 : decode cX2_lay 21 = .ok (.if_icmp .ge 9, 3) := by decide +kernel
theorem dX2_lay_24 : decode cX2_lay 24 = .ok (.iload_n 2, 1) := by decide +kernel
theorem dX2_lay_25 : decode cX2_lay 25 = .ok (.iconst 1, 1) := by decide +kernel
theorem dX2_lay_26 : decode cX2_lay 26 = .ok (.iadd, 1) := by decide +kernel
theorem dX2_lay_27 : decode cX2_lay 27 = .ok (.goto 4, 3) := by decide +kernel
theorem dX2_lay_30 : decode cX2_lay 30 = .ok (.iconst 0, 1) := by decide +kernel
theorem dX2_lay_31 : decode cX2_lay 31 = .ok (.istore_n 3, 1) := by decide +kernel
theorem dX2_lay_32 : decode cX2_lay 32 = .ok (.aload_n 0, 1) := by decide +kernel
theorem dX2_lay_33 : decode cX2_lay 33 = .ok (.getfield 15, 3) := by decide +kernel
theorem dX2_lay_36 : decode cX2_lay 36 = .ok (.iload_n 2, 1) := by decide +kernel
theorem dX2_lay_37 : decode cX2_lay 37 = .ok (.iaload, 1) := by decide +kernel
theorem dX2_lay_38 : decode cX2_lay 38 = .ok (.aload_n 0, 1) := by decide +kernel
theorem dX2_lay_39 : decode cX2_lay 39 = .ok (.getfield 15, 3) := by decide +kernel
theorem dX2_lay_42 : decode cX2_lay 42 = .ok (.iload_n 3, 1) := by decide +kernel
theorem dX2_lay_43 : decode cX2_lay 43 = .ok (.iaload, 1) := by decide +kernel
theorem dX2_lay_44 : decode cX2_lay 44 = .ok (.if_icmp .ge 13, 3) := by decide +kernel
theorem dX2_lay_47 : decode cX2_lay 47 = .ok (.aload_n 0, 1) := by decide +kernel
theorem dX2_lay_48 : decode cX2_lay 48 = .ok (.aload_n 1, 1) := by decide +kernel
theorem dX2_lay_49 : decode cX2_lay 49 = .ok (.iload_n 2, 1) := by decide +kernel
theorem dX2_lay_50 : decode cX2_lay 50 = .ok (.iload_n 3, 1) := by decide +kernel
theorem dX2_lay_51 : decode cX2_lay 51 = .ok (.invokevirtual 27, 3) := by decide +kernel
theorem dX2_lay_54 : decode cX2_lay 54 = .ok (.goto 25, 3) := by decide +kernel
theorem dX2_lay_57 : decode cX2_lay 57 = .ok (.aload_n 0, 1) := by decide +kernel
theorem dX2_lay_58 : decode cX2_lay 58 = .ok (.getfield 15, 3) := by decide +kernel
theorem dX2_lay_61 : decode cX2_lay 61 = .ok (.iload_n 2, 1) := by decide +kernel
theorem dX2_lay_62 : decode cX2_lay 62 = .ok (.iaload, 1) := by decide +kernel
theorem dX2_lay_63 : decode cX2_lay 63 = .ok (.aload_n 0, 1) := by decide +kernel
theorem dX2_lay_64 : decode cX2_lay 64 = .ok (.getfield 15, 3) := by decide +kernel
theorem dX2_lay_67 : decode cX2_lay 67 = .ok (.iload_n 3, 1) := by decide +kernel
theorem dX2_lay_68 : decode cX2_lay 68 = .ok (.iaload, 1) := by decide +kernel
theorem dX2_lay_69 : decode cX2_lay 69 = .ok (.if_icmp .le 10, 3) := by decide +kernel
theorem dX2_lay_72 : decode cX2_lay 72 = .ok (.aload_n 0, 1) := by decide +kernel
theorem dX2_lay_73 : decode cX2_lay 73 = .ok (.aload_n 1, 1) := by decide +kernel
theorem dX2_lay_74 : decode cX2_lay 74 = .ok (.iload_n 3, 1) := by decide +kernel
theorem dX2_lay_75 : decode cX2_lay 75 = .ok (.iload_n 2, 1) := by decide +kernel
theorem dX2_lay_76 : decode cX2_lay 76 = .ok (.invokevirtual 27, 3) := by decide +kernel
theorem dX2_lay_79 : decode cX2_lay 79 = .ok (.iinc 2 1, 3) := by decide +kernel
theorem dX2_lay_82 : decode cX2_lay 82 = .ok (.goto (-76), 3) := by decide +kernel
theorem dX2_lay_85 : decode cX2_lay 85 = .ok (.return_, 1) := by decide +kernel
theorem dX2_laySide_0 : decode cX2_laySide 0 = .ok (.aload_n 0, 1) := by decide +kernel
theorem dX2_laySide_1 : decode cX2_laySide 1 = .ok (.getfield 15, 3) := by decide +kernel
theorem dX2_laySide_4 : decode cX2_laySide 4 = .ok (.iload_n 3, 1) := by decide +kernel
theorem dX2_laySide_5 : decode cX2_laySide 5 = .ok (.iaload, 1) := by decide +kernel
theorem dX2_laySide_6 : decode cX2_laySide 6 = .ok (.aload_n 0, 1) := by decide +kernel
theorem dX2_laySide_7 : decode cX2_laySide 7 = .ok (.getfield 15, 3) := by decide +kernel
theorem dX2_laySide_10 : decode cX2_laySide 10 = .ok (.iload_n 2, 1) := by decide +kernel
theorem dX2_laySide_11 : decode cX2_laySide 11 = .ok (.iaload, 1) := by decide +kernel
theorem dX2_laySide_12 : decode cX2_laySide 12 = .ok (.isub, 1) := by decide +kernel
theorem dX2_laySide_13 : decode cX2_laySide 13 = .ok (.istore 4, 2) := by decide +kernel
theorem dX2_laySide_15 : decode cX2_laySide 15 = .ok (.aload_n 0, 1) := by decide +kernel
theorem dX2_laySide_16 : decode cX2_laySide 16 = .ok (.getfield 9, 3) := by decide +kernel
theorem dX2_laySide_19 : decode cX2_laySide 19 = .ok (.iload_n 3, 1) := by decide +kernel
theorem dX2_laySide_20 : decode cX2_laySide 20 = .ok (.iaload, 1) := by decide +kernel
theorem dX2_laySide_21 : decode cX2_laySide 21 = .ok (.aload_n 0, 1) := by decide +kernel
theorem dX2_laySide_22 : decode cX2_laySide 22 = .ok (.getfield 9, 3) := by decide +kernel
theorem dX2_laySide_25 : decode cX2_laySide 25 = .ok (.iload_n 2, 1) := by decide +kernel
theorem dX2_laySide_26 : decode cX2_laySide 26 = .ok (.iaload, 1) := by decide +kernel
theorem dX2_laySide_27 : decode cX2_laySide 27 = .ok (.isub, 1) := by decide +kernel
theorem dX2_laySide_28 : decode cX2_laySide 28 = .ok (.istore 5, 2) := by decide +kernel
theorem dX2_laySide_30 : decode cX2_laySide 30 = .ok (.aload_n 0, 1) := by decide +kernel
theorem dX2_laySide_31 : decode cX2_laySide 31 = .ok (.getfield 15, 3) := by decide +kernel
theorem dX2_laySide_34 : decode cX2_laySide 34 = .ok (.iload_n 2, 1) := by decide +kernel
theorem dX2_laySide_35 : decode cX2_laySide 35 = .ok (.iaload, 1) := by decide +kernel
theorem dX2_laySide_36 : decode cX2_laySide 36 = .ok (.istore 6, 2) := by decide +kernel
theorem dX2_laySide_38 : decode cX2_laySide 38 = .ok (.iload 6, 2) := by decide +kernel
theorem dX2_laySide_40 : decode cX2_laySide 40 = .ok (.aload_n 0, 1) := by decide +kernel
theorem dX2_laySide_41 : decode cX2_laySide 41 = .ok (.getfield 15, 3) := by decide +kernel
theorem dX2_laySide_44 : decode cX2_laySide 44 = .ok (.iload_n 3, 1) := by decide +kernel
theorem dX2_laySide_45 : decode cX2_laySide 45 = .ok (.iaload, 1) := by decide +kernel
theorem dX2_laySide_46 : decode cX2_laySide 46 = .ok (.if_icmp .ge 58, 3) := by decide +kernel
theorem dX2_laySide_49 : decode cX2_laySide 49 = .ok (.iconst 2, 1) := by decide +kernel
theorem dX2_laySide_50 : decode cX2_laySide 50 = .ok (.iload 4, 2) := by decide +kernel
theorem dX2_laySide_52 : decode cX2_laySide 52 = .ok (.imul, 1) := by decide +kernel
theorem dX2_laySide_53 : decode cX2_laySide 53 = .ok (.aload_n 0, 1) := by decide +kernel
theorem dX2_laySide_54 : decode cX2_laySide 54 = .ok (.getfield 9, 3) := by decide +kernel
theorem dX2_laySide_57 : decode cX2_laySide 57 = .ok (.iload_n 2, 1) := by decide +kernel
theorem dX2_laySide_58 : decode cX2_laySide 58 = .ok (.iaload, 1) := by decide +kernel
theorem dX2_laySide_59 : decode cX2_laySide 59 = .ok (.imul, 1) := by decide +kernel
theorem dX2_laySide_60 : decode cX2_laySide 60 = .ok (.iconst 2, 1) := by decide +kernel
theorem dX2_laySide_61 : decode cX2_laySide 61 = .ok (.iload 6, 2) := by decide +kernel
theorem dX2_laySide_63 : decode cX2_laySide 63 = .ok (.aload_n 0, 1) := by decide +kernel
theorem dX2_laySide_64 : decode cX2_laySide 64 = .ok (.getfield 15, 3) := by decide +kernel
theorem dX2_laySide_67 : decode cX2_laySide 67 = .ok (.iload_n 2, 1) := by decide +kernel
theorem dX2_laySide_68 : decode cX2_laySide 68 = .ok (.iaload, 1) := by decide +kernel
theorem dX2_laySide_69 : decode cX2_laySide 69 = .ok (.isub, 1) := by decide +kernel
theorem dX2_laySide_70 : decode cX2_laySide 70 = .ok (.imul, 1) := by decide +kernel
theorem dX2_laySide_71 : decode cX2_laySide 71 = .ok (.iconst 1, 1) := by decide +kernel
theorem dX2_laySide_72 : decode cX2_laySide 72 = .ok (.iadd, 1) := by decide +kernel
theorem dX2_laySide_73 : decode cX2_laySide 73 = .ok (.iload 5, 2) := by decide +kernel
theorem dX2_laySide_75 : decode cX2_laySide 75 = .ok (.imul, 1) := by decide +kernel
theorem dX2_laySide_76 : decode cX2_laySide 76 = .ok (.iadd, 1) := by decide +kernel
theorem dX2_laySide_77 : decode cX2_laySide 77 = .ok (.istore 7, 2) := by decide +kernel
theorem dX2_laySide_79 : decode cX2_laySide 79 = .ok (.aload_n 1, 1) := by decide +kernel
theorem dX2_laySide_80 : decode cX2_laySide 80 = .ok (.iload 6, 2) := by decide +kernel
theorem dX2_laySide_82 : decode cX2_laySide 82 = .ok (.iload 4, 2) := by decide +kernel
theorem dX2_laySide_84 : decode cX2_laySide 84 = .ok (.iload 7, 2) := by decide +kernel
theorem dX2_laySide_86 : decode cX2_laySide 86 = .ok (.isub, 1) := by decide +kernel
theorem dX2_laySide_87 : decode cX2_laySide 87 = .ok (.iconst 2, 1) := by decide +kernel
theorem dX2_laySide_88 : decode cX2_laySide 88 = .ok (.iload 4, 2) := by decide +kernel
theorem dX2_laySide_90 : decode cX2_laySide 90 = .ok (.imul, 1) := by decide +kernel
theorem dX2_laySide_91 : decode cX2_laySide 91 = .ok (.invokestatic 31, 3) := by decide +kernel
theorem dX2_laySide_94 : decode cX2_laySide 94 = .ok (.ineg, 1) := by decide +kernel
theorem dX2_laySide_95 : decode cX2_laySide 95 = .ok (.invokevirtual 37, 3) := by decide +kernel
theorem dX2_laySide_98 : decode cX2_laySide 98 = .ok (.iinc 6 1, 3) := by decide +kernel
theorem dX2_laySide_101 : decode cX2_laySide 101 = .ok (.goto (-63), 3) := by decide +kernel
theorem dX2_laySide_104 : decode cX2_laySide 104 = .ok (.return_, 1) := by decide +kernel
